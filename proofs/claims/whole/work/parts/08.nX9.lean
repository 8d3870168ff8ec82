set_option maxRecDepth 20000 in
theorem ggX9_init_X4_init : GoodIn wsX9_init wsX4_init := goodIn_r _ [20, 21, 2, 3, 12, 22, 23, 24, 25, 33, 34, 35, 36, 37, 38] (by decide +kernel) (by decide +kernel)
set_option maxRecDepth 20000 in
theorem gX9_init_X4_init : GoodIn wsX9_init (wsX4_init) := ggX9_init_X4_init
set_option maxRecDepth 20000 in
theorem ggX9_init_X8_init : GoodIn wsX9_init wsX8_init := goodIn_r _ [28, 29, 2, 3, 12, 30, 31, 32, 48, 49, 50, 51] (by decide +kernel) (by decide +kernel)
set_option maxRecDepth 20000 in
theorem gX9_init_X8_init : GoodIn wsX9_init (wsX8_init) := ggX9_init_X8_init
theorem dX9_init_0 : decode cX9_init 0 = .ok (.aload_n 0, 1) := by decide +kernel
theorem dX9_init_1 : decode cX9_init 1 = .ok (.invokespecial 3, 3) := by decide +kernel
theorem dX9_init_4 : decode cX9_init 4 = .ok (.aload_n 0, 1) := by decide +kernel
theorem dX9_init_5 : decode cX9_init 5 = .ok (.new 9, 3) := by decide +kernel
theorem dX9_init_8 : decode cX9_init 8 = .ok (.dup, 1) := by decide +kernel
theorem dX9_init_9 : decode cX9_init 9 = .ok (.invokespecial 11, 3) := by decide +kernel
theorem dX9_init_12 : decode cX9_init 12 = .ok (.putfield 12, 3) := by decide +kernel
theorem dX9_init_15 : decode cX9_init 15 = .ok (.aload_n 0, 1) := by decide +kernel
theorem dX9_init_16 : decode cX9_init 16 = .ok (.new 18, 3) := by decide +kernel
theorem dX9_init_19 : decode cX9_init 19 = .ok (.dup, 1) := by decide +kernel
theorem dX9_init_20 : decode cX9_init 20 = .ok (.invokespecial 20, 3) := by decide +kernel
theorem dX9_init_23 : decode cX9_init 23 = .ok (.putfield 21, 3) := by decide +kernel
theorem dX9_init_26 : decode cX9_init 26 = .ok (.aload_n 0, 1) := by decide +kernel
theorem dX9_init_27 : decode cX9_init 27 = .ok (.iconst 5, 1) := by decide +kernel
theorem dX9_init_28 : decode cX9_init 28 = .ok (.newarray .int, 2) := by decide +kernel
theorem dX9_init_30 : decode cX9_init 30 = .ok (.putfield 25, 3) := by decide +kernel
theorem dX9_init_33 : decode cX9_init 33 = .ok (.aload_n 0, 1) := by decide +kernel
theorem dX9_init_34 : decode cX9_init 34 = .ok (.iconst 5, 1) := by decide +kernel
theorem dX9_init_35 : decode cX9_init 35 = .ok (.newarray .int, 2) := by decide +kernel
theorem dX9_init_37 : decode cX9_init 37 = .ok (.putfield 29, 3) := by decide +kernel
theorem dX9_init_40 : decode cX9_init 40 = .ok (.aload_n 0, 1) := by decide +kernel
theorem dX9_init_41 : decode cX9_init 41 = .ok (.iconst 5, 1) := by decide +kernel
theorem dX9_init_42 : decode cX9_init 42 = .ok (.newarray .int, 2) := by decide +kernel
theorem dX9_init_44 : decode cX9_init 44 = .ok (.putfield 32, 3) := by decide +kernel
theorem dX9_init_47 : decode cX9_init 47 = .ok (.aload_n 0, 1) := by decide +kernel
theorem dX9_init_48 : decode cX9_init 48 = .ok (.iconst 5, 1) := by decide +kernel
theorem dX9_init_49 : decode cX9_init 49 = .ok (.newarray .int, 2) := by decide +kernel
theorem dX9_init_51 : decode cX9_init 51 = .ok (.putfield 35, 3) := by decide +kernel
theorem dX9_init_54 : decode cX9_init 54 = .ok (.aload_n 0, 1) := by decide +kernel
theorem dX9_init_55 : decode cX9_init 55 = .ok (.iconst 5, 1) := by decide +kernel
theorem dX9_init_56 : decode cX9_init 56 = .ok (.newarray .int, 2) := by decide +kernel
theorem dX9_init_58 : decode cX9_init 58 = .ok (.putfield 38, 3) := by decide +kernel
theorem dX9_init_61 : decode cX9_init 61 = .ok (.return_, 1) := by decide +kernel
set_option maxRecDepth 20000 in
theorem ggX9_empty_X4_empty : GoodIn wsX9_empty wsX4_empty := goodIn_r _ [10, 11, 12, 26, 27, 28, 29, 30, 31] (by decide +kernel) (by decide +kernel)
set_option maxRecDepth 20000 in
theorem gX9_empty_X4_empty : GoodIn wsX9_empty (wsV RX9 48 RX4 yX4_empty wsX4_empty) := goodIn_app (goodIn_of _ (by decide +kernel)) ggX9_empty_X4_empty
theorem dX9_empty_0 : decode cX9_empty 0 = .ok (.aload_n 0, 1) := by decide +kernel
theorem dX9_empty_1 : decode cX9_empty 1 = .ok (.iconst 0, 1) := by decide +kernel
theorem dX9_empty_2 : decode cX9_empty 2 = .ok (.putfield 41, 3) := by decide +kernel
theorem dX9_empty_5 : decode cX9_empty 5 = .ok (.aload_n 0, 1) := by decide +kernel
theorem dX9_empty_6 : decode cX9_empty 6 = .ok (.iconst 0, 1) := by decide +kernel
theorem dX9_empty_7 : decode cX9_empty 7 = .ok (.putfield 45, 3) := by decide +kernel
theorem dX9_empty_10 : decode cX9_empty 10 = .ok (.aload_n 0, 1) := by decide +kernel
theorem dX9_empty_11 : decode cX9_empty 11 = .ok (.getfield 12, 3) := by decide +kernel
theorem dX9_empty_14 : decode cX9_empty 14 = .ok (.invokevirtual 48, 3) := by decide +kernel
theorem dX9_empty_17 : decode cX9_empty 17 = .ok (.aload_n 0, 1) := by decide +kernel
theorem dX9_empty_18 : decode cX9_empty 18 = .ok (.getfield 21, 3) := by decide +kernel
theorem dX9_empty_21 : decode cX9_empty 21 = .ok (.iconst 0, 1) := by decide +kernel
theorem dX9_empty_22 : decode cX9_empty 22 = .ok (.putfield 51, 3) := by decide +kernel
theorem dX9_empty_25 : decode cX9_empty 25 = .ok (.return_, 1) := by decide +kernel
set_option maxRecDepth 20000 in
theorem ggX9_copyFrom_X4_copyFrom : GoodIn wsX9_copyFrom wsX4_copyFrom := goodIn_r _ [18, 19, 20, 21, 22, 7, 8, 9, 23, 24, 25, 45, 46, 47, 48, 49, 50] (by decide +kernel) (by decide +kernel)
set_option maxRecDepth 20000 in
theorem gX9_copyFrom_X4_copyFrom : GoodIn wsX9_copyFrom (wsV RX9 54 RX4 yX4_copyFrom wsX4_copyFrom) := goodIn_app (goodIn_of _ (by decide +kernel)) ggX9_copyFrom_X4_copyFrom
set_option maxRecDepth 20000 in
theorem ggX9_copyFrom_X8_copyFrom : GoodIn wsX9_copyFrom wsX8_copyFrom := goodIn_r _ [30, 31, 32, 33, 7, 8, 9, 34, 35, 51, 52, 53, 54] (by decide +kernel) (by decide +kernel)
set_option maxRecDepth 20000 in
theorem gX9_copyFrom_X8_copyFrom : GoodIn wsX9_copyFrom (wsV RX9 58 RX8 yX8_copyFrom wsX8_copyFrom) := goodIn_app (goodIn_of _ (by decide +kernel)) ggX9_copyFrom_X8_copyFrom
theorem dX9_copyFrom_0 : decode cX9_copyFrom 0 = .ok (.aload_n 0, 1) := by decide +kernel
theorem dX9_copyFrom_1 : decode cX9_copyFrom 1 = .ok (.aload_n 1, 1) := by decide +kernel
theorem dX9_copyFrom_2 : decode cX9_copyFrom 2 = .ok (.getfield 41, 3) := by decide +kernel
theorem dX9_copyFrom_5 : decode cX9_copyFrom 5 = .ok (.putfield 41, 3) := by decide +kernel
theorem dX9_copyFrom_8 : decode cX9_copyFrom 8 = .ok (.aload_n 0, 1) := by decide +kernel
theorem dX9_copyFrom_9 : decode cX9_copyFrom 9 = .ok (.aload_n 1, 1) := by decide +kernel
theorem dX9_copyFrom_10 : decode cX9_copyFrom 10 = .ok (.getfield 45, 3) := by decide +kernel
theorem dX9_copyFrom_13 : decode cX9_copyFrom 13 = .ok (.putfield 45, 3) := by decide +kernel
theorem dX9_copyFrom_16 : decode cX9_copyFrom 16 = .ok (.aload_n 0, 1) := by decide +kernel
theorem dX9_copyFrom_17 : decode cX9_copyFrom 17 = .ok (.getfield 12, 3) := by decide +kernel
theorem dX9_copyFrom_20 : decode cX9_copyFrom 20 = .ok (.aload_n 1, 1) := by decide +kernel
theorem dX9_copyFrom_21 : decode cX9_copyFrom 21 = .ok (.getfield 12, 3) := by decide +kernel
theorem dX9_copyFrom_24 : decode cX9_copyFrom 24 = .ok (.invokevirtual 54, 3) := by decide +kernel
theorem dX9_copyFrom_27 : decode cX9_copyFrom 27 = .ok (.aload_n 0, 1) := by decide +kernel
theorem dX9_copyFrom_28 : decode cX9_copyFrom 28 = .ok (.getfield 21, 3) := by decide +kernel
theorem dX9_copyFrom_31 : decode cX9_copyFrom 31 = .ok (.aload_n 1, 1) := by decide +kernel
theorem dX9_copyFrom_32 : decode cX9_copyFrom 32 = .ok (.getfield 21, 3) := by decide +kernel
theorem dX9_copyFrom_35 : decode cX9_copyFrom 35 = .ok (.invokevirtual 58, 3) := by decide +kernel
theorem dX9_copyFrom_38 : decode cX9_copyFrom 38 = .ok (.aload_n 1, 1) := by decide +kernel
theorem dX9_copyFrom_39 : decode cX9_copyFrom 39 = .ok (.getfield 25, 3) := by decide +kernel
theorem dX9_copyFrom_42 : decode cX9_copyFrom 42 = .ok (.iconst 0, 1) := by decide +kernel
theorem dX9_copyFrom_43 : decode cX9_copyFrom 43 = .ok (.aload_n 0, 1) := by decide +kernel
theorem dX9_copyFrom_44 : decode cX9_copyFrom 44 = .ok (.getfield 25, 3) := by decide +kernel
theorem dX9_copyFrom_47 : decode cX9_copyFrom 47 = .ok (.iconst 0, 1) := by decide +kernel
theorem dX9_copyFrom_48 : decode cX9_copyFrom 48 = .ok (.iconst 5, 1) := by decide +kernel
theorem dX9_copyFrom_49 : decode cX9_copyFrom 49 = .ok (.invokestatic 61, 3) := by decide +kernel
theorem dX9_copyFrom_52 : decode cX9_copyFrom 52 = .ok (.aload_n 1, 1) := by decide +kernel
theorem dX9_copyFrom_53 : decode cX9_copyFrom 53 = .ok (.getfield 29, 3) := by decide +kernel
theorem dX9_copyFrom_56 : decode cX9_copyFrom 56 = .ok (.iconst 0, 1) := by decide +kernel
theorem dX9_copyFrom_57 : decode cX9_copyFrom 57 = .ok (.aload_n 0, 1) := by decide +kernel
theorem dX9_copyFrom_58 : decode cX9_copyFrom 58 = .ok (.getfield 29, 3) := by decide +kernel
theorem dX9_copyFrom_61 : decode cX9_copyFrom 61 = .ok (.iconst 0, 1) := by decide +kernel
theorem dX9_copyFrom_62 : decode cX9_copyFrom 62 = .ok (.iconst 5, 1) := by decide +kernel
theorem dX9_copyFrom_63 : decode cX9_copyFrom 63 = .ok (.invokestatic 61, 3) := by decide +kernel
theorem dX9_copyFrom_66 : decode cX9_copyFrom 66 = .ok (.aload_n 1, 1) := by decide +kernel
theorem dX9_copyFrom_67 : decode cX9_copyFrom 67 = .ok (.getfield 32, 3) := by decide +kernel
theorem dX9_copyFrom_70 : decode cX9_copyFrom 70 = .ok (.iconst 0, 1) := by decide +kernel
theorem dX9_copyFrom_71 : decode cX9_copyFrom 71 = .ok (.aload_n 0, 1) := by decide +kernel
theorem dX9_copyFrom_72 : decode cX9_copyFrom 72 = .ok (.getfield 32, 3) := by decide +kernel
theorem dX9_copyFrom_75 : decode cX9_copyFrom 75 = .ok (.iconst 0, 1) := by decide +kernel
theorem dX9_copyFrom_76 : decode cX9_copyFrom 76 = .ok (.iconst 5, 1) := by decide +kernel
theorem dX9_copyFrom_77 : decode cX9_copyFrom 77 = .ok (.invokestatic 61, 3) := by decide +kernel
theorem dX9_copyFrom_80 : decode cX9_copyFrom 80 = .ok (.aload_n 1, 1) := by decide +kernel
theorem dX9_copyFrom_81 : decode cX9_copyFrom 81 = .ok (.getfield 35, 3) := by decide +kernel
theorem dX9_copyFrom_84 : decode cX9_copyFrom 84 = .ok (.iconst 0, 1) := by decide +kernel
theorem dX9_copyFrom_85 : decode cX9_copyFrom 85 = .ok (.aload_n 0, 1) := by decide +kernel
theorem dX9_copyFrom_86 : decode cX9_copyFrom 86 = .ok (.getfield 35, 3) := by decide +kernel
theorem dX9_copyFrom_89 : decode cX9_copyFrom 89 = .ok (.iconst 0, 1) := by decide +kernel
theorem dX9_copyFrom_90 : decode cX9_copyFrom 90 = .ok (.iconst 5, 1) := by decide +kernel
theorem dX9_copyFrom_91 : decode cX9_copyFrom 91 = .ok (.invokestatic 61, 3) := by decide +kernel
theorem dX9_copyFrom_94 : decode cX9_copyFrom 94 = .ok (.aload_n 1, 1) := by decide +kernel
theorem dX9_copyFrom_95 : decode cX9_copyFrom 95 = .ok (.getfield 38, 3) := by decide +kernel
theorem dX9_copyFrom_98 : decode cX9_copyFrom 98 = .ok (.iconst 0, 1) := by decide +kernel
theorem dX9_copyFrom_99 : decode cX9_copyFrom 99 = .ok (.aload_n 0, 1) := by decide +kernel
theorem dX9_copyFrom_100 : decode cX9_copyFrom 100 = .ok (.getfield 38, 3) := by decide +kernel
theorem dX9_copyFrom_103 : decode cX9_copyFrom 103 = .ok (.iconst 0, 1) := by decide +kernel
theorem dX9_copyFrom_104 : decode cX9_copyFrom 104 = .ok (.iconst 5, 1) := by decide +kernel
theorem dX9_copyFrom_105 : decode cX9_copyFrom 105 = .ok (.invokestatic 61, 3) := by decide +kernel
theorem dX9_copyFrom_108 : decode cX9_copyFrom 108 = .ok (.return_, 1) := by decide +kernel
theorem dX9_hasOwner_0 : decode cX9_hasOwner 0 = .ok (.iload_n 1, 1) := by decide +kernel
theorem dX9_hasOwner_1 : decode cX9_hasOwner 1 = .ok (.ifCond .lt 20, 3) := by decide +kernel
theorem dX9_hasOwner_4 : decode cX9_hasOwner 4 = .ok (.iload_n 1, 1) := by decide +kernel
theorem dX9_hasOwner_5 : decode cX9_hasOwner 5 = .ok (.iconst 5, 1) := by decide +kernel
theorem dX9_hasOwner_6 : decode cX9_hasOwner 6 = .ok (.if_icmp .ge 15, 3) := by decide +kernel
theorem dX9_hasOwner_9 : decode cX9_hasOwner 9 = .ok (.iload_n 1, 1) := by decide +kernel
theorem dX9_hasOwner_10 : decode cX9_hasOwner 10 = .ok (.aload_n 0, 1) := by decide +kernel
theorem dX9_hasOwner_11 : decode cX9_hasOwner 11 = .ok (.getfield 41, 3) := by decide +kernel
theorem dX9_hasOwner_14 : decode cX9_hasOwner 14 = .ok (.if_icmp .ge 7, 3) := by decide +kernel
theorem dX9_hasOwner_17 : decode cX9_hasOwner 17 = .ok (.iconst 1, 1) := by decide +kernel
theorem dX9_hasOwner_18 : decode cX9_hasOwner 18 = .ok (.goto 4, 3) := by decide +kernel
theorem dX9_hasOwner_21 : decode cX9_hasOwner 21 = .ok (.iconst 0, 1) := by decide +kernel
theorem dX9_hasOwner_22 : decode cX9_hasOwner 22 = .ok (.ireturn, 1) := by decide +kernel
set_option maxRecDepth 20000 in
theorem ggX9_goatsOf_X9_hasOwner : GoodIn wsX9_goatsOf wsX9_hasOwner := goodIn_r _ [6, 7, 8, 9, 10, 11, 12, 13, 14, 15, 16] (by decide +kernel) (by decide +kernel)
set_option maxRecDepth 20000 in
theorem gX9_goatsOf_X9_hasOwner : GoodIn wsX9_goatsOf (wsV RX9 67 RX9 yX9_hasOwner wsX9_hasOwner) := goodIn_app (goodIn_of _ (by decide +kernel)) ggX9_goatsOf_X9_hasOwner
theorem dX9_goatsOf_0 : decode cX9_goatsOf 0 = .ok (.aload_n 0, 1) := by decide +kernel
theorem dX9_goatsOf_1 : decode cX9_goatsOf 1 = .ok (.iload_n 1, 1) := by decide +kernel
theorem dX9_goatsOf_2 : decode cX9_goatsOf 2 = .ok (.invokevirtual 67, 3) := by decide +kernel
theorem dX9_goatsOf_5 : decode cX9_goatsOf 5 = .ok (.ifCond .eq 12, 3) := by decide +kernel
theorem dX9_goatsOf_8 : decode cX9_goatsOf 8 = .ok (.aload_n 0, 1) := by decide +kernel
theorem dX9_goatsOf_9 : decode cX9_goatsOf 9 = .ok (.getfield 25, 3) := by decide +kernel
theorem dX9_goatsOf_12 : decode cX9_goatsOf 12 = .ok (.iload_n 1, 1) := by decide +kernel
theorem dX9_goatsOf_13 : decode cX9_goatsOf 13 = .ok (.iaload, 1) := by decide +kernel
theorem dX9_goatsOf_14 : decode cX9_goatsOf 14 = .ok (.goto 4, 3) := by decide +kernel
theorem dX9_goatsOf_17 : decode cX9_goatsOf 17 = .ok (.iconst 0, 1) := by decide +kernel
theorem dX9_goatsOf_18 : decode cX9_goatsOf 18 = .ok (.ireturn, 1) := by decide +kernel
set_option maxRecDepth 20000 in
theorem ggX9_hidesOf_X9_hasOwner : GoodIn wsX9_hidesOf wsX9_hasOwner := goodIn_r _ [6, 7, 8, 9, 10, 11, 12, 13, 14, 15, 16] (by decide +kernel) (by decide +kernel)
set_option maxRecDepth 20000 in
theorem gX9_hidesOf_X9_hasOwner : GoodIn wsX9_hidesOf (wsV RX9 67 RX9 yX9_hasOwner wsX9_hasOwner) := goodIn_app (goodIn_of _ (by decide +kernel)) ggX9_hidesOf_X9_hasOwner
theorem dX9_hidesOf_0 : decode cX9_hidesOf 0 = .ok (.aload_n 0, 1) := by decide +kernel
theorem dX9_hidesOf_1 : decode cX9_hidesOf 1 = .ok (.iload_n 1, 1) := by decide +kernel
theorem dX9_hidesOf_2 : decode cX9_hidesOf 2 = .ok (.invokevirtual 67, 3) := by decide +kernel
theorem dX9_hidesOf_5 : decode cX9_hidesOf 5 = .ok (.ifCond .eq 12, 3) := by decide +kernel
theorem dX9_hidesOf_8 : decode cX9_hidesOf 8 = .ok (.aload_n 0, 1) := by decide +kernel
theorem dX9_hidesOf_9 : decode cX9_hidesOf 9 = .ok (.getfield 29, 3) := by decide +kernel
theorem dX9_hidesOf_12 : decode cX9_hidesOf 12 = .ok (.iload_n 1, 1) := by decide +kernel
theorem dX9_hidesOf_13 : decode cX9_hidesOf 13 = .ok (.iaload, 1) := by decide +kernel
theorem dX9_hidesOf_14 : decode cX9_hidesOf 14 = .ok (.goto 4, 3) := by decide +kernel
theorem dX9_hidesOf_17 : decode cX9_hidesOf 17 = .ok (.iconst 0, 1) := by decide +kernel
theorem dX9_hidesOf_18 : decode cX9_hidesOf 18 = .ok (.ireturn, 1) := by decide +kernel
set_option maxRecDepth 20000 in
theorem ggX9_hiddenBy_X9_hasOwner : GoodIn wsX9_hiddenBy wsX9_hasOwner := goodIn_r _ [6, 7, 8, 9, 10, 11, 12, 13, 14, 15, 16] (by decide +kernel) (by decide +kernel)
set_option maxRecDepth 20000 in
theorem gX9_hiddenBy_X9_hasOwner : GoodIn wsX9_hiddenBy (wsV RX9 67 RX9 yX9_hasOwner wsX9_hasOwner) := goodIn_app (goodIn_of _ (by decide +kernel)) ggX9_hiddenBy_X9_hasOwner
theorem dX9_hiddenBy_0 : decode cX9_hiddenBy 0 = .ok (.aload_n 0, 1) := by decide +kernel
theorem dX9_hiddenBy_1 : decode cX9_hiddenBy 1 = .ok (.iload_n 1, 1) := by decide +kernel
theorem dX9_hiddenBy_2 : decode cX9_hiddenBy 2 = .ok (.invokevirtual 67, 3) := by decide +kernel
theorem dX9_hiddenBy_5 : decode cX9_hiddenBy 5 = .ok (.ifCond .eq 12, 3) := by decide +kernel
theorem dX9_hiddenBy_8 : decode cX9_hiddenBy 8 = .ok (.aload_n 0, 1) := by decide +kernel
theorem dX9_hiddenBy_9 : decode cX9_hiddenBy 9 = .ok (.getfield 32, 3) := by decide +kernel
theorem dX9_hiddenBy_12 : decode cX9_hiddenBy 12 = .ok (.iload_n 1, 1) := by decide +kernel
theorem dX9_hiddenBy_13 : decode cX9_hiddenBy 13 = .ok (.iaload, 1) := by decide +kernel
theorem dX9_hiddenBy_14 : decode cX9_hiddenBy 14 = .ok (.goto 4, 3) := by decide +kernel
theorem dX9_hiddenBy_17 : decode cX9_hiddenBy 17 = .ok (.iconst 0, 1) := by decide +kernel
theorem dX9_hiddenBy_18 : decode cX9_hiddenBy 18 = .ok (.ireturn, 1) := by decide +kernel
set_option maxRecDepth 20000 in
theorem ggX9_lentBy_X9_hasOwner : GoodIn wsX9_lentBy wsX9_hasOwner := goodIn_r _ [6, 7, 8, 9, 10, 11, 12, 13, 14, 15, 16] (by decide +kernel) (by decide +kernel)
set_option maxRecDepth 20000 in
theorem gX9_lentBy_X9_hasOwner : GoodIn wsX9_lentBy (wsV RX9 67 RX9 yX9_hasOwner wsX9_hasOwner) := goodIn_app (goodIn_of _ (by decide +kernel)) ggX9_lentBy_X9_hasOwner
theorem dX9_lentBy_0 : decode cX9_lentBy 0 = .ok (.aload_n 0, 1) := by decide +kernel
theorem dX9_lentBy_1 : decode cX9_lentBy 1 = .ok (.iload_n 1, 1) := by decide +kernel
theorem dX9_lentBy_2 : decode cX9_lentBy 2 = .ok (.invokevirtual 67, 3) := by decide +kernel
theorem dX9_lentBy_5 : decode cX9_lentBy 5 = .ok (.ifCond .eq 12, 3) := by decide +kernel
theorem dX9_lentBy_8 : decode cX9_lentBy 8 = .ok (.aload_n 0, 1) := by decide +kernel
theorem dX9_lentBy_9 : decode cX9_lentBy 9 = .ok (.getfield 35, 3) := by decide +kernel
theorem dX9_lentBy_12 : decode cX9_lentBy 12 = .ok (.iload_n 1, 1) := by decide +kernel
theorem dX9_lentBy_13 : decode cX9_lentBy 13 = .ok (.iaload, 1) := by decide +kernel
theorem dX9_lentBy_14 : decode cX9_lentBy 14 = .ok (.goto 4, 3) := by decide +kernel
theorem dX9_lentBy_17 : decode cX9_lentBy 17 = .ok (.iconst 0, 1) := by decide +kernel
theorem dX9_lentBy_18 : decode cX9_lentBy 18 = .ok (.ireturn, 1) := by decide +kernel
set_option maxRecDepth 20000 in
theorem ggX9_borrowedBy_X9_hasOwner : GoodIn wsX9_borrowedBy wsX9_hasOwner := goodIn_r _ [6, 7, 8, 9, 10, 11, 12, 13, 14, 15, 16] (by decide +kernel) (by decide +kernel)
set_option maxRecDepth 20000 in
theorem gX9_borrowedBy_X9_hasOwner : GoodIn wsX9_borrowedBy (wsV RX9 67 RX9 yX9_hasOwner wsX9_hasOwner) := goodIn_app (goodIn_of _ (by decide +kernel)) ggX9_borrowedBy_X9_hasOwner
theorem dX9_borrowedBy_0 : decode cX9_borrowedBy 0 = .ok (.aload_n 0, 1) := by decide +kernel
theorem dX9_borrowedBy_1 : decode cX9_borrowedBy 1 = .ok (.iload_n 1, 1) := by decide +kernel
theorem dX9_borrowedBy_2 : decode cX9_borrowedBy 2 = .ok (.invokevirtual 67, 3) := by decide +kernel
theorem dX9_borrowedBy_5 : decode cX9_borrowedBy 5 = .ok (.ifCond .eq 12, 3) := by decide +kernel
theorem dX9_borrowedBy_8 : decode cX9_borrowedBy 8 = .ok (.aload_n 0, 1) := by decide +kernel
theorem dX9_borrowedBy_9 : decode cX9_borrowedBy 9 = .ok (.getfield 38, 3) := by decide +kernel
theorem dX9_borrowedBy_12 : decode cX9_borrowedBy 12 = .ok (.iload_n 1, 1) := by decide +kernel
theorem dX9_borrowedBy_13 : decode cX9_borrowedBy 13 = .ok (.iaload, 1) := by decide +kernel
theorem dX9_borrowedBy_14 : decode cX9_borrowedBy 14 = .ok (.goto 4, 3) := by decide +kernel
theorem dX9_borrowedBy_17 : decode cX9_borrowedBy 17 = .ok (.iconst 0, 1) := by decide +kernel
theorem dX9_borrowedBy_18 : decode cX9_borrowedBy 18 = .ok (.ireturn, 1) := by decide +kernel
set_option maxRecDepth 20000 in
theorem ggX9_allGoats_X9_goatsOf : GoodIn wsX9_allGoats wsX9_goatsOf := goodIn_r _ [5, 6, 7, 8, 9, 4, 10, 11, 12, 13, 14, 15, 16, 17, 18, 19, 20] (by decide +kernel) (by decide +kernel)
set_option maxRecDepth 20000 in
theorem gX9_allGoats_X9_goatsOf : GoodIn wsX9_allGoats (wsV RX9 71 RX9 yX9_goatsOf wsX9_goatsOf) := goodIn_app (goodIn_of _ (by decide +kernel)) ggX9_allGoats_X9_goatsOf
theorem dX9_allGoats_0 : decode cX9_allGoats 0 = .ok (.iconst 0, 1) := by decide +kernel
theorem dX9_allGoats_1 : decode cX9_allGoats 1 = .ok (.istore_n 1, 1) := by decide +kernel
theorem dX9_allGoats_2 : decode cX9_allGoats 2 = .ok (.iconst 0, 1) := by decide +kernel
theorem dX9_allGoats_3 : decode cX9_allGoats 3 = .ok (.istore_n 2, 1) := by decide +kernel
theorem dX9_allGoats_4 : decode cX9_allGoats 4 = .ok (.iload_n 2, 1) := by decide +kernel
theorem dX9_allGoats_5 : decode cX9_allGoats 5 = .ok (.iconst 5, 1) := by decide +kernel
theorem dX9_allGoats_6 : decode cX9_allGoats 6 = .ok (.if_icmp .ge 17, 3) := by decide +kernel
theorem dX9_allGoats_9 : decode cX9_allGoats 9 = .ok (.iload_n 1, 1) := by decide +kernel
theorem dX9_allGoats_10 : decode cX9_allGoats 10 = .ok (.aload_n 0, 1) := by decide +kernel
theorem dX9_allGoats_11 : decode cX9_allGoats 11 = .ok (.iload_n 2, 1) := by decide +kernel
theorem dX9_allGoats_12 : decode cX9_allGoats 12 = .ok (.invokevirtual 71, 3) := by decide +kernel
theorem dX9_allGoats_15 : decode cX9_allGoats 15 = .ok (.iadd, 1) := by decide +kernel
theorem dX9_allGoats_16 : decode cX9_allGoats 16 = .ok (.istore_n 1, 1) := by decide +kernel
theorem dX9_allGoats_17 : decode cX9_allGoats 17 = .ok (.iinc 2 1, 3) := by decide +kernel
theorem dX9_allGoats_20 : decode cX9_allGoats 20 = .ok (.goto (-16), 3) := by decide +kernel
theorem dX9_allGoats_23 : decode cX9_allGoats 23 = .ok (.iload_n 1, 1) := by decide +kernel
theorem dX9_allGoats_24 : decode cX9_allGoats 24 = .ok (.ireturn, 1) := by decide +kernel
set_option maxRecDepth 20000 in
theorem ggX9_ownersWith_X9_hasOwner : GoodIn wsX9_ownersWith wsX9_hasOwner := goodIn_r _ [6, 7, 8, 9, 10, 11, 12, 13, 14, 15, 16] (by decide +kernel) (by decide +kernel)
set_option maxRecDepth 20000 in
theorem gX9_ownersWith_X9_hasOwner : GoodIn wsX9_ownersWith (wsV RX9 67 RX9 yX9_hasOwner wsX9_hasOwner) := goodIn_app (goodIn_of _ (by decide +kernel)) ggX9_ownersWith_X9_hasOwner
theorem dX9_ownersWith_0 : decode cX9_ownersWith 0 = .ok (.iconst 0, 1) := by decide +kernel
theorem dX9_ownersWith_1 : decode cX9_ownersWith 1 = .ok (.istore_n 2, 1) := by decide +kernel
theorem dX9_ownersWith_2 : decode cX9_ownersWith 2 = .ok (.iconst 0, 1) := by decide +kernel
theorem dX9_ownersWith_3 : decode cX9_ownersWith 3 = .ok (.istore_n 3, 1) := by decide +kernel
theorem dX9_ownersWith_4 : decode cX9_ownersWith 4 = .ok (.iload_n 3, 1) := by decide +kernel
theorem dX9_ownersWith_5 : decode cX9_ownersWith 5 = .ok (.iconst 5, 1) := by decide +kernel
theorem dX9_ownersWith_6 : decode cX9_ownersWith 6 = .ok (.if_icmp .ge 33, 3) := by decide +kernel
theorem dX9_ownersWith_9 : decode cX9_ownersWith 9 = .ok (.aload_n 0, 1) := by decide +kernel
theorem dX9_ownersWith_10 : decode cX9_ownersWith 10 = .ok (.iload_n 3, 1) := by decide +kernel
theorem dX9_ownersWith_11 : decode cX9_ownersWith 11 = .ok (.invokevirtual 67, 3) := by decide +kernel
theorem dX9_ownersWith_14 : decode cX9_ownersWith 14 = .ok (.ifCond .eq 19, 3) := by decide +kernel
theorem dX9_ownersWith_17 : decode cX9_ownersWith 17 = .ok (.aload_n 0, 1) := by decide +kernel
theorem dX9_ownersWith_18 : decode cX9_ownersWith 18 = .ok (.getfield 25, 3) := by decide +kernel
theorem dX9_ownersWith_21 : decode cX9_ownersWith 21 = .ok (.iload_n 3, 1) := by decide +kernel
theorem dX9_ownersWith_22 : decode cX9_ownersWith 22 = .ok (.iaload, 1) := by decide +kernel
theorem dX9_ownersWith_23 : decode cX9_ownersWith 23 = .ok (.iload_n 1, 1) := by decide +kernel
theorem dX9_ownersWith_24 : decode cX9_ownersWith 24 = .ok (.if_icmp .lt 9, 3) := by decide +kernel
theorem dX9_ownersWith_27 : decode cX9_ownersWith 27 = .ok (.iload_n 2, 1) := by decide +kernel
theorem dX9_ownersWith_28 : decode cX9_ownersWith 28 = .ok (.iconst 1, 1) := by decide +kernel
theorem dX9_ownersWith_29 : decode cX9_ownersWith 29 = .ok (.iload_n 3, 1) := by decide +kernel
theorem dX9_ownersWith_30 : decode cX9_ownersWith 30 = .ok (.ishl, 1) := by decide +kernel
theorem dX9_ownersWith_31 : decode cX9_ownersWith 31 = .ok (.ior, 1) := by decide +kernel
theorem dX9_ownersWith_32 : decode cX9_ownersWith 32 = .ok (.istore_n 2, 1) := by decide +kernel
theorem dX9_ownersWith_33 : decode cX9_ownersWith 33 = .ok (.iinc 3 1, 3) := by decide +kernel
theorem dX9_ownersWith_36 : decode cX9_ownersWith 36 = .ok (.goto (-32), 3) := by decide +kernel
theorem dX9_ownersWith_39 : decode cX9_ownersWith 39 = .ok (.iload_n 2, 1) := by decide +kernel
theorem dX9_ownersWith_40 : decode cX9_ownersWith 40 = .ok (.ireturn, 1) := by decide +kernel
theorem dX9_addOwner_0 : decode cX9_addOwner 0 = .ok (.aload_n 0, 1) := by decide +kernel
theorem dX9_addOwner_1 : decode cX9_addOwner 1 = .ok (.getfield 41, 3) := by decide +kernel
theorem dX9_addOwner_4 : decode cX9_addOwner 4 = .ok (.ifCond .lt 11, 3) := by decide +kernel
theorem dX9_addOwner_7 : decode cX9_addOwner 7 = .ok (.aload_n 0, 1) := by decide +kernel
theorem dX9_addOwner_8 : decode cX9_addOwner 8 = .ok (.getfield 41, 3) := by decide +kernel
theorem dX9_addOwner_11 : decode cX9_addOwner 11 = .ok (.iconst 5, 1) := by decide +kernel
theorem dX9_addOwner_12 : decode cX9_addOwner 12 = .ok (.if_icmp .lt 4, 3) := by decide +kernel
theorem dX9_addOwner_15 : decode cX9_addOwner 15 = .ok (.return_, 1) := by decide +kernel
theorem dX9_addOwner_16 : decode cX9_addOwner 16 = .ok (.aload_n 0, 1) := by decide +kernel
theorem dX9_addOwner_17 : decode cX9_addOwner 17 = .ok (.getfield 25, 3) := by decide +kernel
theorem dX9_addOwner_20 : decode cX9_addOwner 20 = .ok (.aload_n 0, 1) := by decide +kernel
theorem dX9_addOwner_21 : decode cX9_addOwner 21 = .ok (.getfield 41, 3) := by decide +kernel
theorem dX9_addOwner_24 : decode cX9_addOwner 24 = .ok (.iload_n 1, 1) := by decide +kernel
theorem dX9_addOwner_25 : decode cX9_addOwner 25 = .ok (.iastore, 1) := by decide +kernel
theorem dX9_addOwner_26 : decode cX9_addOwner 26 = .ok (.aload_n 0, 1) := by decide +kernel
theorem dX9_addOwner_27 : decode cX9_addOwner 27 = .ok (.getfield 29, 3) := by decide +kernel
theorem dX9_addOwner_30 : decode cX9_addOwner 30 = .ok (.aload_n 0, 1) := by decide +kernel
theorem dX9_addOwner_31 : decode cX9_addOwner 31 = .ok (.getfield 41, 3) := by decide +kernel
theorem dX9_addOwner_34 : decode cX9_addOwner 34 = .ok (.iload_n 2, 1) := by decide +kernel
theorem dX9_addOwner_35 : decode cX9_addOwner 35 = .ok (.iastore, 1) := by decide +kernel
theorem dX9_addOwner_36 : decode cX9_addOwner 36 = .ok (.aload_n 0, 1) := by decide +kernel
theorem dX9_addOwner_37 : decode cX9_addOwner 37 = .ok (.getfield 32, 3) := by decide +kernel
theorem dX9_addOwner_40 : decode cX9_addOwner 40 = .ok (.aload_n 0, 1) := by decide +kernel
theorem dX9_addOwner_41 : decode cX9_addOwner 41 = .ok (.getfield 41, 3) := by decide +kernel
theorem dX9_addOwner_44 : decode cX9_addOwner 44 = .ok (.iconst 0, 1) := by decide +kernel
theorem dX9_addOwner_45 : decode cX9_addOwner 45 = .ok (.iastore, 1) := by decide +kernel
theorem dX9_addOwner_46 : decode cX9_addOwner 46 = .ok (.aload_n 0, 1) := by decide +kernel
theorem dX9_addOwner_47 : decode cX9_addOwner 47 = .ok (.getfield 35, 3) := by decide +kernel
theorem dX9_addOwner_50 : decode cX9_addOwner 50 = .ok (.aload_n 0, 1) := by decide +kernel
theorem dX9_addOwner_51 : decode cX9_addOwner 51 = .ok (.getfield 41, 3) := by decide +kernel
theorem dX9_addOwner_54 : decode cX9_addOwner 54 = .ok (.iconst 0, 1) := by decide +kernel
theorem dX9_addOwner_55 : decode cX9_addOwner 55 = .ok (.iastore, 1) := by decide +kernel
theorem dX9_addOwner_56 : decode cX9_addOwner 56 = .ok (.aload_n 0, 1) := by decide +kernel
theorem dX9_addOwner_57 : decode cX9_addOwner 57 = .ok (.getfield 38, 3) := by decide +kernel
theorem dX9_addOwner_60 : decode cX9_addOwner 60 = .ok (.aload_n 0, 1) := by decide +kernel
theorem dX9_addOwner_61 : decode cX9_addOwner 61 = .ok (.getfield 41, 3) := by decide +kernel
theorem dX9_addOwner_64 : decode cX9_addOwner 64 = .ok (.iconst 0, 1) := by decide +kernel
theorem dX9_addOwner_65 : decode cX9_addOwner 65 = .ok (.iastore, 1) := by decide +kernel
theorem dX9_addOwner_66 : decode cX9_addOwner 66 = .ok (.aload_n 0, 1) := by decide +kernel
theorem dX9_addOwner_67 : decode cX9_addOwner 67 = .ok (.dup, 1) := by decide +kernel
theorem dX9_addOwner_68 : decode cX9_addOwner 68 = .ok (.getfield 41, 3) := by decide +kernel
theorem dX9_addOwner_71 : decode cX9_addOwner 71 = .ok (.iconst 1, 1) := by decide +kernel
theorem dX9_addOwner_72 : decode cX9_addOwner 72 = .ok (.iadd, 1) := by decide +kernel
theorem dX9_addOwner_73 : decode cX9_addOwner 73 = .ok (.putfield 41, 3) := by decide +kernel
theorem dX9_addOwner_76 : decode cX9_addOwner 76 = .ok (.return_, 1) := by decide +kernel
set_option maxRecDepth 20000 in
theorem ggX9_atHand_X9_goatsOf : GoodIn wsX9_atHand wsX9_goatsOf := goodIn_r _ [5, 6, 7, 8, 9, 4, 10, 11, 22, 23, 24, 25, 26, 27, 28, 29, 30] (by decide +kernel) (by decide +kernel)
set_option maxRecDepth 20000 in
theorem gX9_atHand_X9_goatsOf : GoodIn wsX9_atHand (wsV RX9 71 RX9 yX9_goatsOf wsX9_goatsOf) := goodIn_app (goodIn_of _ (by decide +kernel)) ggX9_atHand_X9_goatsOf
set_option maxRecDepth 20000 in
theorem ggX9_atHand_X9_lentBy : GoodIn wsX9_atHand wsX9_lentBy := goodIn_r _ [15, 16, 7, 8, 9, 4, 10, 11, 22, 23, 24, 25, 26, 27, 28, 29, 30] (by decide +kernel) (by decide +kernel)
set_option maxRecDepth 20000 in
theorem gX9_atHand_X9_lentBy : GoodIn wsX9_atHand (wsV RX9 75 RX9 yX9_lentBy wsX9_lentBy) := goodIn_app (goodIn_of _ (by decide +kernel)) ggX9_atHand_X9_lentBy
set_option maxRecDepth 20000 in
theorem ggX9_atHand_X9_hiddenBy : GoodIn wsX9_atHand wsX9_hiddenBy := goodIn_r _ [20, 21, 7, 8, 9, 4, 10, 11, 22, 23, 24, 25, 26, 27, 28, 29, 30] (by decide +kernel) (by decide +kernel)
set_option maxRecDepth 20000 in
theorem gX9_atHand_X9_hiddenBy : GoodIn wsX9_atHand (wsV RX9 78 RX9 yX9_hiddenBy wsX9_hiddenBy) := goodIn_app (goodIn_of _ (by decide +kernel)) ggX9_atHand_X9_hiddenBy
theorem dX9_atHand_0 : decode cX9_atHand 0 = .ok (.aload_n 0, 1) := by decide +kernel
theorem dX9_atHand_1 : decode cX9_atHand 1 = .ok (.iload_n 1, 1) := by decide +kernel
theorem dX9_atHand_2 : decode cX9_atHand 2 = .ok (.invokevirtual 71, 3) := by decide +kernel
theorem dX9_atHand_5 : decode cX9_atHand 5 = .ok (.aload_n 0, 1) := by decide +kernel
theorem dX9_atHand_6 : decode cX9_atHand 6 = .ok (.iload_n 1, 1) := by decide +kernel
theorem dX9_atHand_7 : decode cX9_atHand 7 = .ok (.invokevirtual 75, 3) := by decide +kernel
theorem dX9_atHand_10 : decode cX9_atHand 10 = .ok (.isub, 1) := by decide +kernel
theorem dX9_atHand_11 : decode cX9_atHand 11 = .ok (.aload_n 0, 1) := by decide +kernel
theorem dX9_atHand_12 : decode cX9_atHand 12 = .ok (.iload_n 1, 1) := by decide +kernel
theorem dX9_atHand_13 : decode cX9_atHand 13 = .ok (.invokevirtual 78, 3) := by decide +kernel
theorem dX9_atHand_16 : decode cX9_atHand 16 = .ok (.isub, 1) := by decide +kernel
theorem dX9_atHand_17 : decode cX9_atHand 17 = .ok (.ireturn, 1) := by decide +kernel
set_option maxRecDepth 20000 in
theorem ggX9_bear_X9_hasOwner : GoodIn wsX9_bear wsX9_hasOwner := goodIn_r _ [6, 7, 16, 17, 18, 19, 20, 21, 22, 23, 24] (by decide +kernel) (by decide +kernel)
set_option maxRecDepth 20000 in
theorem gX9_bear_X9_hasOwner : GoodIn wsX9_bear (wsV RX9 67 RX9 yX9_hasOwner wsX9_hasOwner) := goodIn_app (goodIn_of _ (by decide +kernel)) ggX9_bear_X9_hasOwner
set_option maxRecDepth 20000 in
theorem ggX9_bear_X9_allGoats : GoodIn wsX9_bear wsX9_allGoats := goodIn_r _ [11, 12, 13, 14, 5, 15, 1, 2, 3, 4, 6, 7, 16, 17, 18, 19, 20, 21, 22, 23, 24] (by decide +kernel) (by decide +kernel)
set_option maxRecDepth 20000 in
theorem gX9_bear_X9_allGoats : GoodIn wsX9_bear (wsV RX9 81 RX9 yX9_allGoats wsX9_allGoats) := goodIn_app (goodIn_of _ (by decide +kernel)) ggX9_bear_X9_allGoats
theorem dX9_bear_0 : decode cX9_bear 0 = .ok (.aload_n 0, 1) := by decide +kernel
theorem dX9_bear_1 : decode cX9_bear 1 = .ok (.iload_n 1, 1) := by decide +kernel
theorem dX9_bear_2 : decode cX9_bear 2 = .ok (.invokevirtual 67, 3) := by decide +kernel
theorem dX9_bear_5 : decode cX9_bear 5 = .ok (.ifCond .eq 14, 3) := by decide +kernel
theorem dX9_bear_8 : decode cX9_bear 8 = .ok (.aload_n 0, 1) := by decide +kernel
theorem dX9_bear_9 : decode cX9_bear 9 = .ok (.invokevirtual 81, 3) := by decide +kernel
theorem dX9_bear_12 : decode cX9_bear 12 = .ok (.iload_n 2, 1) := by decide +kernel
theorem dX9_bear_13 : decode cX9_bear 13 = .ok (.iadd, 1) := by decide +kernel
theorem dX9_bear_14 : decode cX9_bear 14 = .ok (.bipush 40, 2) := by decide +kernel
theorem dX9_bear_16 : decode cX9_bear 16 = .ok (.if_icmp .le 5, 3) := by decide +kernel
theorem dX9_bear_19 : decode cX9_bear 19 = .ok (.iconst 0, 1) := by decide +kernel
theorem dX9_bear_20 : decode cX9_bear 20 = .ok (.ireturn, 1) := by decide +kernel
theorem dX9_bear_21 : decode cX9_bear 21 = .ok (.aload_n 0, 1) := by decide +kernel
theorem dX9_bear_22 : decode cX9_bear 22 = .ok (.getfield 25, 3) := by decide +kernel
theorem dX9_bear_25 : decode cX9_bear 25 = .ok (.iload_n 1, 1) := by decide +kernel
theorem dX9_bear_26 : decode cX9_bear 26 = .ok (.dup2, 1) := by decide +kernel
theorem dX9_bear_27 : decode cX9_bear 27 = .ok (.iaload, 1) := by decide +kernel
theorem dX9_bear_28 : decode cX9_bear 28 = .ok (.iload_n 2, 1) := by decide +kernel
theorem dX9_bear_29 : decode cX9_bear 29 = .ok (.iadd, 1) := by decide +kernel
theorem dX9_bear_30 : decode cX9_bear 30 = .ok (.iastore, 1) := by decide +kernel
theorem dX9_bear_31 : decode cX9_bear 31 = .ok (.iconst 1, 1) := by decide +kernel
theorem dX9_bear_32 : decode cX9_bear 32 = .ok (.ireturn, 1) := by decide +kernel
set_option maxRecDepth 20000 in
theorem ggX9_eat_X9_hasOwner : GoodIn wsX9_eat wsX9_hasOwner := goodIn_r _ [6, 7, 26, 27, 28, 29, 30, 31, 32, 33, 34] (by decide +kernel) (by decide +kernel)
set_option maxRecDepth 20000 in
theorem gX9_eat_X9_hasOwner : GoodIn wsX9_eat (wsV RX9 67 RX9 yX9_hasOwner wsX9_hasOwner) := goodIn_app (goodIn_of _ (by decide +kernel)) ggX9_eat_X9_hasOwner
set_option maxRecDepth 20000 in
theorem ggX9_eat_X9_atHand : GoodIn wsX9_eat wsX9_atHand := goodIn_r _ [11, 12, 13, 14, 5, 15, 1, 2, 3, 4, 6, 7, 16, 17, 18, 19, 20, 21, 22, 23, 24, 25, 26, 27, 28, 29, 30, 31, 32, 33, 34] (by decide +kernel) (by decide +kernel)
set_option maxRecDepth 20000 in
theorem gX9_eat_X9_atHand : GoodIn wsX9_eat (wsV RX9 85 RX9 yX9_atHand wsX9_atHand) := goodIn_app (goodIn_of _ (by decide +kernel)) ggX9_eat_X9_atHand
theorem dX9_eat_0 : decode cX9_eat 0 = .ok (.aload_n 0, 1) := by decide +kernel
theorem dX9_eat_1 : decode cX9_eat 1 = .ok (.iload_n 1, 1) := by decide +kernel
theorem dX9_eat_2 : decode cX9_eat 2 = .ok (.invokevirtual 67, 3) := by decide +kernel
theorem dX9_eat_5 : decode cX9_eat 5 = .ok (.ifCond .eq 12, 3) := by decide +kernel
theorem dX9_eat_8 : decode cX9_eat 8 = .ok (.aload_n 0, 1) := by decide +kernel
theorem dX9_eat_9 : decode cX9_eat 9 = .ok (.iload_n 1, 1) := by decide +kernel
theorem dX9_eat_10 : decode cX9_eat 10 = .ok (.invokevirtual 85, 3) := by decide +kernel
theorem dX9_eat_13 : decode cX9_eat 13 = .ok (.iload_n 2, 1) := by decide +kernel
theorem dX9_eat_14 : decode cX9_eat 14 = .ok (.if_icmp .ge 5, 3) := by decide +kernel
theorem dX9_eat_17 : decode cX9_eat 17 = .ok (.iconst 0, 1) := by decide +kernel
theorem dX9_eat_18 : decode cX9_eat 18 = .ok (.ireturn, 1) := by decide +kernel
theorem dX9_eat_19 : decode cX9_eat 19 = .ok (.aload_n 0, 1) := by decide +kernel
theorem dX9_eat_20 : decode cX9_eat 20 = .ok (.getfield 25, 3) := by decide +kernel
theorem dX9_eat_23 : decode cX9_eat 23 = .ok (.iload_n 1, 1) := by decide +kernel
theorem dX9_eat_24 : decode cX9_eat 24 = .ok (.dup2, 1) := by decide +kernel
theorem dX9_eat_25 : decode cX9_eat 25 = .ok (.iaload, 1) := by decide +kernel
theorem dX9_eat_26 : decode cX9_eat 26 = .ok (.iload_n 2, 1) := by decide +kernel
theorem dX9_eat_27 : decode cX9_eat 27 = .ok (.isub, 1) := by decide +kernel
theorem dX9_eat_28 : decode cX9_eat 28 = .ok (.iastore, 1) := by decide +kernel
theorem dX9_eat_29 : decode cX9_eat 29 = .ok (.iconst 1, 1) := by decide +kernel
theorem dX9_eat_30 : decode cX9_eat 30 = .ok (.ireturn, 1) := by decide +kernel
set_option maxRecDepth 20000 in
theorem ggX9_lend_X9_hasOwner : GoodIn wsX9_lend wsX9_hasOwner := goodIn_r _ [7, 8, 27, 28, 29, 30, 31, 32, 33, 34, 35] (by decide +kernel) (by decide +kernel)
set_option maxRecDepth 20000 in
theorem gX9_lend_X9_hasOwner : GoodIn wsX9_lend (wsV RX9 67 RX9 yX9_hasOwner wsX9_hasOwner) := goodIn_app (goodIn_of _ (by decide +kernel)) ggX9_lend_X9_hasOwner
set_option maxRecDepth 20000 in
theorem ggX9_lend_X9_atHand : GoodIn wsX9_lend wsX9_atHand := goodIn_r _ [12, 13, 14, 15, 6, 16, 17, 3, 4, 5, 7, 8, 18, 19, 20, 21, 1, 22, 23, 24, 25, 26, 27, 28, 29, 30, 31, 32, 33, 34, 35] (by decide +kernel) (by decide +kernel)
set_option maxRecDepth 20000 in
theorem gX9_lend_X9_atHand : GoodIn wsX9_lend (wsV RX9 85 RX9 yX9_atHand wsX9_atHand) := goodIn_app (goodIn_of _ (by decide +kernel)) ggX9_lend_X9_atHand
theorem dX9_lend_0 : decode cX9_lend 0 = .ok (.aload_n 0, 1) := by decide +kernel
theorem dX9_lend_1 : decode cX9_lend 1 = .ok (.iload_n 1, 1) := by decide +kernel
theorem dX9_lend_2 : decode cX9_lend 2 = .ok (.invokevirtual 67, 3) := by decide +kernel
theorem dX9_lend_5 : decode cX9_lend 5 = .ok (.ifCond .eq 20, 3) := by decide +kernel
theorem dX9_lend_8 : decode cX9_lend 8 = .ok (.aload_n 0, 1) := by decide +kernel
theorem dX9_lend_9 : decode cX9_lend 9 = .ok (.iload_n 2, 1) := by decide +kernel
theorem dX9_lend_10 : decode cX9_lend 10 = .ok (.invokevirtual 67, 3) := by decide +kernel
theorem dX9_lend_13 : decode cX9_lend 13 = .ok (.ifCond .eq 12, 3) := by decide +kernel
theorem dX9_lend_16 : decode cX9_lend 16 = .ok (.aload_n 0, 1) := by decide +kernel
theorem dX9_lend_17 : decode cX9_lend 17 = .ok (.iload_n 1, 1) := by decide +kernel
theorem dX9_lend_18 : decode cX9_lend 18 = .ok (.invokevirtual 85, 3) := by decide +kernel
theorem dX9_lend_21 : decode cX9_lend 21 = .ok (.iload_n 3, 1) := by decide +kernel
theorem dX9_lend_22 : decode cX9_lend 22 = .ok (.if_icmp .ge 5, 3) := by decide +kernel
theorem dX9_lend_25 : decode cX9_lend 25 = .ok (.iconst 0, 1) := by decide +kernel
theorem dX9_lend_26 : decode cX9_lend 26 = .ok (.ireturn, 1) := by decide +kernel
theorem dX9_lend_27 : decode cX9_lend 27 = .ok (.aload_n 0, 1) := by decide +kernel
theorem dX9_lend_28 : decode cX9_lend 28 = .ok (.getfield 35, 3) := by decide +kernel
theorem dX9_lend_31 : decode cX9_lend 31 = .ok (.iload_n 1, 1) := by decide +kernel
theorem dX9_lend_32 : decode cX9_lend 32 = .ok (.dup2, 1) := by decide +kernel
theorem dX9_lend_33 : decode cX9_lend 33 = .ok (.iaload, 1) := by decide +kernel
theorem dX9_lend_34 : decode cX9_lend 34 = .ok (.iload_n 3, 1) := by decide +kernel
theorem dX9_lend_35 : decode cX9_lend 35 = .ok (.iadd, 1) := by decide +kernel
theorem dX9_lend_36 : decode cX9_lend 36 = .ok (.iastore, 1) := by decide +kernel
theorem dX9_lend_37 : decode cX9_lend 37 = .ok (.aload_n 0, 1) := by decide +kernel
theorem dX9_lend_38 : decode cX9_lend 38 = .ok (.getfield 38, 3) := by decide +kernel
theorem dX9_lend_41 : decode cX9_lend 41 = .ok (.iload_n 2, 1) := by decide +kernel
theorem dX9_lend_42 : decode cX9_lend 42 = .ok (.dup2, 1) := by decide +kernel
theorem dX9_lend_43 : decode cX9_lend 43 = .ok (.iaload, 1) := by decide +kernel
theorem dX9_lend_44 : decode cX9_lend 44 = .ok (.iload_n 3, 1) := by decide +kernel
theorem dX9_lend_45 : decode cX9_lend 45 = .ok (.iadd, 1) := by decide +kernel
theorem dX9_lend_46 : decode cX9_lend 46 = .ok (.iastore, 1) := by decide +kernel
theorem dX9_lend_47 : decode cX9_lend 47 = .ok (.iconst 1, 1) := by decide +kernel
theorem dX9_lend_48 : decode cX9_lend 48 = .ok (.ireturn, 1) := by decide +kernel
set_option maxRecDepth 20000 in
theorem ggX9_hide_X9_hasOwner : GoodIn wsX9_hide wsX9_hasOwner := goodIn_r _ [9, 10, 11, 12, 13, 14, 15, 16, 17, 18, 19] (by decide +kernel) (by decide +kernel)
set_option maxRecDepth 20000 in
theorem gX9_hide_X9_hasOwner : GoodIn wsX9_hide (wsV RX9 67 RX9 yX9_hasOwner wsX9_hasOwner) := goodIn_app (goodIn_of _ (by decide +kernel)) ggX9_hide_X9_hasOwner
theorem dX9_hide_0 : decode cX9_hide 0 = .ok (.aload_n 0, 1) := by decide +kernel
theorem dX9_hide_1 : decode cX9_hide 1 = .ok (.iload_n 1, 1) := by decide +kernel
theorem dX9_hide_2 : decode cX9_hide 2 = .ok (.invokevirtual 67, 3) := by decide +kernel
theorem dX9_hide_5 : decode cX9_hide 5 = .ok (.ifCond .eq 30, 3) := by decide +kernel
theorem dX9_hide_8 : decode cX9_hide 8 = .ok (.iload_n 2, 1) := by decide +kernel
theorem dX9_hide_9 : decode cX9_hide 9 = .ok (.aload_n 0, 1) := by decide +kernel
theorem dX9_hide_10 : decode cX9_hide 10 = .ok (.getfield 29, 3) := by decide +kernel
theorem dX9_hide_13 : decode cX9_hide 13 = .ok (.iload_n 1, 1) := by decide +kernel
theorem dX9_hide_14 : decode cX9_hide 14 = .ok (.iaload, 1) := by decide +kernel
theorem dX9_hide_15 : decode cX9_hide 15 = .ok (.if_icmp .gt 20, 3) := by decide +kernel
theorem dX9_hide_18 : decode cX9_hide 18 = .ok (.iload_n 2, 1) := by decide +kernel
theorem dX9_hide_19 : decode cX9_hide 19 = .ok (.aload_n 0, 1) := by decide +kernel
theorem dX9_hide_20 : decode cX9_hide 20 = .ok (.getfield 25, 3) := by decide +kernel
theorem dX9_hide_23 : decode cX9_hide 23 = .ok (.iload_n 1, 1) := by decide +kernel
theorem dX9_hide_24 : decode cX9_hide 24 = .ok (.iaload, 1) := by decide +kernel
theorem dX9_hide_25 : decode cX9_hide 25 = .ok (.aload_n 0, 1) := by decide +kernel
theorem dX9_hide_26 : decode cX9_hide 26 = .ok (.getfield 35, 3) := by decide +kernel
theorem dX9_hide_29 : decode cX9_hide 29 = .ok (.iload_n 1, 1) := by decide +kernel
theorem dX9_hide_30 : decode cX9_hide 30 = .ok (.iaload, 1) := by decide +kernel
theorem dX9_hide_31 : decode cX9_hide 31 = .ok (.isub, 1) := by decide +kernel
theorem dX9_hide_32 : decode cX9_hide 32 = .ok (.if_icmp .le 5, 3) := by decide +kernel
theorem dX9_hide_35 : decode cX9_hide 35 = .ok (.iconst 0, 1) := by decide +kernel
theorem dX9_hide_36 : decode cX9_hide 36 = .ok (.ireturn, 1) := by decide +kernel
theorem dX9_hide_37 : decode cX9_hide 37 = .ok (.aload_n 0, 1) := by decide +kernel
theorem dX9_hide_38 : decode cX9_hide 38 = .ok (.getfield 32, 3) := by decide +kernel
theorem dX9_hide_41 : decode cX9_hide 41 = .ok (.iload_n 1, 1) := by decide +kernel
theorem dX9_hide_42 : decode cX9_hide 42 = .ok (.iload_n 2, 1) := by decide +kernel
theorem dX9_hide_43 : decode cX9_hide 43 = .ok (.iastore, 1) := by decide +kernel
theorem dX9_hide_44 : decode cX9_hide 44 = .ok (.iconst 1, 1) := by decide +kernel
theorem dX9_hide_45 : decode cX9_hide 45 = .ok (.ireturn, 1) := by decide +kernel
set_option maxRecDepth 20000 in
theorem ggX9_takeCensus_X9_allGoats : GoodIn wsX9_takeCensus wsX9_allGoats := goodIn_r _ [9, 10, 11, 12, 8, 13, 14, 15, 16, 17, 18, 19, 24, 25, 26, 27, 28, 29, 30, 31, 32] (by decide +kernel) (by decide +kernel)
set_option maxRecDepth 20000 in
theorem gX9_takeCensus_X9_allGoats : GoodIn wsX9_takeCensus (wsV RX9 81 RX9 yX9_allGoats wsX9_allGoats) := goodIn_app (goodIn_of _ (by decide +kernel)) ggX9_takeCensus_X9_allGoats
set_option maxRecDepth 20000 in
theorem ggX9_takeCensus_X9_hiddenBy : GoodIn wsX9_takeCensus wsX9_hiddenBy := goodIn_r _ [23, 2, 15, 16, 17, 8, 18, 19, 24, 25, 26, 27, 28, 29, 30, 31, 32] (by decide +kernel) (by decide +kernel)
set_option maxRecDepth 20000 in
theorem gX9_takeCensus_X9_hiddenBy : GoodIn wsX9_takeCensus (wsV RX9 78 RX9 yX9_hiddenBy wsX9_hiddenBy) := goodIn_app (goodIn_of _ (by decide +kernel)) ggX9_takeCensus_X9_hiddenBy
theorem dX9_takeCensus_0 : decode cX9_takeCensus 0 = .ok (.aload_n 0, 1) := by decide +kernel
theorem dX9_takeCensus_1 : decode cX9_takeCensus 1 = .ok (.aload_n 0, 1) := by decide +kernel
theorem dX9_takeCensus_2 : decode cX9_takeCensus 2 = .ok (.invokevirtual 81, 3) := by decide +kernel
theorem dX9_takeCensus_5 : decode cX9_takeCensus 5 = .ok (.putfield 45, 3) := by decide +kernel
theorem dX9_takeCensus_8 : decode cX9_takeCensus 8 = .ok (.iconst 0, 1) := by decide +kernel
theorem dX9_takeCensus_9 : decode cX9_takeCensus 9 = .ok (.istore_n 1, 1) := by decide +kernel
theorem dX9_takeCensus_10 : decode cX9_takeCensus 10 = .ok (.iload_n 1, 1) := by decide +kernel
theorem dX9_takeCensus_11 : decode cX9_takeCensus 11 = .ok (.iconst 5, 1) := by decide +kernel
theorem dX9_takeCensus_12 : decode cX9_takeCensus 12 = .ok (.if_icmp .ge 44, 3) := by decide +kernel
theorem dX9_takeCensus_15 : decode cX9_takeCensus 15 = .ok (.aload_n 0, 1) := by decide +kernel
theorem dX9_takeCensus_16 : decode cX9_takeCensus 16 = .ok (.dup, 1) := by decide +kernel
theorem dX9_takeCensus_17 : decode cX9_takeCensus 17 = .ok (.getfield 45, 3) := by decide +kernel
theorem dX9_takeCensus_20 : decode cX9_takeCensus 20 = .ok (.aload_n 0, 1) := by decide +kernel
theorem dX9_takeCensus_21 : decode cX9_takeCensus 21 = .ok (.iload_n 1, 1) := by decide +kernel
theorem dX9_takeCensus_22 : decode cX9_takeCensus 22 = .ok (.invokevirtual 78, 3) := by decide +kernel
theorem dX9_takeCensus_25 : decode cX9_takeCensus 25 = .ok (.isub, 1) := by decide +kernel
theorem dX9_takeCensus_26 : decode cX9_takeCensus 26 = .ok (.putfield 45, 3) := by decide +kernel
theorem dX9_takeCensus_29 : decode cX9_takeCensus 29 = .ok (.aload_n 0, 1) := by decide +kernel
theorem dX9_takeCensus_30 : decode cX9_takeCensus 30 = .ok (.getfield 32, 3) := by decide +kernel
theorem dX9_takeCensus_33 : decode cX9_takeCensus 33 = .ok (.iload_n 1, 1) := by decide +kernel
theorem dX9_takeCensus_34 : decode cX9_takeCensus 34 = .ok (.iconst 0, 1) := by decide +kernel
theorem dX9_takeCensus_35 : decode cX9_takeCensus 35 = .ok (.iastore, 1) := by decide +kernel
theorem dX9_takeCensus_36 : decode cX9_takeCensus 36 = .ok (.aload_n 0, 1) := by decide +kernel
theorem dX9_takeCensus_37 : decode cX9_takeCensus 37 = .ok (.getfield 35, 3) := by decide +kernel
theorem dX9_takeCensus_40 : decode cX9_takeCensus 40 = .ok (.iload_n 1, 1) := by decide +kernel
theorem dX9_takeCensus_41 : decode cX9_takeCensus 41 = .ok (.iconst 0, 1) := by decide +kernel
theorem dX9_takeCensus_42 : decode cX9_takeCensus 42 = .ok (.iastore, 1) := by decide +kernel
theorem dX9_takeCensus_43 : decode cX9_takeCensus 43 = .ok (.aload_n 0, 1) := by decide +kernel
theorem dX9_takeCensus_44 : decode cX9_takeCensus 44 = .ok (.getfield 38, 3) := by decide +kernel
theorem dX9_takeCensus_47 : decode cX9_takeCensus 47 = .ok (.iload_n 1, 1) := by decide +kernel
theorem dX9_takeCensus_48 : decode cX9_takeCensus 48 = .ok (.iconst 0, 1) := by decide +kernel
theorem dX9_takeCensus_49 : decode cX9_takeCensus 49 = .ok (.iastore, 1) := by decide +kernel
theorem dX9_takeCensus_50 : decode cX9_takeCensus 50 = .ok (.iinc 1 1, 3) := by decide +kernel
theorem dX9_takeCensus_53 : decode cX9_takeCensus 53 = .ok (.goto (-43), 3) := by decide +kernel
theorem dX9_takeCensus_56 : decode cX9_takeCensus 56 = .ok (.iconst 1, 1) := by decide +kernel
theorem dX9_takeCensus_57 : decode cX9_takeCensus 57 = .ok (.ireturn, 1) := by decide +kernel
