theorem dX11_init_0 : decode cX11_init 0 = .ok (.aload_n 0, 1) := by decide +kernel
theorem dX11_init_1 : decode cX11_init 1 = .ok (.invokespecial 3, 3) := by decide +kernel
theorem dX11_init_4 : decode cX11_init 4 = .ok (.aload_n 0, 1) := by decide +kernel
theorem dX11_init_5 : decode cX11_init 5 = .ok (.bipush 49, 2) := by decide +kernel
theorem dX11_init_7 : decode cX11_init 7 = .ok (.newarray .long, 2) := by decide +kernel
theorem dX11_init_9 : decode cX11_init 9 = .ok (.putfield 11, 3) := by decide +kernel
theorem dX11_init_12 : decode cX11_init 12 = .ok (.aload_n 0, 1) := by decide +kernel
theorem dX11_init_13 : decode cX11_init 13 = .ok (.lconst 1, 1) := by decide +kernel
theorem dX11_init_14 : decode cX11_init 14 = .ok (.putfield 15, 3) := by decide +kernel
theorem dX11_init_17 : decode cX11_init 17 = .ok (.return_, 1) := by decide +kernel
theorem dX11_begin_0 : decode cX11_begin 0 = .ok (.iconst 0, 1) := by decide +kernel
theorem dX11_begin_1 : decode cX11_begin 1 = .ok (.istore_n 2, 1) := by decide +kernel
theorem dX11_begin_2 : decode cX11_begin 2 = .ok (.iload_n 2, 1) := by decide +kernel
theorem dX11_begin_3 : decode cX11_begin 3 = .ok (.bipush 49, 2) := by decide +kernel
theorem dX11_begin_5 : decode cX11_begin 5 = .ok (.if_icmp .ge 25, 3) := by decide +kernel
theorem dX11_begin_8 : decode cX11_begin 8 = .ok (.aload_n 0, 1) := by decide +kernel
theorem dX11_begin_9 : decode cX11_begin 9 = .ok (.getfield 11, 3) := by decide +kernel
theorem dX11_begin_12 : decode cX11_begin 12 = .ok (.iload_n 2, 1) := by decide +kernel
theorem dX11_begin_13 : decode cX11_begin 13 = .ok (.iload_n 2, 1) := by decide +kernel
theorem dX11_begin_14 : decode cX11_begin 14 = .ok (.iload_n 1, 1) := by decide +kernel
theorem dX11_begin_15 : decode cX11_begin 15 = .ok (.if_icmp .ne 7, 3) := by decide +kernel
theorem dX11_begin_18 : decode cX11_begin 18 = .ok (.lconst 1, 1) := by decide +kernel
theorem dX11_begin_19 : decode cX11_begin 19 = .ok (.goto 4, 3) := by decide +kernel
theorem dX11_begin_22 : decode cX11_begin 22 = .ok (.lconst 0, 1) := by decide +kernel
theorem dX11_begin_23 : decode cX11_begin 23 = .ok (.lastore, 1) := by decide +kernel
theorem dX11_begin_24 : decode cX11_begin 24 = .ok (.iinc 2 1, 3) := by decide +kernel
theorem dX11_begin_27 : decode cX11_begin 27 = .ok (.goto (-25), 3) := by decide +kernel
theorem dX11_begin_30 : decode cX11_begin 30 = .ok (.aload_n 0, 1) := by decide +kernel
theorem dX11_begin_31 : decode cX11_begin 31 = .ok (.lconst 1, 1) := by decide +kernel
theorem dX11_begin_32 : decode cX11_begin 32 = .ok (.putfield 15, 3) := by decide +kernel
theorem dX11_begin_35 : decode cX11_begin 35 = .ok (.return_, 1) := by decide +kernel
theorem dX11_step_0 : decode cX11_step 0 = .ok (.lconst 0, 1) := by decide +kernel
theorem dX11_step_1 : decode cX11_step 1 = .ok (.lstore_n 3, 1) := by decide +kernel
theorem dX11_step_2 : decode cX11_step 2 = .ok (.iconst 0, 1) := by decide +kernel
theorem dX11_step_3 : decode cX11_step 3 = .ok (.istore 5, 2) := by decide +kernel
theorem dX11_step_5 : decode cX11_step 5 = .ok (.iload 5, 2) := by decide +kernel
theorem dX11_step_7 : decode cX11_step 7 = .ok (.bipush 49, 2) := by decide +kernel
theorem dX11_step_9 : decode cX11_step 9 = .ok (.if_icmp .ge 89, 3) := by decide +kernel
theorem dX11_step_12 : decode cX11_step 12 = .ok (.aload_n 0, 1) := by decide +kernel
theorem dX11_step_13 : decode cX11_step 13 = .ok (.getfield 11, 3) := by decide +kernel
theorem dX11_step_16 : decode cX11_step 16 = .ok (.iload 5, 2) := by decide +kernel
theorem dX11_step_18 : decode cX11_step 18 = .ok (.laload, 1) := by decide +kernel
theorem dX11_step_19 : decode cX11_step 19 = .ok (.lstore 6, 2) := by decide +kernel
theorem dX11_step_21 : decode cX11_step 21 = .ok (.iload 5, 2) := by decide +kernel
theorem dX11_step_23 : decode cX11_step 23 = .ok (.iconst 1, 1) := by decide +kernel
theorem dX11_step_24 : decode cX11_step 24 = .ok (.iadd, 1) := by decide +kernel
theorem dX11_step_25 : decode cX11_step 25 = .ok (.bipush 49, 2) := by decide +kernel
theorem dX11_step_27 : decode cX11_step 27 = .ok (.if_icmp .ge 15, 3) := by decide +kernel
theorem dX11_step_30 : decode cX11_step 30 = .ok (.aload_n 0, 1) := by decide +kernel
theorem dX11_step_31 : decode cX11_step 31 = .ok (.getfield 11, 3) := by decide +kernel
theorem dX11_step_34 : decode cX11_step 34 = .ok (.iload 5, 2) := by decide +kernel
theorem dX11_step_36 : decode cX11_step 36 = .ok (.iconst 1, 1) := by decide +kernel
theorem dX11_step_37 : decode cX11_step 37 = .ok (.iadd, 1) := by decide +kernel
theorem dX11_step_38 : decode cX11_step 38 = .ok (.laload, 1) := by decide +kernel
theorem dX11_step_39 : decode cX11_step 39 = .ok (.goto 4, 3) := by decide +kernel
theorem dX11_step_42 : decode cX11_step 42 = .ok (.lconst 0, 1) := by decide +kernel
theorem dX11_step_43 : decode cX11_step 43 = .ok (.lstore 8, 2) := by decide +kernel
theorem dX11_step_45 : decode cX11_step 45 = .ok (.iload 5, 2) := by decide +kernel
theorem dX11_step_47 : decode cX11_step 47 = .ok (.ifCond .ne 10, 3) := by decide +kernel
theorem dX11_step_50 : decode cX11_step 50 = .ok (.bipush 10, 2) := by decide +kernel
theorem dX11_step_52 : decode cX11_step 52 = .ok (.iload_n 1, 1) := by decide +kernel
theorem dX11_step_53 : decode cX11_step 53 = .ok (.isub, 1) := by decide +kernel
theorem dX11_step_54 : decode cX11_step 54 = .ok (.goto 9, 3) := by decide +kernel
theorem dX11_step_57 : decode cX11_step 57 = .ok (.bipush 10, 2) := by decide +kernel
theorem dX11_step_59 : decode cX11_step 59 = .ok (.iload_n 1, 1) := by decide +kernel
theorem dX11_step_60 : decode cX11_step 60 = .ok (.isub, 1) := by decide +kernel
theorem dX11_step_61 : decode cX11_step 61 = .ok (.iload_n 2, 1) := by decide +kernel
theorem dX11_step_62 : decode cX11_step 62 = .ok (.isub, 1) := by decide +kernel
theorem dX11_step_63 : decode cX11_step 63 = .ok (.istore 10, 2) := by decide +kernel
theorem dX11_step_65 : decode cX11_step 65 = .ok (.aload_n 0, 1) := by decide +kernel
theorem dX11_step_66 : decode cX11_step 66 = .ok (.getfield 11, 3) := by decide +kernel
theorem dX11_step_69 : decode cX11_step 69 = .ok (.iload 5, 2) := by decide +kernel
theorem dX11_step_71 : decode cX11_step 71 = .ok (.lload_n 3, 1) := by decide +kernel
theorem dX11_step_72 : decode cX11_step 72 = .ok (.iload_n 1, 1) := by decide +kernel
theorem dX11_step_73 : decode cX11_step 73 = .ok (.i2l, 1) := by decide +kernel
theorem dX11_step_74 : decode cX11_step 74 = .ok (.lmul, 1) := by decide +kernel
theorem dX11_step_75 : decode cX11_step 75 = .ok (.lload 6, 2) := by decide +kernel
theorem dX11_step_77 : decode cX11_step 77 = .ok (.iload 10, 2) := by decide +kernel
theorem dX11_step_79 : decode cX11_step 79 = .ok (.i2l, 1) := by decide +kernel
theorem dX11_step_80 : decode cX11_step 80 = .ok (.lmul, 1) := by decide +kernel
theorem dX11_step_81 : decode cX11_step 81 = .ok (.ladd, 1) := by decide +kernel
theorem dX11_step_82 : decode cX11_step 82 = .ok (.lload 8, 2) := by decide +kernel
theorem dX11_step_84 : decode cX11_step 84 = .ok (.iload_n 2, 1) := by decide +kernel
theorem dX11_step_85 : decode cX11_step 85 = .ok (.i2l, 1) := by decide +kernel
theorem dX11_step_86 : decode cX11_step 86 = .ok (.lmul, 1) := by decide +kernel
theorem dX11_step_87 : decode cX11_step 87 = .ok (.ladd, 1) := by decide +kernel
theorem dX11_step_88 : decode cX11_step 88 = .ok (.lastore, 1) := by decide +kernel
theorem dX11_step_89 : decode cX11_step 89 = .ok (.lload 6, 2) := by decide +kernel
theorem dX11_step_91 : decode cX11_step 91 = .ok (.lstore_n 3, 1) := by decide +kernel
theorem dX11_step_92 : decode cX11_step 92 = .ok (.iinc 5 1, 3) := by decide +kernel
theorem dX11_step_95 : decode cX11_step 95 = .ok (.goto (-90), 3) := by decide +kernel
theorem dX11_step_98 : decode cX11_step 98 = .ok (.aload_n 0, 1) := by decide +kernel
theorem dX11_step_99 : decode cX11_step 99 = .ok (.dup, 1) := by decide +kernel
theorem dX11_step_100 : decode cX11_step 100 = .ok (.getfield 15, 3) := by decide +kernel
theorem dX11_step_103 : decode cX11_step 103 = .ok (.ldc2_w 19, 3) := by decide +kernel
theorem dX11_step_106 : decode cX11_step 106 = .ok (.lmul, 1) := by decide +kernel
theorem dX11_step_107 : decode cX11_step 107 = .ok (.putfield 15, 3) := by decide +kernel
theorem dX11_step_110 : decode cX11_step 110 = .ok (.return_, 1) := by decide +kernel
set_option maxRecDepth 20000 in
theorem ggX11_meanOf_X4_worthIn : GoodIn wsX11_meanOf wsX4_worthIn := goodIn_r _ [7, 8, 9, 10, 11, 6, 12, 13, 14, 15, 16, 17, 18, 19, 20, 21, 22, 23, 26, 27, 28, 29, 30, 31] (by decide +kernel) (by decide +kernel)
set_option maxRecDepth 20000 in
theorem gX11_meanOf_X4_worthIn : GoodIn wsX11_meanOf (wsV RX11 21 RX4 yX4_worthIn wsX4_worthIn) := goodIn_app (goodIn_of _ (by decide +kernel)) ggX11_meanOf_X4_worthIn
theorem dX11_meanOf_0 : decode cX11_meanOf 0 = .ok (.lconst 0, 1) := by decide +kernel
theorem dX11_meanOf_1 : decode cX11_meanOf 1 = .ok (.lstore_n 3, 1) := by decide +kernel
theorem dX11_meanOf_2 : decode cX11_meanOf 2 = .ok (.iconst 0, 1) := by decide +kernel
theorem dX11_meanOf_3 : decode cX11_meanOf 3 = .ok (.istore 5, 2) := by decide +kernel
theorem dX11_meanOf_5 : decode cX11_meanOf 5 = .ok (.iload 5, 2) := by decide +kernel
theorem dX11_meanOf_7 : decode cX11_meanOf 7 = .ok (.bipush 49, 2) := by decide +kernel
theorem dX11_meanOf_9 : decode cX11_meanOf 9 = .ok (.if_icmp .ge 40, 3) := by decide +kernel
theorem dX11_meanOf_12 : decode cX11_meanOf 12 = .ok (.aload_n 0, 1) := by decide +kernel
theorem dX11_meanOf_13 : decode cX11_meanOf 13 = .ok (.getfield 11, 3) := by decide +kernel
theorem dX11_meanOf_16 : decode cX11_meanOf 16 = .ok (.iload 5, 2) := by decide +kernel
theorem dX11_meanOf_18 : decode cX11_meanOf 18 = .ok (.laload, 1) := by decide +kernel
theorem dX11_meanOf_19 : decode cX11_meanOf 19 = .ok (.lconst 0, 1) := by decide +kernel
theorem dX11_meanOf_20 : decode cX11_meanOf 20 = .ok (.lcmp, 1) := by decide +kernel
theorem dX11_meanOf_21 : decode cX11_meanOf 21 = .ok (.ifCond .eq 22, 3) := by decide +kernel
theorem dX11_meanOf_24 : decode cX11_meanOf 24 = .ok (.lload_n 3, 1) := by decide +kernel
theorem dX11_meanOf_25 : decode cX11_meanOf 25 = .ok (.aload_n 0, 1) := by decide +kernel
theorem dX11_meanOf_26 : decode cX11_meanOf 26 = .ok (.getfield 11, 3) := by decide +kernel
theorem dX11_meanOf_29 : decode cX11_meanOf 29 = .ok (.iload 5, 2) := by decide +kernel
theorem dX11_meanOf_31 : decode cX11_meanOf 31 = .ok (.laload, 1) := by decide +kernel
theorem dX11_meanOf_32 : decode cX11_meanOf 32 = .ok (.aload_n 1, 1) := by decide +kernel
theorem dX11_meanOf_33 : decode cX11_meanOf 33 = .ok (.iload_n 2, 1) := by decide +kernel
theorem dX11_meanOf_34 : decode cX11_meanOf 34 = .ok (.iload 5, 2) := by decide +kernel
theorem dX11_meanOf_36 : decode cX11_meanOf 36 = .ok (.invokevirtual 21, 3) := by decide +kernel
theorem dX11_meanOf_39 : decode cX11_meanOf 39 = .ok (.i2l, 1) := by decide +kernel
theorem dX11_meanOf_40 : decode cX11_meanOf 40 = .ok (.lmul, 1) := by decide +kernel
theorem dX11_meanOf_41 : decode cX11_meanOf 41 = .ok (.ladd, 1) := by decide +kernel
theorem dX11_meanOf_42 : decode cX11_meanOf 42 = .ok (.lstore_n 3, 1) := by decide +kernel
theorem dX11_meanOf_43 : decode cX11_meanOf 43 = .ok (.iinc 5 1, 3) := by decide +kernel
theorem dX11_meanOf_46 : decode cX11_meanOf 46 = .ok (.goto (-41), 3) := by decide +kernel
theorem dX11_meanOf_49 : decode cX11_meanOf 49 = .ok (.aload_n 0, 1) := by decide +kernel
theorem dX11_meanOf_50 : decode cX11_meanOf 50 = .ok (.getfield 15, 3) := by decide +kernel
theorem dX11_meanOf_53 : decode cX11_meanOf 53 = .ok (.lconst 1, 1) := by decide +kernel
theorem dX11_meanOf_54 : decode cX11_meanOf 54 = .ok (.lcmp, 1) := by decide +kernel
theorem dX11_meanOf_55 : decode cX11_meanOf 55 = .ok (.ifCond .ge 7, 3) := by decide +kernel
theorem dX11_meanOf_58 : decode cX11_meanOf 58 = .ok (.lconst 0, 1) := by decide +kernel
theorem dX11_meanOf_59 : decode cX11_meanOf 59 = .ok (.goto 9, 3) := by decide +kernel
theorem dX11_meanOf_62 : decode cX11_meanOf 62 = .ok (.lload_n 3, 1) := by decide +kernel
theorem dX11_meanOf_63 : decode cX11_meanOf 63 = .ok (.aload_n 0, 1) := by decide +kernel
theorem dX11_meanOf_64 : decode cX11_meanOf 64 = .ok (.getfield 15, 3) := by decide +kernel
theorem dX11_meanOf_67 : decode cX11_meanOf 67 = .ok (.ldiv, 1) := by decide +kernel
theorem dX11_meanOf_68 : decode cX11_meanOf 68 = .ok (.lreturn, 1) := by decide +kernel
