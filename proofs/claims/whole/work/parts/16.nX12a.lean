set_option maxRecDepth 20000 in
theorem ggX12_init_X9_init : GoodIn wsX12_init wsX9_init := goodIn_r _ [43, 44, 2, 3, 45, 46, 47, 48, 49, 50, 51, 52, 53, 54, 55, 56, 57, 58, 59, 60, 61, 62, 63, 64, 65, 66, 67, 68, 69, 70, 71, 72, 73, 179, 180, 181, 182, 183, 184, 137, 138, 139, 140, 141, 142, 143, 144, 145, 185, 186, 187, 188] (by decide +kernel) (by decide +kernel)
set_option maxRecDepth 20000 in
theorem gX12_init_X9_init : GoodIn wsX12_init (wsX9_init) := ggX12_init_X9_init
set_option maxRecDepth 20000 in
theorem ggX12_init_X7_init : GoodIn wsX12_init wsX7_init := goodIn_r _ [76, 77, 2, 3, 78, 146, 147, 148, 149, 150, 151, 152, 153, 154, 155] (by decide +kernel) (by decide +kernel)
set_option maxRecDepth 20000 in
theorem gX12_init_X7_init : GoodIn wsX12_init (wsX7_init) := ggX12_init_X7_init
set_option maxRecDepth 20000 in
theorem ggX12_init_X10_init : GoodIn wsX12_init wsX10_init := goodIn_r _ [81, 82, 2, 3, 83, 156, 157, 158] (by decide +kernel) (by decide +kernel)
set_option maxRecDepth 20000 in
theorem gX12_init_X10_init : GoodIn wsX12_init (wsX10_init) := ggX12_init_X10_init
set_option maxRecDepth 20000 in
theorem ggX12_init_X3_init : GoodIn wsX12_init wsX3_init := goodIn_r _ [86, 87, 2, 3, 88, 89, 90, 159, 160, 161, 162, 163, 164] (by decide +kernel) (by decide +kernel)
set_option maxRecDepth 20000 in
theorem gX12_init_X3_init : GoodIn wsX12_init (wsX3_init) := ggX12_init_X3_init
set_option maxRecDepth 20000 in
theorem ggX12_init_X6_init : GoodIn wsX12_init wsX6_init := goodIn_r _ [93, 94, 2, 3, 95, 53, 96, 97, 98, 99, 165, 166] (by decide +kernel) (by decide +kernel)
set_option maxRecDepth 20000 in
theorem gX12_init_X6_init : GoodIn wsX12_init (wsX6_init) := ggX12_init_X6_init
set_option maxRecDepth 20000 in
theorem ggX12_init_X5_init : GoodIn wsX12_init wsX5_init := goodIn_r _ [102, 103, 2, 3, 53, 104, 105, 106, 107, 98, 108, 167, 168, 169, 170, 171, 172, 173] (by decide +kernel) (by decide +kernel)
set_option maxRecDepth 20000 in
theorem gX12_init_X5_init : GoodIn wsX12_init (wsX5_init) := ggX12_init_X5_init
set_option maxRecDepth 20000 in
theorem ggX12_init_X1_init : GoodIn wsX12_init wsX1_init := goodIn_r _ [111, 112, 2, 3, 53, 113, 174, 175, 176] (by decide +kernel) (by decide +kernel)
set_option maxRecDepth 20000 in
theorem gX12_init_X1_init : GoodIn wsX12_init (wsX1_init) := ggX12_init_X1_init
set_option maxRecDepth 20000 in
theorem ggX12_init_X11_init : GoodIn wsX12_init wsX11_init := goodIn_r _ [116, 117, 2, 3, 98, 118, 119, 177, 178] (by decide +kernel) (by decide +kernel)
set_option maxRecDepth 20000 in
theorem gX12_init_X11_init : GoodIn wsX12_init (wsX11_init) := ggX12_init_X11_init
theorem dX12_init_0 : decode cX12_init 0 = .ok (.aload_n 0, 1) := by decide +kernel
theorem dX12_init_1 : decode cX12_init 1 = .ok (.invokespecial 3, 3) := by decide +kernel
theorem dX12_init_4 : decode cX12_init 4 = .ok (.aload_n 0, 1) := by decide +kernel
theorem dX12_init_5 : decode cX12_init 5 = .ok (.sipush 600, 3) := by decide +kernel
theorem dX12_init_8 : decode cX12_init 8 = .ok (.newarray .byte, 2) := by decide +kernel
theorem dX12_init_10 : decode cX12_init 10 = .ok (.putfield 9, 3) := by decide +kernel
theorem dX12_init_13 : decode cX12_init 13 = .ok (.aload_n 0, 1) := by decide +kernel
theorem dX12_init_14 : decode cX12_init 14 = .ok (.iconst (-1), 1) := by decide +kernel
theorem dX12_init_15 : decode cX12_init 15 = .ok (.putfield 13, 3) := by decide +kernel
theorem dX12_init_18 : decode cX12_init 18 = .ok (.aload_n 0, 1) := by decide +kernel
theorem dX12_init_19 : decode cX12_init 19 = .ok (.new 17, 3) := by decide +kernel
theorem dX12_init_22 : decode cX12_init 22 = .ok (.dup, 1) := by decide +kernel
theorem dX12_init_23 : decode cX12_init 23 = .ok (.invokespecial 19, 3) := by decide +kernel
theorem dX12_init_26 : decode cX12_init 26 = .ok (.putfield 20, 3) := by decide +kernel
theorem dX12_init_29 : decode cX12_init 29 = .ok (.aload_n 0, 1) := by decide +kernel
theorem dX12_init_30 : decode cX12_init 30 = .ok (.new 17, 3) := by decide +kernel
theorem dX12_init_33 : decode cX12_init 33 = .ok (.dup, 1) := by decide +kernel
theorem dX12_init_34 : decode cX12_init 34 = .ok (.invokespecial 19, 3) := by decide +kernel
theorem dX12_init_37 : decode cX12_init 37 = .ok (.putfield 24, 3) := by decide +kernel
theorem dX12_init_40 : decode cX12_init 40 = .ok (.aload_n 0, 1) := by decide +kernel
theorem dX12_init_41 : decode cX12_init 41 = .ok (.new 17, 3) := by decide +kernel
theorem dX12_init_44 : decode cX12_init 44 = .ok (.dup, 1) := by decide +kernel
theorem dX12_init_45 : decode cX12_init 45 = .ok (.invokespecial 19, 3) := by decide +kernel
theorem dX12_init_48 : decode cX12_init 48 = .ok (.putfield 27, 3) := by decide +kernel
theorem dX12_init_51 : decode cX12_init 51 = .ok (.aload_n 0, 1) := by decide +kernel
theorem dX12_init_52 : decode cX12_init 52 = .ok (.new 30, 3) := by decide +kernel
theorem dX12_init_55 : decode cX12_init 55 = .ok (.dup, 1) := by decide +kernel
theorem dX12_init_56 : decode cX12_init 56 = .ok (.aload_n 0, 1) := by decide +kernel
theorem dX12_init_57 : decode cX12_init 57 = .ok (.getfield 9, 3) := by decide +kernel
theorem dX12_init_60 : decode cX12_init 60 = .ok (.invokespecial 32, 3) := by decide +kernel
theorem dX12_init_63 : decode cX12_init 63 = .ok (.putfield 35, 3) := by decide +kernel
theorem dX12_init_66 : decode cX12_init 66 = .ok (.aload_n 0, 1) := by decide +kernel
theorem dX12_init_67 : decode cX12_init 67 = .ok (.new 39, 3) := by decide +kernel
theorem dX12_init_70 : decode cX12_init 70 = .ok (.dup, 1) := by decide +kernel
theorem dX12_init_71 : decode cX12_init 71 = .ok (.aload_n 0, 1) := by decide +kernel
theorem dX12_init_72 : decode cX12_init 72 = .ok (.getfield 35, 3) := by decide +kernel
theorem dX12_init_75 : decode cX12_init 75 = .ok (.invokespecial 41, 3) := by decide +kernel
theorem dX12_init_78 : decode cX12_init 78 = .ok (.putfield 44, 3) := by decide +kernel
theorem dX12_init_81 : decode cX12_init 81 = .ok (.aload_n 0, 1) := by decide +kernel
theorem dX12_init_82 : decode cX12_init 82 = .ok (.new 48, 3) := by decide +kernel
theorem dX12_init_85 : decode cX12_init 85 = .ok (.dup, 1) := by decide +kernel
theorem dX12_init_86 : decode cX12_init 86 = .ok (.aload_n 0, 1) := by decide +kernel
theorem dX12_init_87 : decode cX12_init 87 = .ok (.getfield 35, 3) := by decide +kernel
theorem dX12_init_90 : decode cX12_init 90 = .ok (.invokespecial 50, 3) := by decide +kernel
theorem dX12_init_93 : decode cX12_init 93 = .ok (.putfield 51, 3) := by decide +kernel
theorem dX12_init_96 : decode cX12_init 96 = .ok (.aload_n 0, 1) := by decide +kernel
theorem dX12_init_97 : decode cX12_init 97 = .ok (.new 55, 3) := by decide +kernel
theorem dX12_init_100 : decode cX12_init 100 = .ok (.dup, 1) := by decide +kernel
theorem dX12_init_101 : decode cX12_init 101 = .ok (.invokespecial 57, 3) := by decide +kernel
theorem dX12_init_104 : decode cX12_init 104 = .ok (.putfield 58, 3) := by decide +kernel
theorem dX12_init_107 : decode cX12_init 107 = .ok (.aload_n 0, 1) := by decide +kernel
theorem dX12_init_108 : decode cX12_init 108 = .ok (.new 62, 3) := by decide +kernel
theorem dX12_init_111 : decode cX12_init 111 = .ok (.dup, 1) := by decide +kernel
theorem dX12_init_112 : decode cX12_init 112 = .ok (.invokespecial 64, 3) := by decide +kernel
theorem dX12_init_115 : decode cX12_init 115 = .ok (.putfield 65, 3) := by decide +kernel
theorem dX12_init_118 : decode cX12_init 118 = .ok (.aload_n 0, 1) := by decide +kernel
theorem dX12_init_119 : decode cX12_init 119 = .ok (.new 69, 3) := by decide +kernel
theorem dX12_init_122 : decode cX12_init 122 = .ok (.dup, 1) := by decide +kernel
theorem dX12_init_123 : decode cX12_init 123 = .ok (.invokespecial 71, 3) := by decide +kernel
theorem dX12_init_126 : decode cX12_init 126 = .ok (.putfield 72, 3) := by decide +kernel
theorem dX12_init_129 : decode cX12_init 129 = .ok (.aload_n 0, 1) := by decide +kernel
theorem dX12_init_130 : decode cX12_init 130 = .ok (.new 76, 3) := by decide +kernel
theorem dX12_init_133 : decode cX12_init 133 = .ok (.dup, 1) := by decide +kernel
theorem dX12_init_134 : decode cX12_init 134 = .ok (.invokespecial 78, 3) := by decide +kernel
theorem dX12_init_137 : decode cX12_init 137 = .ok (.putfield 79, 3) := by decide +kernel
theorem dX12_init_140 : decode cX12_init 140 = .ok (.return_, 1) := by decide +kernel
set_option maxRecDepth 20000 in
theorem ggX12_feed_X12_putBytes : GoodIn wsX12_feed wsX12_putBytes := goodIn_r _ [6, 1, 7, 8, 9, 10, 11, 12, 13, 14, 15, 16, 17, 18, 19, 20, 21, 22, 23, 24] (by decide +kernel) (by decide +kernel)
set_option maxRecDepth 20000 in
theorem gX12_feed_X12_putBytes : GoodIn wsX12_feed (wsV RX12 86 RX12 yX12_putBytes wsX12_putBytes) := goodIn_app (goodIn_of _ (by decide +kernel)) ggX12_feed_X12_putBytes
theorem dX12_feed_0 : decode cX12_feed 0 = .ok (.aload_n 0, 1) := by decide +kernel
theorem dX12_feed_1 : decode cX12_feed 1 = .ok (.getfield 83, 3) := by decide +kernel
theorem dX12_feed_4 : decode cX12_feed 4 = .ok (.bipush 20, 2) := by decide +kernel
theorem dX12_feed_6 : decode cX12_feed 6 = .ok (.iadd, 1) := by decide +kernel
theorem dX12_feed_7 : decode cX12_feed 7 = .ok (.sipush 600, 3) := by decide +kernel
theorem dX12_feed_10 : decode cX12_feed 10 = .ok (.if_icmp .le 5, 3) := by decide +kernel
theorem dX12_feed_13 : decode cX12_feed 13 = .ok (.iconst (-1), 1) := by decide +kernel
theorem dX12_feed_14 : decode cX12_feed 14 = .ok (.ireturn, 1) := by decide +kernel
theorem dX12_feed_15 : decode cX12_feed 15 = .ok (.aload_n 0, 1) := by decide +kernel
theorem dX12_feed_16 : decode cX12_feed 16 = .ok (.iload_n 1, 1) := by decide +kernel
theorem dX12_feed_17 : decode cX12_feed 17 = .ok (.invokevirtual 86, 3) := by decide +kernel
theorem dX12_feed_20 : decode cX12_feed 20 = .ok (.aload_n 0, 1) := by decide +kernel
theorem dX12_feed_21 : decode cX12_feed 21 = .ok (.iload_n 2, 1) := by decide +kernel
theorem dX12_feed_22 : decode cX12_feed 22 = .ok (.invokevirtual 86, 3) := by decide +kernel
theorem dX12_feed_25 : decode cX12_feed 25 = .ok (.aload_n 0, 1) := by decide +kernel
theorem dX12_feed_26 : decode cX12_feed 26 = .ok (.iload_n 3, 1) := by decide +kernel
theorem dX12_feed_27 : decode cX12_feed 27 = .ok (.invokevirtual 86, 3) := by decide +kernel
theorem dX12_feed_30 : decode cX12_feed 30 = .ok (.aload_n 0, 1) := by decide +kernel
theorem dX12_feed_31 : decode cX12_feed 31 = .ok (.iload 4, 2) := by decide +kernel
theorem dX12_feed_33 : decode cX12_feed 33 = .ok (.invokevirtual 86, 3) := by decide +kernel
theorem dX12_feed_36 : decode cX12_feed 36 = .ok (.aload_n 0, 1) := by decide +kernel
theorem dX12_feed_37 : decode cX12_feed 37 = .ok (.iload 5, 2) := by decide +kernel
theorem dX12_feed_39 : decode cX12_feed 39 = .ok (.invokevirtual 86, 3) := by decide +kernel
theorem dX12_feed_42 : decode cX12_feed 42 = .ok (.aload_n 0, 1) := by decide +kernel
theorem dX12_feed_43 : decode cX12_feed 43 = .ok (.getfield 83, 3) := by decide +kernel
theorem dX12_feed_46 : decode cX12_feed 46 = .ok (.ireturn, 1) := by decide +kernel
theorem dX12_putBytes_0 : decode cX12_putBytes 0 = .ok (.bipush 24, 2) := by decide +kernel
theorem dX12_putBytes_2 : decode cX12_putBytes 2 = .ok (.istore_n 2, 1) := by decide +kernel
theorem dX12_putBytes_3 : decode cX12_putBytes 3 = .ok (.iload_n 2, 1) := by decide +kernel
theorem dX12_putBytes_4 : decode cX12_putBytes 4 = .ok (.ifCond .lt 51, 3) := by decide +kernel
theorem dX12_putBytes_7 : decode cX12_putBytes 7 = .ok (.aload_n 0, 1) := by decide +kernel
theorem dX12_putBytes_8 : decode cX12_putBytes 8 = .ok (.getfield 83, 3) := by decide +kernel
theorem dX12_putBytes_11 : decode cX12_putBytes 11 = .ok (.ifCond .lt 38, 3) := by decide +kernel
theorem dX12_putBytes_14 : decode cX12_putBytes 14 = .ok (.aload_n 0, 1) := by decide +kernel
theorem dX12_putBytes_15 : decode cX12_putBytes 15 = .ok (.getfield 83, 3) := by decide +kernel
theorem dX12_putBytes_18 : decode cX12_putBytes 18 = .ok (.aload_n 0, 1) := by decide +kernel
theorem dX12_putBytes_19 : decode cX12_putBytes 19 = .ok (.getfield 9, 3) := by decide +kernel
theorem dX12_putBytes_22 : decode cX12_putBytes 22 = .ok (.arraylength, 1) := by decide +kernel
theorem dX12_putBytes_23 : decode cX12_putBytes 23 = .ok (.if_icmp .ge 26, 3) := by decide +kernel
theorem dX12_putBytes_26 : decode cX12_putBytes 26 = .ok (.aload_n 0, 1) := by decide +kernel
theorem dX12_putBytes_27 : decode cX12_putBytes 27 = .ok (.getfield 9, 3) := by decide +kernel
theorem dX12_putBytes_30 : decode cX12_putBytes 30 = .ok (.aload_n 0, 1) := by decide +kernel
theorem dX12_putBytes_31 : decode cX12_putBytes 31 = .ok (.getfield 83, 3) := by decide +kernel
theorem dX12_putBytes_34 : decode cX12_putBytes 34 = .ok (.iload_n 1, 1) := by decide +kernel
theorem dX12_putBytes_35 : decode cX12_putBytes 35 = .ok (.iload_n 2, 1) := by decide +kernel
theorem dX12_putBytes_36 : decode cX12_putBytes 36 = .ok (.ishr, 1) := by decide +kernel
theorem dX12_putBytes_37 : decode cX12_putBytes 37 = .ok (.i2b, 1) := by decide +kernel
theorem dX12_putBytes_38 : decode cX12_putBytes 38 = .ok (.bastore, 1) := by decide +kernel
theorem dX12_putBytes_39 : decode cX12_putBytes 39 = .ok (.aload_n 0, 1) := by decide +kernel
theorem dX12_putBytes_40 : decode cX12_putBytes 40 = .ok (.dup, 1) := by decide +kernel
theorem dX12_putBytes_41 : decode cX12_putBytes 41 = .ok (.getfield 83, 3) := by decide +kernel
theorem dX12_putBytes_44 : decode cX12_putBytes 44 = .ok (.iconst 1, 1) := by decide +kernel
theorem dX12_putBytes_45 : decode cX12_putBytes 45 = .ok (.iadd, 1) := by decide +kernel
theorem dX12_putBytes_46 : decode cX12_putBytes 46 = .ok (.putfield 83, 3) := by decide +kernel
theorem dX12_putBytes_49 : decode cX12_putBytes 49 = .ok (.iinc 2 (-8), 3) := by decide +kernel
theorem dX12_putBytes_52 : decode cX12_putBytes 52 = .ok (.goto (-49), 3) := by decide +kernel
theorem dX12_putBytes_55 : decode cX12_putBytes 55 = .ok (.return_, 1) := by decide +kernel
set_option maxRecDepth 20000 in
theorem ggX12_village_X12_needBytes : GoodIn wsX12_village wsX12_needBytes := goodIn_ca (goodIn_r _ [15, 16, 17, 1, 248, 249, 250, 251, 252, 253, 254, 255, 256, 257, 258, 259, 260, 261, 262, 263, 264] (by decide +kernel) (by decide +kernel)) (goodIn_sub (fun _ h => List.mem_cons_of_mem _ (List.mem_append_right _ h)) (by decide +kernel))
set_option maxRecDepth 20000 in
theorem gX12_village_X12_needBytes : GoodIn wsX12_village (wsV RX12 90 RX12 yX12_needBytes wsX12_needBytes) := goodIn_app (goodIn_of _ (by decide +kernel)) ggX12_village_X12_needBytes
set_option maxRecDepth 20000 in
theorem ggX12_village_X10_readAll : GoodIn wsX12_village wsX10_readAll := goodIn_r _ [22, 23, 24, 25, 26, 27, 28, 29, 30, 31, 32, 33, 34, 35, 36, 37, 38, 39, 40, 41, 42, 43, 44, 45, 46, 47, 48, 49, 50, 51, 52, 53, 54, 55, 56, 57, 58, 59, 60, 61, 62, 63, 64, 65, 66, 67, 68, 69, 70, 71, 72, 73, 74, 75, 76, 77, 78, 79, 80, 81, 82, 83, 84, 85, 86, 21, 87, 88, 89, 90, 91, 92, 93, 94, 95, 96, 97, 98, 99, 100, 101, 102, 103, 104, 105, 106, 107, 108, 109, 110, 111, 112, 113, 114, 115, 116, 117, 118, 119, 120, 121, 122, 123, 124, 125, 126, 127, 128, 129, 130, 131, 132, 133, 134, 135, 136, 137, 138, 139, 140, 141, 142, 143, 144, 145, 146, 147, 148, 149, 150, 151, 152, 153, 154, 155, 156, 157, 158, 159, 160, 161, 162, 163, 164, 165, 166, 167, 168, 169, 170, 171, 172, 173, 174, 175, 176, 177, 178, 179, 180, 181, 182, 183, 184, 185, 186, 187, 188, 189, 190, 191, 192, 193, 194, 195, 196, 197, 198, 199, 200, 201, 202, 203, 204, 205, 206, 207, 208, 209, 210, 211, 212, 213, 214, 215, 216, 217, 218, 219, 220, 221, 222, 223, 224, 275, 276, 277, 278, 279, 280, 281, 282, 283, 284, 285, 286, 287, 288, 289, 290, 291, 292, 293, 294, 295, 296, 265, 266, 267, 268, 269, 270, 271, 272, 273, 274] (by decide +kernel) (by decide +kernel)
set_option maxRecDepth 20000 in
theorem gX12_village_X10_readAll : GoodIn wsX12_village (wsV RX12 93 RX10 yX10_readAll wsX10_readAll) := goodIn_app (goodIn_of _ (by decide +kernel)) ggX12_village_X10_readAll
set_option maxRecDepth 20000 in
theorem ggX12_village_X9_copyFrom : GoodIn wsX12_village wsX9_copyFrom := goodIn_r _ [228, 32, 33, 34, 35, 161, 229, 230, 231, 232, 180, 181, 182, 183, 233, 234, 235, 40, 236, 42, 43, 207, 237, 208, 209, 211, 238, 239, 240, 241, 242, 243, 244, 245, 246, 247, 278, 279, 280, 281, 282, 283, 284, 285, 286, 291, 292, 293, 294, 295, 296, 287, 288, 289, 290] (by decide +kernel) (by decide +kernel)
set_option maxRecDepth 20000 in
theorem gX12_village_X9_copyFrom : GoodIn wsX12_village (wsV RX12 106 RX9 yX9_copyFrom wsX9_copyFrom) := goodIn_app (goodIn_of _ (by decide +kernel)) ggX12_village_X9_copyFrom
theorem dX12_village_0 : decode cX12_village 0 = .ok (.aload_n 0, 1) := by decide +kernel
theorem dX12_village_1 : decode cX12_village 1 = .ok (.iload_n 1, 1) := by decide +kernel
theorem dX12_village_2 : decode cX12_village 2 = .ok (.invokevirtual 90, 3) := by decide +kernel
theorem dX12_village_5 : decode cX12_village 5 = .ok (.aload_n 0, 1) := by decide +kernel
theorem dX12_village_6 : decode cX12_village 6 = .ok (.iconst 0, 1) := by decide +kernel
theorem dX12_village_7 : decode cX12_village 7 = .ok (.putfield 83, 3) := by decide +kernel
theorem dX12_village_10 : decode cX12_village 10 = .ok (.aload_n 0, 1) := by decide +kernel
theorem dX12_village_11 : decode cX12_village 11 = .ok (.getfield 44, 3) := by decide +kernel
theorem dX12_village_14 : decode cX12_village 14 = .ok (.iload_n 1, 1) := by decide +kernel
theorem dX12_village_15 : decode cX12_village 15 = .ok (.aload_n 0, 1) := by decide +kernel
theorem dX12_village_16 : decode cX12_village 16 = .ok (.getfield 24, 3) := by decide +kernel
theorem dX12_village_19 : decode cX12_village 19 = .ok (.invokevirtual 93, 3) := by decide +kernel
theorem dX12_village_22 : decode cX12_village 22 = .ok (.istore_n 2, 1) := by decide +kernel
theorem dX12_village_23 : decode cX12_village 23 = .ok (.aload_n 0, 1) := by decide +kernel
theorem dX12_village_24 : decode cX12_village 24 = .ok (.aload_n 0, 1) := by decide +kernel
theorem dX12_village_25 : decode cX12_village 25 = .ok (.getfield 35, 3) := by decide +kernel
theorem dX12_village_28 : decode cX12_village 28 = .ok (.getfield 97, 3) := by decide +kernel
theorem dX12_village_31 : decode cX12_village 31 = .ok (.putfield 13, 3) := by decide +kernel
theorem dX12_village_34 : decode cX12_village 34 = .ok (.iload_n 2, 1) := by decide +kernel
theorem dX12_village_35 : decode cX12_village 35 = .ok (.ifCond .ne 21, 3) := by decide +kernel
theorem dX12_village_38 : decode cX12_village 38 = .ok (.aload_n 0, 1) := by decide +kernel
theorem dX12_village_39 : decode cX12_village 39 = .ok (.dup, 1) := by decide +kernel
theorem dX12_village_40 : decode cX12_village 40 = .ok (.getfield 100, 3) := by decide +kernel
theorem dX12_village_43 : decode cX12_village 43 = .ok (.iconst 1, 1) := by decide +kernel
theorem dX12_village_44 : decode cX12_village 44 = .ok (.iadd, 1) := by decide +kernel
theorem dX12_village_45 : decode cX12_village 45 = .ok (.putfield 100, 3) := by decide +kernel
theorem dX12_village_48 : decode cX12_village 48 = .ok (.aload_n 0, 1) := by decide +kernel
theorem dX12_village_49 : decode cX12_village 49 = .ok (.getfield 35, 3) := by decide +kernel
theorem dX12_village_52 : decode cX12_village 52 = .ok (.getfield 103, 3) := by decide +kernel
theorem dX12_village_55 : decode cX12_village 55 = .ok (.ireturn, 1) := by decide +kernel
theorem dX12_village_56 : decode cX12_village 56 = .ok (.aload_n 0, 1) := by decide +kernel
theorem dX12_village_57 : decode cX12_village 57 = .ok (.getfield 20, 3) := by decide +kernel
theorem dX12_village_60 : decode cX12_village 60 = .ok (.aload_n 0, 1) := by decide +kernel
theorem dX12_village_61 : decode cX12_village 61 = .ok (.getfield 24, 3) := by decide +kernel
theorem dX12_village_64 : decode cX12_village 64 = .ok (.invokevirtual 106, 3) := by decide +kernel
theorem dX12_village_67 : decode cX12_village 67 = .ok (.aload_n 0, 1) := by decide +kernel
theorem dX12_village_68 : decode cX12_village 68 = .ok (.iconst 0, 1) := by decide +kernel
theorem dX12_village_69 : decode cX12_village 69 = .ok (.putfield 110, 3) := by decide +kernel
theorem dX12_village_72 : decode cX12_village 72 = .ok (.iconst 0, 1) := by decide +kernel
theorem dX12_village_73 : decode cX12_village 73 = .ok (.ireturn, 1) := by decide +kernel
set_option maxRecDepth 20000 in
theorem ggX12_days_X12_needBytes : GoodIn wsX12_days wsX12_needBytes := goodIn_ca (goodIn_r _ [16, 17, 18, 1, 271, 272, 273, 274, 275, 276, 277, 278, 279, 280, 281, 282, 283, 284, 285, 286, 287] (by decide +kernel) (by decide +kernel)) (goodIn_sub (fun _ h => List.mem_cons_of_mem _ (List.mem_append_right _ h)) (by decide +kernel))
set_option maxRecDepth 20000 in
theorem gX12_days_X12_needBytes : GoodIn wsX12_days (wsV RX12 90 RX12 yX12_needBytes wsX12_needBytes) := goodIn_app (goodIn_of _ (by decide +kernel)) ggX12_days_X12_needBytes
set_option maxRecDepth 20000 in
theorem ggX12_days_X3_readAll : GoodIn wsX12_days wsX3_readAll := goodIn_r _ [23, 24, 25, 26, 27, 28, 29, 30, 31, 32, 33, 34, 35, 36, 37, 38, 39, 40, 41, 42, 43, 44, 45, 46, 47, 48, 49, 50, 51, 52, 53, 54, 55, 56, 57, 58, 59, 60, 61, 62, 63, 64, 65, 66, 67, 22, 68, 69, 70, 71, 72, 73, 74, 75, 76, 77, 78, 79, 80, 81, 82, 83, 84, 85, 86, 87, 88, 89, 90, 91, 92, 93, 94, 95, 96, 97, 98, 99, 100, 101, 102, 103, 104, 105, 106, 107, 108, 109, 110, 111, 112, 113, 114, 115, 116, 117, 118, 119, 120, 121, 122, 123, 124, 125, 126, 127, 128, 129, 130, 131, 132, 133, 134, 135, 136, 137, 138, 139, 140, 141, 142, 143, 144, 145, 146, 147, 148, 149, 150, 151, 152, 153, 154, 155, 156, 157, 158, 159, 160, 161, 162, 163, 164, 165, 166, 167, 168, 169, 170, 171, 172, 307, 308, 309, 310, 311, 312, 297, 298, 299, 300, 301, 302, 303, 304, 305, 306] (by decide +kernel) (by decide +kernel)
set_option maxRecDepth 20000 in
theorem gX12_days_X3_readAll : GoodIn wsX12_days (wsV RX12 117 RX3 yX3_readAll wsX3_readAll) := goodIn_app (goodIn_of _ (by decide +kernel)) ggX12_days_X3_readAll
set_option maxRecDepth 20000 in
theorem ggX12_days_X3_doAll : GoodIn wsX12_days wsX3_doAll := goodIn_r _ [176, 177, 24, 178, 25, 26, 27, 28, 29, 30, 31, 32, 33, 34, 35, 36, 37, 38, 39, 40, 41, 42, 43, 44, 45, 46, 47, 48, 49, 50, 51, 52, 53, 54, 55, 56, 57, 58, 59, 60, 61, 62, 63, 64, 65, 66, 67, 22, 68, 69, 70, 71, 72, 73, 74, 75, 76, 77, 78, 79, 80, 81, 82, 83, 84, 85, 86, 87, 88, 89, 90, 91, 92, 93, 94, 95, 96, 97, 98, 99, 100, 101, 102, 103, 104, 105, 106, 107, 108, 109, 110, 111, 112, 113, 114, 115, 116, 117, 118, 119, 120, 121, 122, 123, 124, 125, 126, 127, 128, 129, 130, 131, 132, 133, 134, 135, 136, 137, 138, 139, 140, 141, 142, 143, 144, 145, 146, 147, 148, 149, 150, 151, 152, 153, 154, 155, 156, 157, 158, 159, 160, 161, 162, 163, 164, 165, 166, 167, 168, 169, 170, 171, 172, 179, 180, 181, 182, 183, 184, 185, 186, 187, 188, 189, 190, 191, 192, 193, 194, 195, 196, 197, 198, 199, 200, 201, 202, 203, 204, 205, 206, 207, 208, 209, 210, 211, 212, 213, 214, 215, 216, 217, 218, 219, 220, 221, 222, 223, 224, 225, 226, 227, 228, 229, 230, 231, 232, 233, 234, 235, 236, 237, 238, 239, 240, 241, 242, 243, 244, 245, 246, 247, 248, 249, 250, 251, 252, 253, 254, 255, 256, 257, 258, 259, 260, 261, 262, 263, 264, 265, 266, 267, 268, 269, 270, 307, 308, 309, 310, 311, 312, 288, 289, 290, 291, 292, 293, 294, 295, 296, 297, 298, 299, 300, 301, 302, 303, 304, 305, 306, 313, 314, 315, 316, 317, 318] (by decide +kernel) (by decide +kernel)
set_option maxRecDepth 20000 in
theorem gX12_days_X3_doAll : GoodIn wsX12_days (wsV RX12 120 RX3 yX3_doAll wsX3_doAll) := goodIn_app (goodIn_of _ (by decide +kernel)) ggX12_days_X3_doAll
theorem dX12_days_0 : decode cX12_days 0 = .ok (.aload_n 0, 1) := by decide +kernel
theorem dX12_days_1 : decode cX12_days 1 = .ok (.iload_n 1, 1) := by decide +kernel
theorem dX12_days_2 : decode cX12_days 2 = .ok (.invokevirtual 90, 3) := by decide +kernel
theorem dX12_days_5 : decode cX12_days 5 = .ok (.aload_n 0, 1) := by decide +kernel
theorem dX12_days_6 : decode cX12_days 6 = .ok (.iconst 0, 1) := by decide +kernel
theorem dX12_days_7 : decode cX12_days 7 = .ok (.putfield 83, 3) := by decide +kernel
theorem dX12_days_10 : decode cX12_days 10 = .ok (.aload_n 0, 1) := by decide +kernel
theorem dX12_days_11 : decode cX12_days 11 = .ok (.getfield 51, 3) := by decide +kernel
theorem dX12_days_14 : decode cX12_days 14 = .ok (.iload_n 1, 1) := by decide +kernel
theorem dX12_days_15 : decode cX12_days 15 = .ok (.aload_n 0, 1) := by decide +kernel
theorem dX12_days_16 : decode cX12_days 16 = .ok (.getfield 20, 3) := by decide +kernel
theorem dX12_days_19 : decode cX12_days 19 = .ok (.getfield 114, 3) := by decide +kernel
theorem dX12_days_22 : decode cX12_days 22 = .ok (.invokevirtual 117, 3) := by decide +kernel
theorem dX12_days_25 : decode cX12_days 25 = .ok (.istore_n 2, 1) := by decide +kernel
theorem dX12_days_26 : decode cX12_days 26 = .ok (.aload_n 0, 1) := by decide +kernel
theorem dX12_days_27 : decode cX12_days 27 = .ok (.aload_n 0, 1) := by decide +kernel
theorem dX12_days_28 : decode cX12_days 28 = .ok (.getfield 35, 3) := by decide +kernel
theorem dX12_days_31 : decode cX12_days 31 = .ok (.getfield 97, 3) := by decide +kernel
theorem dX12_days_34 : decode cX12_days 34 = .ok (.putfield 13, 3) := by decide +kernel
theorem dX12_days_37 : decode cX12_days 37 = .ok (.iload_n 2, 1) := by decide +kernel
theorem dX12_days_38 : decode cX12_days 38 = .ok (.ifCond .ne 23, 3) := by decide +kernel
theorem dX12_days_41 : decode cX12_days 41 = .ok (.aload_n 0, 1) := by decide +kernel
theorem dX12_days_42 : decode cX12_days 42 = .ok (.dup, 1) := by decide +kernel
theorem dX12_days_43 : decode cX12_days 43 = .ok (.getfield 100, 3) := by decide +kernel
theorem dX12_days_46 : decode cX12_days 46 = .ok (.iconst 1, 1) := by decide +kernel
theorem dX12_days_47 : decode cX12_days 47 = .ok (.iadd, 1) := by decide +kernel
theorem dX12_days_48 : decode cX12_days 48 = .ok (.putfield 100, 3) := by decide +kernel
theorem dX12_days_51 : decode cX12_days 51 = .ok (.iconst (-1), 1) := by decide +kernel
theorem dX12_days_52 : decode cX12_days 52 = .ok (.aload_n 0, 1) := by decide +kernel
theorem dX12_days_53 : decode cX12_days 53 = .ok (.getfield 35, 3) := by decide +kernel
theorem dX12_days_56 : decode cX12_days 56 = .ok (.getfield 103, 3) := by decide +kernel
theorem dX12_days_59 : decode cX12_days 59 = .ok (.isub, 1) := by decide +kernel
theorem dX12_days_60 : decode cX12_days 60 = .ok (.ireturn, 1) := by decide +kernel
theorem dX12_days_61 : decode cX12_days 61 = .ok (.aload_n 0, 1) := by decide +kernel
theorem dX12_days_62 : decode cX12_days 62 = .ok (.getfield 51, 3) := by decide +kernel
theorem dX12_days_65 : decode cX12_days 65 = .ok (.iload_n 1, 1) := by decide +kernel
theorem dX12_days_66 : decode cX12_days 66 = .ok (.aload_n 0, 1) := by decide +kernel
theorem dX12_days_67 : decode cX12_days 67 = .ok (.getfield 20, 3) := by decide +kernel
theorem dX12_days_70 : decode cX12_days 70 = .ok (.invokevirtual 120, 3) := by decide +kernel
theorem dX12_days_73 : decode cX12_days 73 = .ok (.istore_n 3, 1) := by decide +kernel
theorem dX12_days_74 : decode cX12_days 74 = .ok (.aload_n 0, 1) := by decide +kernel
theorem dX12_days_75 : decode cX12_days 75 = .ok (.getfield 51, 3) := by decide +kernel
theorem dX12_days_78 : decode cX12_days 78 = .ok (.getfield 124, 3) := by decide +kernel
theorem dX12_days_81 : decode cX12_days 81 = .ok (.ifCond .eq 13, 3) := by decide +kernel
theorem dX12_days_84 : decode cX12_days 84 = .ok (.aload_n 0, 1) := by decide +kernel
theorem dX12_days_85 : decode cX12_days 85 = .ok (.dup, 1) := by decide +kernel
theorem dX12_days_86 : decode cX12_days 86 = .ok (.getfield 127, 3) := by decide +kernel
theorem dX12_days_89 : decode cX12_days 89 = .ok (.iconst 1, 1) := by decide +kernel
theorem dX12_days_90 : decode cX12_days 90 = .ok (.iadd, 1) := by decide +kernel
theorem dX12_days_91 : decode cX12_days 91 = .ok (.putfield 127, 3) := by decide +kernel
theorem dX12_days_94 : decode cX12_days 94 = .ok (.iload_n 3, 1) := by decide +kernel
theorem dX12_days_95 : decode cX12_days 95 = .ok (.ireturn, 1) := by decide +kernel
theorem dX12_fault_0 : decode cX12_fault 0 = .ok (.aload_n 0, 1) := by decide +kernel
theorem dX12_fault_1 : decode cX12_fault 1 = .ok (.getfield 13, 3) := by decide +kernel
theorem dX12_fault_4 : decode cX12_fault 4 = .ok (.ireturn, 1) := by decide +kernel
set_option maxRecDepth 20000 in
theorem ggX12_count_X9_allGoats : GoodIn wsX12_count wsX9_allGoats := goodIn_r _ [19, 20, 21, 22, 18, 23, 24, 25, 26, 27, 28, 29, 47, 48, 49, 50, 51, 52, 53, 54, 55] (by decide +kernel) (by decide +kernel)
set_option maxRecDepth 20000 in
theorem gX12_count_X9_allGoats : GoodIn wsX12_count (wsV RX12 145 RX9 yX9_allGoats wsX9_allGoats) := goodIn_app (goodIn_of _ (by decide +kernel)) ggX12_count_X9_allGoats
theorem dX12_count_0 : decode cX12_count 0 = .ok (.iload_n 1, 1) := by decide +kernel
theorem dX12_count_1 : decode cX12_count 1 = .ok (.tableswitch 132 0 9 #[55, 63, 74, 85, 93, 101, 112, 117, 122, 127], 55) := by decide +kernel
theorem dX12_count_56 : decode cX12_count 56 = .ok (.aload_n 0, 1) := by decide +kernel
theorem dX12_count_57 : decode cX12_count 57 = .ok (.getfield 20, 3) := by decide +kernel
theorem dX12_count_60 : decode cX12_count 60 = .ok (.getfield 114, 3) := by decide +kernel
theorem dX12_count_63 : decode cX12_count 63 = .ok (.ireturn, 1) := by decide +kernel
theorem dX12_count_64 : decode cX12_count 64 = .ok (.aload_n 0, 1) := by decide +kernel
theorem dX12_count_65 : decode cX12_count 65 = .ok (.getfield 20, 3) := by decide +kernel
theorem dX12_count_68 : decode cX12_count 68 = .ok (.getfield 130, 3) := by decide +kernel
theorem dX12_count_71 : decode cX12_count 71 = .ok (.getfield 134, 3) := by decide +kernel
theorem dX12_count_74 : decode cX12_count 74 = .ok (.ireturn, 1) := by decide +kernel
theorem dX12_count_75 : decode cX12_count 75 = .ok (.aload_n 0, 1) := by decide +kernel
theorem dX12_count_76 : decode cX12_count 76 = .ok (.getfield 20, 3) := by decide +kernel
theorem dX12_count_79 : decode cX12_count 79 = .ok (.getfield 130, 3) := by decide +kernel
theorem dX12_count_82 : decode cX12_count 82 = .ok (.getfield 139, 3) := by decide +kernel
theorem dX12_count_85 : decode cX12_count 85 = .ok (.ireturn, 1) := by decide +kernel
theorem dX12_count_86 : decode cX12_count 86 = .ok (.aload_n 0, 1) := by decide +kernel
theorem dX12_count_87 : decode cX12_count 87 = .ok (.getfield 20, 3) := by decide +kernel
theorem dX12_count_90 : decode cX12_count 90 = .ok (.getfield 142, 3) := by decide +kernel
theorem dX12_count_93 : decode cX12_count 93 = .ok (.ireturn, 1) := by decide +kernel
theorem dX12_count_94 : decode cX12_count 94 = .ok (.aload_n 0, 1) := by decide +kernel
theorem dX12_count_95 : decode cX12_count 95 = .ok (.getfield 20, 3) := by decide +kernel
theorem dX12_count_98 : decode cX12_count 98 = .ok (.invokevirtual 145, 3) := by decide +kernel
theorem dX12_count_101 : decode cX12_count 101 = .ok (.ireturn, 1) := by decide +kernel
theorem dX12_count_102 : decode cX12_count 102 = .ok (.aload_n 0, 1) := by decide +kernel
theorem dX12_count_103 : decode cX12_count 103 = .ok (.getfield 20, 3) := by decide +kernel
theorem dX12_count_106 : decode cX12_count 106 = .ok (.getfield 149, 3) := by decide +kernel
theorem dX12_count_109 : decode cX12_count 109 = .ok (.getfield 153, 3) := by decide +kernel
theorem dX12_count_112 : decode cX12_count 112 = .ok (.ireturn, 1) := by decide +kernel
theorem dX12_count_113 : decode cX12_count 113 = .ok (.aload_n 0, 1) := by decide +kernel
theorem dX12_count_114 : decode cX12_count 114 = .ok (.getfield 83, 3) := by decide +kernel
theorem dX12_count_117 : decode cX12_count 117 = .ok (.ireturn, 1) := by decide +kernel
theorem dX12_count_118 : decode cX12_count 118 = .ok (.aload_n 0, 1) := by decide +kernel
theorem dX12_count_119 : decode cX12_count 119 = .ok (.getfield 100, 3) := by decide +kernel
theorem dX12_count_122 : decode cX12_count 122 = .ok (.ireturn, 1) := by decide +kernel
theorem dX12_count_123 : decode cX12_count 123 = .ok (.aload_n 0, 1) := by decide +kernel
theorem dX12_count_124 : decode cX12_count 124 = .ok (.getfield 127, 3) := by decide +kernel
theorem dX12_count_127 : decode cX12_count 127 = .ok (.ireturn, 1) := by decide +kernel
theorem dX12_count_128 : decode cX12_count 128 = .ok (.aload_n 0, 1) := by decide +kernel
theorem dX12_count_129 : decode cX12_count 129 = .ok (.getfield 158, 3) := by decide +kernel
theorem dX12_count_132 : decode cX12_count 132 = .ok (.ireturn, 1) := by decide +kernel
theorem dX12_count_133 : decode cX12_count 133 = .ok (.new 161, 3) := by decide +kernel
theorem dX12_count_136 : decode cX12_count 136 = .ok (.dup, 1) := by decide +kernel
theorem dX12_count_137 : decode cX12_count 137 = .ok (.ldc 163, 2) := by decide +kernel
theorem dX12_count_139 : decode cX12_count 139 = .ok (.invokespecial 165, 3) := by decide +kernel
theorem dX12_count_142 : decode cX12_count 142 = .ok (.athrow, 1) := by decide +kernel
set_option maxRecDepth 20000 in
theorem ggX12_owner_X12_needOwner : GoodIn wsX12_owner wsX12_needOwner := goodIn_ca (goodIn_r _ [10, 1, 2, 3, 11, 12, 13, 14, 15, 16, 88, 89, 90, 91, 92, 93, 94, 95, 96, 97, 98, 99, 100, 101, 102, 103, 104, 105, 106, 107, 108, 109, 110, 111, 112, 113] (by decide +kernel) (by decide +kernel)) (goodIn_sub (fun _ h => List.mem_cons_of_mem _ (List.mem_append_right _ h)) (by decide +kernel))
set_option maxRecDepth 20000 in
theorem gX12_owner_X12_needOwner : GoodIn wsX12_owner (wsV RX12 168 RX12 yX12_needOwner wsX12_needOwner) := goodIn_app (goodIn_of _ (by decide +kernel)) ggX12_owner_X12_needOwner
set_option maxRecDepth 20000 in
theorem ggX12_owner_X9_goatsOf : GoodIn wsX12_owner wsX9_goatsOf := goodIn_r _ [20, 21, 22, 12, 13, 14, 15, 16, 105, 106, 107, 108, 109, 110, 111, 112, 113] (by decide +kernel) (by decide +kernel)
set_option maxRecDepth 20000 in
theorem gX12_owner_X9_goatsOf : GoodIn wsX12_owner (wsV RX12 171 RX9 yX9_goatsOf wsX9_goatsOf) := goodIn_app (goodIn_of _ (by decide +kernel)) ggX12_owner_X9_goatsOf
set_option maxRecDepth 20000 in
theorem ggX12_owner_X9_hidesOf : GoodIn wsX12_owner wsX9_hidesOf := goodIn_r _ [26, 27, 22, 12, 13, 14, 15, 16, 105, 106, 107, 108, 109, 110, 111, 112, 113] (by decide +kernel) (by decide +kernel)
set_option maxRecDepth 20000 in
theorem gX12_owner_X9_hidesOf : GoodIn wsX12_owner (wsV RX12 175 RX9 yX9_hidesOf wsX9_hidesOf) := goodIn_app (goodIn_of _ (by decide +kernel)) ggX12_owner_X9_hidesOf
set_option maxRecDepth 20000 in
theorem ggX12_owner_X9_hiddenBy : GoodIn wsX12_owner wsX9_hiddenBy := goodIn_r _ [31, 32, 22, 12, 13, 14, 15, 16, 105, 106, 107, 108, 109, 110, 111, 112, 113] (by decide +kernel) (by decide +kernel)
set_option maxRecDepth 20000 in
theorem gX12_owner_X9_hiddenBy : GoodIn wsX12_owner (wsV RX12 178 RX9 yX9_hiddenBy wsX9_hiddenBy) := goodIn_app (goodIn_of _ (by decide +kernel)) ggX12_owner_X9_hiddenBy
set_option maxRecDepth 20000 in
theorem ggX12_owner_X9_lentBy : GoodIn wsX12_owner wsX9_lentBy := goodIn_r _ [36, 37, 22, 12, 13, 14, 15, 16, 105, 106, 107, 108, 109, 110, 111, 112, 113] (by decide +kernel) (by decide +kernel)
set_option maxRecDepth 20000 in
theorem gX12_owner_X9_lentBy : GoodIn wsX12_owner (wsV RX12 181 RX9 yX9_lentBy wsX9_lentBy) := goodIn_app (goodIn_of _ (by decide +kernel)) ggX12_owner_X9_lentBy
set_option maxRecDepth 20000 in
theorem ggX12_owner_X9_borrowedBy : GoodIn wsX12_owner wsX9_borrowedBy := goodIn_r _ [41, 42, 22, 12, 13, 14, 15, 16, 105, 106, 107, 108, 109, 110, 111, 112, 113] (by decide +kernel) (by decide +kernel)
set_option maxRecDepth 20000 in
theorem gX12_owner_X9_borrowedBy : GoodIn wsX12_owner (wsV RX12 184 RX9 yX9_borrowedBy wsX9_borrowedBy) := goodIn_app (goodIn_of _ (by decide +kernel)) ggX12_owner_X9_borrowedBy
set_option maxRecDepth 20000 in
theorem ggX12_owner_X4_owedBy : GoodIn wsX12_owner wsX4_owedBy := goodIn_r _ [47, 48, 49, 50, 46, 51, 52, 53, 54, 55, 56, 57, 58, 59, 60, 61, 62, 63, 64, 65, 66, 67, 68, 69, 70, 71, 72, 114, 115, 116, 117, 118, 119] (by decide +kernel) (by decide +kernel)
set_option maxRecDepth 20000 in
theorem gX12_owner_X4_owedBy : GoodIn wsX12_owner (wsV RX12 187 RX4 yX4_owedBy wsX4_owedBy) := goodIn_app (goodIn_of _ (by decide +kernel)) ggX12_owner_X4_owedBy
set_option maxRecDepth 20000 in
theorem ggX12_owner_X4_owedTo : GoodIn wsX12_owner wsX4_owedTo := goodIn_r _ [76, 77, 78, 79, 46, 80, 81, 53, 54, 55, 56, 57, 58, 59, 60, 61, 62, 63, 64, 65, 66, 67, 68, 69, 70, 71, 72, 114, 115, 116, 117, 118, 119] (by decide +kernel) (by decide +kernel)
set_option maxRecDepth 20000 in
theorem gX12_owner_X4_owedTo : GoodIn wsX12_owner (wsV RX12 191 RX4 yX4_owedTo wsX4_owedTo) := goodIn_app (goodIn_of _ (by decide +kernel)) ggX12_owner_X4_owedTo
set_option maxRecDepth 20000 in
theorem ggX12_owner_X4_netOf : GoodIn wsX12_owner wsX4_netOf := goodIn_r _ [85, 86, 74, 75, 46, 76, 77, 78, 79, 80, 81, 53, 54, 55, 56, 57, 58, 59, 60, 61, 62, 63, 64, 65, 66, 67, 68, 69, 70, 71, 72, 87, 44, 45, 47, 48, 49, 50, 51, 52, 114, 115, 116, 117, 118, 119] (by decide +kernel) (by decide +kernel)
set_option maxRecDepth 20000 in
theorem gX12_owner_X4_netOf : GoodIn wsX12_owner (wsV RX12 194 RX4 yX4_netOf wsX4_netOf) := goodIn_app (goodIn_of _ (by decide +kernel)) ggX12_owner_X4_netOf
theorem dX12_owner_0 : decode cX12_owner 0 = .ok (.aload_n 0, 1) := by decide +kernel
theorem dX12_owner_1 : decode cX12_owner 1 = .ok (.iload_n 1, 1) := by decide +kernel
theorem dX12_owner_2 : decode cX12_owner 2 = .ok (.invokevirtual 168, 3) := by decide +kernel
theorem dX12_owner_5 : decode cX12_owner 5 = .ok (.iload_n 2, 1) := by decide +kernel
theorem dX12_owner_6 : decode cX12_owner 6 = .ok (.tableswitch 196 0 8 #[50, 59, 68, 77, 86, 95, 115, 135, 155], 50) := by decide +kernel
theorem dX12_owner_56 : decode cX12_owner 56 = .ok (.aload_n 0, 1) := by decide +kernel
theorem dX12_owner_57 : decode cX12_owner 57 = .ok (.getfield 20, 3) := by decide +kernel
theorem dX12_owner_60 : decode cX12_owner 60 = .ok (.iload_n 1, 1) := by decide +kernel
theorem dX12_owner_61 : decode cX12_owner 61 = .ok (.invokevirtual 171, 3) := by decide +kernel
theorem dX12_owner_64 : decode cX12_owner 64 = .ok (.ireturn, 1) := by decide +kernel
theorem dX12_owner_65 : decode cX12_owner 65 = .ok (.aload_n 0, 1) := by decide +kernel
theorem dX12_owner_66 : decode cX12_owner 66 = .ok (.getfield 20, 3) := by decide +kernel
theorem dX12_owner_69 : decode cX12_owner 69 = .ok (.iload_n 1, 1) := by decide +kernel
theorem dX12_owner_70 : decode cX12_owner 70 = .ok (.invokevirtual 175, 3) := by decide +kernel
theorem dX12_owner_73 : decode cX12_owner 73 = .ok (.ireturn, 1) := by decide +kernel
theorem dX12_owner_74 : decode cX12_owner 74 = .ok (.aload_n 0, 1) := by decide +kernel
theorem dX12_owner_75 : decode cX12_owner 75 = .ok (.getfield 20, 3) := by decide +kernel
theorem dX12_owner_78 : decode cX12_owner 78 = .ok (.iload_n 1, 1) := by decide +kernel
theorem dX12_owner_79 : decode cX12_owner 79 = .ok (.invokevirtual 178, 3) := by decide +kernel
theorem dX12_owner_82 : decode cX12_owner 82 = .ok (.ireturn, 1) := by decide +kernel
theorem dX12_owner_83 : decode cX12_owner 83 = .ok (.aload_n 0, 1) := by decide +kernel
theorem dX12_owner_84 : decode cX12_owner 84 = .ok (.getfield 20, 3) := by decide +kernel
theorem dX12_owner_87 : decode cX12_owner 87 = .ok (.iload_n 1, 1) := by decide +kernel
theorem dX12_owner_88 : decode cX12_owner 88 = .ok (.invokevirtual 181, 3) := by decide +kernel
theorem dX12_owner_91 : decode cX12_owner 91 = .ok (.ireturn, 1) := by decide +kernel
theorem dX12_owner_92 : decode cX12_owner 92 = .ok (.aload_n 0, 1) := by decide +kernel
theorem dX12_owner_93 : decode cX12_owner 93 = .ok (.getfield 20, 3) := by decide +kernel
theorem dX12_owner_96 : decode cX12_owner 96 = .ok (.iload_n 1, 1) := by decide +kernel
theorem dX12_owner_97 : decode cX12_owner 97 = .ok (.invokevirtual 184, 3) := by decide +kernel
theorem dX12_owner_100 : decode cX12_owner 100 = .ok (.ireturn, 1) := by decide +kernel
theorem dX12_owner_101 : decode cX12_owner 101 = .ok (.aload_n 0, 1) := by decide +kernel
theorem dX12_owner_102 : decode cX12_owner 102 = .ok (.getfield 20, 3) := by decide +kernel
theorem dX12_owner_105 : decode cX12_owner 105 = .ok (.getfield 130, 3) := by decide +kernel
theorem dX12_owner_108 : decode cX12_owner 108 = .ok (.iload_n 1, 1) := by decide +kernel
theorem dX12_owner_109 : decode cX12_owner 109 = .ok (.aload_n 0, 1) := by decide +kernel
theorem dX12_owner_110 : decode cX12_owner 110 = .ok (.getfield 20, 3) := by decide +kernel
theorem dX12_owner_113 : decode cX12_owner 113 = .ok (.getfield 142, 3) := by decide +kernel
theorem dX12_owner_116 : decode cX12_owner 116 = .ok (.invokevirtual 187, 3) := by decide +kernel
theorem dX12_owner_119 : decode cX12_owner 119 = .ok (.l2i, 1) := by decide +kernel
theorem dX12_owner_120 : decode cX12_owner 120 = .ok (.ireturn, 1) := by decide +kernel
theorem dX12_owner_121 : decode cX12_owner 121 = .ok (.aload_n 0, 1) := by decide +kernel
theorem dX12_owner_122 : decode cX12_owner 122 = .ok (.getfield 20, 3) := by decide +kernel
theorem dX12_owner_125 : decode cX12_owner 125 = .ok (.getfield 130, 3) := by decide +kernel
theorem dX12_owner_128 : decode cX12_owner 128 = .ok (.iload_n 1, 1) := by decide +kernel
theorem dX12_owner_129 : decode cX12_owner 129 = .ok (.aload_n 0, 1) := by decide +kernel
theorem dX12_owner_130 : decode cX12_owner 130 = .ok (.getfield 20, 3) := by decide +kernel
theorem dX12_owner_133 : decode cX12_owner 133 = .ok (.getfield 142, 3) := by decide +kernel
theorem dX12_owner_136 : decode cX12_owner 136 = .ok (.invokevirtual 191, 3) := by decide +kernel
theorem dX12_owner_139 : decode cX12_owner 139 = .ok (.l2i, 1) := by decide +kernel
theorem dX12_owner_140 : decode cX12_owner 140 = .ok (.ireturn, 1) := by decide +kernel
theorem dX12_owner_141 : decode cX12_owner 141 = .ok (.aload_n 0, 1) := by decide +kernel
theorem dX12_owner_142 : decode cX12_owner 142 = .ok (.getfield 20, 3) := by decide +kernel
theorem dX12_owner_145 : decode cX12_owner 145 = .ok (.getfield 130, 3) := by decide +kernel
theorem dX12_owner_148 : decode cX12_owner 148 = .ok (.iload_n 1, 1) := by decide +kernel
theorem dX12_owner_149 : decode cX12_owner 149 = .ok (.aload_n 0, 1) := by decide +kernel
theorem dX12_owner_150 : decode cX12_owner 150 = .ok (.getfield 20, 3) := by decide +kernel
theorem dX12_owner_153 : decode cX12_owner 153 = .ok (.getfield 142, 3) := by decide +kernel
theorem dX12_owner_156 : decode cX12_owner 156 = .ok (.invokevirtual 194, 3) := by decide +kernel
theorem dX12_owner_159 : decode cX12_owner 159 = .ok (.l2i, 1) := by decide +kernel
theorem dX12_owner_160 : decode cX12_owner 160 = .ok (.ireturn, 1) := by decide +kernel
theorem dX12_owner_161 : decode cX12_owner 161 = .ok (.aload_n 0, 1) := by decide +kernel
theorem dX12_owner_162 : decode cX12_owner 162 = .ok (.getfield 20, 3) := by decide +kernel
theorem dX12_owner_165 : decode cX12_owner 165 = .ok (.getfield 130, 3) := by decide +kernel
theorem dX12_owner_168 : decode cX12_owner 168 = .ok (.iload_n 1, 1) := by decide +kernel
theorem dX12_owner_169 : decode cX12_owner 169 = .ok (.aload_n 0, 1) := by decide +kernel
theorem dX12_owner_170 : decode cX12_owner 170 = .ok (.getfield 20, 3) := by decide +kernel
theorem dX12_owner_173 : decode cX12_owner 173 = .ok (.getfield 142, 3) := by decide +kernel
theorem dX12_owner_176 : decode cX12_owner 176 = .ok (.iconst 1, 1) := by decide +kernel
theorem dX12_owner_177 : decode cX12_owner 177 = .ok (.iadd, 1) := by decide +kernel
theorem dX12_owner_178 : decode cX12_owner 178 = .ok (.invokevirtual 194, 3) := by decide +kernel
theorem dX12_owner_181 : decode cX12_owner 181 = .ok (.aload_n 0, 1) := by decide +kernel
theorem dX12_owner_182 : decode cX12_owner 182 = .ok (.getfield 20, 3) := by decide +kernel
theorem dX12_owner_185 : decode cX12_owner 185 = .ok (.getfield 130, 3) := by decide +kernel
theorem dX12_owner_188 : decode cX12_owner 188 = .ok (.iload_n 1, 1) := by decide +kernel
theorem dX12_owner_189 : decode cX12_owner 189 = .ok (.aload_n 0, 1) := by decide +kernel
theorem dX12_owner_190 : decode cX12_owner 190 = .ok (.getfield 20, 3) := by decide +kernel
theorem dX12_owner_193 : decode cX12_owner 193 = .ok (.getfield 142, 3) := by decide +kernel
theorem dX12_owner_196 : decode cX12_owner 196 = .ok (.invokevirtual 194, 3) := by decide +kernel
theorem dX12_owner_199 : decode cX12_owner 199 = .ok (.lsub, 1) := by decide +kernel
theorem dX12_owner_200 : decode cX12_owner 200 = .ok (.l2i, 1) := by decide +kernel
theorem dX12_owner_201 : decode cX12_owner 201 = .ok (.ireturn, 1) := by decide +kernel
theorem dX12_owner_202 : decode cX12_owner 202 = .ok (.new 161, 3) := by decide +kernel
theorem dX12_owner_205 : decode cX12_owner 205 = .ok (.dup, 1) := by decide +kernel
theorem dX12_owner_206 : decode cX12_owner 206 = .ok (.ldc 197, 2) := by decide +kernel
theorem dX12_owner_208 : decode cX12_owner 208 = .ok (.invokespecial 165, 3) := by decide +kernel
theorem dX12_owner_211 : decode cX12_owner 211 = .ok (.athrow, 1) := by decide +kernel
set_option maxRecDepth 20000 in
theorem ggX12_door_X12_needDoor : GoodIn wsX12_door wsX12_needDoor := goodIn_ca (goodIn_r _ [7, 8, 9, 1, 2, 10, 11, 12, 13, 14, 15, 42, 43, 44, 45, 46, 47, 48, 49, 50, 51, 52, 53, 54, 55, 56, 57, 58, 59, 60, 61, 62, 63, 64, 65, 66, 67, 68, 69, 70, 71, 72, 73] (by decide +kernel) (by decide +kernel)) (goodIn_sub (fun _ h => List.mem_cons_of_mem _ (List.mem_append_right _ h)) (by decide +kernel))
set_option maxRecDepth 20000 in
theorem gX12_door_X12_needDoor : GoodIn wsX12_door (wsV RX12 199 RX12 yX12_needDoor wsX12_needDoor) := goodIn_app (goodIn_of _ (by decide +kernel)) ggX12_door_X12_needDoor
set_option maxRecDepth 20000 in
theorem ggX12_door_X4_debtorOf : GoodIn wsX12_door wsX4_debtorOf := goodIn_r _ [19, 20, 21, 11, 12, 13, 14, 15, 68, 69, 70, 71, 72, 73] (by decide +kernel) (by decide +kernel)
set_option maxRecDepth 20000 in
theorem gX12_door_X4_debtorOf : GoodIn wsX12_door (wsV RX12 202 RX4 yX4_debtorOf wsX4_debtorOf) := goodIn_app (goodIn_of _ (by decide +kernel)) ggX12_door_X4_debtorOf
set_option maxRecDepth 20000 in
theorem ggX12_door_X4_lenderOf : GoodIn wsX12_door wsX4_lenderOf := goodIn_r _ [25, 26, 21, 11, 12, 13, 14, 15, 68, 69, 70, 71, 72, 73] (by decide +kernel) (by decide +kernel)
set_option maxRecDepth 20000 in
theorem gX12_door_X4_lenderOf : GoodIn wsX12_door (wsV RX12 205 RX4 yX4_lenderOf wsX4_lenderOf) := goodIn_app (goodIn_of _ (by decide +kernel)) ggX12_door_X4_lenderOf
set_option maxRecDepth 20000 in
theorem ggX12_door_X4_lengthOf : GoodIn wsX12_door wsX4_lengthOf := goodIn_r _ [30, 31, 21, 11, 12, 13, 14, 15, 68, 69, 70, 71, 72, 73] (by decide +kernel) (by decide +kernel)
set_option maxRecDepth 20000 in
theorem gX12_door_X4_lengthOf : GoodIn wsX12_door (wsV RX12 208 RX4 yX4_lengthOf wsX4_lengthOf) := goodIn_app (goodIn_of _ (by decide +kernel)) ggX12_door_X4_lengthOf
set_option maxRecDepth 20000 in
theorem ggX12_door_X12_figureOf : GoodIn wsX12_door wsX12_figureOf := goodIn_ca (goodIn_r _ [35, 8, 9, 1, 2, 27, 28, 29, 13, 30, 31, 21, 11, 12, 14, 15, 36, 37, 38, 39, 40, 41, 42, 43, 44, 45, 46, 47, 48, 49, 50, 51, 52, 53, 54, 55, 56, 57, 58, 59, 60, 61, 62, 63, 64, 65, 66, 67, 68, 69, 70, 71, 72, 73] (by decide +kernel) (by decide +kernel)) (goodIn_sub (fun _ h => List.mem_cons_of_mem _ (List.mem_append_right _ h)) (by decide +kernel))
set_option maxRecDepth 20000 in
theorem gX12_door_X12_figureOf : GoodIn wsX12_door (wsV RX12 211 RX12 yX12_figureOf wsX12_figureOf) := goodIn_app (goodIn_of _ (by decide +kernel)) ggX12_door_X12_figureOf
theorem dX12_door_0 : decode cX12_door 0 = .ok (.aload_n 0, 1) := by decide +kernel
theorem dX12_door_1 : decode cX12_door 1 = .ok (.iload_n 1, 1) := by decide +kernel
theorem dX12_door_2 : decode cX12_door 2 = .ok (.invokevirtual 199, 3) := by decide +kernel
theorem dX12_door_5 : decode cX12_door 5 = .ok (.iload_n 2, 1) := by decide +kernel
theorem dX12_door_6 : decode cX12_door 6 = .ok (.tableswitch 62 0 2 #[26, 38, 50], 26) := by decide +kernel
theorem dX12_door_32 : decode cX12_door 32 = .ok (.aload_n 0, 1) := by decide +kernel
theorem dX12_door_33 : decode cX12_door 33 = .ok (.getfield 20, 3) := by decide +kernel
theorem dX12_door_36 : decode cX12_door 36 = .ok (.getfield 130, 3) := by decide +kernel
theorem dX12_door_39 : decode cX12_door 39 = .ok (.iload_n 1, 1) := by decide +kernel
theorem dX12_door_40 : decode cX12_door 40 = .ok (.invokevirtual 202, 3) := by decide +kernel
theorem dX12_door_43 : decode cX12_door 43 = .ok (.ireturn, 1) := by decide +kernel
theorem dX12_door_44 : decode cX12_door 44 = .ok (.aload_n 0, 1) := by decide +kernel
theorem dX12_door_45 : decode cX12_door 45 = .ok (.getfield 20, 3) := by decide +kernel
theorem dX12_door_48 : decode cX12_door 48 = .ok (.getfield 130, 3) := by decide +kernel
theorem dX12_door_51 : decode cX12_door 51 = .ok (.iload_n 1, 1) := by decide +kernel
theorem dX12_door_52 : decode cX12_door 52 = .ok (.invokevirtual 205, 3) := by decide +kernel
theorem dX12_door_55 : decode cX12_door 55 = .ok (.ireturn, 1) := by decide +kernel
theorem dX12_door_56 : decode cX12_door 56 = .ok (.aload_n 0, 1) := by decide +kernel
theorem dX12_door_57 : decode cX12_door 57 = .ok (.getfield 20, 3) := by decide +kernel
theorem dX12_door_60 : decode cX12_door 60 = .ok (.getfield 130, 3) := by decide +kernel
theorem dX12_door_63 : decode cX12_door 63 = .ok (.iload_n 1, 1) := by decide +kernel
theorem dX12_door_64 : decode cX12_door 64 = .ok (.invokevirtual 208, 3) := by decide +kernel
theorem dX12_door_67 : decode cX12_door 67 = .ok (.ireturn, 1) := by decide +kernel
theorem dX12_door_68 : decode cX12_door 68 = .ok (.aload_n 0, 1) := by decide +kernel
theorem dX12_door_69 : decode cX12_door 69 = .ok (.iload_n 1, 1) := by decide +kernel
theorem dX12_door_70 : decode cX12_door 70 = .ok (.iload_n 2, 1) := by decide +kernel
theorem dX12_door_71 : decode cX12_door 71 = .ok (.bipush 10, 2) := by decide +kernel
theorem dX12_door_73 : decode cX12_door 73 = .ok (.isub, 1) := by decide +kernel
theorem dX12_door_74 : decode cX12_door 74 = .ok (.invokevirtual 211, 3) := by decide +kernel
theorem dX12_door_77 : decode cX12_door 77 = .ok (.ireturn, 1) := by decide +kernel
set_option maxRecDepth 20000 in
theorem ggX12_figureOf_X4_lengthOf : GoodIn wsX12_figureOf wsX4_lengthOf := goodIn_r _ [9, 10, 11, 12, 13, 8, 14, 15, 48, 49, 50, 51, 52, 53] (by decide +kernel) (by decide +kernel)
set_option maxRecDepth 20000 in
theorem gX12_figureOf_X4_lengthOf : GoodIn wsX12_figureOf (wsV RX12 208 RX4 yX4_lengthOf wsX4_lengthOf) := goodIn_app (goodIn_of _ (by decide +kernel)) ggX12_figureOf_X4_lengthOf
set_option maxRecDepth 20000 in
theorem ggX12_figureOf_X4_figureAt : GoodIn wsX12_figureOf wsX4_figureAt := goodIn_r _ [19, 20, 21, 6, 7, 8, 9, 10, 11, 12, 13, 14, 15, 48, 49, 50, 51, 52, 53] (by decide +kernel) (by decide +kernel)
set_option maxRecDepth 20000 in
theorem gX12_figureOf_X4_figureAt : GoodIn wsX12_figureOf (wsV RX12 217 RX4 yX4_figureAt wsX4_figureAt) := goodIn_app (goodIn_of _ (by decide +kernel)) ggX12_figureOf_X4_figureAt
theorem dX12_figureOf_0 : decode cX12_figureOf 0 = .ok (.iload_n 2, 1) := by decide +kernel
theorem dX12_figureOf_1 : decode cX12_figureOf 1 = .ok (.ifCond .lt 18, 3) := by decide +kernel
theorem dX12_figureOf_4 : decode cX12_figureOf 4 = .ok (.iload_n 2, 1) := by decide +kernel
theorem dX12_figureOf_5 : decode cX12_figureOf 5 = .ok (.aload_n 0, 1) := by decide +kernel
theorem dX12_figureOf_6 : decode cX12_figureOf 6 = .ok (.getfield 20, 3) := by decide +kernel
theorem dX12_figureOf_9 : decode cX12_figureOf 9 = .ok (.getfield 130, 3) := by decide +kernel
theorem dX12_figureOf_12 : decode cX12_figureOf 12 = .ok (.iload_n 1, 1) := by decide +kernel
theorem dX12_figureOf_13 : decode cX12_figureOf 13 = .ok (.invokevirtual 208, 3) := by decide +kernel
theorem dX12_figureOf_16 : decode cX12_figureOf 16 = .ok (.if_icmp .lt 13, 3) := by decide +kernel
theorem dX12_figureOf_19 : decode cX12_figureOf 19 = .ok (.new 161, 3) := by decide +kernel
theorem dX12_figureOf_22 : decode cX12_figureOf 22 = .ok (.dup, 1) := by decide +kernel
theorem dX12_figureOf_23 : decode cX12_figureOf 23 = .ok (.ldc 215, 2) := by decide +kernel
theorem dX12_figureOf_25 : decode cX12_figureOf 25 = .ok (.invokespecial 165, 3) := by decide +kernel
theorem dX12_figureOf_28 : decode cX12_figureOf 28 = .ok (.athrow, 1) := by decide +kernel
theorem dX12_figureOf_29 : decode cX12_figureOf 29 = .ok (.aload_n 0, 1) := by decide +kernel
theorem dX12_figureOf_30 : decode cX12_figureOf 30 = .ok (.getfield 20, 3) := by decide +kernel
theorem dX12_figureOf_33 : decode cX12_figureOf 33 = .ok (.getfield 130, 3) := by decide +kernel
theorem dX12_figureOf_36 : decode cX12_figureOf 36 = .ok (.iload_n 1, 1) := by decide +kernel
theorem dX12_figureOf_37 : decode cX12_figureOf 37 = .ok (.iload_n 2, 1) := by decide +kernel
theorem dX12_figureOf_38 : decode cX12_figureOf 38 = .ok (.invokevirtual 217, 3) := by decide +kernel
theorem dX12_figureOf_41 : decode cX12_figureOf 41 = .ok (.ireturn, 1) := by decide +kernel
set_option maxRecDepth 20000 in
theorem ggX12_worth_X12_needDoor : GoodIn wsX12_worth wsX12_needDoor := goodIn_ca (goodIn_r _ [7, 8, 9, 1, 2, 10, 11, 12, 13, 14, 15, 37, 38, 39, 40, 41, 42, 43, 44, 45, 46, 47, 48, 49, 50, 51, 52, 53, 54, 55, 56, 57, 58, 59, 60, 61, 62, 63, 64, 65, 66, 67, 68] (by decide +kernel) (by decide +kernel)) (goodIn_sub (fun _ h => List.mem_cons_of_mem _ (List.mem_append_left _ (List.mem_append_right _ h))) (by decide +kernel))
set_option maxRecDepth 20000 in
theorem gX12_worth_X12_needDoor : GoodIn wsX12_worth (wsV RX12 199 RX12 yX12_needDoor wsX12_needDoor) := goodIn_app (goodIn_of _ (by decide +kernel)) ggX12_worth_X12_needDoor
set_option maxRecDepth 20000 in
theorem ggX12_worth_X12_needBase : GoodIn wsX12_worth wsX12_needBase := goodIn_ca (goodIn_r _ [18, 19, 20] (by decide +kernel) (by decide +kernel)) (goodIn_sub (fun _ h => List.mem_cons_of_mem _ (List.mem_append_right _ h)) (by decide +kernel))
set_option maxRecDepth 20000 in
theorem gX12_worth_X12_needBase : GoodIn wsX12_worth (va_wsS RX12 220 yX12_needBase wsX12_needBase) := goodIn_app (goodIn_of _ (by decide +kernel)) ggX12_worth_X12_needBase
set_option maxRecDepth 20000 in
theorem ggX12_worth_X4_worthIn : GoodIn wsX12_worth wsX4_worthIn := goodIn_r _ [24, 25, 26, 27, 28, 13, 29, 30, 31, 11, 12, 14, 15, 32, 33, 34, 35, 36, 63, 64, 65, 66, 67, 68] (by decide +kernel) (by decide +kernel)
set_option maxRecDepth 20000 in
theorem gX12_worth_X4_worthIn : GoodIn wsX12_worth (wsV RX12 223 RX4 yX4_worthIn wsX4_worthIn) := goodIn_app (goodIn_of _ (by decide +kernel)) ggX12_worth_X4_worthIn
theorem dX12_worth_0 : decode cX12_worth 0 = .ok (.aload_n 0, 1) := by decide +kernel
theorem dX12_worth_1 : decode cX12_worth 1 = .ok (.iload_n 1, 1) := by decide +kernel
theorem dX12_worth_2 : decode cX12_worth 2 = .ok (.invokevirtual 199, 3) := by decide +kernel
theorem dX12_worth_5 : decode cX12_worth 5 = .ok (.iload_n 2, 1) := by decide +kernel
theorem dX12_worth_6 : decode cX12_worth 6 = .ok (.invokestatic 220, 3) := by decide +kernel
theorem dX12_worth_9 : decode cX12_worth 9 = .ok (.aload_n 0, 1) := by decide +kernel
theorem dX12_worth_10 : decode cX12_worth 10 = .ok (.getfield 20, 3) := by decide +kernel
theorem dX12_worth_13 : decode cX12_worth 13 = .ok (.getfield 130, 3) := by decide +kernel
theorem dX12_worth_16 : decode cX12_worth 16 = .ok (.iload_n 1, 1) := by decide +kernel
theorem dX12_worth_17 : decode cX12_worth 17 = .ok (.iload_n 2, 1) := by decide +kernel
theorem dX12_worth_18 : decode cX12_worth 18 = .ok (.invokevirtual 223, 3) := by decide +kernel
theorem dX12_worth_21 : decode cX12_worth 21 = .ok (.ireturn, 1) := by decide +kernel
set_option maxRecDepth 20000 in
theorem ggX12_best_X12_needOwner : GoodIn wsX12_best wsX12_needOwner := goodIn_ca (goodIn_r _ [7, 8, 9, 1, 10, 11, 12, 13, 14, 15, 62, 63, 64, 65, 66, 67, 68, 69, 70, 71, 72, 73, 74, 75, 76, 77, 78, 79, 80, 81, 82, 83, 84, 85, 86, 87] (by decide +kernel) (by decide +kernel)) (goodIn_sub (fun _ h => List.mem_cons_of_mem _ (List.mem_append_right _ h)) (by decide +kernel))
set_option maxRecDepth 20000 in
theorem gX12_best_X12_needOwner : GoodIn wsX12_best (wsV RX12 168 RX12 yX12_needOwner wsX12_needOwner) := goodIn_app (goodIn_of _ (by decide +kernel)) ggX12_best_X12_needOwner
set_option maxRecDepth 20000 in
theorem ggX12_best_X12_needWhat : GoodIn wsX12_best wsX12_needWhat := goodIn_ca (goodIn_r _ [18, 8, 9] (by decide +kernel) (by decide +kernel)) (goodIn_sub (fun _ h => List.mem_cons_of_mem _ (List.mem_append_right _ h)) (by decide +kernel))
set_option maxRecDepth 20000 in
theorem gX12_best_X12_needWhat : GoodIn wsX12_best (va_wsS RX12 226 yX12_needWhat wsX12_needWhat) := goodIn_app (goodIn_of _ (by decide +kernel)) ggX12_best_X12_needWhat
set_option maxRecDepth 20000 in
theorem ggX12_best_X4_netOf : GoodIn wsX12_best wsX4_netOf := goodIn_r _ [23, 24, 25, 26, 22, 27, 28, 29, 30, 31, 32, 33, 34, 35, 36, 37, 38, 39, 40, 41, 42, 43, 44, 45, 46, 47, 48, 49, 50, 51, 52, 53, 54, 55, 56, 57, 58, 59, 60, 61, 88, 89, 90, 91, 92, 93] (by decide +kernel) (by decide +kernel)
set_option maxRecDepth 20000 in
theorem gX12_best_X4_netOf : GoodIn wsX12_best (wsV RX12 194 RX4 yX4_netOf wsX4_netOf) := goodIn_app (goodIn_of _ (by decide +kernel)) ggX12_best_X4_netOf
theorem dX12_best_0 : decode cX12_best 0 = .ok (.aload_n 0, 1) := by decide +kernel
theorem dX12_best_1 : decode cX12_best 1 = .ok (.iload_n 1, 1) := by decide +kernel
theorem dX12_best_2 : decode cX12_best 2 = .ok (.invokevirtual 168, 3) := by decide +kernel
theorem dX12_best_5 : decode cX12_best 5 = .ok (.iload_n 2, 1) := by decide +kernel
theorem dX12_best_6 : decode cX12_best 6 = .ok (.iconst 1, 1) := by decide +kernel
theorem dX12_best_7 : decode cX12_best 7 = .ok (.invokestatic 226, 3) := by decide +kernel
theorem dX12_best_10 : decode cX12_best 10 = .ok (.iconst 0, 1) := by decide +kernel
theorem dX12_best_11 : decode cX12_best 11 = .ok (.istore_n 3, 1) := by decide +kernel
theorem dX12_best_12 : decode cX12_best 12 = .ok (.aload_n 0, 1) := by decide +kernel
theorem dX12_best_13 : decode cX12_best 13 = .ok (.getfield 20, 3) := by decide +kernel
theorem dX12_best_16 : decode cX12_best 16 = .ok (.getfield 130, 3) := by decide +kernel
theorem dX12_best_19 : decode cX12_best 19 = .ok (.iload_n 1, 1) := by decide +kernel
theorem dX12_best_20 : decode cX12_best 20 = .ok (.iload_n 3, 1) := by decide +kernel
theorem dX12_best_21 : decode cX12_best 21 = .ok (.invokevirtual 194, 3) := by decide +kernel
theorem dX12_best_24 : decode cX12_best 24 = .ok (.lstore 4, 2) := by decide +kernel
theorem dX12_best_26 : decode cX12_best 26 = .ok (.iconst 1, 1) := by decide +kernel
theorem dX12_best_27 : decode cX12_best 27 = .ok (.istore 6, 2) := by decide +kernel
theorem dX12_best_29 : decode cX12_best 29 = .ok (.iload 6, 2) := by decide +kernel
theorem dX12_best_31 : decode cX12_best 31 = .ok (.bipush 40, 2) := by decide +kernel
theorem dX12_best_33 : decode cX12_best 33 = .ok (.if_icmp .gt 39, 3) := by decide +kernel
theorem dX12_best_36 : decode cX12_best 36 = .ok (.aload_n 0, 1) := by decide +kernel
theorem dX12_best_37 : decode cX12_best 37 = .ok (.getfield 20, 3) := by decide +kernel
theorem dX12_best_40 : decode cX12_best 40 = .ok (.getfield 130, 3) := by decide +kernel
theorem dX12_best_43 : decode cX12_best 43 = .ok (.iload_n 1, 1) := by decide +kernel
theorem dX12_best_44 : decode cX12_best 44 = .ok (.iload 6, 2) := by decide +kernel
theorem dX12_best_46 : decode cX12_best 46 = .ok (.invokevirtual 194, 3) := by decide +kernel
theorem dX12_best_49 : decode cX12_best 49 = .ok (.lstore 7, 2) := by decide +kernel
theorem dX12_best_51 : decode cX12_best 51 = .ok (.lload 7, 2) := by decide +kernel
theorem dX12_best_53 : decode cX12_best 53 = .ok (.lload 4, 2) := by decide +kernel
theorem dX12_best_55 : decode cX12_best 55 = .ok (.lcmp, 1) := by decide +kernel
theorem dX12_best_56 : decode cX12_best 56 = .ok (.ifCond .le 10, 3) := by decide +kernel
theorem dX12_best_59 : decode cX12_best 59 = .ok (.lload 7, 2) := by decide +kernel
theorem dX12_best_61 : decode cX12_best 61 = .ok (.lstore 4, 2) := by decide +kernel
theorem dX12_best_63 : decode cX12_best 63 = .ok (.iload 6, 2) := by decide +kernel
theorem dX12_best_65 : decode cX12_best 65 = .ok (.istore_n 3, 1) := by decide +kernel
theorem dX12_best_66 : decode cX12_best 66 = .ok (.iinc 6 1, 3) := by decide +kernel
theorem dX12_best_69 : decode cX12_best 69 = .ok (.goto (-40), 3) := by decide +kernel
theorem dX12_best_72 : decode cX12_best 72 = .ok (.iload_n 2, 1) := by decide +kernel
theorem dX12_best_73 : decode cX12_best 73 = .ok (.ifCond .ne 7, 3) := by decide +kernel
theorem dX12_best_76 : decode cX12_best 76 = .ok (.iload_n 3, 1) := by decide +kernel
theorem dX12_best_77 : decode cX12_best 77 = .ok (.goto 6, 3) := by decide +kernel
theorem dX12_best_80 : decode cX12_best 80 = .ok (.lload 4, 2) := by decide +kernel
theorem dX12_best_82 : decode cX12_best 82 = .ok (.l2i, 1) := by decide +kernel
theorem dX12_best_83 : decode cX12_best 83 = .ok (.ireturn, 1) := by decide +kernel
set_option maxRecDepth 20000 in
theorem ggX12_span_X12_needOwner : GoodIn wsX12_span wsX12_needOwner := goodIn_ca (goodIn_r _ [7, 8, 9, 2, 10, 11, 12, 13, 14, 15, 91, 92, 93, 94, 95, 96, 97, 98, 99, 100, 101, 102, 103, 104, 105, 106, 107, 108, 109, 110, 111, 112, 113, 114, 115, 116] (by decide +kernel) (by decide +kernel)) (goodIn_sub (fun _ h => List.mem_cons_of_mem _ (List.mem_append_left _ (List.mem_append_right _ h))) (by decide +kernel))
set_option maxRecDepth 20000 in
theorem gX12_span_X12_needOwner : GoodIn wsX12_span (wsV RX12 168 RX12 yX12_needOwner wsX12_needOwner) := goodIn_app (goodIn_of _ (by decide +kernel)) ggX12_span_X12_needOwner
set_option maxRecDepth 20000 in
theorem ggX12_span_X12_needBases : GoodIn wsX12_span wsX12_needBases := goodIn_ca (goodIn_r _ [18, 19, 20] (by decide +kernel) (by decide +kernel)) (goodIn_sub (fun _ h => List.mem_cons_of_mem _ (List.mem_append_right _ h)) (by decide +kernel))
set_option maxRecDepth 20000 in
theorem gX12_span_X12_needBases : GoodIn wsX12_span (va_wsS RX12 230 yX12_needBases wsX12_needBases) := goodIn_app (goodIn_of _ (by decide +kernel)) ggX12_span_X12_needBases
set_option maxRecDepth 20000 in
theorem ggX12_span_X6_fill : GoodIn wsX12_span wsX6_fill := goodIn_r _ [25, 26, 27, 28, 29, 30, 31, 32, 33, 34, 35, 36, 37, 38, 39, 40, 41, 42, 43, 44, 45, 46, 47, 48, 49, 50, 51, 52, 53, 54, 55, 56, 57, 24, 58, 59, 60, 61, 62, 63, 117, 118, 108, 109, 110, 111, 112, 113, 114, 115, 116, 119, 120, 121, 122, 123, 124] (by decide +kernel) (by decide +kernel)
set_option maxRecDepth 20000 in
theorem gX12_span_X6_fill : GoodIn wsX12_span (wsV RX12 233 RX6 yX6_fill wsX6_fill) := goodIn_app (goodIn_of _ (by decide +kernel)) ggX12_span_X6_fill
set_option maxRecDepth 20000 in
theorem ggX12_span_X6_spanOf : GoodIn wsX12_span wsX6_spanOf := goodIn_r _ [67, 68, 69, 70, 24, 71, 72, 73, 74, 75, 76, 77, 78, 79, 80, 81, 82, 83, 84, 85, 86, 28, 87, 88, 89, 90, 26, 117, 118] (by decide +kernel) (by decide +kernel)
set_option maxRecDepth 20000 in
theorem gX12_span_X6_spanOf : GoodIn wsX12_span (wsV RX12 236 RX6 yX6_spanOf wsX6_spanOf) := goodIn_app (goodIn_of _ (by decide +kernel)) ggX12_span_X6_spanOf
theorem dX12_span_0 : decode cX12_span 0 = .ok (.aload_n 0, 1) := by decide +kernel
theorem dX12_span_1 : decode cX12_span 1 = .ok (.iload_n 1, 1) := by decide +kernel
theorem dX12_span_2 : decode cX12_span 2 = .ok (.invokevirtual 168, 3) := by decide +kernel
theorem dX12_span_5 : decode cX12_span 5 = .ok (.iload_n 2, 1) := by decide +kernel
theorem dX12_span_6 : decode cX12_span 6 = .ok (.iload_n 3, 1) := by decide +kernel
theorem dX12_span_7 : decode cX12_span 7 = .ok (.invokestatic 230, 3) := by decide +kernel
theorem dX12_span_10 : decode cX12_span 10 = .ok (.aload_n 0, 1) := by decide +kernel
theorem dX12_span_11 : decode cX12_span 11 = .ok (.getfield 58, 3) := by decide +kernel
theorem dX12_span_14 : decode cX12_span 14 = .ok (.aload_n 0, 1) := by decide +kernel
theorem dX12_span_15 : decode cX12_span 15 = .ok (.getfield 20, 3) := by decide +kernel
theorem dX12_span_18 : decode cX12_span 18 = .ok (.invokevirtual 233, 3) := by decide +kernel
theorem dX12_span_21 : decode cX12_span 21 = .ok (.aload_n 0, 1) := by decide +kernel
theorem dX12_span_22 : decode cX12_span 22 = .ok (.getfield 58, 3) := by decide +kernel
theorem dX12_span_25 : decode cX12_span 25 = .ok (.iload_n 1, 1) := by decide +kernel
theorem dX12_span_26 : decode cX12_span 26 = .ok (.iload_n 2, 1) := by decide +kernel
theorem dX12_span_27 : decode cX12_span 27 = .ok (.iload_n 3, 1) := by decide +kernel
theorem dX12_span_28 : decode cX12_span 28 = .ok (.invokevirtual 236, 3) := by decide +kernel
theorem dX12_span_31 : decode cX12_span 31 = .ok (.l2i, 1) := by decide +kernel
theorem dX12_span_32 : decode cX12_span 32 = .ok (.ireturn, 1) := by decide +kernel
set_option maxRecDepth 20000 in
theorem ggX12_rests_X12_needOwner : GoodIn wsX12_rests wsX12_needOwner := goodIn_ca (goodIn_r _ [11, 1, 2, 4, 12, 13, 14, 15, 16, 17, 124, 125, 126, 127, 128, 129, 130, 131, 132, 133, 134, 135, 136, 137, 138, 139, 140, 148, 149, 150, 151, 152, 153, 154, 155, 156] (by decide +kernel) (by decide +kernel)) (goodIn_sub (fun _ h => List.mem_cons_of_mem _ (List.mem_append_right _ h)) (by decide +kernel))
set_option maxRecDepth 20000 in
theorem gX12_rests_X12_needOwner : GoodIn wsX12_rests (wsV RX12 168 RX12 yX12_needOwner wsX12_needOwner) := goodIn_app (goodIn_of _ (by decide +kernel)) ggX12_rests_X12_needOwner
set_option maxRecDepth 20000 in
theorem ggX12_rests_X6_fill : GoodIn wsX12_rests wsX6_fill := goodIn_r _ [22, 23, 24, 25, 26, 27, 28, 29, 30, 31, 32, 33, 34, 35, 36, 37, 38, 39, 40, 41, 42, 43, 44, 45, 46, 47, 48, 49, 50, 51, 52, 53, 54, 21, 55, 56, 57, 58, 59, 60, 157, 158, 148, 149, 150, 151, 152, 153, 154, 155, 156, 159, 160, 161, 162, 163, 164] (by decide +kernel) (by decide +kernel)
set_option maxRecDepth 20000 in
theorem gX12_rests_X6_fill : GoodIn wsX12_rests (wsV RX12 233 RX6 yX6_fill wsX6_fill) := goodIn_app (goodIn_of _ (by decide +kernel)) ggX12_rests_X6_fill
set_option maxRecDepth 20000 in
theorem ggX12_rests_X5_play : GoodIn wsX12_rests wsX5_play := goodIn_r _ [65, 66, 67, 68, 69, 70, 71, 72, 73, 74, 75, 64, 76, 77, 78, 79, 80, 81, 82, 83, 84, 85, 86, 87, 88, 15, 89, 90, 91, 92, 93, 94, 95, 13, 14, 16, 17, 96, 97, 98, 99, 100, 101, 102, 103, 104, 105, 106, 107, 108, 109, 110, 21, 111, 25, 112, 113, 114, 115, 116, 117, 118, 119, 141, 142, 143, 144, 145, 146, 147, 148, 149, 150, 151, 152, 153, 154, 155, 156, 157, 158] (by decide +kernel) (by decide +kernel)
set_option maxRecDepth 20000 in
theorem gX12_rests_X5_play : GoodIn wsX12_rests (wsV RX12 240 RX5 yX5_play wsX5_play) := goodIn_app (goodIn_of _ (by decide +kernel)) ggX12_rests_X5_play
set_option maxRecDepth 20000 in
theorem ggX12_rests_X5_firstOf : GoodIn wsX12_rests wsX5_firstOf := goodIn_r _ [123, 68, 141, 142, 143, 144, 145, 146, 147] (by decide +kernel) (by decide +kernel)
set_option maxRecDepth 20000 in
theorem gX12_rests_X5_firstOf : GoodIn wsX12_rests (wsV RX12 249 RX5 yX5_firstOf wsX5_firstOf) := goodIn_app (goodIn_of _ (by decide +kernel)) ggX12_rests_X5_firstOf
theorem dX12_rests_0 : decode cX12_rests 0 = .ok (.iload_n 1, 1) := by decide +kernel
theorem dX12_rests_1 : decode cX12_rests 1 = .ok (.iconst (-1), 1) := by decide +kernel
theorem dX12_rests_2 : decode cX12_rests 2 = .ok (.if_icmp .eq 8, 3) := by decide +kernel
theorem dX12_rests_5 : decode cX12_rests 5 = .ok (.aload_n 0, 1) := by decide +kernel
theorem dX12_rests_6 : decode cX12_rests 6 = .ok (.iload_n 1, 1) := by decide +kernel
theorem dX12_rests_7 : decode cX12_rests 7 = .ok (.invokevirtual 168, 3) := by decide +kernel
theorem dX12_rests_10 : decode cX12_rests 10 = .ok (.aload_n 0, 1) := by decide +kernel
theorem dX12_rests_11 : decode cX12_rests 11 = .ok (.getfield 58, 3) := by decide +kernel
theorem dX12_rests_14 : decode cX12_rests 14 = .ok (.aload_n 0, 1) := by decide +kernel
theorem dX12_rests_15 : decode cX12_rests 15 = .ok (.getfield 20, 3) := by decide +kernel
theorem dX12_rests_18 : decode cX12_rests 18 = .ok (.invokevirtual 233, 3) := by decide +kernel
theorem dX12_rests_21 : decode cX12_rests 21 = .ok (.aload_n 0, 1) := by decide +kernel
theorem dX12_rests_22 : decode cX12_rests 22 = .ok (.getfield 65, 3) := by decide +kernel
theorem dX12_rests_25 : decode cX12_rests 25 = .ok (.aload_n 0, 1) := by decide +kernel
theorem dX12_rests_26 : decode cX12_rests 26 = .ok (.getfield 20, 3) := by decide +kernel
theorem dX12_rests_29 : decode cX12_rests 29 = .ok (.aload_n 0, 1) := by decide +kernel
theorem dX12_rests_30 : decode cX12_rests 30 = .ok (.getfield 58, 3) := by decide +kernel
theorem dX12_rests_33 : decode cX12_rests 33 = .ok (.invokevirtual 240, 3) := by decide +kernel
theorem dX12_rests_36 : decode cX12_rests 36 = .ok (.iload_n 1, 1) := by decide +kernel
theorem dX12_rests_37 : decode cX12_rests 37 = .ok (.iconst (-1), 1) := by decide +kernel
theorem dX12_rests_38 : decode cX12_rests 38 = .ok (.if_icmp .ne 11, 3) := by decide +kernel
theorem dX12_rests_41 : decode cX12_rests 41 = .ok (.aload_n 0, 1) := by decide +kernel
theorem dX12_rests_42 : decode cX12_rests 42 = .ok (.getfield 65, 3) := by decide +kernel
theorem dX12_rests_45 : decode cX12_rests 45 = .ok (.getfield 244, 3) := by decide +kernel
theorem dX12_rests_48 : decode cX12_rests 48 = .ok (.ireturn, 1) := by decide +kernel
theorem dX12_rests_49 : decode cX12_rests 49 = .ok (.aload_n 0, 1) := by decide +kernel
theorem dX12_rests_50 : decode cX12_rests 50 = .ok (.getfield 65, 3) := by decide +kernel
theorem dX12_rests_53 : decode cX12_rests 53 = .ok (.getfield 244, 3) := by decide +kernel
theorem dX12_rests_56 : decode cX12_rests 56 = .ok (.ifCond .ne 13, 3) := by decide +kernel
theorem dX12_rests_59 : decode cX12_rests 59 = .ok (.new 161, 3) := by decide +kernel
theorem dX12_rests_62 : decode cX12_rests 62 = .ok (.dup, 1) := by decide +kernel
theorem dX12_rests_63 : decode cX12_rests 63 = .ok (.ldc 247, 2) := by decide +kernel
theorem dX12_rests_65 : decode cX12_rests 65 = .ok (.invokespecial 165, 3) := by decide +kernel
theorem dX12_rests_68 : decode cX12_rests 68 = .ok (.athrow, 1) := by decide +kernel
theorem dX12_rests_69 : decode cX12_rests 69 = .ok (.aload_n 0, 1) := by decide +kernel
theorem dX12_rests_70 : decode cX12_rests 70 = .ok (.getfield 65, 3) := by decide +kernel
theorem dX12_rests_73 : decode cX12_rests 73 = .ok (.iload_n 1, 1) := by decide +kernel
theorem dX12_rests_74 : decode cX12_rests 74 = .ok (.invokevirtual 249, 3) := by decide +kernel
theorem dX12_rests_77 : decode cX12_rests 77 = .ok (.ireturn, 1) := by decide +kernel
set_option maxRecDepth 20000 in
theorem ggX12_alike_X12_leastBase : GoodIn wsX12_alike wsX12_leastBase := goodIn_r _ [6] (by decide +kernel) (by decide +kernel)
set_option maxRecDepth 20000 in
theorem gX12_alike_X12_leastBase : GoodIn wsX12_alike (va_wsS RX12 259 yX12_leastBase wsX12_leastBase) := goodIn_app (goodIn_of _ (by decide +kernel)) ggX12_alike_X12_leastBase
set_option maxRecDepth 20000 in
theorem ggX12_alike_J6_bitCount_0f7a4 : GoodIn wsX12_alike wsJ6_bitCount_0f7a4 := goodIn_r _ [10, 11, 12, 13] (by decide +kernel) (by decide +kernel)
set_option maxRecDepth 20000 in
theorem gX12_alike_J6_bitCount_0f7a4 : GoodIn wsX12_alike (va_wsS RX12 262 yJ6_bitCount_0f7a4 wsJ6_bitCount_0f7a4) := goodIn_app (goodIn_of _ (by decide +kernel)) ggX12_alike_J6_bitCount_0f7a4
set_option maxRecDepth 20000 in
theorem ggX12_alike_X12_power : GoodIn wsX12_alike wsX12_power := goodIn_r _ [16] (by decide +kernel) (by decide +kernel)
set_option maxRecDepth 20000 in
theorem gX12_alike_X12_power : GoodIn wsX12_alike (va_wsS RX12 267 yX12_power wsX12_power) := goodIn_app (goodIn_of _ (by decide +kernel)) ggX12_alike_X12_power
set_option maxRecDepth 20000 in
theorem ggX12_alike_X12_dividedUp : GoodIn wsX12_alike wsX12_dividedUp := goodIn_r _ [19] (by decide +kernel) (by decide +kernel)
set_option maxRecDepth 20000 in
theorem gX12_alike_X12_dividedUp : GoodIn wsX12_alike (va_wsS RX12 270 yX12_dividedUp wsX12_dividedUp) := goodIn_app (goodIn_of _ (by decide +kernel)) ggX12_alike_X12_dividedUp
theorem dX12_alike_0 : decode cX12_alike 0 = .ok (.iload_n 1, 1) := by decide +kernel
theorem dX12_alike_1 : decode cX12_alike 1 = .ok (.iconst 1, 1) := by decide +kernel
theorem dX12_alike_2 : decode cX12_alike 2 = .ok (.if_icmp .lt 10, 3) := by decide +kernel
theorem dX12_alike_5 : decode cX12_alike 5 = .ok (.iload_n 1, 1) := by decide +kernel
theorem dX12_alike_6 : decode cX12_alike 6 = .ok (.sipush 9999, 3) := by decide +kernel
theorem dX12_alike_9 : decode cX12_alike 9 = .ok (.if_icmp .le 13, 3) := by decide +kernel
theorem dX12_alike_12 : decode cX12_alike 12 = .ok (.new 252, 3) := by decide +kernel
theorem dX12_alike_15 : decode cX12_alike 15 = .ok (.dup, 1) := by decide +kernel
theorem dX12_alike_16 : decode cX12_alike 16 = .ok (.ldc 254, 2) := by decide +kernel
theorem dX12_alike_18 : decode cX12_alike 18 = .ok (.invokespecial 256, 3) := by decide +kernel
theorem dX12_alike_21 : decode cX12_alike 21 = .ok (.athrow, 1) := by decide +kernel
theorem dX12_alike_22 : decode cX12_alike 22 = .ok (.iload_n 2, 1) := by decide +kernel
theorem dX12_alike_23 : decode cX12_alike 23 = .ok (.ifCond .le 10, 3) := by decide +kernel
theorem dX12_alike_26 : decode cX12_alike 26 = .ok (.iload_n 2, 1) := by decide +kernel
theorem dX12_alike_27 : decode cX12_alike 27 = .ok (.bipush 30, 2) := by decide +kernel
theorem dX12_alike_29 : decode cX12_alike 29 = .ok (.ishr, 1) := by decide +kernel
theorem dX12_alike_30 : decode cX12_alike 30 = .ok (.ifCond .eq 14, 3) := by decide +kernel
theorem dX12_alike_33 : decode cX12_alike 33 = .ok (.new 252, 3) := by decide +kernel
theorem dX12_alike_36 : decode cX12_alike 36 = .ok (.dup, 1) := by decide +kernel
theorem dX12_alike_37 : decode cX12_alike 37 = .ok (.ldc_w 257, 3) := by decide +kernel
theorem dX12_alike_40 : decode cX12_alike 40 = .ok (.invokespecial 256, 3) := by decide +kernel
theorem dX12_alike_43 : decode cX12_alike 43 = .ok (.athrow, 1) := by decide +kernel
theorem dX12_alike_44 : decode cX12_alike 44 = .ok (.iload_n 2, 1) := by decide +kernel
theorem dX12_alike_45 : decode cX12_alike 45 = .ok (.invokestatic 259, 3) := by decide +kernel
theorem dX12_alike_48 : decode cX12_alike 48 = .ok (.istore_n 3, 1) := by decide +kernel
theorem dX12_alike_49 : decode cX12_alike 49 = .ok (.iload_n 2, 1) := by decide +kernel
theorem dX12_alike_50 : decode cX12_alike 50 = .ok (.invokestatic 262, 3) := by decide +kernel
theorem dX12_alike_53 : decode cX12_alike 53 = .ok (.iconst 1, 1) := by decide +kernel
theorem dX12_alike_54 : decode cX12_alike 54 = .ok (.if_icmp .ne 7, 3) := by decide +kernel
theorem dX12_alike_57 : decode cX12_alike 57 = .ok (.iconst 5, 1) := by decide +kernel
theorem dX12_alike_58 : decode cX12_alike 58 = .ok (.goto 4, 3) := by decide +kernel
theorem dX12_alike_61 : decode cX12_alike 61 = .ok (.iconst 1, 1) := by decide +kernel
theorem dX12_alike_62 : decode cX12_alike 62 = .ok (.istore 4, 2) := by decide +kernel
theorem dX12_alike_64 : decode cX12_alike 64 = .ok (.iload_n 1, 1) := by decide +kernel
theorem dX12_alike_65 : decode cX12_alike 65 = .ok (.iload_n 3, 1) := by decide +kernel
theorem dX12_alike_66 : decode cX12_alike 66 = .ok (.iload 4, 2) := by decide +kernel
theorem dX12_alike_68 : decode cX12_alike 68 = .ok (.invokestatic 267, 3) := by decide +kernel
theorem dX12_alike_71 : decode cX12_alike 71 = .ok (.iconst 1, 1) := by decide +kernel
theorem dX12_alike_72 : decode cX12_alike 72 = .ok (.isub, 1) := by decide +kernel
theorem dX12_alike_73 : decode cX12_alike 73 = .ok (.invokestatic 270, 3) := by decide +kernel
theorem dX12_alike_76 : decode cX12_alike 76 = .ok (.ireturn, 1) := by decide +kernel
theorem dX12_leastBase_0 : decode cX12_leastBase 0 = .ok (.iconst 0, 1) := by decide +kernel
theorem dX12_leastBase_1 : decode cX12_leastBase 1 = .ok (.istore_n 1, 1) := by decide +kernel
theorem dX12_leastBase_2 : decode cX12_leastBase 2 = .ok (.iload_n 1, 1) := by decide +kernel
theorem dX12_leastBase_3 : decode cX12_leastBase 3 = .ok (.bipush 30, 2) := by decide +kernel
theorem dX12_leastBase_5 : decode cX12_leastBase 5 = .ok (.if_icmp .ge 21, 3) := by decide +kernel
theorem dX12_leastBase_8 : decode cX12_leastBase 8 = .ok (.iload_n 0, 1) := by decide +kernel
theorem dX12_leastBase_9 : decode cX12_leastBase 9 = .ok (.iload_n 1, 1) := by decide +kernel
theorem dX12_leastBase_10 : decode cX12_leastBase 10 = .ok (.ishr, 1) := by decide +kernel
theorem dX12_leastBase_11 : decode cX12_leastBase 11 = .ok (.iconst 1, 1) := by decide +kernel
theorem dX12_leastBase_12 : decode cX12_leastBase 12 = .ok (.iand, 1) := by decide +kernel
theorem dX12_leastBase_13 : decode cX12_leastBase 13 = .ok (.ifCond .eq 7, 3) := by decide +kernel
theorem dX12_leastBase_16 : decode cX12_leastBase 16 = .ok (.iload_n 1, 1) := by decide +kernel
theorem dX12_leastBase_17 : decode cX12_leastBase 17 = .ok (.iconst 2, 1) := by decide +kernel
theorem dX12_leastBase_18 : decode cX12_leastBase 18 = .ok (.iadd, 1) := by decide +kernel
theorem dX12_leastBase_19 : decode cX12_leastBase 19 = .ok (.ireturn, 1) := by decide +kernel
theorem dX12_leastBase_20 : decode cX12_leastBase 20 = .ok (.iinc 1 1, 3) := by decide +kernel
theorem dX12_leastBase_23 : decode cX12_leastBase 23 = .ok (.goto (-21), 3) := by decide +kernel
theorem dX12_leastBase_26 : decode cX12_leastBase 26 = .ok (.iconst (-1), 1) := by decide +kernel
theorem dX12_leastBase_27 : decode cX12_leastBase 27 = .ok (.ireturn, 1) := by decide +kernel
theorem dX12_power_0 : decode cX12_power 0 = .ok (.iconst 1, 1) := by decide +kernel
theorem dX12_power_1 : decode cX12_power 1 = .ok (.istore_n 2, 1) := by decide +kernel
theorem dX12_power_2 : decode cX12_power 2 = .ok (.iconst 0, 1) := by decide +kernel
theorem dX12_power_3 : decode cX12_power 3 = .ok (.istore_n 3, 1) := by decide +kernel
theorem dX12_power_4 : decode cX12_power 4 = .ok (.iload_n 3, 1) := by decide +kernel
theorem dX12_power_5 : decode cX12_power 5 = .ok (.iload_n 1, 1) := by decide +kernel
theorem dX12_power_6 : decode cX12_power 6 = .ok (.if_icmp .ge 13, 3) := by decide +kernel
theorem dX12_power_9 : decode cX12_power 9 = .ok (.iload_n 2, 1) := by decide +kernel
theorem dX12_power_10 : decode cX12_power 10 = .ok (.iload_n 0, 1) := by decide +kernel
theorem dX12_power_11 : decode cX12_power 11 = .ok (.imul, 1) := by decide +kernel
theorem dX12_power_12 : decode cX12_power 12 = .ok (.istore_n 2, 1) := by decide +kernel
theorem dX12_power_13 : decode cX12_power 13 = .ok (.iinc 3 1, 3) := by decide +kernel
theorem dX12_power_16 : decode cX12_power 16 = .ok (.goto (-12), 3) := by decide +kernel
theorem dX12_power_19 : decode cX12_power 19 = .ok (.iload_n 2, 1) := by decide +kernel
theorem dX12_power_20 : decode cX12_power 20 = .ok (.ireturn, 1) := by decide +kernel
theorem dX12_dividedUp_0 : decode cX12_dividedUp 0 = .ok (.iload_n 1, 1) := by decide +kernel
theorem dX12_dividedUp_1 : decode cX12_dividedUp 1 = .ok (.iconst 1, 1) := by decide +kernel
theorem dX12_dividedUp_2 : decode cX12_dividedUp 2 = .ok (.if_icmp .ge 7, 3) := by decide +kernel
theorem dX12_dividedUp_5 : decode cX12_dividedUp 5 = .ok (.iconst 0, 1) := by decide +kernel
theorem dX12_dividedUp_6 : decode cX12_dividedUp 6 = .ok (.goto 10, 3) := by decide +kernel
theorem dX12_dividedUp_9 : decode cX12_dividedUp 9 = .ok (.iload_n 0, 1) := by decide +kernel
theorem dX12_dividedUp_10 : decode cX12_dividedUp 10 = .ok (.iload_n 1, 1) := by decide +kernel
theorem dX12_dividedUp_11 : decode cX12_dividedUp 11 = .ok (.iadd, 1) := by decide +kernel
theorem dX12_dividedUp_12 : decode cX12_dividedUp 12 = .ok (.iconst 1, 1) := by decide +kernel
theorem dX12_dividedUp_13 : decode cX12_dividedUp 13 = .ok (.isub, 1) := by decide +kernel
theorem dX12_dividedUp_14 : decode cX12_dividedUp 14 = .ok (.iload_n 1, 1) := by decide +kernel
theorem dX12_dividedUp_15 : decode cX12_dividedUp 15 = .ok (.idiv, 1) := by decide +kernel
theorem dX12_dividedUp_16 : decode cX12_dividedUp 16 = .ok (.ireturn, 1) := by decide +kernel
set_option maxRecDepth 20000 in
theorem ggX12_hedge_X12_needOwner : GoodIn wsX12_hedge wsX12_needOwner := goodIn_ca (goodIn_r _ [8, 9, 10, 2, 11, 12, 13, 14, 15, 16, 94, 95, 96, 97, 98, 99, 100, 101, 102, 103, 104, 105, 106, 107, 108, 109, 110, 111, 112, 113, 114, 115, 116, 117, 118, 119] (by decide +kernel) (by decide +kernel)) (goodIn_sub (fun _ h => List.mem_cons_of_mem _ (List.mem_append_left _ (List.mem_append_right _ h))) (by decide +kernel))
set_option maxRecDepth 20000 in
theorem gX12_hedge_X12_needOwner : GoodIn wsX12_hedge (wsV RX12 168 RX12 yX12_needOwner wsX12_needOwner) := goodIn_app (goodIn_of _ (by decide +kernel)) ggX12_hedge_X12_needOwner
set_option maxRecDepth 20000 in
theorem ggX12_hedge_X12_needBases : GoodIn wsX12_hedge wsX12_needBases := goodIn_ca (goodIn_r _ [19, 20, 21] (by decide +kernel) (by decide +kernel)) (goodIn_sub (fun _ h => List.mem_cons_of_mem _ (List.mem_append_right _ h)) (by decide +kernel))
set_option maxRecDepth 20000 in
theorem gX12_hedge_X12_needBases : GoodIn wsX12_hedge (va_wsS RX12 230 yX12_needBases wsX12_needBases) := goodIn_app (goodIn_of _ (by decide +kernel)) ggX12_hedge_X12_needBases
set_option maxRecDepth 20000 in
theorem ggX12_hedge_X6_fill : GoodIn wsX12_hedge wsX6_fill := goodIn_r _ [26, 27, 28, 29, 30, 31, 32, 33, 34, 35, 36, 37, 38, 39, 40, 41, 42, 43, 44, 45, 46, 47, 48, 49, 50, 51, 52, 53, 54, 55, 56, 57, 58, 25, 59, 60, 61, 62, 63, 64, 120, 121, 111, 112, 113, 114, 115, 116, 117, 118, 119, 122, 123, 124, 125, 126, 127] (by decide +kernel) (by decide +kernel)
set_option maxRecDepth 20000 in
theorem gX12_hedge_X6_fill : GoodIn wsX12_hedge (wsV RX12 233 RX6 yX6_fill wsX6_fill) := goodIn_app (goodIn_of _ (by decide +kernel)) ggX12_hedge_X6_fill
set_option maxRecDepth 20000 in
theorem ggX12_hedge_X4_bitsWithout : GoodIn wsX12_hedge wsX4_bitsWithout := goodIn_r _ [68, 41, 42, 43, 33, 44, 45, 69, 61, 62, 63, 64, 70, 52, 53, 54, 55, 122, 123, 124, 125, 126, 127] (by decide +kernel) (by decide +kernel)
set_option maxRecDepth 20000 in
theorem gX12_hedge_X4_bitsWithout : GoodIn wsX12_hedge (wsV RX12 273 RX4 yX4_bitsWithout wsX4_bitsWithout) := goodIn_app (goodIn_of _ (by decide +kernel)) ggX12_hedge_X4_bitsWithout
set_option maxRecDepth 20000 in
theorem ggX12_hedge_J6_bitCount_0f7a4 : GoodIn wsX12_hedge wsJ6_bitCount_0f7a4 := goodIn_r _ [74, 75, 76, 77] (by decide +kernel) (by decide +kernel)
set_option maxRecDepth 20000 in
theorem gX12_hedge_J6_bitCount_0f7a4 : GoodIn wsX12_hedge (va_wsS RX12 262 yJ6_bitCount_0f7a4 wsJ6_bitCount_0f7a4) := goodIn_app (goodIn_of _ (by decide +kernel)) ggX12_hedge_J6_bitCount_0f7a4
set_option maxRecDepth 20000 in
theorem ggX12_hedge_X6_standsAlike : GoodIn wsX12_hedge wsX6_standsAlike := goodIn_r _ [81, 82, 83, 84, 25, 85, 86, 87, 88, 89, 27, 90, 91, 92, 93, 29, 120, 121] (by decide +kernel) (by decide +kernel)
set_option maxRecDepth 20000 in
theorem gX12_hedge_X6_standsAlike : GoodIn wsX12_hedge (wsV RX12 276 RX6 yX6_standsAlike wsX6_standsAlike) := goodIn_app (goodIn_of _ (by decide +kernel)) ggX12_hedge_X6_standsAlike
theorem dX12_hedge_0 : decode cX12_hedge 0 = .ok (.aload_n 0, 1) := by decide +kernel
theorem dX12_hedge_1 : decode cX12_hedge 1 = .ok (.iload_n 1, 1) := by decide +kernel
theorem dX12_hedge_2 : decode cX12_hedge 2 = .ok (.invokevirtual 168, 3) := by decide +kernel
theorem dX12_hedge_5 : decode cX12_hedge 5 = .ok (.iload_n 2, 1) := by decide +kernel
theorem dX12_hedge_6 : decode cX12_hedge 6 = .ok (.iload_n 3, 1) := by decide +kernel
theorem dX12_hedge_7 : decode cX12_hedge 7 = .ok (.invokestatic 230, 3) := by decide +kernel
theorem dX12_hedge_10 : decode cX12_hedge 10 = .ok (.aload_n 0, 1) := by decide +kernel
theorem dX12_hedge_11 : decode cX12_hedge 11 = .ok (.getfield 58, 3) := by decide +kernel
theorem dX12_hedge_14 : decode cX12_hedge 14 = .ok (.aload_n 0, 1) := by decide +kernel
theorem dX12_hedge_15 : decode cX12_hedge 15 = .ok (.getfield 20, 3) := by decide +kernel
theorem dX12_hedge_18 : decode cX12_hedge 18 = .ok (.invokevirtual 233, 3) := by decide +kernel
theorem dX12_hedge_21 : decode cX12_hedge 21 = .ok (.aload_n 0, 1) := by decide +kernel
theorem dX12_hedge_22 : decode cX12_hedge 22 = .ok (.getfield 20, 3) := by decide +kernel
theorem dX12_hedge_25 : decode cX12_hedge 25 = .ok (.getfield 130, 3) := by decide +kernel
theorem dX12_hedge_28 : decode cX12_hedge 28 = .ok (.iload_n 1, 1) := by decide +kernel
theorem dX12_hedge_29 : decode cX12_hedge 29 = .ok (.invokevirtual 273, 3) := by decide +kernel
theorem dX12_hedge_32 : decode cX12_hedge 32 = .ok (.istore 5, 2) := by decide +kernel
theorem dX12_hedge_34 : decode cX12_hedge 34 = .ok (.iconst (-1), 1) := by decide +kernel
theorem dX12_hedge_35 : decode cX12_hedge 35 = .ok (.istore 6, 2) := by decide +kernel
theorem dX12_hedge_37 : decode cX12_hedge 37 = .ok (.iconst 0, 1) := by decide +kernel
theorem dX12_hedge_38 : decode cX12_hedge 38 = .ok (.istore 7, 2) := by decide +kernel
theorem dX12_hedge_40 : decode cX12_hedge 40 = .ok (.iload 7, 2) := by decide +kernel
theorem dX12_hedge_42 : decode cX12_hedge 42 = .ok (.sipush 1024, 3) := by decide +kernel
theorem dX12_hedge_45 : decode cX12_hedge 45 = .ok (.if_icmp .ge 71, 3) := by decide +kernel
theorem dX12_hedge_48 : decode cX12_hedge 48 = .ok (.iload 6, 2) := by decide +kernel
theorem dX12_hedge_50 : decode cX12_hedge 50 = .ok (.iconst (-1), 1) := by decide +kernel
theorem dX12_hedge_51 : decode cX12_hedge 51 = .ok (.if_icmp .eq 16, 3) := by decide +kernel
theorem dX12_hedge_54 : decode cX12_hedge 54 = .ok (.iload 7, 2) := by decide +kernel
theorem dX12_hedge_56 : decode cX12_hedge 56 = .ok (.invokestatic 262, 3) := by decide +kernel
theorem dX12_hedge_59 : decode cX12_hedge 59 = .ok (.iload 6, 2) := by decide +kernel
theorem dX12_hedge_61 : decode cX12_hedge 61 = .ok (.invokestatic 262, 3) := by decide +kernel
theorem dX12_hedge_64 : decode cX12_hedge 64 = .ok (.if_icmp .ge 7, 3) := by decide +kernel
theorem dX12_hedge_67 : decode cX12_hedge 67 = .ok (.iconst 1, 1) := by decide +kernel
theorem dX12_hedge_68 : decode cX12_hedge 68 = .ok (.goto 4, 3) := by decide +kernel
theorem dX12_hedge_71 : decode cX12_hedge 71 = .ok (.iconst 0, 1) := by decide +kernel
theorem dX12_hedge_72 : decode cX12_hedge 72 = .ok (.istore 8, 2) := by decide +kernel
theorem dX12_hedge_74 : decode cX12_hedge 74 = .ok (.iload 7, 2) := by decide +kernel
theorem dX12_hedge_76 : decode cX12_hedge 76 = .ok (.iload 5, 2) := by decide +kernel
theorem dX12_hedge_78 : decode cX12_hedge 78 = .ok (.iconst (-1), 1) := by decide +kernel
theorem dX12_hedge_79 : decode cX12_hedge 79 = .ok (.ixor, 1) := by decide +kernel
theorem dX12_hedge_80 : decode cX12_hedge 80 = .ok (.iand, 1) := by decide +kernel
theorem dX12_hedge_81 : decode cX12_hedge 81 = .ok (.ifCond .ne 29, 3) := by decide +kernel
theorem dX12_hedge_84 : decode cX12_hedge 84 = .ok (.iload 8, 2) := by decide +kernel
theorem dX12_hedge_86 : decode cX12_hedge 86 = .ok (.ifCond .eq 24, 3) := by decide +kernel
theorem dX12_hedge_89 : decode cX12_hedge 89 = .ok (.aload_n 0, 1) := by decide +kernel
theorem dX12_hedge_90 : decode cX12_hedge 90 = .ok (.getfield 58, 3) := by decide +kernel
theorem dX12_hedge_93 : decode cX12_hedge 93 = .ok (.iload_n 1, 1) := by decide +kernel
theorem dX12_hedge_94 : decode cX12_hedge 94 = .ok (.iload 7, 2) := by decide +kernel
theorem dX12_hedge_96 : decode cX12_hedge 96 = .ok (.iload 4, 2) := by decide +kernel
theorem dX12_hedge_98 : decode cX12_hedge 98 = .ok (.iload_n 2, 1) := by decide +kernel
theorem dX12_hedge_99 : decode cX12_hedge 99 = .ok (.iload_n 3, 1) := by decide +kernel
theorem dX12_hedge_100 : decode cX12_hedge 100 = .ok (.invokevirtual 276, 3) := by decide +kernel
theorem dX12_hedge_103 : decode cX12_hedge 103 = .ok (.ifCond .eq 7, 3) := by decide +kernel
theorem dX12_hedge_106 : decode cX12_hedge 106 = .ok (.iload 7, 2) := by decide +kernel
theorem dX12_hedge_108 : decode cX12_hedge 108 = .ok (.istore 6, 2) := by decide +kernel
theorem dX12_hedge_110 : decode cX12_hedge 110 = .ok (.iinc 7 1, 3) := by decide +kernel
theorem dX12_hedge_113 : decode cX12_hedge 113 = .ok (.goto (-73), 3) := by decide +kernel
theorem dX12_hedge_116 : decode cX12_hedge 116 = .ok (.iload 6, 2) := by decide +kernel
theorem dX12_hedge_118 : decode cX12_hedge 118 = .ok (.ireturn, 1) := by decide +kernel
set_option maxRecDepth 20000 in
theorem ggX12_safer_X12_needWhat : GoodIn wsX12_safer wsX12_needWhat := goodIn_ca (goodIn_r _ [6, 7, 8] (by decide +kernel) (by decide +kernel)) (goodIn_sub (fun _ h => List.mem_cons_of_mem _ (List.mem_append_left _ (List.mem_append_right _ h))) (by decide +kernel))
set_option maxRecDepth 20000 in
theorem gX12_safer_X12_needWhat : GoodIn wsX12_safer (va_wsS RX12 226 yX12_needWhat wsX12_needWhat) := goodIn_app (goodIn_of _ (by decide +kernel)) ggX12_safer_X12_needWhat
set_option maxRecDepth 20000 in
theorem ggX12_safer_X12_needBases : GoodIn wsX12_safer wsX12_needBases := goodIn_ca (goodIn_r _ [11, 12, 13] (by decide +kernel) (by decide +kernel)) (goodIn_sub (fun _ h => List.mem_cons_of_mem _ (List.mem_append_right _ h)) (by decide +kernel))
set_option maxRecDepth 20000 in
theorem gX12_safer_X12_needBases : GoodIn wsX12_safer (va_wsS RX12 230 yX12_needBases wsX12_needBases) := goodIn_app (goodIn_of _ (by decide +kernel)) ggX12_safer_X12_needBases
set_option maxRecDepth 20000 in
theorem ggX12_safer_X6_fill : GoodIn wsX12_safer wsX6_fill := goodIn_r _ [18, 19, 20, 21, 22, 23, 24, 25, 26, 27, 28, 29, 30, 31, 32, 33, 34, 35, 36, 37, 38, 39, 40, 41, 42, 43, 44, 45, 46, 47, 48, 49, 50, 17, 51, 52, 53, 54, 55, 56, 130, 131, 132, 133, 134, 135, 136, 137, 138, 139, 140, 141, 142, 143, 144, 145, 146] (by decide +kernel) (by decide +kernel)
set_option maxRecDepth 20000 in
theorem gX12_safer_X6_fill : GoodIn wsX12_safer (wsV RX12 233 RX6 yX6_fill wsX6_fill) := goodIn_app (goodIn_of _ (by decide +kernel)) ggX12_safer_X6_fill
set_option maxRecDepth 20000 in
theorem ggX12_safer_X12_saferCouples : GoodIn wsX12_safer wsX12_saferCouples := goodIn_r _ [60, 61, 62, 63, 5, 64, 65, 66, 67, 68, 2, 69, 70, 34, 35, 25, 36, 37, 71, 44, 45, 46, 47, 33, 72, 73, 74, 75, 1, 76, 53, 54, 55, 56, 77, 78, 79, 17, 80, 81, 82, 83, 84, 85, 86, 87, 88, 89, 90, 91, 92, 93, 94, 95, 21, 96, 97, 98, 99, 19, 100, 101, 102, 103, 104, 113, 114, 115, 116, 117, 118, 119, 120, 121, 122, 123, 124, 125, 126, 127, 128, 129, 132, 133, 134, 135, 136, 137, 138, 139, 140, 141, 142, 143, 144, 145, 146, 130, 131] (by decide +kernel) (by decide +kernel)
set_option maxRecDepth 20000 in
theorem gX12_safer_X12_saferCouples : GoodIn wsX12_safer (wsV RX12 280 RX12 yX12_saferCouples wsX12_saferCouples) := goodIn_app (goodIn_of _ (by decide +kernel)) ggX12_safer_X12_saferCouples
set_option maxRecDepth 20000 in
theorem ggX12_safer_X12_saferRings : GoodIn wsX12_safer wsX12_saferRings := goodIn_r _ [108, 109, 110, 111, 5, 112, 65, 66, 67, 68, 2, 69, 70, 34, 35, 25, 36, 37, 71, 44, 45, 46, 47, 33, 72, 73, 74, 75, 1, 76, 53, 54, 55, 56, 77, 78, 79, 17, 80, 81, 82, 83, 84, 85, 86, 87, 88, 89, 90, 91, 92, 93, 94, 95, 21, 96, 97, 98, 99, 19, 100, 101, 102, 103, 104, 113, 114, 115, 116, 117, 118, 119, 120, 121, 122, 123, 124, 125, 126, 127, 128, 129, 132, 133, 134, 135, 136, 137, 138, 139, 140, 141, 142, 143, 144, 145, 146, 130, 131] (by decide +kernel) (by decide +kernel)
set_option maxRecDepth 20000 in
theorem gX12_safer_X12_saferRings : GoodIn wsX12_safer (wsV RX12 284 RX12 yX12_saferRings wsX12_saferRings) := goodIn_app (goodIn_of _ (by decide +kernel)) ggX12_safer_X12_saferRings
