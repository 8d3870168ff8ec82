theorem dX3_init_0 : decode cX3_init 0 = .ok (.aload_n 0, 1) := by decide +kernel
theorem dX3_init_1 : decode cX3_init 1 = .ok (.invokespecial 3, 3) := by decide +kernel
theorem dX3_init_4 : decode cX3_init 4 = .ok (.aload_n 0, 1) := by decide +kernel
theorem dX3_init_5 : decode cX3_init 5 = .ok (.aload_n 1, 1) := by decide +kernel
theorem dX3_init_6 : decode cX3_init 6 = .ok (.putfield 9, 3) := by decide +kernel
theorem dX3_init_9 : decode cX3_init 9 = .ok (.aload_n 0, 1) := by decide +kernel
theorem dX3_init_10 : decode cX3_init 10 = .ok (.getstatic 15, 3) := by decide +kernel
theorem dX3_init_13 : decode cX3_init 13 = .ok (.putfield 21, 3) := by decide +kernel
theorem dX3_init_16 : decode cX3_init 16 = .ok (.return_, 1) := by decide +kernel
set_option maxRecDepth 20000 in
theorem ggX3_readAll_X7_open : GoodIn wsX3_readAll wsX7_open := goodIn_r _ [6, 7, 8, 9, 10, 11, 12, 13, 14, 15, 16, 17, 18, 5, 19, 20, 21, 22, 23, 24, 25, 26, 27, 28, 29, 30, 31, 32, 33, 34, 35, 36, 37, 157, 158, 159, 160, 161, 162, 163, 164, 165, 166] (by decide +kernel) (by decide +kernel)
set_option maxRecDepth 20000 in
theorem gX3_readAll_X7_open : GoodIn wsX3_readAll (wsV RX3 24 RX7 yX7_open wsX7_open) := goodIn_app (goodIn_of _ (by decide +kernel)) ggX3_readAll_X7_open
set_option maxRecDepth 20000 in
theorem ggX3_readAll_X7_hasMore : GoodIn wsX3_readAll wsX7_hasMore := goodIn_r _ [41, 21, 157, 158, 159, 160, 161, 162, 163, 164, 165, 166] (by decide +kernel) (by decide +kernel)
set_option maxRecDepth 20000 in
theorem gX3_readAll_X7_hasMore : GoodIn wsX3_readAll (wsV RX3 30 RX7 yX7_hasMore wsX7_hasMore) := goodIn_app (goodIn_of _ (by decide +kernel)) ggX3_readAll_X7_hasMore
set_option maxRecDepth 20000 in
theorem ggX3_readAll_X3_readDay : GoodIn wsX3_readAll wsX3_readDay := goodIn_r _ [46, 1, 47, 48, 49, 50, 51, 52, 53, 54, 45, 55, 56, 57, 58, 59, 5, 60, 21, 13, 20, 61, 62, 63, 64, 65, 66, 67, 68, 69, 70, 71, 72, 22, 23, 24, 25, 12, 7, 73, 74, 75, 76, 77, 78, 79, 80, 81, 82, 83, 84, 85, 86, 87, 88, 89, 90, 91, 92, 93, 94, 95, 96, 97, 98, 99, 100, 101, 102, 103, 104, 105, 106, 107, 108, 109, 110, 111, 112, 113, 14, 15, 114, 17, 18, 19, 8, 9, 10, 11, 26, 27, 28, 29, 30, 31, 32, 33, 34, 35, 36, 37, 115, 116, 117, 118, 119, 120, 121, 122, 123, 124, 125, 126, 127, 128, 129, 130, 131, 16, 132, 133, 134, 135, 136, 137, 138, 139, 140, 141, 142, 143, 144, 145, 146, 147, 148, 149, 150, 151, 152, 153, 154, 155, 156, 157, 158, 159, 160, 161, 162, 163, 164, 165, 166] (by decide +kernel) (by decide +kernel)
set_option maxRecDepth 20000 in
theorem gX3_readAll_X3_readDay : GoodIn wsX3_readAll (wsV RX3 34 RX3 yX3_readDay wsX3_readDay) := goodIn_app (goodIn_of _ (by decide +kernel)) ggX3_readAll_X3_readDay
theorem dX3_readAll_0 : decode cX3_readAll 0 = .ok (.aload_n 0, 1) := by decide +kernel
theorem dX3_readAll_1 : decode cX3_readAll 1 = .ok (.getfield 9, 3) := by decide +kernel
theorem dX3_readAll_4 : decode cX3_readAll 4 = .ok (.iload_n 1, 1) := by decide +kernel
theorem dX3_readAll_5 : decode cX3_readAll 5 = .ok (.invokevirtual 24, 3) := by decide +kernel
theorem dX3_readAll_8 : decode cX3_readAll 8 = .ok (.iconst 0, 1) := by decide +kernel
theorem dX3_readAll_9 : decode cX3_readAll 9 = .ok (.istore_n 3, 1) := by decide +kernel
theorem dX3_readAll_10 : decode cX3_readAll 10 = .ok (.iload_n 3, 1) := by decide +kernel
theorem dX3_readAll_11 : decode cX3_readAll 11 = .ok (.sipush 600, 3) := by decide +kernel
theorem dX3_readAll_14 : decode cX3_readAll 14 = .ok (.if_icmp .ge 29, 3) := by decide +kernel
theorem dX3_readAll_17 : decode cX3_readAll 17 = .ok (.aload_n 0, 1) := by decide +kernel
theorem dX3_readAll_18 : decode cX3_readAll 18 = .ok (.getfield 9, 3) := by decide +kernel
theorem dX3_readAll_21 : decode cX3_readAll 21 = .ok (.invokevirtual 30, 3) := by decide +kernel
theorem dX3_readAll_24 : decode cX3_readAll 24 = .ok (.ifCond .eq 19, 3) := by decide +kernel
theorem dX3_readAll_27 : decode cX3_readAll 27 = .ok (.aload_n 0, 1) := by decide +kernel
theorem dX3_readAll_28 : decode cX3_readAll 28 = .ok (.iload_n 2, 1) := by decide +kernel
theorem dX3_readAll_29 : decode cX3_readAll 29 = .ok (.invokevirtual 34, 3) := by decide +kernel
theorem dX3_readAll_32 : decode cX3_readAll 32 = .ok (.ifCond .ne 5, 3) := by decide +kernel
theorem dX3_readAll_35 : decode cX3_readAll 35 = .ok (.iconst 0, 1) := by decide +kernel
theorem dX3_readAll_36 : decode cX3_readAll 36 = .ok (.ireturn, 1) := by decide +kernel
theorem dX3_readAll_37 : decode cX3_readAll 37 = .ok (.iinc 3 1, 3) := by decide +kernel
theorem dX3_readAll_40 : decode cX3_readAll 40 = .ok (.goto (-30), 3) := by decide +kernel
theorem dX3_readAll_43 : decode cX3_readAll 43 = .ok (.iconst 1, 1) := by decide +kernel
theorem dX3_readAll_44 : decode cX3_readAll 44 = .ok (.ireturn, 1) := by decide +kernel
set_option maxRecDepth 20000 in
theorem ggX3_doAll_X7_open : GoodIn wsX3_doAll wsX7_open := goodIn_r _ [8, 9, 10, 11, 12, 13, 14, 15, 16, 17, 18, 19, 20, 7, 21, 22, 23, 24, 25, 26, 27, 28, 29, 30, 31, 32, 33, 34, 35, 36, 37, 38, 39, 260, 261, 262, 263, 264, 265, 266, 267, 268, 269] (by decide +kernel) (by decide +kernel)
set_option maxRecDepth 20000 in
theorem gX3_doAll_X7_open : GoodIn wsX3_doAll (wsV RX3 24 RX7 yX7_open wsX7_open) := goodIn_app (goodIn_of _ (by decide +kernel)) ggX3_doAll_X7_open
set_option maxRecDepth 20000 in
theorem ggX3_doAll_X7_hasMore : GoodIn wsX3_doAll wsX7_hasMore := goodIn_r _ [43, 23, 260, 261, 262, 263, 264, 265, 266, 267, 268, 269] (by decide +kernel) (by decide +kernel)
set_option maxRecDepth 20000 in
theorem gX3_doAll_X7_hasMore : GoodIn wsX3_doAll (wsV RX3 30 RX7 yX7_hasMore wsX7_hasMore) := goodIn_app (goodIn_of _ (by decide +kernel)) ggX3_doAll_X7_hasMore
set_option maxRecDepth 20000 in
theorem ggX3_doAll_X3_readDay : GoodIn wsX3_doAll wsX3_readDay := goodIn_r _ [48, 2, 49, 50, 51, 52, 53, 54, 55, 56, 47, 57, 58, 59, 60, 61, 7, 62, 23, 15, 22, 63, 64, 65, 66, 67, 68, 69, 70, 71, 72, 73, 74, 24, 25, 26, 27, 14, 9, 75, 76, 77, 78, 79, 80, 81, 82, 83, 84, 85, 86, 87, 88, 89, 90, 91, 92, 93, 94, 95, 96, 97, 98, 99, 100, 101, 102, 103, 104, 105, 106, 107, 108, 109, 110, 111, 112, 113, 114, 115, 16, 17, 116, 19, 20, 21, 10, 11, 12, 13, 28, 29, 30, 31, 32, 33, 34, 35, 36, 37, 38, 39, 117, 118, 119, 120, 121, 122, 123, 124, 125, 126, 127, 128, 129, 130, 131, 132, 133, 18, 134, 135, 136, 137, 138, 139, 140, 141, 142, 143, 144, 145, 146, 147, 148, 149, 150, 151, 152, 245, 246, 247, 248, 249, 250, 260, 261, 262, 263, 264, 265, 266, 267, 268, 269] (by decide +kernel) (by decide +kernel)
set_option maxRecDepth 20000 in
theorem gX3_doAll_X3_readDay : GoodIn wsX3_doAll (wsV RX3 34 RX3 yX3_readDay wsX3_readDay) := goodIn_app (goodIn_of _ (by decide +kernel)) ggX3_doAll_X3_readDay
set_option maxRecDepth 20000 in
theorem ggX3_doAll_X3_doDay : GoodIn wsX3_doAll wsX3_doDay := goodIn_r _ [156, 157, 49, 122, 138, 123, 158, 2, 159, 160, 161, 162, 163, 164, 165, 166, 167, 168, 169, 170, 171, 172, 173, 174, 175, 176, 177, 178, 179, 180, 181, 182, 183, 184, 185, 186, 187, 188, 189, 190, 191, 192, 193, 194, 195, 196, 197, 198, 199, 200, 201, 202, 203, 204, 205, 206, 207, 208, 209, 210, 211, 212, 213, 214, 215, 216, 217, 218, 219, 220, 221, 222, 223, 224, 225, 226, 227, 228, 229, 230, 231, 232, 233, 234, 235, 236, 237, 238, 239, 7, 240, 148, 147, 24, 25, 26, 27, 14, 9, 31, 32, 33, 241, 242, 243, 244, 245, 246, 247, 248, 249, 250, 251, 252, 253, 254, 255, 256, 257, 258, 259, 270, 271, 272, 273, 274, 275, 260, 261, 262, 263, 264, 265, 266, 267, 268, 269] (by decide +kernel) (by decide +kernel)
set_option maxRecDepth 20000 in
theorem gX3_doAll_X3_doDay : GoodIn wsX3_doAll (wsV RX3 48 RX3 yX3_doDay wsX3_doDay) := goodIn_app (goodIn_of _ (by decide +kernel)) ggX3_doAll_X3_doDay
theorem dX3_doAll_0 : decode cX3_doAll 0 = .ok (.aload_n 0, 1) := by decide +kernel
theorem dX3_doAll_1 : decode cX3_doAll 1 = .ok (.iconst 0, 1) := by decide +kernel
theorem dX3_doAll_2 : decode cX3_doAll 2 = .ok (.putfield 38, 3) := by decide +kernel
theorem dX3_doAll_5 : decode cX3_doAll 5 = .ok (.aload_n 0, 1) := by decide +kernel
theorem dX3_doAll_6 : decode cX3_doAll 6 = .ok (.getfield 9, 3) := by decide +kernel
theorem dX3_doAll_9 : decode cX3_doAll 9 = .ok (.iload_n 1, 1) := by decide +kernel
theorem dX3_doAll_10 : decode cX3_doAll 10 = .ok (.invokevirtual 24, 3) := by decide +kernel
theorem dX3_doAll_13 : decode cX3_doAll 13 = .ok (.iconst 0, 1) := by decide +kernel
theorem dX3_doAll_14 : decode cX3_doAll 14 = .ok (.istore_n 3, 1) := by decide +kernel
theorem dX3_doAll_15 : decode cX3_doAll 15 = .ok (.iload_n 3, 1) := by decide +kernel
theorem dX3_doAll_16 : decode cX3_doAll 16 = .ok (.sipush 600, 3) := by decide +kernel
theorem dX3_doAll_19 : decode cX3_doAll 19 = .ok (.if_icmp .ge 45, 3) := by decide +kernel
theorem dX3_doAll_22 : decode cX3_doAll 22 = .ok (.aload_n 0, 1) := by decide +kernel
theorem dX3_doAll_23 : decode cX3_doAll 23 = .ok (.getfield 9, 3) := by decide +kernel
theorem dX3_doAll_26 : decode cX3_doAll 26 = .ok (.invokevirtual 30, 3) := by decide +kernel
theorem dX3_doAll_29 : decode cX3_doAll 29 = .ok (.ifCond .eq 35, 3) := by decide +kernel
theorem dX3_doAll_32 : decode cX3_doAll 32 = .ok (.aload_n 0, 1) := by decide +kernel
theorem dX3_doAll_33 : decode cX3_doAll 33 = .ok (.aload_n 2, 1) := by decide +kernel
theorem dX3_doAll_34 : decode cX3_doAll 34 = .ok (.getfield 42, 3) := by decide +kernel
theorem dX3_doAll_37 : decode cX3_doAll 37 = .ok (.invokevirtual 34, 3) := by decide +kernel
theorem dX3_doAll_40 : decode cX3_doAll 40 = .ok (.ifCond .eq 24, 3) := by decide +kernel
theorem dX3_doAll_43 : decode cX3_doAll 43 = .ok (.aload_n 0, 1) := by decide +kernel
theorem dX3_doAll_44 : decode cX3_doAll 44 = .ok (.aload_n 2, 1) := by decide +kernel
theorem dX3_doAll_45 : decode cX3_doAll 45 = .ok (.invokevirtual 48, 3) := by decide +kernel
theorem dX3_doAll_48 : decode cX3_doAll 48 = .ok (.ifCond .ne 10, 3) := by decide +kernel
theorem dX3_doAll_51 : decode cX3_doAll 51 = .ok (.aload_n 0, 1) := by decide +kernel
theorem dX3_doAll_52 : decode cX3_doAll 52 = .ok (.iconst 1, 1) := by decide +kernel
theorem dX3_doAll_53 : decode cX3_doAll 53 = .ok (.putfield 38, 3) := by decide +kernel
theorem dX3_doAll_56 : decode cX3_doAll 56 = .ok (.iload_n 3, 1) := by decide +kernel
theorem dX3_doAll_57 : decode cX3_doAll 57 = .ok (.ireturn, 1) := by decide +kernel
theorem dX3_doAll_58 : decode cX3_doAll 58 = .ok (.iinc 3 1, 3) := by decide +kernel
theorem dX3_doAll_61 : decode cX3_doAll 61 = .ok (.goto (-46), 3) := by decide +kernel
theorem dX3_doAll_64 : decode cX3_doAll 64 = .ok (.iload_n 3, 1) := by decide +kernel
theorem dX3_doAll_65 : decode cX3_doAll 65 = .ok (.ireturn, 1) := by decide +kernel
set_option maxRecDepth 20000 in
theorem ggX3_readDay_X3_readKind : GoodIn wsX3_readDay wsX3_readKind := goodIn_r _ [11, 1, 12, 2, 13, 14, 15, 16, 17, 18, 19, 20, 21, 22, 23, 24, 25, 26, 27, 28, 29, 30, 31, 32, 33, 34, 35, 36, 37, 38, 39, 40, 41, 42, 43, 44, 45, 46, 47, 48, 49, 50, 51, 52, 53, 54, 55, 56, 57, 58, 59, 60, 61, 62, 63, 64, 65, 66, 67, 68, 69, 70, 71, 72, 73, 74, 75, 139, 140, 141, 142, 143, 144, 145, 146, 147, 148, 149, 150, 151, 152, 153, 154] (by decide +kernel) (by decide +kernel)
set_option maxRecDepth 20000 in
theorem gX3_readDay_X3_readKind : GoodIn wsX3_readDay (wsV RX3 52 RX3 yX3_readKind wsX3_readKind) := goodIn_app (goodIn_of _ (by decide +kernel)) ggX3_readDay_X3_readKind
set_option maxRecDepth 20000 in
theorem ggX3_readDay_X7_refuse : GoodIn wsX3_readDay wsX7_refuse := goodIn_r _ [79, 80, 20, 81, 145, 146, 147, 148, 149, 150, 151, 152, 153, 154] (by decide +kernel) (by decide +kernel)
set_option maxRecDepth 20000 in
theorem gX3_readDay_X7_refuse : GoodIn wsX3_readDay (wsV RX3 55 RX7 yX7_refuse wsX7_refuse) := goodIn_app (goodIn_of _ (by decide +kernel)) ggX3_readDay_X7_refuse
set_option maxRecDepth 20000 in
theorem ggX3_readDay_X7_step : GoodIn wsX3_readDay wsX7_step := goodIn_r _ [85, 19, 20, 37, 86, 87, 88, 89, 18, 33, 34, 35, 16, 36, 38, 90, 91, 92, 93, 94, 95, 96, 97, 98, 99, 100, 101, 145, 146, 147, 148, 149, 150, 151, 152, 153, 154] (by decide +kernel) (by decide +kernel)
set_option maxRecDepth 20000 in
theorem gX3_readDay_X7_step : GoodIn wsX3_readDay (wsV RX3 58 RX7 yX7_step wsX7_step) := goodIn_app (goodIn_of _ (by decide +kernel)) ggX3_readDay_X7_step
set_option maxRecDepth 20000 in
theorem ggX3_readDay_X3_readAllOf : GoodIn wsX3_readDay wsX3_readAllOf := goodIn_r _ [105, 1, 106, 107, 108, 109, 110, 111, 16, 112, 113, 114, 115, 116, 117, 18, 19, 20, 118, 77, 78, 79, 80, 81, 33, 34, 35, 36, 37, 38, 119, 83, 84, 85, 86, 87, 88, 89, 90, 91, 92, 93, 94, 95, 96, 97, 98, 99, 100, 101, 139, 140, 141, 142, 143, 144, 145, 146, 147, 148, 149, 150, 151, 152, 153, 154] (by decide +kernel) (by decide +kernel)
set_option maxRecDepth 20000 in
theorem gX3_readDay_X3_readAllOf : GoodIn wsX3_readDay (wsV RX3 62 RX3 yX3_readAllOf wsX3_readAllOf) := goodIn_app (goodIn_of _ (by decide +kernel)) ggX3_readDay_X3_readAllOf
set_option maxRecDepth 20000 in
theorem ggX3_readDay_X3_readAmount : GoodIn wsX3_readDay wsX3_readAmount := goodIn_r _ [123, 1, 2, 5, 106, 124, 125, 126, 127, 16, 128, 113, 114, 115, 116, 117, 18, 19, 20, 118, 77, 78, 79, 80, 81, 33, 34, 35, 36, 37, 38, 119, 83, 84, 85, 86, 87, 88, 89, 90, 91, 92, 93, 94, 95, 96, 97, 98, 99, 100, 101, 139, 140, 141, 142, 143, 144, 145, 146, 147, 148, 149, 150, 151, 152, 153, 154] (by decide +kernel) (by decide +kernel)
set_option maxRecDepth 20000 in
theorem gX3_readDay_X3_readAmount : GoodIn wsX3_readDay (wsV RX3 72 RX3 yX3_readAmount wsX3_readAmount) := goodIn_app (goodIn_of _ (by decide +kernel)) ggX3_readDay_X3_readAmount
set_option maxRecDepth 20000 in
theorem ggX3_readDay_X7_takeRow : GoodIn wsX3_readDay wsX7_takeRow := goodIn_r _ [132, 18, 19, 20, 133, 134, 118, 77, 78, 16, 79, 80, 81, 119, 83, 84, 85, 37, 86, 87, 88, 89, 33, 34, 35, 36, 38, 90, 91, 92, 93, 94, 95, 96, 97, 98, 99, 100, 101, 145, 146, 147, 148, 149, 150, 151, 152, 153, 154] (by decide +kernel) (by decide +kernel)
set_option maxRecDepth 20000 in
theorem gX3_readDay_X7_takeRow : GoodIn wsX3_readDay (wsV RX3 78 RX7 yX7_takeRow wsX7_takeRow) := goodIn_app (goodIn_of _ (by decide +kernel)) ggX3_readDay_X7_takeRow
set_option maxRecDepth 20000 in
theorem ggX3_readDay_X7_takeStop : GoodIn wsX3_readDay wsX7_takeStop := goodIn_r _ [138, 18, 118, 77, 78, 16, 79, 80, 20, 81, 119, 83, 84, 85, 19, 37, 86, 87, 88, 89, 33, 34, 35, 36, 38, 90, 91, 92, 93, 94, 95, 96, 97, 98, 99, 100, 101, 145, 146, 147, 148, 149, 150, 151, 152, 153, 154] (by decide +kernel) (by decide +kernel)
set_option maxRecDepth 20000 in
theorem gX3_readDay_X7_takeStop : GoodIn wsX3_readDay (wsV RX3 81 RX7 yX7_takeStop wsX7_takeStop) := goodIn_app (goodIn_of _ (by decide +kernel)) ggX3_readDay_X7_takeStop
theorem dX3_readDay_0 : decode cX3_readDay 0 = .ok (.aload_n 0, 1) := by decide +kernel
theorem dX3_readDay_1 : decode cX3_readDay 1 = .ok (.invokevirtual 52, 3) := by decide +kernel
theorem dX3_readDay_4 : decode cX3_readDay 4 = .ok (.ifCond .ne 12, 3) := by decide +kernel
theorem dX3_readDay_7 : decode cX3_readDay 7 = .ok (.aload_n 0, 1) := by decide +kernel
theorem dX3_readDay_8 : decode cX3_readDay 8 = .ok (.getfield 9, 3) := by decide +kernel
theorem dX3_readDay_11 : decode cX3_readDay 11 = .ok (.iconst 1, 1) := by decide +kernel
theorem dX3_readDay_12 : decode cX3_readDay 12 = .ok (.invokevirtual 55, 3) := by decide +kernel
theorem dX3_readDay_15 : decode cX3_readDay 15 = .ok (.ireturn, 1) := by decide +kernel
theorem dX3_readDay_16 : decode cX3_readDay 16 = .ok (.aload_n 0, 1) := by decide +kernel
theorem dX3_readDay_17 : decode cX3_readDay 17 = .ok (.getfield 9, 3) := by decide +kernel
theorem dX3_readDay_20 : decode cX3_readDay 20 = .ok (.invokevirtual 58, 3) := by decide +kernel
theorem dX3_readDay_23 : decode cX3_readDay 23 = .ok (.aload_n 0, 1) := by decide +kernel
theorem dX3_readDay_24 : decode cX3_readDay 24 = .ok (.aload_n 0, 1) := by decide +kernel
theorem dX3_readDay_25 : decode cX3_readDay 25 = .ok (.getfield 21, 3) := by decide +kernel
theorem dX3_readDay_28 : decode cX3_readDay 28 = .ok (.getfield 61, 3) := by decide +kernel
theorem dX3_readDay_31 : decode cX3_readDay 31 = .ok (.iload_n 1, 1) := by decide +kernel
theorem dX3_readDay_32 : decode cX3_readDay 32 = .ok (.invokevirtual 62, 3) := by decide +kernel
theorem dX3_readDay_35 : decode cX3_readDay 35 = .ok (.ifCond .eq 71, 3) := by decide +kernel
theorem dX3_readDay_38 : decode cX3_readDay 38 = .ok (.aload_n 0, 1) := by decide +kernel
theorem dX3_readDay_39 : decode cX3_readDay 39 = .ok (.aload_n 0, 1) := by decide +kernel
theorem dX3_readDay_40 : decode cX3_readDay 40 = .ok (.getfield 21, 3) := by decide +kernel
theorem dX3_readDay_43 : decode cX3_readDay 43 = .ok (.getfield 66, 3) := by decide +kernel
theorem dX3_readDay_46 : decode cX3_readDay 46 = .ok (.bipush 10, 2) := by decide +kernel
theorem dX3_readDay_48 : decode cX3_readDay 48 = .ok (.invokevirtual 62, 3) := by decide +kernel
theorem dX3_readDay_51 : decode cX3_readDay 51 = .ok (.ifCond .eq 55, 3) := by decide +kernel
theorem dX3_readDay_54 : decode cX3_readDay 54 = .ok (.aload_n 0, 1) := by decide +kernel
theorem dX3_readDay_55 : decode cX3_readDay 55 = .ok (.getfield 21, 3) := by decide +kernel
theorem dX3_readDay_58 : decode cX3_readDay 58 = .ok (.getfield 69, 3) := by decide +kernel
theorem dX3_readDay_61 : decode cX3_readDay 61 = .ok (.iconst (-1), 1) := by decide +kernel
theorem dX3_readDay_62 : decode cX3_readDay 62 = .ok (.if_icmp .eq 10, 3) := by decide +kernel
theorem dX3_readDay_65 : decode cX3_readDay 65 = .ok (.aload_n 0, 1) := by decide +kernel
theorem dX3_readDay_66 : decode cX3_readDay 66 = .ok (.invokevirtual 72, 3) := by decide +kernel
theorem dX3_readDay_69 : decode cX3_readDay 69 = .ok (.ifCond .eq 37, 3) := by decide +kernel
theorem dX3_readDay_72 : decode cX3_readDay 72 = .ok (.aload_n 0, 1) := by decide +kernel
theorem dX3_readDay_73 : decode cX3_readDay 73 = .ok (.getfield 21, 3) := by decide +kernel
theorem dX3_readDay_76 : decode cX3_readDay 76 = .ok (.getfield 75, 3) := by decide +kernel
theorem dX3_readDay_79 : decode cX3_readDay 79 = .ok (.ifCond .eq 13, 3) := by decide +kernel
theorem dX3_readDay_82 : decode cX3_readDay 82 = .ok (.aload_n 0, 1) := by decide +kernel
theorem dX3_readDay_83 : decode cX3_readDay 83 = .ok (.getfield 9, 3) := by decide +kernel
theorem dX3_readDay_86 : decode cX3_readDay 86 = .ok (.invokevirtual 78, 3) := by decide +kernel
theorem dX3_readDay_89 : decode cX3_readDay 89 = .ok (.ifCond .eq 17, 3) := by decide +kernel
theorem dX3_readDay_92 : decode cX3_readDay 92 = .ok (.aload_n 0, 1) := by decide +kernel
theorem dX3_readDay_93 : decode cX3_readDay 93 = .ok (.getfield 9, 3) := by decide +kernel
theorem dX3_readDay_96 : decode cX3_readDay 96 = .ok (.invokevirtual 81, 3) := by decide +kernel
theorem dX3_readDay_99 : decode cX3_readDay 99 = .ok (.ifCond .eq 7, 3) := by decide +kernel
theorem dX3_readDay_102 : decode cX3_readDay 102 = .ok (.iconst 1, 1) := by decide +kernel
theorem dX3_readDay_103 : decode cX3_readDay 103 = .ok (.goto 4, 3) := by decide +kernel
theorem dX3_readDay_106 : decode cX3_readDay 106 = .ok (.iconst 0, 1) := by decide +kernel
theorem dX3_readDay_107 : decode cX3_readDay 107 = .ok (.ireturn, 1) := by decide +kernel
set_option maxRecDepth 20000 in
theorem ggX3_readKind_X7_isWord : GoodIn wsX3_readKind wsX7_isWord := goodIn_r _ [8, 9, 10, 11, 12, 13, 14, 15, 16, 17, 18, 19, 20, 21, 22, 23, 24, 25, 26, 7, 27, 28, 29, 30, 31, 32, 33, 34, 35, 36, 37, 38, 39, 40, 41, 42, 43, 44, 45, 46, 47, 48, 49, 50, 51, 52, 53, 54, 55, 56, 57, 58, 59, 60, 61, 62, 63, 64, 65, 66, 73, 74, 75, 76, 77, 78, 79, 80, 81, 82] (by decide +kernel) (by decide +kernel)
set_option maxRecDepth 20000 in
theorem gX3_readKind_X7_isWord : GoodIn wsX3_readKind (wsV RX3 92 RX7 yX7_isWord wsX7_isWord) := goodIn_app (goodIn_of _ (by decide +kernel)) ggX3_readKind_X7_isWord
theorem dX3_readKind_0 : decode cX3_readKind 0 = .ok (.iconst 0, 1) := by decide +kernel
theorem dX3_readKind_1 : decode cX3_readKind 1 = .ok (.istore_n 1, 1) := by decide +kernel
theorem dX3_readKind_2 : decode cX3_readKind 2 = .ok (.iload_n 1, 1) := by decide +kernel
theorem dX3_readKind_3 : decode cX3_readKind 3 = .ok (.getstatic 84, 3) := by decide +kernel
theorem dX3_readKind_6 : decode cX3_readKind 6 = .ok (.arraylength, 1) := by decide +kernel
theorem dX3_readKind_7 : decode cX3_readKind 7 = .ok (.if_icmp .ge 38, 3) := by decide +kernel
theorem dX3_readKind_10 : decode cX3_readKind 10 = .ok (.aload_n 0, 1) := by decide +kernel
theorem dX3_readKind_11 : decode cX3_readKind 11 = .ok (.getfield 9, 3) := by decide +kernel
theorem dX3_readKind_14 : decode cX3_readKind 14 = .ok (.getstatic 84, 3) := by decide +kernel
theorem dX3_readKind_17 : decode cX3_readKind 17 = .ok (.iload_n 1, 1) := by decide +kernel
theorem dX3_readKind_18 : decode cX3_readKind 18 = .ok (.aaload, 1) := by decide +kernel
theorem dX3_readKind_19 : decode cX3_readKind 19 = .ok (.getfield 88, 3) := by decide +kernel
theorem dX3_readKind_22 : decode cX3_readKind 22 = .ok (.invokevirtual 92, 3) := by decide +kernel
theorem dX3_readKind_25 : decode cX3_readKind 25 = .ok (.ifCond .eq 14, 3) := by decide +kernel
theorem dX3_readKind_28 : decode cX3_readKind 28 = .ok (.aload_n 0, 1) := by decide +kernel
theorem dX3_readKind_29 : decode cX3_readKind 29 = .ok (.getstatic 84, 3) := by decide +kernel
theorem dX3_readKind_32 : decode cX3_readKind 32 = .ok (.iload_n 1, 1) := by decide +kernel
theorem dX3_readKind_33 : decode cX3_readKind 33 = .ok (.aaload, 1) := by decide +kernel
theorem dX3_readKind_34 : decode cX3_readKind 34 = .ok (.putfield 21, 3) := by decide +kernel
theorem dX3_readKind_37 : decode cX3_readKind 37 = .ok (.iconst 1, 1) := by decide +kernel
theorem dX3_readKind_38 : decode cX3_readKind 38 = .ok (.ireturn, 1) := by decide +kernel
theorem dX3_readKind_39 : decode cX3_readKind 39 = .ok (.iinc 1 1, 3) := by decide +kernel
theorem dX3_readKind_42 : decode cX3_readKind 42 = .ok (.goto (-40), 3) := by decide +kernel
theorem dX3_readKind_45 : decode cX3_readKind 45 = .ok (.iconst 0, 1) := by decide +kernel
theorem dX3_readKind_46 : decode cX3_readKind 46 = .ok (.ireturn, 1) := by decide +kernel
set_option maxRecDepth 20000 in
theorem ggX3_readAllOf_X7_takeOneOf : GoodIn wsX3_readAllOf wsX7_takeOneOf := goodIn_r _ [9, 10, 11, 12, 13, 8, 14, 15, 16, 17, 18, 19, 20, 21, 22, 23, 24, 25, 26, 27, 28, 29, 30, 31, 32, 33, 34, 35, 36, 37, 38, 39, 40, 41, 42, 43, 44, 45, 46, 47, 48, 49, 56, 57, 58, 59, 60, 61, 62, 63, 64, 65] (by decide +kernel) (by decide +kernel)
set_option maxRecDepth 20000 in
theorem gX3_readAllOf_X7_takeOneOf : GoodIn wsX3_readAllOf (wsV RX3 96 RX7 yX7_takeOneOf wsX7_takeOneOf) := goodIn_app (goodIn_of _ (by decide +kernel)) ggX3_readAllOf_X7_takeOneOf
theorem dX3_readAllOf_0 : decode cX3_readAllOf 0 = .ok (.iload_n 1, 1) := by decide +kernel
theorem dX3_readAllOf_1 : decode cX3_readAllOf 1 = .ok (.ifCond .ne 5, 3) := by decide +kernel
theorem dX3_readAllOf_4 : decode cX3_readAllOf 4 = .ok (.iconst 1, 1) := by decide +kernel
theorem dX3_readAllOf_5 : decode cX3_readAllOf 5 = .ok (.ireturn, 1) := by decide +kernel
theorem dX3_readAllOf_6 : decode cX3_readAllOf 6 = .ok (.aload_n 0, 1) := by decide +kernel
theorem dX3_readAllOf_7 : decode cX3_readAllOf 7 = .ok (.getfield 9, 3) := by decide +kernel
theorem dX3_readAllOf_10 : decode cX3_readAllOf 10 = .ok (.iload_n 2, 1) := by decide +kernel
theorem dX3_readAllOf_11 : decode cX3_readAllOf 11 = .ok (.iconst (-1), 1) := by decide +kernel
theorem dX3_readAllOf_12 : decode cX3_readAllOf 12 = .ok (.invokevirtual 96, 3) := by decide +kernel
theorem dX3_readAllOf_15 : decode cX3_readAllOf 15 = .ok (.ifCond .ne 5, 3) := by decide +kernel
theorem dX3_readAllOf_18 : decode cX3_readAllOf 18 = .ok (.iconst 0, 1) := by decide +kernel
theorem dX3_readAllOf_19 : decode cX3_readAllOf 19 = .ok (.ireturn, 1) := by decide +kernel
theorem dX3_readAllOf_20 : decode cX3_readAllOf 20 = .ok (.aload_n 0, 1) := by decide +kernel
theorem dX3_readAllOf_21 : decode cX3_readAllOf 21 = .ok (.aload_n 0, 1) := by decide +kernel
theorem dX3_readAllOf_22 : decode cX3_readAllOf 22 = .ok (.getfield 9, 3) := by decide +kernel
theorem dX3_readAllOf_25 : decode cX3_readAllOf 25 = .ok (.getfield 99, 3) := by decide +kernel
theorem dX3_readAllOf_28 : decode cX3_readAllOf 28 = .ok (.putfield 102, 3) := by decide +kernel
theorem dX3_readAllOf_31 : decode cX3_readAllOf 31 = .ok (.iload_n 1, 1) := by decide +kernel
theorem dX3_readAllOf_32 : decode cX3_readAllOf 32 = .ok (.iconst 1, 1) := by decide +kernel
theorem dX3_readAllOf_33 : decode cX3_readAllOf 33 = .ok (.if_icmp .ne 5, 3) := by decide +kernel
theorem dX3_readAllOf_36 : decode cX3_readAllOf 36 = .ok (.iconst 1, 1) := by decide +kernel
theorem dX3_readAllOf_37 : decode cX3_readAllOf 37 = .ok (.ireturn, 1) := by decide +kernel
theorem dX3_readAllOf_38 : decode cX3_readAllOf 38 = .ok (.aload_n 0, 1) := by decide +kernel
theorem dX3_readAllOf_39 : decode cX3_readAllOf 39 = .ok (.getfield 9, 3) := by decide +kernel
theorem dX3_readAllOf_42 : decode cX3_readAllOf 42 = .ok (.iload_n 2, 1) := by decide +kernel
theorem dX3_readAllOf_43 : decode cX3_readAllOf 43 = .ok (.aload_n 0, 1) := by decide +kernel
theorem dX3_readAllOf_44 : decode cX3_readAllOf 44 = .ok (.getfield 102, 3) := by decide +kernel
theorem dX3_readAllOf_47 : decode cX3_readAllOf 47 = .ok (.invokevirtual 96, 3) := by decide +kernel
theorem dX3_readAllOf_50 : decode cX3_readAllOf 50 = .ok (.ifCond .ne 5, 3) := by decide +kernel
theorem dX3_readAllOf_53 : decode cX3_readAllOf 53 = .ok (.iconst 0, 1) := by decide +kernel
theorem dX3_readAllOf_54 : decode cX3_readAllOf 54 = .ok (.ireturn, 1) := by decide +kernel
theorem dX3_readAllOf_55 : decode cX3_readAllOf 55 = .ok (.aload_n 0, 1) := by decide +kernel
theorem dX3_readAllOf_56 : decode cX3_readAllOf 56 = .ok (.aload_n 0, 1) := by decide +kernel
theorem dX3_readAllOf_57 : decode cX3_readAllOf 57 = .ok (.getfield 9, 3) := by decide +kernel
theorem dX3_readAllOf_60 : decode cX3_readAllOf 60 = .ok (.getfield 99, 3) := by decide +kernel
theorem dX3_readAllOf_63 : decode cX3_readAllOf 63 = .ok (.putfield 105, 3) := by decide +kernel
theorem dX3_readAllOf_66 : decode cX3_readAllOf 66 = .ok (.iconst 1, 1) := by decide +kernel
theorem dX3_readAllOf_67 : decode cX3_readAllOf 67 = .ok (.ireturn, 1) := by decide +kernel
set_option maxRecDepth 20000 in
theorem ggX3_readAmount_X7_takeNumber : GoodIn wsX3_readAmount wsX7_takeNumber := goodIn_r _ [10, 11, 12, 13, 14, 9, 15, 16, 17, 18, 19, 20, 21, 22, 23, 24, 25, 26, 27, 28, 29, 30, 31, 32, 33, 34, 35, 36, 37, 38, 39, 40, 41, 42, 43, 44, 45, 46, 47, 48, 49, 50, 57, 58, 59, 60, 61, 62, 63, 64, 65, 66] (by decide +kernel) (by decide +kernel)
set_option maxRecDepth 20000 in
theorem gX3_readAmount_X7_takeNumber : GoodIn wsX3_readAmount (wsV RX3 108 RX7 yX7_takeNumber wsX7_takeNumber) := goodIn_app (goodIn_of _ (by decide +kernel)) ggX3_readAmount_X7_takeNumber
theorem dX3_readAmount_0 : decode cX3_readAmount 0 = .ok (.aload_n 0, 1) := by decide +kernel
theorem dX3_readAmount_1 : decode cX3_readAmount 1 = .ok (.getfield 9, 3) := by decide +kernel
theorem dX3_readAmount_4 : decode cX3_readAmount 4 = .ok (.aload_n 0, 1) := by decide +kernel
theorem dX3_readAmount_5 : decode cX3_readAmount 5 = .ok (.getfield 21, 3) := by decide +kernel
theorem dX3_readAmount_8 : decode cX3_readAmount 8 = .ok (.getfield 69, 3) := by decide +kernel
theorem dX3_readAmount_11 : decode cX3_readAmount 11 = .ok (.bipush 20, 2) := by decide +kernel
theorem dX3_readAmount_13 : decode cX3_readAmount 13 = .ok (.invokevirtual 108, 3) := by decide +kernel
theorem dX3_readAmount_16 : decode cX3_readAmount 16 = .ok (.ifCond .ne 5, 3) := by decide +kernel
theorem dX3_readAmount_19 : decode cX3_readAmount 19 = .ok (.iconst 0, 1) := by decide +kernel
theorem dX3_readAmount_20 : decode cX3_readAmount 20 = .ok (.ireturn, 1) := by decide +kernel
theorem dX3_readAmount_21 : decode cX3_readAmount 21 = .ok (.aload_n 0, 1) := by decide +kernel
theorem dX3_readAmount_22 : decode cX3_readAmount 22 = .ok (.aload_n 0, 1) := by decide +kernel
theorem dX3_readAmount_23 : decode cX3_readAmount 23 = .ok (.getfield 9, 3) := by decide +kernel
theorem dX3_readAmount_26 : decode cX3_readAmount 26 = .ok (.getfield 99, 3) := by decide +kernel
theorem dX3_readAmount_29 : decode cX3_readAmount 29 = .ok (.putfield 111, 3) := by decide +kernel
theorem dX3_readAmount_32 : decode cX3_readAmount 32 = .ok (.iconst 1, 1) := by decide +kernel
theorem dX3_readAmount_33 : decode cX3_readAmount 33 = .ok (.ireturn, 1) := by decide +kernel
set_option maxRecDepth 20000 in
theorem ggX3_doDay_Jx29ce0_ordinal_8abf5 : GoodIn wsX3_doDay wsJx29ce0_ordinal_8abf5 := goodIn_r _ [13, 14] (by decide +kernel) (by decide +kernel)
set_option maxRecDepth 20000 in
theorem gX3_doDay_Jx29ce0_ordinal_8abf5_u120X2 : GoodIn wsX3_doDay (va_wsU RX3 120 RX2 "java/lang/Enum" ⟨"GoatDoors$Day", "ordinal", "()I"⟩ yJx29ce0_ordinal_8abf5 wsJx29ce0_ordinal_8abf5) := goodIn_app (goodIn_of _ (by decide +kernel)) ggX3_doDay_Jx29ce0_ordinal_8abf5
set_option maxRecDepth 20000 in
theorem ggX3_doDay_X9_bear : GoodIn wsX3_doDay wsX9_bear := goodIn_r _ [19, 20, 21, 22, 23, 18, 24, 25, 26, 27, 28, 29, 30, 31, 32, 33, 112, 113, 114, 115, 116, 117, 118, 119, 120] (by decide +kernel) (by decide +kernel)
set_option maxRecDepth 20000 in
theorem gX3_doDay_X9_bear : GoodIn wsX3_doDay (wsV RX3 124 RX9 yX9_bear wsX9_bear) := goodIn_app (goodIn_of _ (by decide +kernel)) ggX3_doDay_X9_bear
set_option maxRecDepth 20000 in
theorem ggX3_doDay_X9_eat : GoodIn wsX3_doDay wsX9_eat := goodIn_r _ [37, 20, 21, 22, 23, 18, 24, 25, 38, 39, 40, 41, 30, 31, 32, 33, 42, 43, 44, 45, 46, 47, 48, 49, 50, 51, 112, 113, 114, 115, 116, 117, 118, 119, 120] (by decide +kernel) (by decide +kernel)
set_option maxRecDepth 20000 in
theorem gX3_doDay_X9_eat : GoodIn wsX3_doDay (wsV RX3 127 RX9 yX9_eat wsX9_eat) := goodIn_app (goodIn_of _ (by decide +kernel)) ggX3_doDay_X9_eat
set_option maxRecDepth 20000 in
theorem ggX3_doDay_X9_lend : GoodIn wsX3_doDay wsX9_lend := goodIn_r _ [55, 46, 56, 21, 22, 23, 18, 24, 25, 38, 39, 40, 41, 30, 31, 32, 33, 20, 42, 43, 44, 45, 47, 48, 49, 50, 51, 112, 113, 114, 115, 116, 117, 118, 119, 120] (by decide +kernel) (by decide +kernel)
set_option maxRecDepth 20000 in
theorem gX3_doDay_X9_lend : GoodIn wsX3_doDay (wsV RX3 130 RX9 yX9_lend wsX9_lend) := goodIn_app (goodIn_of _ (by decide +kernel)) ggX3_doDay_X9_lend
set_option maxRecDepth 20000 in
theorem ggX3_doDay_X9_hide : GoodIn wsX3_doDay wsX9_hide := goodIn_r _ [60, 61, 20, 46, 51, 21, 22, 23, 18, 24, 25, 112, 113, 114, 115, 116, 117, 118, 119, 120] (by decide +kernel) (by decide +kernel)
set_option maxRecDepth 20000 in
theorem gX3_doDay_X9_hide : GoodIn wsX3_doDay (wsV RX3 134 RX9 yX9_hide wsX9_hide) := goodIn_app (goodIn_of _ (by decide +kernel)) ggX3_doDay_X9_hide
set_option maxRecDepth 20000 in
theorem ggX3_doDay_X9_takeCensus : GoodIn wsX3_doDay wsX9_takeCensus := goodIn_r _ [65, 66, 51, 46, 56, 26, 27, 28, 18, 29, 30, 31, 32, 33, 20, 21, 22, 23, 24, 25, 47, 48, 49, 50, 112, 113, 114, 115, 116, 117, 118, 119, 120] (by decide +kernel) (by decide +kernel)
set_option maxRecDepth 20000 in
theorem gX3_doDay_X9_takeCensus : GoodIn wsX3_doDay (wsV RX3 137 RX9 yX9_takeCensus wsX9_takeCensus) := goodIn_app (goodIn_of _ (by decide +kernel)) ggX3_doDay_X9_takeCensus
set_option maxRecDepth 20000 in
theorem ggX3_doDay_X4_rub : GoodIn wsX3_doDay wsX4_rub := goodIn_r _ [71, 72, 73, 74, 75, 70, 76, 121, 122, 123, 124, 125, 126] (by decide +kernel) (by decide +kernel)
set_option maxRecDepth 20000 in
theorem gX3_doDay_X4_rub : GoodIn wsX3_doDay (wsV RX3 143 RX4 yX4_rub wsX4_rub) := goodIn_app (goodIn_of _ (by decide +kernel)) ggX3_doDay_X4_rub
set_option maxRecDepth 20000 in
theorem ggX3_doDay_X4_chalk : GoodIn wsX3_doDay wsX4_chalk := goodIn_r _ [80, 72, 81, 82, 83, 84, 85, 73, 74, 75, 70, 76, 86, 87, 88, 89, 90, 91, 92, 93, 94, 95, 96, 97, 98, 99, 100, 101, 121, 122, 123, 124, 125, 126, 127, 128, 129, 130, 131, 132, 133, 134, 135, 136] (by decide +kernel) (by decide +kernel)
set_option maxRecDepth 20000 in
theorem gX3_doDay_X4_chalk : GoodIn wsX3_doDay (wsV RX3 148 RX4 yX4_chalk wsX4_chalk) := goodIn_app (goodIn_of _ (by decide +kernel)) ggX3_doDay_X4_chalk
set_option maxRecDepth 20000 in
theorem ggX3_doDay_X4_swapLenders : GoodIn wsX3_doDay wsX4_swapLenders := goodIn_r _ [105, 81, 82, 73, 74, 75, 70, 76, 72, 121, 122, 123, 124, 125, 126] (by decide +kernel) (by decide +kernel)
set_option maxRecDepth 20000 in
theorem gX3_doDay_X4_swapLenders : GoodIn wsX3_doDay (wsV RX3 152 RX4 yX4_swapLenders wsX4_swapLenders) := goodIn_app (goodIn_of _ (by decide +kernel)) ggX3_doDay_X4_swapLenders
theorem dX3_doDay_0 : decode cX3_doDay 0 = .ok (.getstatic 114, 3) := by decide +kernel
theorem dX3_doDay_3 : decode cX3_doDay 3 = .ok (.aload_n 0, 1) := by decide +kernel
theorem dX3_doDay_4 : decode cX3_doDay 4 = .ok (.getfield 21, 3) := by decide +kernel
theorem dX3_doDay_7 : decode cX3_doDay 7 = .ok (.invokevirtual 120, 3) := by decide +kernel
theorem dX3_doDay_10 : decode cX3_doDay 10 = .ok (.iaload, 1) := by decide +kernel
theorem dX3_doDay_11 : decode cX3_doDay 11 = .ok (.tableswitch 154 1 8 #[45, 58, 71, 88, 101, 106, 118, 138], 45) := by decide +kernel
theorem dX3_doDay_56 : decode cX3_doDay 56 = .ok (.aload_n 1, 1) := by decide +kernel
theorem dX3_doDay_57 : decode cX3_doDay 57 = .ok (.aload_n 0, 1) := by decide +kernel
theorem dX3_doDay_58 : decode cX3_doDay 58 = .ok (.getfield 102, 3) := by decide +kernel
theorem dX3_doDay_61 : decode cX3_doDay 61 = .ok (.aload_n 0, 1) := by decide +kernel
theorem dX3_doDay_62 : decode cX3_doDay 62 = .ok (.getfield 111, 3) := by decide +kernel
theorem dX3_doDay_65 : decode cX3_doDay 65 = .ok (.invokevirtual 124, 3) := by decide +kernel
theorem dX3_doDay_68 : decode cX3_doDay 68 = .ok (.ireturn, 1) := by decide +kernel
theorem dX3_doDay_69 : decode cX3_doDay 69 = .ok (.aload_n 1, 1) := by decide +kernel
theorem dX3_doDay_70 : decode cX3_doDay 70 = .ok (.aload_n 0, 1) := by decide +kernel
theorem dX3_doDay_71 : decode cX3_doDay 71 = .ok (.getfield 102, 3) := by decide +kernel
theorem dX3_doDay_74 : decode cX3_doDay 74 = .ok (.aload_n 0, 1) := by decide +kernel
theorem dX3_doDay_75 : decode cX3_doDay 75 = .ok (.getfield 111, 3) := by decide +kernel
theorem dX3_doDay_78 : decode cX3_doDay 78 = .ok (.invokevirtual 127, 3) := by decide +kernel
theorem dX3_doDay_81 : decode cX3_doDay 81 = .ok (.ireturn, 1) := by decide +kernel
theorem dX3_doDay_82 : decode cX3_doDay 82 = .ok (.aload_n 1, 1) := by decide +kernel
theorem dX3_doDay_83 : decode cX3_doDay 83 = .ok (.aload_n 0, 1) := by decide +kernel
theorem dX3_doDay_84 : decode cX3_doDay 84 = .ok (.getfield 102, 3) := by decide +kernel
theorem dX3_doDay_87 : decode cX3_doDay 87 = .ok (.aload_n 0, 1) := by decide +kernel
theorem dX3_doDay_88 : decode cX3_doDay 88 = .ok (.getfield 105, 3) := by decide +kernel
theorem dX3_doDay_91 : decode cX3_doDay 91 = .ok (.aload_n 0, 1) := by decide +kernel
theorem dX3_doDay_92 : decode cX3_doDay 92 = .ok (.getfield 111, 3) := by decide +kernel
theorem dX3_doDay_95 : decode cX3_doDay 95 = .ok (.invokevirtual 130, 3) := by decide +kernel
theorem dX3_doDay_98 : decode cX3_doDay 98 = .ok (.ireturn, 1) := by decide +kernel
theorem dX3_doDay_99 : decode cX3_doDay 99 = .ok (.aload_n 1, 1) := by decide +kernel
theorem dX3_doDay_100 : decode cX3_doDay 100 = .ok (.aload_n 0, 1) := by decide +kernel
theorem dX3_doDay_101 : decode cX3_doDay 101 = .ok (.getfield 102, 3) := by decide +kernel
theorem dX3_doDay_104 : decode cX3_doDay 104 = .ok (.aload_n 0, 1) := by decide +kernel
theorem dX3_doDay_105 : decode cX3_doDay 105 = .ok (.getfield 111, 3) := by decide +kernel
theorem dX3_doDay_108 : decode cX3_doDay 108 = .ok (.invokevirtual 134, 3) := by decide +kernel
theorem dX3_doDay_111 : decode cX3_doDay 111 = .ok (.ireturn, 1) := by decide +kernel
theorem dX3_doDay_112 : decode cX3_doDay 112 = .ok (.aload_n 1, 1) := by decide +kernel
theorem dX3_doDay_113 : decode cX3_doDay 113 = .ok (.invokevirtual 137, 3) := by decide +kernel
theorem dX3_doDay_116 : decode cX3_doDay 116 = .ok (.ireturn, 1) := by decide +kernel
theorem dX3_doDay_117 : decode cX3_doDay 117 = .ok (.aload_n 1, 1) := by decide +kernel
theorem dX3_doDay_118 : decode cX3_doDay 118 = .ok (.getfield 140, 3) := by decide +kernel
theorem dX3_doDay_121 : decode cX3_doDay 121 = .ok (.aload_n 0, 1) := by decide +kernel
theorem dX3_doDay_122 : decode cX3_doDay 122 = .ok (.getfield 102, 3) := by decide +kernel
theorem dX3_doDay_125 : decode cX3_doDay 125 = .ok (.invokevirtual 143, 3) := by decide +kernel
theorem dX3_doDay_128 : decode cX3_doDay 128 = .ok (.ireturn, 1) := by decide +kernel
theorem dX3_doDay_129 : decode cX3_doDay 129 = .ok (.aload_n 1, 1) := by decide +kernel
theorem dX3_doDay_130 : decode cX3_doDay 130 = .ok (.getfield 140, 3) := by decide +kernel
theorem dX3_doDay_133 : decode cX3_doDay 133 = .ok (.aload_n 0, 1) := by decide +kernel
theorem dX3_doDay_134 : decode cX3_doDay 134 = .ok (.getfield 102, 3) := by decide +kernel
theorem dX3_doDay_137 : decode cX3_doDay 137 = .ok (.aload_n 0, 1) := by decide +kernel
theorem dX3_doDay_138 : decode cX3_doDay 138 = .ok (.getfield 105, 3) := by decide +kernel
theorem dX3_doDay_141 : decode cX3_doDay 141 = .ok (.aload_n 0, 1) := by decide +kernel
theorem dX3_doDay_142 : decode cX3_doDay 142 = .ok (.getfield 9, 3) := by decide +kernel
theorem dX3_doDay_145 : decode cX3_doDay 145 = .ok (.invokevirtual 148, 3) := by decide +kernel
theorem dX3_doDay_148 : decode cX3_doDay 148 = .ok (.ireturn, 1) := by decide +kernel
theorem dX3_doDay_149 : decode cX3_doDay 149 = .ok (.aload_n 1, 1) := by decide +kernel
theorem dX3_doDay_150 : decode cX3_doDay 150 = .ok (.getfield 140, 3) := by decide +kernel
theorem dX3_doDay_153 : decode cX3_doDay 153 = .ok (.aload_n 0, 1) := by decide +kernel
theorem dX3_doDay_154 : decode cX3_doDay 154 = .ok (.getfield 102, 3) := by decide +kernel
theorem dX3_doDay_157 : decode cX3_doDay 157 = .ok (.aload_n 0, 1) := by decide +kernel
theorem dX3_doDay_158 : decode cX3_doDay 158 = .ok (.getfield 105, 3) := by decide +kernel
theorem dX3_doDay_161 : decode cX3_doDay 161 = .ok (.invokevirtual 152, 3) := by decide +kernel
theorem dX3_doDay_164 : decode cX3_doDay 164 = .ok (.ireturn, 1) := by decide +kernel
theorem dX3_doDay_165 : decode cX3_doDay 165 = .ok (.iconst 0, 1) := by decide +kernel
theorem dX3_doDay_166 : decode cX3_doDay 166 = .ok (.ireturn, 1) := by decide +kernel
