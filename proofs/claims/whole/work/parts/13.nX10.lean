theorem dX10_init_0 : decode cX10_init 0 = .ok (.aload_n 0, 1) := by decide +kernel
theorem dX10_init_1 : decode cX10_init 1 = .ok (.invokespecial 3, 3) := by decide +kernel
theorem dX10_init_4 : decode cX10_init 4 = .ok (.aload_n 0, 1) := by decide +kernel
theorem dX10_init_5 : decode cX10_init 5 = .ok (.aload_n 1, 1) := by decide +kernel
theorem dX10_init_6 : decode cX10_init 6 = .ok (.putfield 9, 3) := by decide +kernel
theorem dX10_init_9 : decode cX10_init 9 = .ok (.return_, 1) := by decide +kernel
set_option maxRecDepth 20000 in
theorem ggX10_readAll_X9_empty : GoodIn wsX10_readAll wsX9_empty := goodIn_r _ [9, 10, 11, 12, 13, 14, 15, 16, 17, 18, 19, 20, 21, 207, 208, 209, 210, 211, 212, 213, 214, 215, 216, 217, 218, 219, 220, 221, 222, 223, 224, 225] (by decide +kernel) (by decide +kernel)
set_option maxRecDepth 20000 in
theorem gX10_readAll_X9_empty : GoodIn wsX10_readAll (wsV RX10 15 RX9 yX9_empty wsX9_empty) := goodIn_app (goodIn_of _ (by decide +kernel)) ggX10_readAll_X9_empty
set_option maxRecDepth 20000 in
theorem ggX10_readAll_X7_open : GoodIn wsX10_readAll wsX7_open := goodIn_r _ [26, 27, 28, 29, 30, 31, 32, 33, 34, 35, 36, 37, 38, 25, 39, 40, 41, 42, 43, 44, 45, 46, 47, 48, 49, 50, 51, 52, 53, 54, 55, 56, 57, 226, 227, 228, 229, 230, 231, 232, 233, 234, 235] (by decide +kernel) (by decide +kernel)
set_option maxRecDepth 20000 in
theorem gX10_readAll_X7_open : GoodIn wsX10_readAll (wsV RX10 28 RX7 yX7_open wsX7_open) := goodIn_app (goodIn_of _ (by decide +kernel)) ggX10_readAll_X7_open
set_option maxRecDepth 20000 in
theorem ggX10_readAll_X7_hasMore : GoodIn wsX10_readAll wsX7_hasMore := goodIn_r _ [61, 41, 226, 227, 228, 229, 230, 231, 232, 233, 234, 235] (by decide +kernel) (by decide +kernel)
set_option maxRecDepth 20000 in
theorem gX10_readAll_X7_hasMore : GoodIn wsX10_readAll (wsV RX10 34 RX7 yX7_hasMore wsX7_hasMore) := goodIn_app (goodIn_of _ (by decide +kernel)) ggX10_readAll_X7_hasMore
set_option maxRecDepth 20000 in
theorem ggX10_readAll_X10_readLine : GoodIn wsX10_readAll wsX10_readLine := goodIn_r _ [66, 3, 67, 68, 69, 25, 70, 41, 33, 40, 71, 72, 73, 74, 75, 76, 77, 78, 79, 80, 81, 82, 42, 43, 44, 45, 32, 27, 83, 84, 85, 86, 87, 88, 89, 90, 91, 92, 93, 94, 95, 96, 97, 98, 99, 100, 101, 102, 103, 104, 105, 106, 107, 108, 109, 110, 111, 112, 113, 114, 115, 116, 117, 118, 119, 120, 121, 122, 65, 123, 124, 125, 29, 30, 31, 126, 127, 128, 129, 130, 34, 35, 131, 37, 38, 39, 28, 46, 47, 48, 49, 50, 51, 52, 53, 54, 55, 56, 57, 132, 133, 134, 8, 135, 136, 137, 138, 139, 140, 141, 142, 143, 144, 10, 145, 146, 147, 148, 149, 150, 151, 152, 153, 154, 36, 155, 156, 157, 158, 159, 160, 161, 162, 163, 164, 165, 166, 167, 168, 169, 170, 2, 171, 172, 173, 174, 175, 176, 177, 178, 179, 180, 181, 182, 183, 184, 18, 185, 21, 186, 187, 188, 189, 190, 191, 192, 193, 194, 195, 196, 197, 198, 199, 200, 201, 202, 1, 203, 204, 205, 206, 226, 227, 228, 229, 230, 231, 232, 233, 234, 235, 207, 208, 209, 210, 211, 212, 213, 214, 215, 220, 221, 222, 223, 224, 225] (by decide +kernel) (by decide +kernel)
set_option maxRecDepth 20000 in
theorem gX10_readAll_X10_readLine : GoodIn wsX10_readAll (wsV RX10 38 RX10 yX10_readLine wsX10_readLine) := goodIn_app (goodIn_of _ (by decide +kernel)) ggX10_readAll_X10_readLine
set_option maxRecDepth 20000 in
theorem ggX10_readAll_X9_allGoats : GoodIn wsX10_readAll wsX9_allGoats := goodIn_r _ [135, 136, 137, 138, 8, 139, 140, 141, 142, 143, 144, 10, 207, 208, 209, 210, 211, 212, 213, 214, 215] (by decide +kernel) (by decide +kernel)
set_option maxRecDepth 20000 in
theorem gX10_readAll_X9_allGoats : GoodIn wsX10_readAll (wsV RX10 42 RX9 yX9_allGoats wsX9_allGoats) := goodIn_app (goodIn_of _ (by decide +kernel)) ggX10_readAll_X9_allGoats
theorem dX10_readAll_0 : decode cX10_readAll 0 = .ok (.aload_n 2, 1) := by decide +kernel
theorem dX10_readAll_1 : decode cX10_readAll 1 = .ok (.invokevirtual 15, 3) := by decide +kernel
theorem dX10_readAll_4 : decode cX10_readAll 4 = .ok (.aload_n 0, 1) := by decide +kernel
theorem dX10_readAll_5 : decode cX10_readAll 5 = .ok (.iconst 0, 1) := by decide +kernel
theorem dX10_readAll_6 : decode cX10_readAll 6 = .ok (.putfield 20, 3) := by decide +kernel
theorem dX10_readAll_9 : decode cX10_readAll 9 = .ok (.aload_n 0, 1) := by decide +kernel
theorem dX10_readAll_10 : decode cX10_readAll 10 = .ok (.iconst 0, 1) := by decide +kernel
theorem dX10_readAll_11 : decode cX10_readAll 11 = .ok (.putfield 24, 3) := by decide +kernel
theorem dX10_readAll_14 : decode cX10_readAll 14 = .ok (.aload_n 0, 1) := by decide +kernel
theorem dX10_readAll_15 : decode cX10_readAll 15 = .ok (.getfield 9, 3) := by decide +kernel
theorem dX10_readAll_18 : decode cX10_readAll 18 = .ok (.iload_n 1, 1) := by decide +kernel
theorem dX10_readAll_19 : decode cX10_readAll 19 = .ok (.invokevirtual 28, 3) := by decide +kernel
theorem dX10_readAll_22 : decode cX10_readAll 22 = .ok (.iconst 0, 1) := by decide +kernel
theorem dX10_readAll_23 : decode cX10_readAll 23 = .ok (.istore_n 3, 1) := by decide +kernel
theorem dX10_readAll_24 : decode cX10_readAll 24 = .ok (.iload_n 3, 1) := by decide +kernel
theorem dX10_readAll_25 : decode cX10_readAll 25 = .ok (.sipush 600, 3) := by decide +kernel
theorem dX10_readAll_28 : decode cX10_readAll 28 = .ok (.if_icmp .ge 29, 3) := by decide +kernel
theorem dX10_readAll_31 : decode cX10_readAll 31 = .ok (.aload_n 0, 1) := by decide +kernel
theorem dX10_readAll_32 : decode cX10_readAll 32 = .ok (.getfield 9, 3) := by decide +kernel
theorem dX10_readAll_35 : decode cX10_readAll 35 = .ok (.invokevirtual 34, 3) := by decide +kernel
theorem dX10_readAll_38 : decode cX10_readAll 38 = .ok (.ifCond .eq 19, 3) := by decide +kernel
theorem dX10_readAll_41 : decode cX10_readAll 41 = .ok (.aload_n 0, 1) := by decide +kernel
theorem dX10_readAll_42 : decode cX10_readAll 42 = .ok (.aload_n 2, 1) := by decide +kernel
theorem dX10_readAll_43 : decode cX10_readAll 43 = .ok (.invokevirtual 38, 3) := by decide +kernel
theorem dX10_readAll_46 : decode cX10_readAll 46 = .ok (.ifCond .ne 5, 3) := by decide +kernel
theorem dX10_readAll_49 : decode cX10_readAll 49 = .ok (.iconst 0, 1) := by decide +kernel
theorem dX10_readAll_50 : decode cX10_readAll 50 = .ok (.ireturn, 1) := by decide +kernel
theorem dX10_readAll_51 : decode cX10_readAll 51 = .ok (.iinc 3 1, 3) := by decide +kernel
theorem dX10_readAll_54 : decode cX10_readAll 54 = .ok (.goto (-30), 3) := by decide +kernel
theorem dX10_readAll_57 : decode cX10_readAll 57 = .ok (.aload_n 2, 1) := by decide +kernel
theorem dX10_readAll_58 : decode cX10_readAll 58 = .ok (.aload_n 2, 1) := by decide +kernel
theorem dX10_readAll_59 : decode cX10_readAll 59 = .ok (.invokevirtual 42, 3) := by decide +kernel
theorem dX10_readAll_62 : decode cX10_readAll 62 = .ok (.putfield 46, 3) := by decide +kernel
theorem dX10_readAll_65 : decode cX10_readAll 65 = .ok (.iconst 1, 1) := by decide +kernel
theorem dX10_readAll_66 : decode cX10_readAll 66 = .ok (.ireturn, 1) := by decide +kernel
set_option maxRecDepth 20000 in
theorem ggX10_readLine_X7_isWord : GoodIn wsX10_readLine wsX7_isWord := goodIn_r _ [6, 7, 8, 9, 10, 11, 12, 13, 14, 15, 16, 17, 18, 19, 20, 21, 22, 23, 24, 5, 25, 26, 27, 28, 29, 30, 31, 32, 33, 34, 35, 36, 37, 38, 39, 40, 41, 42, 43, 44, 45, 46, 47, 48, 49, 50, 51, 52, 53, 54, 55, 56, 57, 58, 59, 60, 61, 62, 63, 64, 181, 182, 183, 184, 185, 186, 187, 188, 189, 190] (by decide +kernel) (by decide +kernel)
set_option maxRecDepth 20000 in
theorem gX10_readLine_X7_isWord : GoodIn wsX10_readLine (wsV RX10 51 RX7 yX7_isWord wsX7_isWord) := goodIn_app (goodIn_of _ (by decide +kernel)) ggX10_readLine_X7_isWord
set_option maxRecDepth 20000 in
theorem ggX10_readLine_X10_readOwner : GoodIn wsX10_readLine wsX10_readOwner := goodIn_r _ [69, 70, 1, 71, 72, 73, 74, 75, 76, 77, 78, 5, 79, 80, 9, 81, 82, 83, 84, 85, 8, 26, 86, 7, 22, 23, 24, 25, 27, 87, 88, 89, 90, 91, 92, 93, 94, 95, 96, 97, 98, 99, 100, 101, 102, 103, 104, 105, 106, 107, 108, 109, 110, 111, 112, 113, 114, 115, 116, 117, 118, 119, 120, 121, 122, 123, 124, 2, 3, 4, 6, 10, 11, 12, 13, 14, 15, 16, 17, 18, 19, 20, 21, 28, 29, 30, 31, 32, 33, 34, 35, 36, 37, 38, 39, 40, 41, 42, 43, 44, 45, 46, 47, 48, 49, 50, 51, 52, 53, 54, 55, 56, 57, 58, 59, 60, 61, 62, 63, 64, 125, 126, 127, 128, 129, 130, 131, 132, 133, 134, 135, 136, 191, 192, 193, 194, 195, 196, 197, 198, 199, 178, 179, 180, 181, 182, 183, 184, 185, 186, 187, 188, 189, 190] (by decide +kernel) (by decide +kernel)
set_option maxRecDepth 20000 in
theorem gX10_readLine_X10_readOwner : GoodIn wsX10_readLine (wsV RX10 55 RX10 yX10_readOwner wsX10_readOwner) := goodIn_app (goodIn_of _ (by decide +kernel)) ggX10_readLine_X10_readOwner
set_option maxRecDepth 20000 in
theorem ggX10_readLine_X10_readDoor : GoodIn wsX10_readLine wsX10_readDoor := goodIn_r _ [140, 141, 1, 70, 75, 142, 76, 77, 78, 5, 79, 80, 9, 81, 82, 83, 84, 85, 8, 26, 86, 72, 73, 74, 7, 22, 23, 24, 25, 27, 87, 88, 89, 90, 91, 92, 93, 94, 95, 96, 97, 98, 143, 144, 145, 146, 118, 119, 120, 121, 122, 123, 124, 147, 148, 149, 150, 151, 152, 153, 154, 155, 156, 157, 158, 159, 160, 161, 162, 163, 164, 165, 166, 167, 168, 169, 170, 171, 133, 134, 135, 136, 178, 179, 180, 191, 192, 193, 194, 195, 196, 197, 198, 199, 181, 182, 183, 184, 185, 186, 187, 188, 189, 190, 200, 201, 202, 203, 204, 205] (by decide +kernel) (by decide +kernel)
set_option maxRecDepth 20000 in
theorem gX10_readLine_X10_readDoor : GoodIn wsX10_readLine (wsV RX10 60 RX10 yX10_readDoor wsX10_readDoor) := goodIn_app (goodIn_of _ (by decide +kernel)) ggX10_readLine_X10_readDoor
set_option maxRecDepth 20000 in
theorem ggX10_readLine_X10_readLaw : GoodIn wsX10_readLine wsX10_readLaw := goodIn_r _ [175, 176, 1, 142, 177, 76, 77, 78, 5, 79, 80, 9, 81, 82, 83, 84, 85, 8, 26, 86, 72, 73, 74, 7, 22, 23, 24, 25, 27, 87, 88, 89, 90, 91, 92, 93, 94, 95, 96, 97, 98, 2, 3, 4, 6, 10, 11, 12, 13, 14, 15, 16, 17, 18, 19, 20, 21, 28, 29, 30, 31, 32, 33, 34, 35, 36, 37, 38, 39, 40, 41, 42, 43, 44, 45, 46, 47, 48, 49, 50, 51, 52, 53, 54, 55, 56, 57, 58, 59, 60, 61, 62, 63, 64, 133, 134, 135, 136, 123, 124, 178, 179, 180, 191, 192, 193, 194, 195, 196, 197, 198, 199, 200, 201, 202, 203, 204, 205, 181, 182, 183, 184, 185, 186, 187, 188, 189, 190] (by decide +kernel) (by decide +kernel)
set_option maxRecDepth 20000 in
theorem gX10_readLine_X10_readLaw : GoodIn wsX10_readLine (wsV RX10 65 RX10 yX10_readLaw wsX10_readLaw) := goodIn_app (goodIn_of _ (by decide +kernel)) ggX10_readLine_X10_readLaw
set_option maxRecDepth 20000 in
theorem ggX10_readLine_X7_refuse : GoodIn wsX10_readLine wsX7_refuse := goodIn_r _ [79, 80, 9, 81, 181, 182, 183, 184, 185, 186, 187, 188, 189, 190] (by decide +kernel) (by decide +kernel)
set_option maxRecDepth 20000 in
theorem gX10_readLine_X7_refuse : GoodIn wsX10_readLine (wsV RX10 68 RX7 yX7_refuse wsX7_refuse) := goodIn_app (goodIn_of _ (by decide +kernel)) ggX10_readLine_X7_refuse
theorem dX10_readLine_0 : decode cX10_readLine 0 = .ok (.aload_n 0, 1) := by decide +kernel
theorem dX10_readLine_1 : decode cX10_readLine 1 = .ok (.getfield 9, 3) := by decide +kernel
theorem dX10_readLine_4 : decode cX10_readLine 4 = .ok (.ldc 49, 2) := by decide +kernel
theorem dX10_readLine_6 : decode cX10_readLine 6 = .ok (.invokevirtual 51, 3) := by decide +kernel
theorem dX10_readLine_9 : decode cX10_readLine 9 = .ok (.ifCond .eq 9, 3) := by decide +kernel
theorem dX10_readLine_12 : decode cX10_readLine 12 = .ok (.aload_n 0, 1) := by decide +kernel
theorem dX10_readLine_13 : decode cX10_readLine 13 = .ok (.aload_n 1, 1) := by decide +kernel
theorem dX10_readLine_14 : decode cX10_readLine 14 = .ok (.invokevirtual 55, 3) := by decide +kernel
theorem dX10_readLine_17 : decode cX10_readLine 17 = .ok (.ireturn, 1) := by decide +kernel
theorem dX10_readLine_18 : decode cX10_readLine 18 = .ok (.aload_n 0, 1) := by decide +kernel
theorem dX10_readLine_19 : decode cX10_readLine 19 = .ok (.getfield 9, 3) := by decide +kernel
theorem dX10_readLine_22 : decode cX10_readLine 22 = .ok (.ldc 58, 2) := by decide +kernel
theorem dX10_readLine_24 : decode cX10_readLine 24 = .ok (.invokevirtual 51, 3) := by decide +kernel
theorem dX10_readLine_27 : decode cX10_readLine 27 = .ok (.ifCond .eq 9, 3) := by decide +kernel
theorem dX10_readLine_30 : decode cX10_readLine 30 = .ok (.aload_n 0, 1) := by decide +kernel
theorem dX10_readLine_31 : decode cX10_readLine 31 = .ok (.aload_n 1, 1) := by decide +kernel
theorem dX10_readLine_32 : decode cX10_readLine 32 = .ok (.invokevirtual 60, 3) := by decide +kernel
theorem dX10_readLine_35 : decode cX10_readLine 35 = .ok (.ireturn, 1) := by decide +kernel
theorem dX10_readLine_36 : decode cX10_readLine 36 = .ok (.aload_n 0, 1) := by decide +kernel
theorem dX10_readLine_37 : decode cX10_readLine 37 = .ok (.getfield 9, 3) := by decide +kernel
theorem dX10_readLine_40 : decode cX10_readLine 40 = .ok (.ldc 63, 2) := by decide +kernel
theorem dX10_readLine_42 : decode cX10_readLine 42 = .ok (.invokevirtual 51, 3) := by decide +kernel
theorem dX10_readLine_45 : decode cX10_readLine 45 = .ok (.ifCond .eq 9, 3) := by decide +kernel
theorem dX10_readLine_48 : decode cX10_readLine 48 = .ok (.aload_n 0, 1) := by decide +kernel
theorem dX10_readLine_49 : decode cX10_readLine 49 = .ok (.aload_n 1, 1) := by decide +kernel
theorem dX10_readLine_50 : decode cX10_readLine 50 = .ok (.invokevirtual 65, 3) := by decide +kernel
theorem dX10_readLine_53 : decode cX10_readLine 53 = .ok (.ireturn, 1) := by decide +kernel
theorem dX10_readLine_54 : decode cX10_readLine 54 = .ok (.aload_n 0, 1) := by decide +kernel
theorem dX10_readLine_55 : decode cX10_readLine 55 = .ok (.getfield 9, 3) := by decide +kernel
theorem dX10_readLine_58 : decode cX10_readLine 58 = .ok (.iconst 1, 1) := by decide +kernel
theorem dX10_readLine_59 : decode cX10_readLine 59 = .ok (.invokevirtual 68, 3) := by decide +kernel
theorem dX10_readLine_62 : decode cX10_readLine 62 = .ok (.ireturn, 1) := by decide +kernel
set_option maxRecDepth 20000 in
theorem ggX10_readOwner_X7_refuse : GoodIn wsX10_readOwner wsX7_refuse := goodIn_r _ [12, 13, 14, 15, 144, 145, 146, 147, 148, 149, 150, 151, 152, 153] (by decide +kernel) (by decide +kernel)
set_option maxRecDepth 20000 in
theorem gX10_readOwner_X7_refuse : GoodIn wsX10_readOwner (wsV RX10 68 RX7 yX7_refuse wsX7_refuse) := goodIn_app (goodIn_of _ (by decide +kernel)) ggX10_readOwner_X7_refuse
set_option maxRecDepth 20000 in
theorem ggX10_readOwner_X7_step : GoodIn wsX10_readOwner wsX7_step := goodIn_r _ [19, 20, 14, 21, 22, 4, 5, 6, 23, 24, 25, 26, 11, 27, 28, 29, 30, 31, 32, 33, 34, 35, 36, 37, 38, 39, 40, 144, 145, 146, 147, 148, 149, 150, 151, 152, 153] (by decide +kernel) (by decide +kernel)
set_option maxRecDepth 20000 in
theorem gX10_readOwner_X7_step : GoodIn wsX10_readOwner (wsV RX10 75 RX7 yX7_step wsX7_step) := goodIn_app (goodIn_of _ (by decide +kernel)) ggX10_readOwner_X7_step
set_option maxRecDepth 20000 in
theorem ggX10_readOwner_X9_allGoats : GoodIn wsX10_readOwner wsX9_allGoats := goodIn_r _ [45, 46, 47, 48, 44, 49, 50, 51, 52, 53, 54, 55, 132, 133, 134, 135, 136, 137, 138, 139, 140] (by decide +kernel) (by decide +kernel)
set_option maxRecDepth 20000 in
theorem gX10_readOwner_X9_allGoats : GoodIn wsX10_readOwner (wsV RX10 42 RX9 yX9_allGoats wsX9_allGoats) := goodIn_app (goodIn_of _ (by decide +kernel)) ggX10_readOwner_X9_allGoats
set_option maxRecDepth 20000 in
theorem ggX10_readOwner_X7_takeNumber : GoodIn wsX10_readOwner wsX7_takeNumber := goodIn_r _ [59, 60, 61, 62, 63, 11, 64, 23, 20, 14, 65, 9, 10, 12, 13, 15, 24, 25, 26, 27, 21, 28, 66, 17, 18, 19, 22, 4, 5, 6, 29, 30, 31, 32, 33, 34, 35, 36, 37, 38, 39, 40, 144, 145, 146, 147, 148, 149, 150, 151, 152, 153] (by decide +kernel) (by decide +kernel)
set_option maxRecDepth 20000 in
theorem gX10_readOwner_X7_takeNumber : GoodIn wsX10_readOwner (wsV RX10 84 RX7 yX7_takeNumber wsX7_takeNumber) := goodIn_app (goodIn_of _ (by decide +kernel)) ggX10_readOwner_X7_takeNumber
set_option maxRecDepth 20000 in
theorem ggX10_readOwner_X7_isWord : GoodIn wsX10_readOwner wsX7_isWord := goodIn_r _ [70, 23, 20, 14, 71, 72, 73, 74, 75, 76, 77, 78, 79, 80, 81, 82, 24, 25, 26, 11, 27, 21, 28, 83, 84, 85, 86, 87, 88, 89, 90, 91, 92, 93, 94, 95, 96, 97, 98, 99, 100, 101, 102, 103, 104, 105, 106, 107, 108, 109, 110, 111, 112, 113, 114, 115, 116, 117, 118, 119, 144, 145, 146, 147, 148, 149, 150, 151, 152, 153] (by decide +kernel) (by decide +kernel)
set_option maxRecDepth 20000 in
theorem gX10_readOwner_X7_isWord : GoodIn wsX10_readOwner (wsV RX10 51 RX7 yX7_isWord wsX7_isWord) := goodIn_app (goodIn_of _ (by decide +kernel)) ggX10_readOwner_X7_isWord
set_option maxRecDepth 20000 in
theorem ggX10_readOwner_X9_addOwner : GoodIn wsX10_readOwner wsX9_addOwner := goodIn_r _ [123, 55, 50, 124, 125, 126, 127, 132, 133, 134, 135, 136, 137, 138, 139, 140] (by decide +kernel) (by decide +kernel)
set_option maxRecDepth 20000 in
theorem gX10_readOwner_X9_addOwner : GoodIn wsX10_readOwner (wsV RX10 93 RX9 yX9_addOwner wsX9_addOwner) := goodIn_app (goodIn_of _ (by decide +kernel)) ggX10_readOwner_X9_addOwner
set_option maxRecDepth 20000 in
theorem ggX10_readOwner_X7_takeStop : GoodIn wsX10_readOwner wsX7_takeStop := goodIn_r _ [131, 23, 65, 9, 10, 11, 12, 13, 14, 15, 66, 17, 18, 19, 20, 21, 22, 4, 5, 6, 24, 25, 26, 27, 28, 29, 30, 31, 32, 33, 34, 35, 36, 37, 38, 39, 40, 144, 145, 146, 147, 148, 149, 150, 151, 152, 153] (by decide +kernel) (by decide +kernel)
set_option maxRecDepth 20000 in
theorem gX10_readOwner_X7_takeStop : GoodIn wsX10_readOwner (wsV RX10 97 RX7 yX7_takeStop wsX7_takeStop) := goodIn_app (goodIn_of _ (by decide +kernel)) ggX10_readOwner_X7_takeStop
theorem dX10_readOwner_0 : decode cX10_readOwner 0 = .ok (.aload_n 1, 1) := by decide +kernel
theorem dX10_readOwner_1 : decode cX10_readOwner 1 = .ok (.getfield 72, 3) := by decide +kernel
theorem dX10_readOwner_4 : decode cX10_readOwner 4 = .ok (.iconst 5, 1) := by decide +kernel
theorem dX10_readOwner_5 : decode cX10_readOwner 5 = .ok (.if_icmp .lt 12, 3) := by decide +kernel
theorem dX10_readOwner_8 : decode cX10_readOwner 8 = .ok (.aload_n 0, 1) := by decide +kernel
theorem dX10_readOwner_9 : decode cX10_readOwner 9 = .ok (.getfield 9, 3) := by decide +kernel
theorem dX10_readOwner_12 : decode cX10_readOwner 12 = .ok (.iconst 2, 1) := by decide +kernel
theorem dX10_readOwner_13 : decode cX10_readOwner 13 = .ok (.invokevirtual 68, 3) := by decide +kernel
theorem dX10_readOwner_16 : decode cX10_readOwner 16 = .ok (.ireturn, 1) := by decide +kernel
theorem dX10_readOwner_17 : decode cX10_readOwner 17 = .ok (.aload_n 0, 1) := by decide +kernel
theorem dX10_readOwner_18 : decode cX10_readOwner 18 = .ok (.getfield 9, 3) := by decide +kernel
theorem dX10_readOwner_21 : decode cX10_readOwner 21 = .ok (.invokevirtual 75, 3) := by decide +kernel
theorem dX10_readOwner_24 : decode cX10_readOwner 24 = .ok (.aload_n 0, 1) := by decide +kernel
theorem dX10_readOwner_25 : decode cX10_readOwner 25 = .ok (.getfield 9, 3) := by decide +kernel
theorem dX10_readOwner_28 : decode cX10_readOwner 28 = .ok (.iconst 0, 1) := by decide +kernel
theorem dX10_readOwner_29 : decode cX10_readOwner 29 = .ok (.bipush 20, 2) := by decide +kernel
theorem dX10_readOwner_31 : decode cX10_readOwner 31 = .ok (.bipush 40, 2) := by decide +kernel
theorem dX10_readOwner_33 : decode cX10_readOwner 33 = .ok (.aload_n 1, 1) := by decide +kernel
theorem dX10_readOwner_34 : decode cX10_readOwner 34 = .ok (.invokevirtual 42, 3) := by decide +kernel
theorem dX10_readOwner_37 : decode cX10_readOwner 37 = .ok (.isub, 1) := by decide +kernel
theorem dX10_readOwner_38 : decode cX10_readOwner 38 = .ok (.invokestatic 78, 3) := by decide +kernel
theorem dX10_readOwner_41 : decode cX10_readOwner 41 = .ok (.invokevirtual 84, 3) := by decide +kernel
theorem dX10_readOwner_44 : decode cX10_readOwner 44 = .ok (.ifCond .ne 5, 3) := by decide +kernel
theorem dX10_readOwner_47 : decode cX10_readOwner 47 = .ok (.iconst 0, 1) := by decide +kernel
theorem dX10_readOwner_48 : decode cX10_readOwner 48 = .ok (.ireturn, 1) := by decide +kernel
theorem dX10_readOwner_49 : decode cX10_readOwner 49 = .ok (.aload_n 0, 1) := by decide +kernel
theorem dX10_readOwner_50 : decode cX10_readOwner 50 = .ok (.getfield 9, 3) := by decide +kernel
theorem dX10_readOwner_53 : decode cX10_readOwner 53 = .ok (.getfield 88, 3) := by decide +kernel
theorem dX10_readOwner_56 : decode cX10_readOwner 56 = .ok (.istore_n 2, 1) := by decide +kernel
theorem dX10_readOwner_57 : decode cX10_readOwner 57 = .ok (.iconst 0, 1) := by decide +kernel
theorem dX10_readOwner_58 : decode cX10_readOwner 58 = .ok (.istore_n 3, 1) := by decide +kernel
theorem dX10_readOwner_59 : decode cX10_readOwner 59 = .ok (.aload_n 0, 1) := by decide +kernel
theorem dX10_readOwner_60 : decode cX10_readOwner 60 = .ok (.getfield 9, 3) := by decide +kernel
theorem dX10_readOwner_63 : decode cX10_readOwner 63 = .ok (.ldc 91, 2) := by decide +kernel
theorem dX10_readOwner_65 : decode cX10_readOwner 65 = .ok (.invokevirtual 51, 3) := by decide +kernel
theorem dX10_readOwner_68 : decode cX10_readOwner 68 = .ok (.ifCond .eq 32, 3) := by decide +kernel
theorem dX10_readOwner_71 : decode cX10_readOwner 71 = .ok (.aload_n 0, 1) := by decide +kernel
theorem dX10_readOwner_72 : decode cX10_readOwner 72 = .ok (.getfield 9, 3) := by decide +kernel
theorem dX10_readOwner_75 : decode cX10_readOwner 75 = .ok (.invokevirtual 75, 3) := by decide +kernel
theorem dX10_readOwner_78 : decode cX10_readOwner 78 = .ok (.aload_n 0, 1) := by decide +kernel
theorem dX10_readOwner_79 : decode cX10_readOwner 79 = .ok (.getfield 9, 3) := by decide +kernel
theorem dX10_readOwner_82 : decode cX10_readOwner 82 = .ok (.iconst 0, 1) := by decide +kernel
theorem dX10_readOwner_83 : decode cX10_readOwner 83 = .ok (.iconst 5, 1) := by decide +kernel
theorem dX10_readOwner_84 : decode cX10_readOwner 84 = .ok (.invokevirtual 84, 3) := by decide +kernel
theorem dX10_readOwner_87 : decode cX10_readOwner 87 = .ok (.ifCond .ne 5, 3) := by decide +kernel
theorem dX10_readOwner_90 : decode cX10_readOwner 90 = .ok (.iconst 0, 1) := by decide +kernel
theorem dX10_readOwner_91 : decode cX10_readOwner 91 = .ok (.ireturn, 1) := by decide +kernel
theorem dX10_readOwner_92 : decode cX10_readOwner 92 = .ok (.aload_n 0, 1) := by decide +kernel
theorem dX10_readOwner_93 : decode cX10_readOwner 93 = .ok (.getfield 9, 3) := by decide +kernel
theorem dX10_readOwner_96 : decode cX10_readOwner 96 = .ok (.getfield 88, 3) := by decide +kernel
theorem dX10_readOwner_99 : decode cX10_readOwner 99 = .ok (.istore_n 3, 1) := by decide +kernel
theorem dX10_readOwner_100 : decode cX10_readOwner 100 = .ok (.aload_n 1, 1) := by decide +kernel
theorem dX10_readOwner_101 : decode cX10_readOwner 101 = .ok (.iload_n 2, 1) := by decide +kernel
theorem dX10_readOwner_102 : decode cX10_readOwner 102 = .ok (.iload_n 3, 1) := by decide +kernel
theorem dX10_readOwner_103 : decode cX10_readOwner 103 = .ok (.invokevirtual 93, 3) := by decide +kernel
theorem dX10_readOwner_106 : decode cX10_readOwner 106 = .ok (.aload_n 0, 1) := by decide +kernel
theorem dX10_readOwner_107 : decode cX10_readOwner 107 = .ok (.getfield 9, 3) := by decide +kernel
theorem dX10_readOwner_110 : decode cX10_readOwner 110 = .ok (.invokevirtual 97, 3) := by decide +kernel
theorem dX10_readOwner_113 : decode cX10_readOwner 113 = .ok (.ireturn, 1) := by decide +kernel
set_option maxRecDepth 20000 in
theorem ggX10_readDoor_X7_refuse : GoodIn wsX10_readDoor wsX7_refuse := goodIn_r _ [10, 11, 12, 13, 94, 95, 96, 97, 98, 99, 100, 101, 102, 103] (by decide +kernel) (by decide +kernel)
set_option maxRecDepth 20000 in
theorem gX10_readDoor_X7_refuse : GoodIn wsX10_readDoor (wsV RX10 68 RX7 yX7_refuse wsX7_refuse) := goodIn_app (goodIn_of _ (by decide +kernel)) ggX10_readDoor_X7_refuse
set_option maxRecDepth 20000 in
theorem ggX10_readDoor_X7_step : GoodIn wsX10_readDoor wsX7_step := goodIn_r _ [17, 18, 12, 19, 20, 21, 22, 23, 24, 25, 26, 27, 9, 28, 29, 30, 31, 32, 33, 34, 35, 36, 37, 38, 39, 40, 41, 94, 95, 96, 97, 98, 99, 100, 101, 102, 103] (by decide +kernel) (by decide +kernel)
set_option maxRecDepth 20000 in
theorem gX10_readDoor_X7_step : GoodIn wsX10_readDoor (wsV RX10 75 RX7 yX7_step wsX7_step) := goodIn_app (goodIn_of _ (by decide +kernel)) ggX10_readDoor_X7_step
set_option maxRecDepth 20000 in
theorem ggX10_readDoor_X7_takeOneOf : GoodIn wsX10_readDoor wsX7_takeOneOf := goodIn_r _ [45, 46, 47, 48, 49, 9, 50, 24, 18, 12, 51, 7, 8, 10, 11, 13, 25, 26, 27, 28, 19, 29, 52, 15, 16, 17, 20, 21, 22, 23, 30, 31, 32, 33, 34, 35, 36, 37, 38, 39, 40, 41, 94, 95, 96, 97, 98, 99, 100, 101, 102, 103] (by decide +kernel) (by decide +kernel)
set_option maxRecDepth 20000 in
theorem gX10_readDoor_X7_takeOneOf : GoodIn wsX10_readDoor (wsV RX10 100 RX7 yX7_takeOneOf wsX7_takeOneOf) := goodIn_app (goodIn_of _ (by decide +kernel)) ggX10_readDoor_X7_takeOneOf
set_option maxRecDepth 20000 in
theorem ggX10_readDoor_X7_takeRow : GoodIn wsX10_readDoor wsX7_takeRow := goodIn_r _ [56, 24, 18, 12, 57, 58, 51, 7, 8, 9, 10, 11, 13, 52, 15, 16, 17, 19, 20, 21, 22, 23, 25, 26, 27, 28, 29, 30, 31, 32, 33, 34, 35, 36, 37, 38, 39, 40, 41, 94, 95, 96, 97, 98, 99, 100, 101, 102, 103] (by decide +kernel) (by decide +kernel)
set_option maxRecDepth 20000 in
theorem gX10_readDoor_X7_takeRow : GoodIn wsX10_readDoor (wsV RX10 103 RX7 yX7_takeRow wsX7_takeRow) := goodIn_app (goodIn_of _ (by decide +kernel)) ggX10_readDoor_X7_takeRow
set_option maxRecDepth 20000 in
theorem ggX10_readDoor_X4_chalk : GoodIn wsX10_readDoor wsX4_chalk := goodIn_r _ [63, 64, 65, 66, 67, 68, 69, 70, 71, 72, 62, 73, 74, 75, 76, 9, 77, 58, 57, 25, 26, 27, 28, 19, 29, 33, 34, 35, 104, 105, 106, 107, 108, 109, 94, 95, 96, 97, 98, 99, 100, 101, 102, 103] (by decide +kernel) (by decide +kernel)
set_option maxRecDepth 20000 in
theorem gX10_readDoor_X4_chalk : GoodIn wsX10_readDoor (wsV RX10 110 RX4 yX4_chalk wsX4_chalk) := goodIn_app (goodIn_of _ (by decide +kernel)) ggX10_readDoor_X4_chalk
set_option maxRecDepth 20000 in
theorem ggX10_readDoor_X7_takeStop : GoodIn wsX10_readDoor wsX7_takeStop := goodIn_r _ [81, 24, 51, 7, 8, 9, 10, 11, 12, 13, 52, 15, 16, 17, 18, 19, 20, 21, 22, 23, 25, 26, 27, 28, 29, 30, 31, 32, 33, 34, 35, 36, 37, 38, 39, 40, 41, 94, 95, 96, 97, 98, 99, 100, 101, 102, 103] (by decide +kernel) (by decide +kernel)
set_option maxRecDepth 20000 in
theorem gX10_readDoor_X7_takeStop : GoodIn wsX10_readDoor (wsV RX10 97 RX7 yX7_takeStop wsX7_takeStop) := goodIn_app (goodIn_of _ (by decide +kernel)) ggX10_readDoor_X7_takeStop
theorem dX10_readDoor_0 : decode cX10_readDoor 0 = .ok (.aload_n 0, 1) := by decide +kernel
theorem dX10_readDoor_1 : decode cX10_readDoor 1 = .ok (.getfield 24, 3) := by decide +kernel
theorem dX10_readDoor_4 : decode cX10_readDoor 4 = .ok (.bipush 10, 2) := by decide +kernel
theorem dX10_readDoor_6 : decode cX10_readDoor 6 = .ok (.if_icmp .lt 12, 3) := by decide +kernel
theorem dX10_readDoor_9 : decode cX10_readDoor 9 = .ok (.aload_n 0, 1) := by decide +kernel
theorem dX10_readDoor_10 : decode cX10_readDoor 10 = .ok (.getfield 9, 3) := by decide +kernel
theorem dX10_readDoor_13 : decode cX10_readDoor 13 = .ok (.iconst 2, 1) := by decide +kernel
theorem dX10_readDoor_14 : decode cX10_readDoor 14 = .ok (.invokevirtual 68, 3) := by decide +kernel
theorem dX10_readDoor_17 : decode cX10_readDoor 17 = .ok (.ireturn, 1) := by decide +kernel
theorem dX10_readDoor_18 : decode cX10_readDoor 18 = .ok (.aload_n 0, 1) := by decide +kernel
theorem dX10_readDoor_19 : decode cX10_readDoor 19 = .ok (.dup, 1) := by decide +kernel
theorem dX10_readDoor_20 : decode cX10_readDoor 20 = .ok (.getfield 24, 3) := by decide +kernel
theorem dX10_readDoor_23 : decode cX10_readDoor 23 = .ok (.iconst 1, 1) := by decide +kernel
theorem dX10_readDoor_24 : decode cX10_readDoor 24 = .ok (.iadd, 1) := by decide +kernel
theorem dX10_readDoor_25 : decode cX10_readDoor 25 = .ok (.putfield 24, 3) := by decide +kernel
theorem dX10_readDoor_28 : decode cX10_readDoor 28 = .ok (.aload_n 0, 1) := by decide +kernel
theorem dX10_readDoor_29 : decode cX10_readDoor 29 = .ok (.getfield 9, 3) := by decide +kernel
theorem dX10_readDoor_32 : decode cX10_readDoor 32 = .ok (.invokevirtual 75, 3) := by decide +kernel
theorem dX10_readDoor_35 : decode cX10_readDoor 35 = .ok (.aload_n 0, 1) := by decide +kernel
theorem dX10_readDoor_36 : decode cX10_readDoor 36 = .ok (.getfield 9, 3) := by decide +kernel
theorem dX10_readDoor_39 : decode cX10_readDoor 39 = .ok (.aload_n 1, 1) := by decide +kernel
theorem dX10_readDoor_40 : decode cX10_readDoor 40 = .ok (.getfield 72, 3) := by decide +kernel
theorem dX10_readDoor_43 : decode cX10_readDoor 43 = .ok (.iconst (-1), 1) := by decide +kernel
theorem dX10_readDoor_44 : decode cX10_readDoor 44 = .ok (.invokevirtual 100, 3) := by decide +kernel
theorem dX10_readDoor_47 : decode cX10_readDoor 47 = .ok (.ifCond .ne 5, 3) := by decide +kernel
theorem dX10_readDoor_50 : decode cX10_readDoor 50 = .ok (.iconst 0, 1) := by decide +kernel
theorem dX10_readDoor_51 : decode cX10_readDoor 51 = .ok (.ireturn, 1) := by decide +kernel
theorem dX10_readDoor_52 : decode cX10_readDoor 52 = .ok (.aload_n 0, 1) := by decide +kernel
theorem dX10_readDoor_53 : decode cX10_readDoor 53 = .ok (.getfield 9, 3) := by decide +kernel
theorem dX10_readDoor_56 : decode cX10_readDoor 56 = .ok (.getfield 88, 3) := by decide +kernel
theorem dX10_readDoor_59 : decode cX10_readDoor 59 = .ok (.istore_n 2, 1) := by decide +kernel
theorem dX10_readDoor_60 : decode cX10_readDoor 60 = .ok (.aload_n 0, 1) := by decide +kernel
theorem dX10_readDoor_61 : decode cX10_readDoor 61 = .ok (.getfield 9, 3) := by decide +kernel
theorem dX10_readDoor_64 : decode cX10_readDoor 64 = .ok (.aload_n 1, 1) := by decide +kernel
theorem dX10_readDoor_65 : decode cX10_readDoor 65 = .ok (.getfield 72, 3) := by decide +kernel
theorem dX10_readDoor_68 : decode cX10_readDoor 68 = .ok (.iload_n 2, 1) := by decide +kernel
theorem dX10_readDoor_69 : decode cX10_readDoor 69 = .ok (.invokevirtual 100, 3) := by decide +kernel
theorem dX10_readDoor_72 : decode cX10_readDoor 72 = .ok (.ifCond .ne 5, 3) := by decide +kernel
theorem dX10_readDoor_75 : decode cX10_readDoor 75 = .ok (.iconst 0, 1) := by decide +kernel
theorem dX10_readDoor_76 : decode cX10_readDoor 76 = .ok (.ireturn, 1) := by decide +kernel
theorem dX10_readDoor_77 : decode cX10_readDoor 77 = .ok (.aload_n 0, 1) := by decide +kernel
theorem dX10_readDoor_78 : decode cX10_readDoor 78 = .ok (.getfield 9, 3) := by decide +kernel
theorem dX10_readDoor_81 : decode cX10_readDoor 81 = .ok (.getfield 88, 3) := by decide +kernel
theorem dX10_readDoor_84 : decode cX10_readDoor 84 = .ok (.istore_n 3, 1) := by decide +kernel
theorem dX10_readDoor_85 : decode cX10_readDoor 85 = .ok (.aload_n 0, 1) := by decide +kernel
theorem dX10_readDoor_86 : decode cX10_readDoor 86 = .ok (.getfield 9, 3) := by decide +kernel
theorem dX10_readDoor_89 : decode cX10_readDoor 89 = .ok (.invokevirtual 103, 3) := by decide +kernel
theorem dX10_readDoor_92 : decode cX10_readDoor 92 = .ok (.ifCond .ne 5, 3) := by decide +kernel
theorem dX10_readDoor_95 : decode cX10_readDoor 95 = .ok (.iconst 0, 1) := by decide +kernel
theorem dX10_readDoor_96 : decode cX10_readDoor 96 = .ok (.ireturn, 1) := by decide +kernel
theorem dX10_readDoor_97 : decode cX10_readDoor 97 = .ok (.aload_n 1, 1) := by decide +kernel
theorem dX10_readDoor_98 : decode cX10_readDoor 98 = .ok (.getfield 106, 3) := by decide +kernel
theorem dX10_readDoor_101 : decode cX10_readDoor 101 = .ok (.iload_n 2, 1) := by decide +kernel
theorem dX10_readDoor_102 : decode cX10_readDoor 102 = .ok (.iload_n 3, 1) := by decide +kernel
theorem dX10_readDoor_103 : decode cX10_readDoor 103 = .ok (.aload_n 0, 1) := by decide +kernel
theorem dX10_readDoor_104 : decode cX10_readDoor 104 = .ok (.getfield 9, 3) := by decide +kernel
theorem dX10_readDoor_107 : decode cX10_readDoor 107 = .ok (.invokevirtual 110, 3) := by decide +kernel
theorem dX10_readDoor_110 : decode cX10_readDoor 110 = .ok (.pop, 1) := by decide +kernel
theorem dX10_readDoor_111 : decode cX10_readDoor 111 = .ok (.aload_n 0, 1) := by decide +kernel
theorem dX10_readDoor_112 : decode cX10_readDoor 112 = .ok (.getfield 9, 3) := by decide +kernel
theorem dX10_readDoor_115 : decode cX10_readDoor 115 = .ok (.invokevirtual 97, 3) := by decide +kernel
theorem dX10_readDoor_118 : decode cX10_readDoor 118 = .ok (.ireturn, 1) := by decide +kernel
set_option maxRecDepth 20000 in
theorem ggX10_readLaw_X7_refuse : GoodIn wsX10_readLaw wsX7_refuse := goodIn_r _ [9, 10, 11, 12, 118, 119, 120, 121, 122, 123, 124, 125, 126, 127] (by decide +kernel) (by decide +kernel)
set_option maxRecDepth 20000 in
theorem gX10_readLaw_X7_refuse : GoodIn wsX10_readLaw (wsV RX10 68 RX7 yX7_refuse wsX7_refuse) := goodIn_app (goodIn_of _ (by decide +kernel)) ggX10_readLaw_X7_refuse
set_option maxRecDepth 20000 in
theorem ggX10_readLaw_X7_step : GoodIn wsX10_readLaw wsX7_step := goodIn_r _ [16, 17, 11, 18, 19, 20, 21, 22, 23, 24, 25, 26, 8, 27, 28, 29, 30, 31, 32, 33, 34, 35, 36, 37, 38, 39, 40, 118, 119, 120, 121, 122, 123, 124, 125, 126, 127] (by decide +kernel) (by decide +kernel)
set_option maxRecDepth 20000 in
theorem gX10_readLaw_X7_step : GoodIn wsX10_readLaw (wsV RX10 75 RX7 yX7_step wsX7_step) := goodIn_app (goodIn_of _ (by decide +kernel)) ggX10_readLaw_X7_step
set_option maxRecDepth 20000 in
theorem ggX10_readLaw_X7_isWord : GoodIn wsX10_readLaw wsX7_isWord := goodIn_r _ [44, 23, 17, 11, 45, 46, 47, 48, 49, 50, 51, 52, 53, 54, 55, 56, 24, 25, 26, 8, 27, 18, 28, 57, 58, 59, 60, 61, 62, 63, 64, 65, 66, 67, 68, 69, 70, 71, 72, 73, 74, 75, 76, 77, 78, 79, 80, 81, 82, 83, 84, 85, 86, 87, 88, 89, 90, 91, 92, 93, 118, 119, 120, 121, 122, 123, 124, 125, 126, 127] (by decide +kernel) (by decide +kernel)
set_option maxRecDepth 20000 in
theorem gX10_readLaw_X7_isWord : GoodIn wsX10_readLaw (wsV RX10 51 RX7 yX7_isWord wsX7_isWord) := goodIn_app (goodIn_of _ (by decide +kernel)) ggX10_readLaw_X7_isWord
set_option maxRecDepth 20000 in
theorem ggX10_readLaw_X7_takeStop : GoodIn wsX10_readLaw wsX7_takeStop := goodIn_r _ [97, 23, 98, 6, 7, 8, 9, 10, 11, 12, 99, 14, 15, 16, 17, 18, 19, 20, 21, 22, 24, 25, 26, 27, 28, 29, 30, 31, 32, 33, 34, 35, 36, 37, 38, 39, 40, 118, 119, 120, 121, 122, 123, 124, 125, 126, 127] (by decide +kernel) (by decide +kernel)
set_option maxRecDepth 20000 in
theorem gX10_readLaw_X7_takeStop : GoodIn wsX10_readLaw (wsV RX10 97 RX7 yX7_takeStop wsX7_takeStop) := goodIn_app (goodIn_of _ (by decide +kernel)) ggX10_readLaw_X7_takeStop
theorem dX10_readLaw_0 : decode cX10_readLaw 0 = .ok (.aload_n 0, 1) := by decide +kernel
theorem dX10_readLaw_1 : decode cX10_readLaw 1 = .ok (.getfield 20, 3) := by decide +kernel
theorem dX10_readLaw_4 : decode cX10_readLaw 4 = .ok (.ifCond .eq 12, 3) := by decide +kernel
theorem dX10_readLaw_7 : decode cX10_readLaw 7 = .ok (.aload_n 0, 1) := by decide +kernel
theorem dX10_readLaw_8 : decode cX10_readLaw 8 = .ok (.getfield 9, 3) := by decide +kernel
theorem dX10_readLaw_11 : decode cX10_readLaw 11 = .ok (.iconst 4, 1) := by decide +kernel
theorem dX10_readLaw_12 : decode cX10_readLaw 12 = .ok (.invokevirtual 68, 3) := by decide +kernel
theorem dX10_readLaw_15 : decode cX10_readLaw 15 = .ok (.ireturn, 1) := by decide +kernel
theorem dX10_readLaw_16 : decode cX10_readLaw 16 = .ok (.aload_n 0, 1) := by decide +kernel
theorem dX10_readLaw_17 : decode cX10_readLaw 17 = .ok (.iconst 1, 1) := by decide +kernel
theorem dX10_readLaw_18 : decode cX10_readLaw 18 = .ok (.putfield 20, 3) := by decide +kernel
theorem dX10_readLaw_21 : decode cX10_readLaw 21 = .ok (.aload_n 0, 1) := by decide +kernel
theorem dX10_readLaw_22 : decode cX10_readLaw 22 = .ok (.getfield 9, 3) := by decide +kernel
theorem dX10_readLaw_25 : decode cX10_readLaw 25 = .ok (.invokevirtual 75, 3) := by decide +kernel
theorem dX10_readLaw_28 : decode cX10_readLaw 28 = .ok (.aload_n 0, 1) := by decide +kernel
theorem dX10_readLaw_29 : decode cX10_readLaw 29 = .ok (.getfield 9, 3) := by decide +kernel
theorem dX10_readLaw_32 : decode cX10_readLaw 32 = .ok (.ldc 116, 2) := by decide +kernel
theorem dX10_readLaw_34 : decode cX10_readLaw 34 = .ok (.invokevirtual 51, 3) := by decide +kernel
theorem dX10_readLaw_37 : decode cX10_readLaw 37 = .ok (.ifCond .eq 14, 3) := by decide +kernel
theorem dX10_readLaw_40 : decode cX10_readLaw 40 = .ok (.aload_n 1, 1) := by decide +kernel
theorem dX10_readLaw_41 : decode cX10_readLaw 41 = .ok (.getfield 106, 3) := by decide +kernel
theorem dX10_readLaw_44 : decode cX10_readLaw 44 = .ok (.iconst 0, 1) := by decide +kernel
theorem dX10_readLaw_45 : decode cX10_readLaw 45 = .ok (.putfield 118, 3) := by decide +kernel
theorem dX10_readLaw_48 : decode cX10_readLaw 48 = .ok (.goto 58, 3) := by decide +kernel
theorem dX10_readLaw_51 : decode cX10_readLaw 51 = .ok (.aload_n 0, 1) := by decide +kernel
theorem dX10_readLaw_52 : decode cX10_readLaw 52 = .ok (.getfield 9, 3) := by decide +kernel
theorem dX10_readLaw_55 : decode cX10_readLaw 55 = .ok (.ldc 120, 2) := by decide +kernel
theorem dX10_readLaw_57 : decode cX10_readLaw 57 = .ok (.invokevirtual 51, 3) := by decide +kernel
theorem dX10_readLaw_60 : decode cX10_readLaw 60 = .ok (.ifCond .eq 14, 3) := by decide +kernel
theorem dX10_readLaw_63 : decode cX10_readLaw 63 = .ok (.aload_n 1, 1) := by decide +kernel
theorem dX10_readLaw_64 : decode cX10_readLaw 64 = .ok (.getfield 106, 3) := by decide +kernel
theorem dX10_readLaw_67 : decode cX10_readLaw 67 = .ok (.iconst 1, 1) := by decide +kernel
theorem dX10_readLaw_68 : decode cX10_readLaw 68 = .ok (.putfield 118, 3) := by decide +kernel
theorem dX10_readLaw_71 : decode cX10_readLaw 71 = .ok (.goto 35, 3) := by decide +kernel
theorem dX10_readLaw_74 : decode cX10_readLaw 74 = .ok (.aload_n 0, 1) := by decide +kernel
theorem dX10_readLaw_75 : decode cX10_readLaw 75 = .ok (.getfield 9, 3) := by decide +kernel
theorem dX10_readLaw_78 : decode cX10_readLaw 78 = .ok (.ldc 122, 2) := by decide +kernel
theorem dX10_readLaw_80 : decode cX10_readLaw 80 = .ok (.invokevirtual 51, 3) := by decide +kernel
theorem dX10_readLaw_83 : decode cX10_readLaw 83 = .ok (.ifCond .eq 14, 3) := by decide +kernel
theorem dX10_readLaw_86 : decode cX10_readLaw 86 = .ok (.aload_n 1, 1) := by decide +kernel
theorem dX10_readLaw_87 : decode cX10_readLaw 87 = .ok (.getfield 106, 3) := by decide +kernel
theorem dX10_readLaw_90 : decode cX10_readLaw 90 = .ok (.iconst 2, 1) := by decide +kernel
theorem dX10_readLaw_91 : decode cX10_readLaw 91 = .ok (.putfield 118, 3) := by decide +kernel
theorem dX10_readLaw_94 : decode cX10_readLaw 94 = .ok (.goto 12, 3) := by decide +kernel
theorem dX10_readLaw_97 : decode cX10_readLaw 97 = .ok (.aload_n 0, 1) := by decide +kernel
theorem dX10_readLaw_98 : decode cX10_readLaw 98 = .ok (.getfield 9, 3) := by decide +kernel
theorem dX10_readLaw_101 : decode cX10_readLaw 101 = .ok (.iconst 1, 1) := by decide +kernel
theorem dX10_readLaw_102 : decode cX10_readLaw 102 = .ok (.invokevirtual 68, 3) := by decide +kernel
theorem dX10_readLaw_105 : decode cX10_readLaw 105 = .ok (.ireturn, 1) := by decide +kernel
theorem dX10_readLaw_106 : decode cX10_readLaw 106 = .ok (.aload_n 0, 1) := by decide +kernel
theorem dX10_readLaw_107 : decode cX10_readLaw 107 = .ok (.getfield 9, 3) := by decide +kernel
theorem dX10_readLaw_110 : decode cX10_readLaw 110 = .ok (.invokevirtual 75, 3) := by decide +kernel
theorem dX10_readLaw_113 : decode cX10_readLaw 113 = .ok (.aload_n 0, 1) := by decide +kernel
theorem dX10_readLaw_114 : decode cX10_readLaw 114 = .ok (.getfield 9, 3) := by decide +kernel
theorem dX10_readLaw_117 : decode cX10_readLaw 117 = .ok (.invokevirtual 97, 3) := by decide +kernel
theorem dX10_readLaw_120 : decode cX10_readLaw 120 = .ok (.ireturn, 1) := by decide +kernel
