set_option maxRecDepth 20000 in
theorem ggL_village_X12_village : GoodIn wsL_village wsX12_village := goodIn_ca (goodIn_r _ [6, 7, 8, 9, 10, 11, 12, 13, 14, 15, 16, 17, 18, 19, 5, 20, 21, 22, 23, 24, 25, 26, 27, 28, 29, 30, 31, 32, 33, 34, 35, 36, 37, 38, 39, 40, 41, 42, 43, 44, 45, 46, 47, 48, 49, 50, 51, 52, 53, 54, 55, 56, 57, 58, 59, 60, 61, 62, 63, 64, 65, 66, 67, 68, 69, 70, 71, 72, 73, 74, 75, 76, 77, 78, 79, 80, 81, 82, 83, 84, 85, 86, 87, 88, 89, 90, 91, 92, 93, 94, 95, 96, 97, 98, 99, 100, 101, 102, 103, 104, 105, 106, 107, 108, 109, 110, 111, 112, 113, 114, 115, 116, 117, 118, 119, 120, 121, 122, 123, 124, 125, 126, 127, 128, 129, 130, 131, 132, 133, 134, 135, 136, 137, 138, 139, 140, 141, 142, 143, 144, 145, 146, 147, 148, 149, 150, 151, 152, 153, 154, 155, 156, 157, 158, 159, 160, 161, 162, 163, 164, 165, 166, 167, 168, 169, 170, 171, 172, 173, 174, 175, 176, 177, 178, 179, 180, 181, 182, 183, 184, 185, 186, 187, 188, 189, 190, 191, 192, 193, 194, 195, 196, 197, 198, 199, 200, 201, 202, 203, 204, 205, 206, 207, 208, 209, 210, 211, 212, 213, 214, 215, 216, 217, 218, 219, 220, 221, 222, 223, 224, 225, 226, 227, 228, 229, 230, 231, 232, 233, 234, 235, 236, 237, 238, 239, 240, 241, 242, 243, 244, 245, 246, 247, 248, 249, 250, 251, 252, 253, 254, 255, 256, 257, 258, 259, 260, 261, 262, 263, 264, 265, 266, 267, 268, 269, 270, 271, 272, 273, 274, 275, 276, 277, 278, 279, 280, 281, 282, 283, 284, 285, 286, 287, 288, 289, 290, 291, 292, 293, 294, 295, 296, 297, 298, 299, 300, 301] (by decide +kernel) (by decide +kernel)) (goodIn_sub (fun _ h => List.mem_cons_of_mem _ (List.mem_append_right _ h)) (by decide +kernel))
set_option maxRecDepth 20000 in
theorem gL_village_X12_village : GoodIn wsL_village (wsV RL 7 RX12 yX12_village wsX12_village) := goodIn_app (goodIn_of _ (by decide +kernel)) ggL_village_X12_village
theorem dL_village_0 : decode cL_village 0 = .ok (.aload_n 2, 1) := by decide +kernel
theorem dL_village_1 : decode cL_village 1 = .ok (.iconst 0, 1) := by decide +kernel
theorem dL_village_2 : decode cL_village 2 = .ok (.aload_n 0, 1) := by decide +kernel
theorem dL_village_3 : decode cL_village 3 = .ok (.iload_n 1, 1) := by decide +kernel
theorem dL_village_4 : decode cL_village 4 = .ok (.invokevirtual 7, 3) := by decide +kernel
theorem dL_village_7 : decode cL_village 7 = .ok (.i2l, 1) := by decide +kernel
theorem dL_village_8 : decode cL_village 8 = .ok (.lastore, 1) := by decide +kernel
theorem dL_village_9 : decode cL_village 9 = .ok (.goto 6, 3) := by decide +kernel
theorem dL_village_12 : decode cL_village 12 = .ok (.astore_n 3, 1) := by decide +kernel
theorem dL_village_13 : decode cL_village 13 = .ok (.iconst 1, 1) := by decide +kernel
theorem dL_village_14 : decode cL_village 14 = .ok (.ireturn, 1) := by decide +kernel
theorem dL_village_15 : decode cL_village 15 = .ok (.iconst 0, 1) := by decide +kernel
theorem dL_village_16 : decode cL_village 16 = .ok (.ireturn, 1) := by decide +kernel
set_option maxRecDepth 20000 in
theorem ggL_days_X12_days : GoodIn wsL_days wsX12_days := goodIn_ca (goodIn_r _ [6, 7, 8, 9, 10, 11, 12, 13, 14, 15, 16, 17, 18, 19, 20, 5, 21, 22, 23, 24, 25, 26, 27, 28, 29, 30, 31, 32, 33, 34, 35, 36, 37, 38, 39, 40, 41, 42, 43, 44, 45, 46, 47, 48, 49, 50, 51, 52, 53, 54, 55, 56, 57, 58, 59, 60, 61, 62, 63, 64, 65, 66, 67, 68, 69, 70, 71, 72, 73, 74, 75, 76, 77, 78, 79, 80, 81, 82, 83, 84, 85, 86, 87, 88, 89, 90, 91, 92, 93, 94, 95, 96, 97, 98, 99, 100, 101, 102, 103, 104, 105, 106, 107, 108, 109, 110, 111, 112, 113, 114, 115, 116, 117, 118, 119, 120, 121, 122, 123, 124, 125, 126, 127, 128, 129, 130, 131, 132, 133, 134, 135, 136, 137, 138, 139, 140, 141, 142, 143, 144, 145, 146, 147, 148, 149, 150, 151, 152, 153, 154, 155, 156, 157, 158, 159, 160, 161, 162, 163, 164, 165, 166, 167, 168, 169, 170, 171, 172, 173, 174, 175, 176, 177, 178, 179, 180, 181, 182, 183, 184, 185, 186, 187, 188, 189, 190, 191, 192, 193, 194, 195, 196, 197, 198, 199, 200, 201, 202, 203, 204, 205, 206, 207, 208, 209, 210, 211, 212, 213, 214, 215, 216, 217, 218, 219, 220, 221, 222, 223, 224, 225, 226, 227, 228, 229, 230, 231, 232, 233, 234, 235, 236, 237, 238, 239, 240, 241, 242, 243, 244, 245, 246, 247, 248, 249, 250, 251, 252, 253, 254, 255, 256, 257, 258, 259, 260, 261, 262, 263, 264, 265, 266, 267, 268, 269, 270, 271, 272, 273, 274, 275, 276, 277, 278, 279, 280, 281, 282, 283, 284, 285, 286, 287, 288, 289, 290, 291, 292, 293, 294, 295, 296, 297, 298, 299, 300, 301, 302, 303, 304, 305, 306, 307, 308, 309, 310, 311, 312, 313, 314, 315, 316, 317, 318, 319, 320, 321, 322, 323] (by decide +kernel) (by decide +kernel)) (goodIn_sub (fun _ h => List.mem_cons_of_mem _ (List.mem_append_right _ h)) (by decide +kernel))
set_option maxRecDepth 20000 in
theorem gL_days_X12_days : GoodIn wsL_days (wsV RL 15 RX12 yX12_days wsX12_days) := goodIn_app (goodIn_of _ (by decide +kernel)) ggL_days_X12_days
theorem dL_days_0 : decode cL_days 0 = .ok (.aload_n 2, 1) := by decide +kernel
theorem dL_days_1 : decode cL_days 1 = .ok (.iconst 0, 1) := by decide +kernel
theorem dL_days_2 : decode cL_days 2 = .ok (.aload_n 0, 1) := by decide +kernel
theorem dL_days_3 : decode cL_days 3 = .ok (.iload_n 1, 1) := by decide +kernel
theorem dL_days_4 : decode cL_days 4 = .ok (.invokevirtual 15, 3) := by decide +kernel
theorem dL_days_7 : decode cL_days 7 = .ok (.i2l, 1) := by decide +kernel
theorem dL_days_8 : decode cL_days 8 = .ok (.lastore, 1) := by decide +kernel
theorem dL_days_9 : decode cL_days 9 = .ok (.goto 6, 3) := by decide +kernel
theorem dL_days_12 : decode cL_days 12 = .ok (.astore_n 3, 1) := by decide +kernel
theorem dL_days_13 : decode cL_days 13 = .ok (.iconst 1, 1) := by decide +kernel
theorem dL_days_14 : decode cL_days 14 = .ok (.ireturn, 1) := by decide +kernel
theorem dL_days_15 : decode cL_days 15 = .ok (.iconst 0, 1) := by decide +kernel
theorem dL_days_16 : decode cL_days 16 = .ok (.ireturn, 1) := by decide +kernel
set_option maxRecDepth 20000 in
theorem ggL_count_X12_count : GoodIn wsL_count wsX12_count := goodIn_ca (goodIn_r _ [6, 7, 8, 9, 10, 11, 12, 13, 14, 15, 16, 17, 18, 19, 20, 21, 22, 23, 24, 25, 26, 27, 28, 29, 30, 31, 32, 33, 34, 35, 36, 37, 38, 39, 40, 41, 42, 43, 44, 45, 46, 47, 48, 49, 50, 51, 52, 53, 54, 55, 56, 57, 58, 59, 60, 61, 62, 63, 64, 65, 66, 67, 68, 69, 70, 71] (by decide +kernel) (by decide +kernel)) (goodIn_sub (fun _ h => List.mem_cons_of_mem _ (List.mem_append_right _ h)) (by decide +kernel))
set_option maxRecDepth 20000 in
theorem gL_count_X12_count : GoodIn wsL_count (wsV RL 18 RX12 yX12_count wsX12_count) := goodIn_app (goodIn_of _ (by decide +kernel)) ggL_count_X12_count
theorem dL_count_0 : decode cL_count 0 = .ok (.aload_n 2, 1) := by decide +kernel
theorem dL_count_1 : decode cL_count 1 = .ok (.iconst 0, 1) := by decide +kernel
theorem dL_count_2 : decode cL_count 2 = .ok (.aload_n 0, 1) := by decide +kernel
theorem dL_count_3 : decode cL_count 3 = .ok (.iload_n 1, 1) := by decide +kernel
theorem dL_count_4 : decode cL_count 4 = .ok (.invokevirtual 18, 3) := by decide +kernel
theorem dL_count_7 : decode cL_count 7 = .ok (.i2l, 1) := by decide +kernel
theorem dL_count_8 : decode cL_count 8 = .ok (.lastore, 1) := by decide +kernel
theorem dL_count_9 : decode cL_count 9 = .ok (.goto 6, 3) := by decide +kernel
theorem dL_count_12 : decode cL_count 12 = .ok (.astore_n 3, 1) := by decide +kernel
theorem dL_count_13 : decode cL_count 13 = .ok (.iconst 1, 1) := by decide +kernel
theorem dL_count_14 : decode cL_count 14 = .ok (.ireturn, 1) := by decide +kernel
theorem dL_count_15 : decode cL_count 15 = .ok (.iconst 0, 1) := by decide +kernel
theorem dL_count_16 : decode cL_count 16 = .ok (.ireturn, 1) := by decide +kernel
set_option maxRecDepth 20000 in
theorem ggL_owner_X12_owner : GoodIn wsL_owner wsX12_owner := goodIn_ca (goodIn_r _ [6, 7, 8, 9, 10, 11, 12, 13, 14, 5, 15, 16, 17, 18, 19, 20, 21, 22, 23, 24, 25, 26, 27, 28, 29, 30, 31, 32, 33, 34, 35, 36, 37, 38, 39, 40, 41, 42, 43, 44, 45, 46, 47, 48, 49, 50, 51, 52, 53, 54, 55, 56, 57, 58, 59, 60, 61, 62, 63, 64, 65, 66, 67, 68, 69, 70, 71, 72, 73, 74, 75, 76, 77, 78, 79, 80, 81, 82, 83, 84, 85, 86, 87, 88, 89, 90, 91, 92, 93, 94, 95, 96, 97, 98, 99, 100, 101, 102, 103, 104, 105, 106, 107, 108, 109, 110, 111, 112, 113, 114, 115, 116, 117, 118, 119, 120, 121, 122, 123, 124] (by decide +kernel) (by decide +kernel)) (goodIn_sub (fun _ h => List.mem_cons_of_mem _ (List.mem_append_right _ h)) (by decide +kernel))
set_option maxRecDepth 20000 in
theorem gL_owner_X12_owner : GoodIn wsL_owner (wsV RL 23 RX12 yX12_owner wsX12_owner) := goodIn_app (goodIn_of _ (by decide +kernel)) ggL_owner_X12_owner
theorem dL_owner_0 : decode cL_owner 0 = .ok (.aload_n 3, 1) := by decide +kernel
theorem dL_owner_1 : decode cL_owner 1 = .ok (.iconst 0, 1) := by decide +kernel
theorem dL_owner_2 : decode cL_owner 2 = .ok (.aload_n 0, 1) := by decide +kernel
theorem dL_owner_3 : decode cL_owner 3 = .ok (.iload_n 1, 1) := by decide +kernel
theorem dL_owner_4 : decode cL_owner 4 = .ok (.iload_n 2, 1) := by decide +kernel
theorem dL_owner_5 : decode cL_owner 5 = .ok (.invokevirtual 23, 3) := by decide +kernel
theorem dL_owner_8 : decode cL_owner 8 = .ok (.i2l, 1) := by decide +kernel
theorem dL_owner_9 : decode cL_owner 9 = .ok (.lastore, 1) := by decide +kernel
theorem dL_owner_10 : decode cL_owner 10 = .ok (.goto 7, 3) := by decide +kernel
theorem dL_owner_13 : decode cL_owner 13 = .ok (.astore 4, 2) := by decide +kernel
theorem dL_owner_15 : decode cL_owner 15 = .ok (.iconst 1, 1) := by decide +kernel
theorem dL_owner_16 : decode cL_owner 16 = .ok (.ireturn, 1) := by decide +kernel
theorem dL_owner_17 : decode cL_owner 17 = .ok (.iconst 0, 1) := by decide +kernel
theorem dL_owner_18 : decode cL_owner 18 = .ok (.ireturn, 1) := by decide +kernel
set_option maxRecDepth 20000 in
theorem ggL_door_X12_door : GoodIn wsL_door wsX12_door := goodIn_ca (goodIn_r _ [6, 7, 8, 9, 10, 11, 5, 12, 13, 14, 15, 16, 17, 18, 19, 20, 21, 22, 23, 24, 25, 26, 27, 28, 29, 30, 31, 32, 33, 34, 35, 36, 37, 38, 39, 40, 41, 42, 43, 44, 45, 46, 47, 48, 49, 50, 51, 52, 53, 54, 55, 56, 57, 58, 59, 60, 61, 62, 63, 64, 65, 66, 67, 68, 69, 70, 71, 72, 73, 74, 75, 76, 77, 78] (by decide +kernel) (by decide +kernel)) (goodIn_sub (fun _ h => List.mem_cons_of_mem _ (List.mem_append_right _ h)) (by decide +kernel))
set_option maxRecDepth 20000 in
theorem gL_door_X12_door : GoodIn wsL_door (wsV RL 27 RX12 yX12_door wsX12_door) := goodIn_app (goodIn_of _ (by decide +kernel)) ggL_door_X12_door
theorem dL_door_0 : decode cL_door 0 = .ok (.aload_n 3, 1) := by decide +kernel
theorem dL_door_1 : decode cL_door 1 = .ok (.iconst 0, 1) := by decide +kernel
theorem dL_door_2 : decode cL_door 2 = .ok (.aload_n 0, 1) := by decide +kernel
theorem dL_door_3 : decode cL_door 3 = .ok (.iload_n 1, 1) := by decide +kernel
theorem dL_door_4 : decode cL_door 4 = .ok (.iload_n 2, 1) := by decide +kernel
theorem dL_door_5 : decode cL_door 5 = .ok (.invokevirtual 27, 3) := by decide +kernel
theorem dL_door_8 : decode cL_door 8 = .ok (.i2l, 1) := by decide +kernel
theorem dL_door_9 : decode cL_door 9 = .ok (.lastore, 1) := by decide +kernel
theorem dL_door_10 : decode cL_door 10 = .ok (.goto 7, 3) := by decide +kernel
theorem dL_door_13 : decode cL_door 13 = .ok (.astore 4, 2) := by decide +kernel
theorem dL_door_15 : decode cL_door 15 = .ok (.iconst 1, 1) := by decide +kernel
theorem dL_door_16 : decode cL_door 16 = .ok (.ireturn, 1) := by decide +kernel
theorem dL_door_17 : decode cL_door 17 = .ok (.iconst 0, 1) := by decide +kernel
theorem dL_door_18 : decode cL_door 18 = .ok (.ireturn, 1) := by decide +kernel
set_option maxRecDepth 20000 in
theorem ggL_worth_X12_worth : GoodIn wsL_worth wsX12_worth := goodIn_ca (goodIn_ca (goodIn_r _ [7, 8, 9, 10, 11, 12, 6, 13, 14, 15, 16, 17, 18, 19, 20, 21, 22, 23, 24, 25, 26, 27, 28, 29, 30, 31, 32, 33, 34, 35, 36, 37, 38, 39, 40, 41, 42, 43, 44, 45, 46, 47, 48, 49, 50, 51, 52, 53, 54, 55, 56, 57, 58, 59, 60, 61, 62, 63, 64, 65, 66, 67, 68, 69, 70, 71, 72, 73, 74] (by decide +kernel) (by decide +kernel)) (goodIn_sub (fun _ h => List.mem_cons_of_mem _ (List.mem_append_left _ (List.mem_append_right _ h))) (by decide +kernel))) (goodIn_sub (fun _ h => List.mem_cons_of_mem _ (List.mem_append_right _ h)) (by decide +kernel))
set_option maxRecDepth 20000 in
theorem gL_worth_X12_worth : GoodIn wsL_worth (wsV RL 30 RX12 yX12_worth wsX12_worth) := goodIn_app (goodIn_of _ (by decide +kernel)) ggL_worth_X12_worth
theorem dL_worth_0 : decode cL_worth 0 = .ok (.aload_n 3, 1) := by decide +kernel
theorem dL_worth_1 : decode cL_worth 1 = .ok (.iconst 0, 1) := by decide +kernel
theorem dL_worth_2 : decode cL_worth 2 = .ok (.aload_n 0, 1) := by decide +kernel
theorem dL_worth_3 : decode cL_worth 3 = .ok (.iload_n 1, 1) := by decide +kernel
theorem dL_worth_4 : decode cL_worth 4 = .ok (.iload_n 2, 1) := by decide +kernel
theorem dL_worth_5 : decode cL_worth 5 = .ok (.invokevirtual 30, 3) := by decide +kernel
theorem dL_worth_8 : decode cL_worth 8 = .ok (.i2l, 1) := by decide +kernel
theorem dL_worth_9 : decode cL_worth 9 = .ok (.lastore, 1) := by decide +kernel
theorem dL_worth_10 : decode cL_worth 10 = .ok (.goto 11, 3) := by decide +kernel
theorem dL_worth_13 : decode cL_worth 13 = .ok (.astore 4, 2) := by decide +kernel
theorem dL_worth_15 : decode cL_worth 15 = .ok (.iconst 1, 1) := by decide +kernel
theorem dL_worth_16 : decode cL_worth 16 = .ok (.ireturn, 1) := by decide +kernel
theorem dL_worth_17 : decode cL_worth 17 = .ok (.astore 4, 2) := by decide +kernel
theorem dL_worth_19 : decode cL_worth 19 = .ok (.iconst 2, 1) := by decide +kernel
theorem dL_worth_20 : decode cL_worth 20 = .ok (.ireturn, 1) := by decide +kernel
theorem dL_worth_21 : decode cL_worth 21 = .ok (.iconst 0, 1) := by decide +kernel
theorem dL_worth_22 : decode cL_worth 22 = .ok (.ireturn, 1) := by decide +kernel
set_option maxRecDepth 20000 in
theorem ggL_best_X12_best : GoodIn wsL_best wsX12_best := goodIn_ca (goodIn_r _ [6, 7, 8, 9, 10, 11, 5, 12, 13, 14, 15, 16, 17, 18, 19, 20, 21, 22, 23, 24, 25, 26, 27, 28, 29, 30, 31, 32, 33, 34, 35, 36, 37, 38, 39, 40, 41, 42, 43, 44, 45, 46, 47, 48, 49, 50, 51, 52, 53, 54, 55, 56, 57, 58, 59, 60, 61, 62, 63, 64, 65, 66, 67, 68, 69, 70, 71, 72, 73, 74, 75, 76, 77, 78, 79, 80, 81, 82, 83, 84, 85, 86, 87, 88, 89, 90, 91, 92, 93, 94, 95, 96, 97, 98] (by decide +kernel) (by decide +kernel)) (goodIn_sub (fun _ h => List.mem_cons_of_mem _ (List.mem_append_right _ h)) (by decide +kernel))
set_option maxRecDepth 20000 in
theorem gL_best_X12_best : GoodIn wsL_best (wsV RL 33 RX12 yX12_best wsX12_best) := goodIn_app (goodIn_of _ (by decide +kernel)) ggL_best_X12_best
theorem dL_best_0 : decode cL_best 0 = .ok (.aload_n 3, 1) := by decide +kernel
theorem dL_best_1 : decode cL_best 1 = .ok (.iconst 0, 1) := by decide +kernel
theorem dL_best_2 : decode cL_best 2 = .ok (.aload_n 0, 1) := by decide +kernel
theorem dL_best_3 : decode cL_best 3 = .ok (.iload_n 1, 1) := by decide +kernel
theorem dL_best_4 : decode cL_best 4 = .ok (.iload_n 2, 1) := by decide +kernel
theorem dL_best_5 : decode cL_best 5 = .ok (.invokevirtual 33, 3) := by decide +kernel
theorem dL_best_8 : decode cL_best 8 = .ok (.i2l, 1) := by decide +kernel
theorem dL_best_9 : decode cL_best 9 = .ok (.lastore, 1) := by decide +kernel
theorem dL_best_10 : decode cL_best 10 = .ok (.goto 7, 3) := by decide +kernel
theorem dL_best_13 : decode cL_best 13 = .ok (.astore 4, 2) := by decide +kernel
theorem dL_best_15 : decode cL_best 15 = .ok (.iconst 1, 1) := by decide +kernel
theorem dL_best_16 : decode cL_best 16 = .ok (.ireturn, 1) := by decide +kernel
theorem dL_best_17 : decode cL_best 17 = .ok (.iconst 0, 1) := by decide +kernel
theorem dL_best_18 : decode cL_best 18 = .ok (.ireturn, 1) := by decide +kernel
set_option maxRecDepth 20000 in
theorem ggL_span_X12_span : GoodIn wsL_span wsX12_span := goodIn_ca (goodIn_ca (goodIn_r _ [7, 8, 9, 10, 11, 12, 6, 13, 14, 15, 16, 17, 18, 19, 20, 21, 22, 23, 24, 25, 26, 27, 28, 29, 30, 31, 32, 33, 34, 35, 36, 37, 38, 39, 40, 41, 42, 43, 44, 45, 46, 47, 48, 49, 50, 51, 52, 53, 54, 55, 56, 57, 58, 59, 60, 61, 62, 63, 64, 65, 66, 67, 68, 69, 70, 71, 72, 73, 74, 75, 76, 77, 78, 79, 80, 81, 82, 83, 84, 85, 86, 87, 88, 89, 90, 91, 92, 93, 94, 95, 96, 97, 98, 99, 100, 101, 102, 103, 104, 105, 106, 107, 108, 109, 110, 111, 112, 113, 114, 115, 116, 117, 118, 119, 120, 121, 122, 123, 124, 125, 126, 127, 128, 129, 130] (by decide +kernel) (by decide +kernel)) (goodIn_sub (fun _ h => List.mem_cons_of_mem _ (List.mem_append_left _ (List.mem_append_right _ h))) (by decide +kernel))) (goodIn_sub (fun _ h => List.mem_cons_of_mem _ (List.mem_append_right _ h)) (by decide +kernel))
set_option maxRecDepth 20000 in
theorem gL_span_X12_span : GoodIn wsL_span (wsV RL 36 RX12 yX12_span wsX12_span) := goodIn_app (goodIn_of _ (by decide +kernel)) ggL_span_X12_span
theorem dL_span_0 : decode cL_span 0 = .ok (.aload 4, 2) := by decide +kernel
theorem dL_span_2 : decode cL_span 2 = .ok (.iconst 0, 1) := by decide +kernel
theorem dL_span_3 : decode cL_span 3 = .ok (.aload_n 0, 1) := by decide +kernel
theorem dL_span_4 : decode cL_span 4 = .ok (.iload_n 1, 1) := by decide +kernel
theorem dL_span_5 : decode cL_span 5 = .ok (.iload_n 2, 1) := by decide +kernel
theorem dL_span_6 : decode cL_span 6 = .ok (.iload_n 3, 1) := by decide +kernel
theorem dL_span_7 : decode cL_span 7 = .ok (.invokevirtual 36, 3) := by decide +kernel
theorem dL_span_10 : decode cL_span 10 = .ok (.i2l, 1) := by decide +kernel
theorem dL_span_11 : decode cL_span 11 = .ok (.lastore, 1) := by decide +kernel
theorem dL_span_12 : decode cL_span 12 = .ok (.goto 11, 3) := by decide +kernel
theorem dL_span_15 : decode cL_span 15 = .ok (.astore 5, 2) := by decide +kernel
theorem dL_span_17 : decode cL_span 17 = .ok (.iconst 1, 1) := by decide +kernel
theorem dL_span_18 : decode cL_span 18 = .ok (.ireturn, 1) := by decide +kernel
theorem dL_span_19 : decode cL_span 19 = .ok (.astore 5, 2) := by decide +kernel
theorem dL_span_21 : decode cL_span 21 = .ok (.iconst 2, 1) := by decide +kernel
theorem dL_span_22 : decode cL_span 22 = .ok (.ireturn, 1) := by decide +kernel
theorem dL_span_23 : decode cL_span 23 = .ok (.iconst 0, 1) := by decide +kernel
theorem dL_span_24 : decode cL_span 24 = .ok (.ireturn, 1) := by decide +kernel
set_option maxRecDepth 20000 in
theorem ggL_rests_X12_rests : GoodIn wsL_rests wsX12_rests := goodIn_ca (goodIn_r _ [6, 7, 8, 9, 10, 11, 12, 13, 14, 15, 5, 16, 17, 18, 19, 20, 21, 22, 23, 24, 25, 26, 27, 28, 29, 30, 31, 32, 33, 34, 35, 36, 37, 38, 39, 40, 41, 42, 43, 44, 45, 46, 47, 48, 49, 50, 51, 52, 53, 54, 55, 56, 57, 58, 59, 60, 61, 62, 63, 64, 65, 66, 67, 68, 69, 70, 71, 72, 73, 74, 75, 76, 77, 78, 79, 80, 81, 82, 83, 84, 85, 86, 87, 88, 89, 90, 91, 92, 93, 94, 95, 96, 97, 98, 99, 100, 101, 102, 103, 104, 105, 106, 107, 108, 109, 110, 111, 112, 113, 114, 115, 116, 117, 118, 119, 120, 121, 122, 123, 124, 125, 126, 127, 128, 129, 130, 131, 132, 133, 134, 135, 136, 137, 138, 139, 140, 141, 142, 143, 144, 145, 146, 147, 148, 149, 150, 151, 152, 153, 154, 155, 156, 157, 158, 159, 160, 161, 162, 163, 164, 165, 166, 167, 168, 169] (by decide +kernel) (by decide +kernel)) (goodIn_sub (fun _ h => List.mem_cons_of_mem _ (List.mem_append_right _ h)) (by decide +kernel))
set_option maxRecDepth 20000 in
theorem gL_rests_X12_rests : GoodIn wsL_rests (wsV RL 40 RX12 yX12_rests wsX12_rests) := goodIn_app (goodIn_of _ (by decide +kernel)) ggL_rests_X12_rests
theorem dL_rests_0 : decode cL_rests 0 = .ok (.aload_n 2, 1) := by decide +kernel
theorem dL_rests_1 : decode cL_rests 1 = .ok (.iconst 0, 1) := by decide +kernel
theorem dL_rests_2 : decode cL_rests 2 = .ok (.aload_n 0, 1) := by decide +kernel
theorem dL_rests_3 : decode cL_rests 3 = .ok (.iload_n 1, 1) := by decide +kernel
theorem dL_rests_4 : decode cL_rests 4 = .ok (.invokevirtual 40, 3) := by decide +kernel
theorem dL_rests_7 : decode cL_rests 7 = .ok (.i2l, 1) := by decide +kernel
theorem dL_rests_8 : decode cL_rests 8 = .ok (.lastore, 1) := by decide +kernel
theorem dL_rests_9 : decode cL_rests 9 = .ok (.goto 6, 3) := by decide +kernel
theorem dL_rests_12 : decode cL_rests 12 = .ok (.astore_n 3, 1) := by decide +kernel
theorem dL_rests_13 : decode cL_rests 13 = .ok (.iconst 1, 1) := by decide +kernel
theorem dL_rests_14 : decode cL_rests 14 = .ok (.ireturn, 1) := by decide +kernel
theorem dL_rests_15 : decode cL_rests 15 = .ok (.iconst 0, 1) := by decide +kernel
theorem dL_rests_16 : decode cL_rests 16 = .ok (.ireturn, 1) := by decide +kernel
set_option maxRecDepth 20000 in
theorem ggL_alike_X12_alike : GoodIn wsL_alike wsX12_alike := goodIn_ca (goodIn_r _ [6, 7, 8, 9, 10, 5, 11, 12, 13, 14, 15, 16, 17, 18, 19, 20, 21, 22, 23, 24] (by decide +kernel) (by decide +kernel)) (goodIn_sub (fun _ h => List.mem_cons_of_mem _ (List.mem_append_right _ h)) (by decide +kernel))
set_option maxRecDepth 20000 in
theorem gL_alike_X12_alike : GoodIn wsL_alike (wsV RL 43 RX12 yX12_alike wsX12_alike) := goodIn_app (goodIn_of _ (by decide +kernel)) ggL_alike_X12_alike
theorem dL_alike_0 : decode cL_alike 0 = .ok (.aload_n 3, 1) := by decide +kernel
theorem dL_alike_1 : decode cL_alike 1 = .ok (.iconst 0, 1) := by decide +kernel
theorem dL_alike_2 : decode cL_alike 2 = .ok (.aload_n 0, 1) := by decide +kernel
theorem dL_alike_3 : decode cL_alike 3 = .ok (.iload_n 1, 1) := by decide +kernel
theorem dL_alike_4 : decode cL_alike 4 = .ok (.iload_n 2, 1) := by decide +kernel
theorem dL_alike_5 : decode cL_alike 5 = .ok (.invokevirtual 43, 3) := by decide +kernel
theorem dL_alike_8 : decode cL_alike 8 = .ok (.i2l, 1) := by decide +kernel
theorem dL_alike_9 : decode cL_alike 9 = .ok (.lastore, 1) := by decide +kernel
theorem dL_alike_10 : decode cL_alike 10 = .ok (.goto 7, 3) := by decide +kernel
theorem dL_alike_13 : decode cL_alike 13 = .ok (.astore 4, 2) := by decide +kernel
theorem dL_alike_15 : decode cL_alike 15 = .ok (.iconst 1, 1) := by decide +kernel
theorem dL_alike_16 : decode cL_alike 16 = .ok (.ireturn, 1) := by decide +kernel
theorem dL_alike_17 : decode cL_alike 17 = .ok (.iconst 0, 1) := by decide +kernel
theorem dL_alike_18 : decode cL_alike 18 = .ok (.ireturn, 1) := by decide +kernel
set_option maxRecDepth 20000 in
theorem ggL_hedge_X12_hedge : GoodIn wsL_hedge wsX12_hedge := goodIn_ca (goodIn_ca (goodIn_r _ [7, 8, 9, 10, 11, 12, 13, 6, 14, 15, 16, 17, 18, 19, 20, 21, 22, 23, 24, 25, 26, 27, 28, 29, 30, 31, 32, 33, 34, 35, 36, 37, 38, 39, 40, 41, 42, 43, 44, 45, 46, 47, 48, 49, 50, 51, 52, 53, 54, 55, 56, 57, 58, 59, 60, 61, 62, 63, 64, 65, 66, 67, 68, 69, 70, 71, 72, 73, 74, 75, 76, 77, 78, 79, 80, 81, 82, 83, 84, 85, 86, 87, 88, 89, 90, 91, 92, 93, 94, 95, 96, 97, 98, 99, 100, 101, 102, 103, 104, 105, 106, 107, 108, 109, 110, 111, 112, 113, 114, 115, 116, 117, 118, 119, 120, 121, 122, 123, 124, 125, 126, 127, 128, 129, 130, 131, 132, 133] (by decide +kernel) (by decide +kernel)) (goodIn_sub (fun _ h => List.mem_cons_of_mem _ (List.mem_append_left _ (List.mem_append_right _ h))) (by decide +kernel))) (goodIn_sub (fun _ h => List.mem_cons_of_mem _ (List.mem_append_right _ h)) (by decide +kernel))
set_option maxRecDepth 20000 in
theorem gL_hedge_X12_hedge : GoodIn wsL_hedge (wsV RL 46 RX12 yX12_hedge wsX12_hedge) := goodIn_app (goodIn_of _ (by decide +kernel)) ggL_hedge_X12_hedge
theorem dL_hedge_0 : decode cL_hedge 0 = .ok (.aload 5, 2) := by decide +kernel
theorem dL_hedge_2 : decode cL_hedge 2 = .ok (.iconst 0, 1) := by decide +kernel
theorem dL_hedge_3 : decode cL_hedge 3 = .ok (.aload_n 0, 1) := by decide +kernel
theorem dL_hedge_4 : decode cL_hedge 4 = .ok (.iload_n 1, 1) := by decide +kernel
theorem dL_hedge_5 : decode cL_hedge 5 = .ok (.iload_n 2, 1) := by decide +kernel
theorem dL_hedge_6 : decode cL_hedge 6 = .ok (.iload_n 3, 1) := by decide +kernel
theorem dL_hedge_7 : decode cL_hedge 7 = .ok (.iload 4, 2) := by decide +kernel
theorem dL_hedge_9 : decode cL_hedge 9 = .ok (.invokevirtual 46, 3) := by decide +kernel
theorem dL_hedge_12 : decode cL_hedge 12 = .ok (.i2l, 1) := by decide +kernel
theorem dL_hedge_13 : decode cL_hedge 13 = .ok (.lastore, 1) := by decide +kernel
theorem dL_hedge_14 : decode cL_hedge 14 = .ok (.goto 11, 3) := by decide +kernel
theorem dL_hedge_17 : decode cL_hedge 17 = .ok (.astore 6, 2) := by decide +kernel
theorem dL_hedge_19 : decode cL_hedge 19 = .ok (.iconst 1, 1) := by decide +kernel
theorem dL_hedge_20 : decode cL_hedge 20 = .ok (.ireturn, 1) := by decide +kernel
theorem dL_hedge_21 : decode cL_hedge 21 = .ok (.astore 6, 2) := by decide +kernel
theorem dL_hedge_23 : decode cL_hedge 23 = .ok (.iconst 2, 1) := by decide +kernel
theorem dL_hedge_24 : decode cL_hedge 24 = .ok (.ireturn, 1) := by decide +kernel
theorem dL_hedge_25 : decode cL_hedge 25 = .ok (.iconst 0, 1) := by decide +kernel
theorem dL_hedge_26 : decode cL_hedge 26 = .ok (.ireturn, 1) := by decide +kernel
set_option maxRecDepth 20000 in
theorem ggL_safer_X12_safer : GoodIn wsL_safer wsX12_safer := goodIn_ca (goodIn_ca (goodIn_r _ [7, 8, 9, 10, 11, 6, 12, 13, 14, 15, 16, 17, 18, 19, 20, 21, 22, 23, 24, 25, 26, 27, 28, 29, 30, 31, 32, 33, 34, 35, 36, 37, 38, 39, 40, 41, 42, 43, 44, 45, 46, 47, 48, 49, 50, 51, 52, 53, 54, 55, 56, 57, 58, 59, 60, 61, 62, 63, 64, 65, 66, 67, 68, 69, 70, 71, 72, 73, 74, 75, 76, 77, 78, 79, 80, 81, 82, 83, 84, 85, 86, 87, 88, 89, 90, 91, 92, 93, 94, 95, 96, 97, 98, 99, 100, 101, 102, 103, 104, 105, 106, 107, 108, 109, 110, 111, 112, 113, 114, 115, 116, 117, 118, 119, 120, 121, 122, 123, 124, 125, 126, 127, 128, 129, 130, 131, 132, 133, 134, 135, 136, 137, 138, 139, 140, 141, 142, 143, 144, 145, 146, 147, 148, 149, 150, 151, 152] (by decide +kernel) (by decide +kernel)) (goodIn_sub (fun _ h => List.mem_cons_of_mem _ (List.mem_append_left _ (List.mem_append_right _ h))) (by decide +kernel))) (goodIn_sub (fun _ h => List.mem_cons_of_mem _ (List.mem_append_right _ h)) (by decide +kernel))
set_option maxRecDepth 20000 in
theorem gL_safer_X12_safer : GoodIn wsL_safer (wsV RL 50 RX12 yX12_safer wsX12_safer) := goodIn_app (goodIn_of _ (by decide +kernel)) ggL_safer_X12_safer
theorem dL_safer_0 : decode cL_safer 0 = .ok (.aload 4, 2) := by decide +kernel
theorem dL_safer_2 : decode cL_safer 2 = .ok (.iconst 0, 1) := by decide +kernel
theorem dL_safer_3 : decode cL_safer 3 = .ok (.aload_n 0, 1) := by decide +kernel
theorem dL_safer_4 : decode cL_safer 4 = .ok (.iload_n 1, 1) := by decide +kernel
theorem dL_safer_5 : decode cL_safer 5 = .ok (.iload_n 2, 1) := by decide +kernel
theorem dL_safer_6 : decode cL_safer 6 = .ok (.iload_n 3, 1) := by decide +kernel
theorem dL_safer_7 : decode cL_safer 7 = .ok (.invokevirtual 50, 3) := by decide +kernel
theorem dL_safer_10 : decode cL_safer 10 = .ok (.i2l, 1) := by decide +kernel
theorem dL_safer_11 : decode cL_safer 11 = .ok (.lastore, 1) := by decide +kernel
theorem dL_safer_12 : decode cL_safer 12 = .ok (.goto 11, 3) := by decide +kernel
theorem dL_safer_15 : decode cL_safer 15 = .ok (.astore 5, 2) := by decide +kernel
theorem dL_safer_17 : decode cL_safer 17 = .ok (.iconst 1, 1) := by decide +kernel
theorem dL_safer_18 : decode cL_safer 18 = .ok (.ireturn, 1) := by decide +kernel
theorem dL_safer_19 : decode cL_safer 19 = .ok (.astore 5, 2) := by decide +kernel
theorem dL_safer_21 : decode cL_safer 21 = .ok (.iconst 2, 1) := by decide +kernel
theorem dL_safer_22 : decode cL_safer 22 = .ok (.ireturn, 1) := by decide +kernel
theorem dL_safer_23 : decode cL_safer 23 = .ok (.iconst 0, 1) := by decide +kernel
theorem dL_safer_24 : decode cL_safer 24 = .ok (.ireturn, 1) := by decide +kernel
set_option maxRecDepth 20000 in
theorem ggL_chalked_X12_chalked : GoodIn wsL_chalked wsX12_chalked := goodIn_ca (goodIn_r _ [6, 7, 8, 9, 10, 11, 5, 12, 13, 14, 15, 16, 17, 18, 19, 20, 21, 22, 23, 24, 25, 26, 27, 28, 29, 30, 31, 32, 33, 34, 35, 36, 37, 38, 39, 40, 41, 42, 43, 44, 45, 46, 47, 48, 49, 50, 51, 52, 53, 54, 55, 56, 57, 58, 59, 60, 61, 62, 63, 64, 65, 66, 67, 68, 69, 70, 71, 72, 73, 74, 75, 76, 77, 78, 79, 80, 81, 82, 83] (by decide +kernel) (by decide +kernel)) (goodIn_sub (fun _ h => List.mem_cons_of_mem _ (List.mem_append_right _ h)) (by decide +kernel))
set_option maxRecDepth 20000 in
theorem gL_chalked_X12_chalked : GoodIn wsL_chalked (wsV RL 53 RX12 yX12_chalked wsX12_chalked) := goodIn_app (goodIn_of _ (by decide +kernel)) ggL_chalked_X12_chalked
theorem dL_chalked_0 : decode cL_chalked 0 = .ok (.aload_n 2, 1) := by decide +kernel
theorem dL_chalked_1 : decode cL_chalked 1 = .ok (.iconst 0, 1) := by decide +kernel
theorem dL_chalked_2 : decode cL_chalked 2 = .ok (.aload_n 0, 1) := by decide +kernel
theorem dL_chalked_3 : decode cL_chalked 3 = .ok (.iload_n 1, 1) := by decide +kernel
theorem dL_chalked_4 : decode cL_chalked 4 = .ok (.invokevirtual 53, 3) := by decide +kernel
theorem dL_chalked_7 : decode cL_chalked 7 = .ok (.i2l, 1) := by decide +kernel
theorem dL_chalked_8 : decode cL_chalked 8 = .ok (.lastore, 1) := by decide +kernel
theorem dL_chalked_9 : decode cL_chalked 9 = .ok (.goto 6, 3) := by decide +kernel
theorem dL_chalked_12 : decode cL_chalked 12 = .ok (.astore_n 3, 1) := by decide +kernel
theorem dL_chalked_13 : decode cL_chalked 13 = .ok (.iconst 1, 1) := by decide +kernel
theorem dL_chalked_14 : decode cL_chalked 14 = .ok (.ireturn, 1) := by decide +kernel
theorem dL_chalked_15 : decode cL_chalked 15 = .ok (.iconst 0, 1) := by decide +kernel
theorem dL_chalked_16 : decode cL_chalked 16 = .ok (.ireturn, 1) := by decide +kernel
set_option maxRecDepth 20000 in
theorem ggL_voids_X12_voids : GoodIn wsL_voids wsX12_voids := goodIn_ca (goodIn_r _ [6, 7, 8, 9, 10, 5, 11, 12, 13, 14, 15, 16, 17, 18, 19, 20, 21, 22, 23, 24, 25, 26, 27, 28, 29, 30, 31, 32, 33, 34, 35, 36, 37, 38, 39, 40, 41, 42, 43, 44, 45, 46, 47, 48, 49, 50, 51, 52, 53, 54, 55, 56, 57, 58, 59, 60, 61, 62, 63, 64, 65, 66, 67, 68, 69, 70, 71, 72, 73, 74, 75, 76, 77, 78, 79, 80, 81, 82, 83, 84, 85, 86, 87, 88] (by decide +kernel) (by decide +kernel)) (goodIn_sub (fun _ h => List.mem_cons_of_mem _ (List.mem_append_right _ h)) (by decide +kernel))
set_option maxRecDepth 20000 in
theorem gL_voids_X12_voids : GoodIn wsL_voids (wsV RL 56 RX12 yX12_voids wsX12_voids) := goodIn_app (goodIn_of _ (by decide +kernel)) ggL_voids_X12_voids
theorem dL_voids_0 : decode cL_voids 0 = .ok (.aload_n 3, 1) := by decide +kernel
theorem dL_voids_1 : decode cL_voids 1 = .ok (.iconst 0, 1) := by decide +kernel
theorem dL_voids_2 : decode cL_voids 2 = .ok (.aload_n 0, 1) := by decide +kernel
theorem dL_voids_3 : decode cL_voids 3 = .ok (.iload_n 1, 1) := by decide +kernel
theorem dL_voids_4 : decode cL_voids 4 = .ok (.iload_n 2, 1) := by decide +kernel
theorem dL_voids_5 : decode cL_voids 5 = .ok (.invokevirtual 56, 3) := by decide +kernel
theorem dL_voids_8 : decode cL_voids 8 = .ok (.i2l, 1) := by decide +kernel
theorem dL_voids_9 : decode cL_voids 9 = .ok (.lastore, 1) := by decide +kernel
theorem dL_voids_10 : decode cL_voids 10 = .ok (.goto 7, 3) := by decide +kernel
theorem dL_voids_13 : decode cL_voids 13 = .ok (.astore 4, 2) := by decide +kernel
theorem dL_voids_15 : decode cL_voids 15 = .ok (.iconst 1, 1) := by decide +kernel
theorem dL_voids_16 : decode cL_voids 16 = .ok (.ireturn, 1) := by decide +kernel
theorem dL_voids_17 : decode cL_voids 17 = .ok (.iconst 0, 1) := by decide +kernel
theorem dL_voids_18 : decode cL_voids 18 = .ok (.ireturn, 1) := by decide +kernel
set_option maxRecDepth 20000 in
theorem ggL_mean_X12_mean : GoodIn wsL_mean wsX12_mean := goodIn_ca (goodIn_ca (goodIn_r _ [7, 8, 9, 10, 11, 12, 13, 14, 15, 16, 6, 17, 18, 19, 20, 21, 22, 23, 24, 25, 26, 27, 28, 29, 30, 31, 32, 33, 34, 35, 36, 37, 38, 39, 40, 41, 42, 43, 44, 45, 46, 47, 48, 49, 50, 51, 52, 53, 54, 55, 56, 57, 58, 59, 60, 61, 62, 63, 64, 65, 66, 67, 68, 69, 70, 71, 72, 73, 74, 75, 76, 77, 78, 79, 80, 81, 82, 83, 84, 85, 86, 87, 88, 89, 90, 91, 92, 93, 94] (by decide +kernel) (by decide +kernel)) (goodIn_sub (fun _ h => List.mem_cons_of_mem _ (List.mem_append_left _ (List.mem_append_right _ h))) (by decide +kernel))) (goodIn_sub (fun _ h => List.mem_cons_of_mem _ (List.mem_append_right _ h)) (by decide +kernel))
set_option maxRecDepth 20000 in
theorem gL_mean_X12_mean : GoodIn wsL_mean (wsV RL 59 RX12 yX12_mean wsX12_mean) := goodIn_app (goodIn_of _ (by decide +kernel)) ggL_mean_X12_mean
theorem dL_mean_0 : decode cL_mean 0 = .ok (.aload 5, 2) := by decide +kernel
theorem dL_mean_2 : decode cL_mean 2 = .ok (.iconst 0, 1) := by decide +kernel
theorem dL_mean_3 : decode cL_mean 3 = .ok (.aload_n 0, 1) := by decide +kernel
theorem dL_mean_4 : decode cL_mean 4 = .ok (.iload_n 1, 1) := by decide +kernel
theorem dL_mean_5 : decode cL_mean 5 = .ok (.iload_n 2, 1) := by decide +kernel
theorem dL_mean_6 : decode cL_mean 6 = .ok (.iload_n 3, 1) := by decide +kernel
theorem dL_mean_7 : decode cL_mean 7 = .ok (.iload 4, 2) := by decide +kernel
theorem dL_mean_9 : decode cL_mean 9 = .ok (.invokevirtual 59, 3) := by decide +kernel
theorem dL_mean_12 : decode cL_mean 12 = .ok (.i2l, 1) := by decide +kernel
theorem dL_mean_13 : decode cL_mean 13 = .ok (.lastore, 1) := by decide +kernel
theorem dL_mean_14 : decode cL_mean 14 = .ok (.goto 11, 3) := by decide +kernel
theorem dL_mean_17 : decode cL_mean 17 = .ok (.astore 6, 2) := by decide +kernel
theorem dL_mean_19 : decode cL_mean 19 = .ok (.iconst 1, 1) := by decide +kernel
theorem dL_mean_20 : decode cL_mean 20 = .ok (.ireturn, 1) := by decide +kernel
theorem dL_mean_21 : decode cL_mean 21 = .ok (.astore 6, 2) := by decide +kernel
theorem dL_mean_23 : decode cL_mean 23 = .ok (.iconst 2, 1) := by decide +kernel
theorem dL_mean_24 : decode cL_mean 24 = .ok (.ireturn, 1) := by decide +kernel
theorem dL_mean_25 : decode cL_mean 25 = .ok (.iconst 0, 1) := by decide +kernel
theorem dL_mean_26 : decode cL_mean 26 = .ok (.ireturn, 1) := by decide +kernel
set_option maxRecDepth 20000 in
theorem ggL_pay_X12_pay : GoodIn wsL_pay wsX12_pay := goodIn_ca (goodIn_ca (goodIn_r _ [7, 8, 9, 10, 11, 12, 13, 14, 6, 15, 16, 17, 18, 19, 20, 21, 22, 23, 24, 25, 26, 27, 28, 29, 30, 31, 32, 33, 34, 35, 36, 37, 38, 39, 40, 41, 42, 43, 44, 45, 46, 47, 48, 49, 50, 51, 52, 53, 54, 55, 56, 57, 58, 59, 60, 61, 62, 63, 64, 65, 66, 67, 68, 69, 70, 71, 72, 73, 74, 75, 76, 77, 78, 79, 80, 81, 82, 83, 84, 85, 86, 87, 88, 89, 90, 91, 92, 93, 94] (by decide +kernel) (by decide +kernel)) (goodIn_sub (fun _ h => List.mem_cons_of_mem _ (List.mem_append_left _ (List.mem_append_right _ h))) (by decide +kernel))) (goodIn_sub (fun _ h => List.mem_cons_of_mem _ (List.mem_append_right _ h)) (by decide +kernel))
set_option maxRecDepth 20000 in
theorem gL_pay_X12_pay : GoodIn wsL_pay (wsV RL 63 RX12 yX12_pay wsX12_pay) := goodIn_app (goodIn_of _ (by decide +kernel)) ggL_pay_X12_pay
theorem dL_pay_0 : decode cL_pay 0 = .ok (.aload 4, 2) := by decide +kernel
theorem dL_pay_2 : decode cL_pay 2 = .ok (.iconst 0, 1) := by decide +kernel
theorem dL_pay_3 : decode cL_pay 3 = .ok (.aload_n 0, 1) := by decide +kernel
theorem dL_pay_4 : decode cL_pay 4 = .ok (.iload_n 1, 1) := by decide +kernel
theorem dL_pay_5 : decode cL_pay 5 = .ok (.iload_n 2, 1) := by decide +kernel
theorem dL_pay_6 : decode cL_pay 6 = .ok (.iload_n 3, 1) := by decide +kernel
theorem dL_pay_7 : decode cL_pay 7 = .ok (.invokevirtual 63, 3) := by decide +kernel
theorem dL_pay_10 : decode cL_pay 10 = .ok (.i2l, 1) := by decide +kernel
theorem dL_pay_11 : decode cL_pay 11 = .ok (.lastore, 1) := by decide +kernel
theorem dL_pay_12 : decode cL_pay 12 = .ok (.goto 11, 3) := by decide +kernel
theorem dL_pay_15 : decode cL_pay 15 = .ok (.astore 5, 2) := by decide +kernel
theorem dL_pay_17 : decode cL_pay 17 = .ok (.iconst 1, 1) := by decide +kernel
theorem dL_pay_18 : decode cL_pay 18 = .ok (.ireturn, 1) := by decide +kernel
theorem dL_pay_19 : decode cL_pay 19 = .ok (.astore 5, 2) := by decide +kernel
theorem dL_pay_21 : decode cL_pay 21 = .ok (.iconst 2, 1) := by decide +kernel
theorem dL_pay_22 : decode cL_pay 22 = .ok (.ireturn, 1) := by decide +kernel
theorem dL_pay_23 : decode cL_pay 23 = .ok (.iconst 0, 1) := by decide +kernel
theorem dL_pay_24 : decode cL_pay 24 = .ok (.ireturn, 1) := by decide +kernel
set_option maxRecDepth 20000 in
theorem ggL_trade_X12_trade : GoodIn wsL_trade wsX12_trade := goodIn_ca (goodIn_ca (goodIn_r _ [7, 8, 9, 10, 11, 12, 6, 13, 14, 15, 16, 17, 18, 19, 20, 21, 22, 23, 24, 25, 26, 27, 28, 29, 30, 31, 32, 33, 34, 35, 36, 37, 38, 39, 40, 41, 42, 43, 44, 45, 46, 47, 48, 49, 50, 51, 52, 53, 54, 55, 56, 57, 58, 59, 60, 61, 62, 63, 64, 65, 66, 67, 68, 69, 70, 71, 72, 73, 74, 75, 76, 77, 78, 79, 80, 81, 82, 83, 84, 85, 86, 87, 88, 89, 90, 91, 92, 93, 94, 95, 96, 97, 98, 99, 100, 101, 102, 103, 104, 105, 106, 107, 108, 109, 110, 111, 112] (by decide +kernel) (by decide +kernel)) (goodIn_sub (fun _ h => List.mem_cons_of_mem _ (List.mem_append_left _ (List.mem_append_right _ h))) (by decide +kernel))) (goodIn_sub (fun _ h => List.mem_cons_of_mem _ (List.mem_append_right _ h)) (by decide +kernel))
set_option maxRecDepth 20000 in
theorem gL_trade_X12_trade : GoodIn wsL_trade (wsV RL 66 RX12 yX12_trade wsX12_trade) := goodIn_app (goodIn_of _ (by decide +kernel)) ggL_trade_X12_trade
theorem dL_trade_0 : decode cL_trade 0 = .ok (.aload_n 3, 1) := by decide +kernel
theorem dL_trade_1 : decode cL_trade 1 = .ok (.iconst 0, 1) := by decide +kernel
theorem dL_trade_2 : decode cL_trade 2 = .ok (.aload_n 0, 1) := by decide +kernel
theorem dL_trade_3 : decode cL_trade 3 = .ok (.iload_n 1, 1) := by decide +kernel
theorem dL_trade_4 : decode cL_trade 4 = .ok (.iload_n 2, 1) := by decide +kernel
theorem dL_trade_5 : decode cL_trade 5 = .ok (.invokevirtual 66, 3) := by decide +kernel
theorem dL_trade_8 : decode cL_trade 8 = .ok (.i2l, 1) := by decide +kernel
theorem dL_trade_9 : decode cL_trade 9 = .ok (.lastore, 1) := by decide +kernel
theorem dL_trade_10 : decode cL_trade 10 = .ok (.goto 11, 3) := by decide +kernel
theorem dL_trade_13 : decode cL_trade 13 = .ok (.astore 4, 2) := by decide +kernel
theorem dL_trade_15 : decode cL_trade 15 = .ok (.iconst 1, 1) := by decide +kernel
theorem dL_trade_16 : decode cL_trade 16 = .ok (.ireturn, 1) := by decide +kernel
theorem dL_trade_17 : decode cL_trade 17 = .ok (.astore 4, 2) := by decide +kernel
theorem dL_trade_19 : decode cL_trade 19 = .ok (.iconst 2, 1) := by decide +kernel
theorem dL_trade_20 : decode cL_trade 20 = .ok (.ireturn, 1) := by decide +kernel
theorem dL_trade_21 : decode cL_trade 21 = .ok (.iconst 0, 1) := by decide +kernel
theorem dL_trade_22 : decode cL_trade 22 = .ok (.ireturn, 1) := by decide +kernel
set_option maxRecDepth 20000 in
theorem ggL_tax_X12_tax : GoodIn wsL_tax wsX12_tax := goodIn_ca (goodIn_r _ [6, 7, 8, 9, 10, 11, 5, 12, 13, 14, 15, 16, 17, 18, 19, 20, 21, 22, 23, 24, 25, 26, 27, 28, 29, 30, 31, 32, 33, 34, 35, 36, 37, 38, 39, 40, 41, 42, 43, 44, 45, 46, 47, 48, 49, 50, 51, 52, 53, 54, 55, 56, 57, 58, 59, 60, 61, 62, 63, 64, 65, 66, 67, 68, 69, 70, 71] (by decide +kernel) (by decide +kernel)) (goodIn_sub (fun _ h => List.mem_cons_of_mem _ (List.mem_append_right _ h)) (by decide +kernel))
set_option maxRecDepth 20000 in
theorem gL_tax_X12_tax : GoodIn wsL_tax (wsV RL 69 RX12 yX12_tax wsX12_tax) := goodIn_app (goodIn_of _ (by decide +kernel)) ggL_tax_X12_tax
theorem dL_tax_0 : decode cL_tax 0 = .ok (.aload_n 2, 1) := by decide +kernel
theorem dL_tax_1 : decode cL_tax 1 = .ok (.iconst 0, 1) := by decide +kernel
theorem dL_tax_2 : decode cL_tax 2 = .ok (.aload_n 0, 1) := by decide +kernel
theorem dL_tax_3 : decode cL_tax 3 = .ok (.iload_n 1, 1) := by decide +kernel
theorem dL_tax_4 : decode cL_tax 4 = .ok (.invokevirtual 69, 3) := by decide +kernel
theorem dL_tax_7 : decode cL_tax 7 = .ok (.i2l, 1) := by decide +kernel
theorem dL_tax_8 : decode cL_tax 8 = .ok (.lastore, 1) := by decide +kernel
theorem dL_tax_9 : decode cL_tax 9 = .ok (.goto 6, 3) := by decide +kernel
theorem dL_tax_12 : decode cL_tax 12 = .ok (.astore_n 3, 1) := by decide +kernel
theorem dL_tax_13 : decode cL_tax 13 = .ok (.iconst 1, 1) := by decide +kernel
theorem dL_tax_14 : decode cL_tax 14 = .ok (.ireturn, 1) := by decide +kernel
theorem dL_tax_15 : decode cL_tax 15 = .ok (.iconst 0, 1) := by decide +kernel
theorem dL_tax_16 : decode cL_tax 16 = .ok (.ireturn, 1) := by decide +kernel
set_option maxRecDepth 20000 in
theorem ggL_sum_X12_sum : GoodIn wsL_sum wsX12_sum := goodIn_ca (goodIn_ca (goodIn_r _ [7, 8, 9, 10, 11, 12, 13, 14, 15, 16, 17, 18, 19, 20, 6, 21, 22, 23, 24, 25, 26, 27, 28, 29, 30, 31, 32, 33, 34, 35, 36, 37, 38, 39, 40, 41, 42, 43, 44, 45, 46, 47, 48, 49, 50, 51, 52, 53, 54, 55, 56, 57, 58, 59, 60, 61, 62, 63, 64, 65, 66, 67, 68, 69, 70, 71, 72, 73, 74, 75, 76, 77, 78, 79, 80, 81, 82, 83, 84, 85, 86, 87, 88, 89, 90, 91, 92, 93] (by decide +kernel) (by decide +kernel)) (goodIn_sub (fun _ h => List.mem_cons_of_mem _ (List.mem_append_left _ (List.mem_append_right _ h))) (by decide +kernel))) (goodIn_sub (fun _ h => List.mem_cons_of_mem _ (List.mem_append_right _ h)) (by decide +kernel))
set_option maxRecDepth 20000 in
theorem gL_sum_X12_sum : GoodIn wsL_sum (wsV RL 72 RX12 yX12_sum wsX12_sum) := goodIn_app (goodIn_of _ (by decide +kernel)) ggL_sum_X12_sum
theorem dL_sum_0 : decode cL_sum 0 = .ok (.aload 4, 2) := by decide +kernel
theorem dL_sum_2 : decode cL_sum 2 = .ok (.iconst 0, 1) := by decide +kernel
theorem dL_sum_3 : decode cL_sum 3 = .ok (.aload_n 0, 1) := by decide +kernel
theorem dL_sum_4 : decode cL_sum 4 = .ok (.iload_n 1, 1) := by decide +kernel
theorem dL_sum_5 : decode cL_sum 5 = .ok (.iload_n 2, 1) := by decide +kernel
theorem dL_sum_6 : decode cL_sum 6 = .ok (.iload_n 3, 1) := by decide +kernel
theorem dL_sum_7 : decode cL_sum 7 = .ok (.invokevirtual 72, 3) := by decide +kernel
theorem dL_sum_10 : decode cL_sum 10 = .ok (.i2l, 1) := by decide +kernel
theorem dL_sum_11 : decode cL_sum 11 = .ok (.lastore, 1) := by decide +kernel
theorem dL_sum_12 : decode cL_sum 12 = .ok (.goto 11, 3) := by decide +kernel
theorem dL_sum_15 : decode cL_sum 15 = .ok (.astore 5, 2) := by decide +kernel
theorem dL_sum_17 : decode cL_sum 17 = .ok (.iconst 1, 1) := by decide +kernel
theorem dL_sum_18 : decode cL_sum 18 = .ok (.ireturn, 1) := by decide +kernel
theorem dL_sum_19 : decode cL_sum 19 = .ok (.astore 5, 2) := by decide +kernel
theorem dL_sum_21 : decode cL_sum 21 = .ok (.iconst 2, 1) := by decide +kernel
theorem dL_sum_22 : decode cL_sum 22 = .ok (.ireturn, 1) := by decide +kernel
theorem dL_sum_23 : decode cL_sum 23 = .ok (.iconst 0, 1) := by decide +kernel
theorem dL_sum_24 : decode cL_sum 24 = .ok (.ireturn, 1) := by decide +kernel
set_option maxRecDepth 20000 in
theorem ggL_law_X12_init : GoodIn wsL_law wsX12_init := goodIn_r _ [9, 10, 11, 12, 13, 14, 15, 16, 17, 18, 19, 20, 21, 22, 23, 24, 25, 26, 27, 28, 29, 30, 31, 32, 33, 34, 35, 36, 37, 38, 39, 40, 41, 42, 43, 44, 45, 46, 47, 48, 49, 50, 51, 52, 53, 54, 55, 56, 57, 58, 59, 60, 61, 62, 63, 64, 65, 66, 67, 68, 69, 70, 71, 72, 73, 74, 75, 76, 77, 78, 79, 80, 81, 82, 83, 84, 85, 86, 87, 88, 89, 90, 91, 92, 93, 94, 95, 96, 97, 98, 99, 100, 101, 102, 103, 104, 105, 106, 6, 107, 108, 109, 110, 111, 112, 113, 114, 115, 116, 117, 118, 119, 120, 121, 122, 123, 124, 125, 126, 127, 1266, 1267, 1268, 1269, 1270, 1271, 1272, 1273, 1274, 1275, 1276, 1277, 1278, 1279, 1280, 1281, 1282, 1347, 1348, 1349, 1350, 1351, 1352, 1353, 1354, 1355, 1356, 1357, 1358, 1359, 1360, 1361, 1362, 1363, 1364, 1365, 1366, 1367, 1368, 1369, 1370, 1371, 1372, 1373, 1374, 1375, 1376, 1377, 1378, 1379, 1380, 1381, 1382, 1383, 1384, 1385, 1386, 1387, 1388, 1389, 1390, 1391, 1392, 1393, 1394, 1395, 1396, 1397, 1398] (by decide +kernel) (by decide +kernel)
set_option maxRecDepth 20000 in
theorem gL_law_X12_init : GoodIn wsL_law (wsX12_init) := ggL_law_X12_init
set_option maxRecDepth 20000 in
theorem ggL_law_X13_init : GoodIn wsL_law wsX13_init := goodIn_r _ [130, 131, 11, 12, 62, 132, 133, 134, 135, 136, 137, 138, 139, 140, 141, 142, 143, 144, 145, 146, 147, 148, 149, 150, 151, 152, 153, 154, 155, 156, 157, 158, 159, 160, 6, 161, 162, 163, 164, 165, 166, 167, 168, 169, 170, 171, 172, 1283, 1284, 1285, 1286, 1287, 1288, 1289, 1290, 1291, 1292, 1293, 1294, 1295, 1296, 1297, 1298, 1299, 1300, 1301, 1302, 1303, 1304, 1305, 1306, 1307, 1308, 1309, 1310, 1311, 1312, 1313, 1314, 1315, 1316, 1317, 1318, 1319, 1320, 1321, 1322, 1323, 1324, 1325, 1326, 1327, 1328, 1329, 1330, 1331, 1332, 1333, 1334, 1335, 1336, 1337, 1338, 1339, 1340, 1341, 1342, 1343, 1344, 1345, 1346] (by decide +kernel) (by decide +kernel)
set_option maxRecDepth 20000 in
theorem gL_law_X13_init : GoodIn wsL_law (wsX13_init) := ggL_law_X13_init
set_option maxRecDepth 20000 in
theorem ggL_law_X12_feed : GoodIn wsL_law wsX12_feed := goodIn_r _ [176, 177, 178, 179, 180, 2, 181, 14, 1266, 1267, 1268, 1269, 1270, 1271, 1272, 1273, 1274, 1275, 1276, 1277, 1278, 1279, 1280, 1281, 1282] (by decide +kernel) (by decide +kernel)
set_option maxRecDepth 20000 in
theorem gL_law_X12_feed : GoodIn wsL_law (wsV RL 79 RX12 yX12_feed wsX12_feed) := goodIn_app (goodIn_of _ (by decide +kernel)) ggL_law_X12_feed
set_option maxRecDepth 20000 in
theorem ggL_law_X13_feed : GoodIn wsL_law wsX13_feed := goodIn_r _ [185, 186, 187, 188, 189, 190, 5, 191, 141, 1283, 1284, 1285, 1286, 1287, 1288, 1289, 1290, 1291, 1292, 1293, 1294, 1295, 1296, 1297, 1298, 1299, 1300, 1301, 1302, 1303, 1304, 1305, 1306, 1307, 1308, 1309, 1310, 1311, 1312, 1313, 1314, 1315, 1316, 1317, 1318, 1319, 1320, 1321, 1322, 1323, 1324, 1325, 1326, 1327, 1328, 1329, 1330, 1331, 1332, 1333, 1334, 1335, 1336, 1337, 1338, 1339, 1340, 1341, 1342, 1343, 1344, 1345, 1346] (by decide +kernel) (by decide +kernel)
set_option maxRecDepth 20000 in
theorem gL_law_X13_feed : GoodIn wsL_law (wsV RL 83 RX13 yX13_feed wsX13_feed) := goodIn_app (goodIn_of _ (by decide +kernel)) ggL_law_X13_feed
set_option maxRecDepth 20000 in
theorem ggL_law_L_village : GoodIn wsL_law wsL_village := goodIn_ca (goodIn_r _ [195, 196, 197, 198, 199, 2, 200, 177, 29, 20, 25, 201, 15, 202, 203, 19, 204, 205, 206, 207, 208, 209, 210, 211, 212, 213, 28, 214, 215, 216, 92, 217, 218, 219, 220, 18, 221, 222, 223, 57, 61, 224, 225, 226, 227, 56, 228, 229, 230, 231, 232, 233, 24, 234, 87, 235, 236, 237, 238, 239, 240, 241, 242, 243, 244, 245, 246, 247, 248, 249, 250, 251, 252, 253, 254, 255, 256, 257, 258, 259, 260, 261, 262, 263, 264, 265, 266, 267, 268, 269, 270, 271, 272, 273, 274, 275, 276, 277, 278, 279, 280, 281, 282, 283, 284, 285, 286, 287, 288, 289, 290, 291, 292, 293, 294, 295, 296, 297, 298, 299, 300, 301, 302, 303, 304, 305, 306, 307, 308, 309, 310, 311, 312, 313, 314, 315, 316, 317, 318, 319, 320, 321, 322, 323, 324, 325, 326, 327, 328, 329, 330, 331, 332, 333, 334, 335, 336, 337, 338, 339, 340, 341, 342, 343, 344, 345, 63, 346, 347, 348, 349, 350, 351, 352, 353, 354, 355, 356, 357, 358, 359, 360, 361, 362, 363, 64, 65, 66, 67, 364, 365, 366, 367, 368, 369, 370, 371, 372, 373, 374, 375, 376, 377, 378, 379, 380, 381, 382, 383, 384, 385, 386, 72, 73, 74, 387, 75, 388, 389, 390, 391, 392, 393, 394, 395, 396, 397, 398, 399, 400, 401, 402, 403, 404, 405, 406, 407, 408, 409, 410, 411, 412, 413, 414, 415, 416, 60, 417, 418, 80, 419, 81, 82, 1266, 1267, 1268, 1269, 1270, 1271, 1272, 1273, 1274, 1275, 1276, 1277, 1278, 1279, 1280, 1281, 1282, 1356, 1357, 1358, 1359, 1360, 1361, 1362, 1363, 1364, 1365, 1366, 1367, 1368, 1347, 1348, 1349, 1350, 1351, 1352, 1353, 1354, 1355, 1395, 1396, 1397, 1398, 1389, 1390, 1391, 1392, 1393, 1394] (by decide +kernel) (by decide +kernel)) (goodIn_sub (fun _ h => List.mem_append_left _ (List.mem_append_right _ h)) (by decide +kernel))
set_option maxRecDepth 20000 in
theorem gL_law_L_village : GoodIn wsL_law (va_wsS RL 84 yL_village wsL_village) := goodIn_app (goodIn_of _ (by decide +kernel)) ggL_law_L_village
set_option maxRecDepth 20000 in
theorem ggL_law_X13_village : GoodIn wsL_law wsX13_village := goodIn_r _ [423, 186, 187, 424, 425, 426, 427, 428, 429, 143, 430, 431, 432, 433, 145, 132, 146, 133, 147, 137, 148, 138, 149, 139, 150, 140, 136, 434, 435, 436, 437, 438, 5, 439, 440, 441, 442, 443, 142, 444, 445, 446, 447, 448, 449, 450, 451, 452, 144, 453, 454, 455, 456, 457, 141, 458, 459, 460, 461, 462, 463, 464, 465, 466, 467, 468, 469, 470, 471, 472, 473, 474, 475, 476, 477, 478, 479, 480, 481, 482, 483, 484, 485, 486, 487, 488, 489, 490, 491, 492, 493, 494, 495, 496, 497, 498, 499, 500, 501, 502, 503, 504, 505, 506, 507, 508, 509, 510, 134, 135, 1283, 1284, 1285, 1286, 1287, 1288, 1289, 1290, 1291, 1292, 1293, 1294, 1295, 1296, 1297, 1298, 1299, 1300, 1301, 1302, 1303, 1304, 1305, 1306, 1307, 1308, 1309, 1310, 1311, 1312, 1313, 1314, 1315, 1316, 1317, 1318, 1319, 1320, 1321, 1322, 1323, 1324, 1325, 1326, 1327, 1328, 1329, 1330, 1331, 1332, 1333, 1334, 1335, 1336, 1337, 1338, 1339, 1340, 1341, 1342, 1343, 1344, 1345, 1346] (by decide +kernel) (by decide +kernel)
set_option maxRecDepth 20000 in
theorem gL_law_X13_village : GoodIn wsL_law (wsV RL 89 RX13 yX13_village wsX13_village) := goodIn_app (goodIn_of _ (by decide +kernel)) ggL_law_X13_village
set_option maxRecDepth 20000 in
theorem ggL_law_X13_thrown : GoodIn wsL_law wsX13_thrown := goodIn_r _ [514, 186, 1283, 1284, 1285, 1286, 1287, 1288, 1289, 1290, 1291, 1292, 1293, 1294, 1295, 1296, 1297, 1298, 1299, 1300, 1301, 1302, 1303, 1304, 1305, 1306, 1307, 1308, 1309, 1310, 1311, 1312, 1313, 1314, 1315, 1316, 1317, 1318, 1319, 1320, 1321, 1322, 1323, 1324, 1325, 1326, 1327, 1328, 1329, 1330, 1331, 1332, 1333, 1334, 1335, 1336, 1337, 1338, 1339, 1340, 1341, 1342, 1343, 1344, 1345, 1346] (by decide +kernel) (by decide +kernel)
set_option maxRecDepth 20000 in
theorem gL_law_X13_thrown : GoodIn wsL_law (wsV RL 90 RX13 yX13_thrown wsX13_thrown) := goodIn_app (goodIn_of _ (by decide +kernel)) ggL_law_X13_thrown
set_option maxRecDepth 20000 in
theorem ggL_law_L_days : GoodIn wsL_law wsL_days := goodIn_ca (goodIn_r _ [517, 196, 518, 519, 520, 2, 521, 177, 33, 19, 522, 25, 201, 15, 202, 203, 523, 524, 205, 206, 207, 208, 209, 210, 525, 526, 527, 32, 528, 97, 529, 232, 233, 24, 234, 87, 235, 236, 237, 238, 239, 240, 241, 242, 243, 244, 245, 246, 247, 248, 249, 250, 251, 252, 253, 254, 255, 256, 257, 258, 259, 260, 261, 262, 263, 264, 530, 266, 267, 268, 531, 532, 533, 534, 99, 535, 536, 537, 538, 539, 540, 541, 542, 543, 544, 274, 275, 276, 277, 278, 279, 280, 281, 282, 283, 284, 285, 286, 287, 288, 289, 290, 291, 292, 293, 294, 295, 296, 297, 298, 299, 300, 301, 302, 303, 304, 305, 306, 307, 308, 309, 310, 311, 312, 313, 314, 315, 316, 317, 318, 319, 320, 321, 322, 323, 324, 325, 545, 334, 335, 336, 546, 547, 548, 549, 550, 551, 552, 553, 554, 374, 375, 376, 354, 355, 356, 357, 358, 359, 555, 556, 557, 558, 559, 560, 351, 352, 353, 561, 378, 379, 380, 381, 382, 562, 365, 366, 367, 563, 564, 565, 566, 567, 568, 569, 570, 571, 572, 573, 574, 575, 576, 577, 578, 579, 580, 581, 582, 583, 584, 18, 585, 63, 346, 347, 348, 349, 222, 586, 339, 340, 341, 342, 343, 344, 345, 587, 588, 589, 590, 591, 592, 593, 594, 595, 596, 597, 598, 66, 599, 600, 601, 602, 65, 603, 604, 605, 606, 67, 607, 608, 609, 610, 64, 611, 612, 613, 614, 223, 615, 616, 617, 56, 618, 230, 388, 389, 390, 391, 619, 384, 385, 386, 72, 73, 74, 387, 75, 392, 393, 394, 395, 620, 621, 622, 623, 1266, 1267, 1268, 1269, 1270, 1271, 1272, 1273, 1274, 1275, 1276, 1277, 1278, 1279, 1280, 1281, 1282, 1347, 1348, 1349, 1350, 1351, 1352, 1353, 1354, 1355, 1356, 1357, 1358, 1359, 1360, 1361, 1362, 1363, 1364, 1365, 1369, 1370, 1371, 1372, 1373, 1374, 1389, 1390, 1391, 1392, 1393, 1394] (by decide +kernel) (by decide +kernel)) (goodIn_sub (fun _ h => List.mem_append_left _ (List.mem_append_right _ h)) (by decide +kernel))
set_option maxRecDepth 20000 in
theorem gL_law_L_days : GoodIn wsL_law (va_wsS RL 94 yL_days wsL_days) := goodIn_app (goodIn_of _ (by decide +kernel)) ggL_law_L_days
set_option maxRecDepth 20000 in
theorem ggL_law_X13_days : GoodIn wsL_law wsX13_days := goodIn_r _ [627, 186, 187, 628, 429, 143, 430, 436, 437, 438, 5, 439, 440, 441, 442, 443, 142, 444, 445, 446, 447, 448, 449, 450, 451, 452, 144, 453, 454, 455, 456, 457, 141, 458, 459, 460, 461, 462, 463, 464, 465, 466, 467, 629, 630, 631, 632, 151, 431, 152, 472, 473, 474, 475, 476, 477, 478, 479, 480, 481, 482, 499, 500, 501, 502, 483, 484, 485, 486, 491, 492, 493, 494, 495, 496, 497, 498, 487, 488, 489, 490, 633, 634, 635, 636, 132, 134, 135, 133, 433, 136, 137, 138, 139, 140, 637, 638, 639, 640, 641, 642, 643, 644, 645, 646, 647, 648, 507, 508, 509, 510, 649, 650, 651, 652, 1283, 1284, 1285, 1286, 1287, 1288, 1289, 1290, 1291, 1292, 1293, 1294, 1295, 1296, 1297, 1298, 1299, 1300, 1301, 1302, 1303, 1304, 1305, 1306, 1307, 1308, 1309, 1310, 1311, 1312, 1313, 1314, 1315, 1316, 1317, 1318, 1319, 1320, 1321, 1322, 1323, 1324, 1325, 1326, 1327, 1328, 1329, 1330, 1331, 1332, 1333, 1334, 1335, 1336, 1337, 1338, 1339, 1340, 1341, 1342, 1343, 1344, 1345, 1346] (by decide +kernel) (by decide +kernel)
set_option maxRecDepth 20000 in
theorem gL_law_X13_days : GoodIn wsL_law (wsV RL 96 RX13 yX13_days wsX13_days) := goodIn_app (goodIn_of _ (by decide +kernel)) ggL_law_X13_days
set_option maxRecDepth 20000 in
theorem ggL_law_X12_fault : GoodIn wsL_law wsX12_fault := goodIn_r _ [656, 15, 1266, 1267, 1268, 1269, 1270, 1271, 1272, 1273, 1274, 1275, 1276, 1277, 1278, 1279, 1280, 1281, 1282] (by decide +kernel) (by decide +kernel)
set_option maxRecDepth 20000 in
theorem gL_law_X12_fault : GoodIn wsL_law (wsV RL 97 RX12 yX12_fault wsX12_fault) := goodIn_app (goodIn_of _ (by decide +kernel)) ggL_law_X12_fault
set_option maxRecDepth 20000 in
theorem ggL_law_X13_fault : GoodIn wsL_law wsX13_fault := goodIn_r _ [660, 186, 142, 1283, 1284, 1285, 1286, 1287, 1288, 1289, 1290, 1291, 1292, 1293, 1294, 1295, 1296, 1297, 1298, 1299, 1300, 1301, 1302, 1303, 1304, 1305, 1306, 1307, 1308, 1309, 1310, 1311, 1312, 1313, 1314, 1315, 1316, 1317, 1318, 1319, 1320, 1321, 1322, 1323, 1324, 1325, 1326, 1327, 1328, 1329, 1330, 1331, 1332, 1333, 1334, 1335, 1336, 1337, 1338, 1339, 1340, 1341, 1342, 1343, 1344, 1345, 1346] (by decide +kernel) (by decide +kernel)
set_option maxRecDepth 20000 in
theorem gL_law_X13_fault : GoodIn wsL_law (wsV RL 100 RX13 yX13_fault wsX13_fault) := goodIn_app (goodIn_of _ (by decide +kernel)) ggL_law_X13_fault
set_option maxRecDepth 20000 in
theorem ggL_law_L_count : GoodIn wsL_law wsL_count := goodIn_ca (goodIn_r _ [663, 664, 665, 666, 667, 2, 668, 669, 670, 19, 522, 671, 672, 673, 674, 675, 676, 177, 202, 524, 677, 678, 339, 340, 18, 341, 342, 343, 344, 345, 63, 346, 347, 348, 349, 222, 1266, 1267, 1268, 1269, 1270, 1271, 1272, 1273, 1274, 1275, 1276, 1277, 1278, 1279, 1280, 1281, 1282, 1347, 1348, 1349, 1350, 1351, 1352, 1353, 1354, 1355, 1389, 1390, 1391, 1392, 1393, 1394, 1395, 1396, 1397, 1398] (by decide +kernel) (by decide +kernel)) (goodIn_sub (fun _ h => List.mem_append_right _ h) (by decide +kernel))
set_option maxRecDepth 20000 in
theorem gL_law_L_count : GoodIn wsL_law (va_wsS RL 101 yL_count wsL_count) := goodIn_app (goodIn_of _ (by decide +kernel)) ggL_law_L_count
set_option maxRecDepth 20000 in
theorem ggL_law_X13_count : GoodIn wsL_law wsX13_count := goodIn_r _ [682, 186, 136, 431, 432, 433, 434, 187, 143, 683, 684, 5, 685, 436, 437, 438, 439, 641, 642, 643, 644, 132, 1283, 1284, 1285, 1286, 1287, 1288, 1289, 1290, 1291, 1292, 1293, 1294, 1295, 1296, 1297, 1298, 1299, 1300, 1301, 1302, 1303, 1304, 1305, 1306, 1307, 1308, 1309, 1310, 1311, 1312, 1313, 1314, 1315, 1316, 1317, 1318, 1319, 1320, 1321, 1322, 1323, 1324, 1325, 1326, 1327, 1328, 1329, 1330, 1331, 1332, 1333, 1334, 1335, 1336, 1337, 1338, 1339, 1340, 1341, 1342, 1343, 1344, 1345, 1346] (by decide +kernel) (by decide +kernel)
set_option maxRecDepth 20000 in
theorem gL_law_X13_count : GoodIn wsL_law (wsV RL 103 RX13 yX13_count wsX13_count) := goodIn_app (goodIn_of _ (by decide +kernel)) ggL_law_X13_count
set_option maxRecDepth 20000 in
theorem ggL_law_L_owner : GoodIn wsL_law wsL_owner := goodIn_ca (goodIn_r _ [688, 664, 689, 690, 691, 2, 692, 669, 670, 19, 671, 674, 693, 694, 695, 696, 697, 347, 348, 18, 349, 222, 698, 343, 344, 345, 63, 346, 699, 700, 701, 702, 64, 703, 600, 601, 602, 65, 704, 596, 597, 598, 66, 705, 706, 707, 708, 67, 709, 710, 711, 56, 712, 713, 714, 715, 716, 72, 388, 389, 390, 391, 230, 717, 718, 719, 720, 229, 721, 722, 723, 724, 74, 725, 726, 727, 728, 75, 729, 730, 731, 732, 733, 734, 735, 736, 73, 737, 738, 739, 740, 741, 742, 1266, 1267, 1268, 1269, 1270, 1271, 1272, 1273, 1274, 1275, 1276, 1277, 1278, 1279, 1280, 1281, 1282, 1347, 1348, 1349, 1350, 1351, 1352, 1353, 1354, 1355, 1389, 1390, 1391, 1392, 1393, 1394] (by decide +kernel) (by decide +kernel)) (goodIn_sub (fun _ h => List.mem_append_right _ h) (by decide +kernel))
set_option maxRecDepth 20000 in
theorem gL_law_L_owner : GoodIn wsL_law (va_wsS RL 104 yL_owner wsL_owner) := goodIn_app (goodIn_of _ (by decide +kernel)) ggL_law_L_owner
set_option maxRecDepth 20000 in
theorem ggL_law_X13_owner : GoodIn wsL_law wsX13_owner := goodIn_r _ [746, 186, 135, 132, 133, 134, 433, 747, 748, 749, 5, 750, 431, 436, 437, 438, 439, 683, 684, 685, 751, 752, 753, 754, 153, 136, 755, 756, 757, 758, 139, 140, 432, 645, 646, 647, 648, 759, 760, 761, 762, 137, 763, 764, 765, 766, 138, 767, 768, 769, 770, 1283, 1284, 1285, 1286, 1287, 1288, 1289, 1290, 1291, 1292, 1293, 1294, 1295, 1296, 1297, 1298, 1299, 1300, 1301, 1302, 1303, 1304, 1305, 1306, 1307, 1308, 1309, 1310, 1311, 1312, 1313, 1314, 1315, 1316, 1317, 1318, 1319, 1320, 1321, 1322, 1323, 1324, 1325, 1326, 1327, 1328, 1329, 1330, 1331, 1332, 1333, 1334, 1335, 1336, 1337, 1338, 1339, 1340, 1341, 1342, 1343, 1344, 1345, 1346] (by decide +kernel) (by decide +kernel)
set_option maxRecDepth 20000 in
theorem gL_law_X13_owner : GoodIn wsL_law (wsV RL 107 RX13 yX13_owner wsX13_owner) := goodIn_app (goodIn_of _ (by decide +kernel)) ggL_law_X13_owner
set_option maxRecDepth 20000 in
theorem ggL_law_L_door : GoodIn wsL_law wsL_door := goodIn_ca (goodIn_r _ [773, 664, 774, 775, 776, 2, 777, 19, 671, 778, 779, 780, 781, 669, 670, 782, 389, 390, 56, 391, 230, 783, 714, 715, 716, 72, 388, 784, 734, 735, 736, 73, 785, 722, 723, 724, 74, 786, 787, 788, 789, 790, 726, 727, 728, 75, 721, 1266, 1267, 1268, 1269, 1270, 1271, 1272, 1273, 1274, 1275, 1276, 1277, 1278, 1279, 1280, 1281, 1282, 1347, 1348, 1349, 1350, 1351, 1352, 1353, 1354, 1355, 1389, 1390, 1391, 1392, 1393, 1394] (by decide +kernel) (by decide +kernel)) (goodIn_sub (fun _ h => List.mem_append_right _ h) (by decide +kernel))
set_option maxRecDepth 20000 in
theorem gL_law_L_door : GoodIn wsL_law (va_wsS RL 108 yL_door wsL_door) := goodIn_app (goodIn_of _ (by decide +kernel)) ggL_law_L_door
set_option maxRecDepth 20000 in
theorem ggL_law_X13_door : GoodIn wsL_law wsX13_door := goodIn_r _ [794, 186, 139, 137, 138, 140, 795, 796, 797, 5, 798, 136, 436, 437, 438, 439, 683, 684, 685, 1283, 1284, 1285, 1286, 1287, 1288, 1289, 1290, 1291, 1292, 1293, 1294, 1295, 1296, 1297, 1298, 1299, 1300, 1301, 1302, 1303, 1304, 1305, 1306, 1307, 1308, 1309, 1310, 1311, 1312, 1313, 1314, 1315, 1316, 1317, 1318, 1319, 1320, 1321, 1322, 1323, 1324, 1325, 1326, 1327, 1328, 1329, 1330, 1331, 1332, 1333, 1334, 1335, 1336, 1337, 1338, 1339, 1340, 1341, 1342, 1343, 1344, 1345, 1346] (by decide +kernel) (by decide +kernel)
set_option maxRecDepth 20000 in
theorem gL_law_X13_door : GoodIn wsL_law (wsV RL 110 RX13 yX13_door wsX13_door) := goodIn_app (goodIn_of _ (by decide +kernel)) ggL_law_X13_door
set_option maxRecDepth 20000 in
theorem ggL_law_L_worth : GoodIn wsL_law wsL_worth := goodIn_ca (goodIn_ca (goodIn_r _ [801, 664, 196, 802, 803, 804, 2, 805, 19, 671, 778, 779, 780, 781, 669, 670, 782, 389, 390, 56, 391, 230, 806, 807, 808, 209, 210, 809, 718, 719, 720, 229, 721, 722, 723, 724, 74, 388, 725, 726, 727, 728, 75, 1266, 1267, 1268, 1269, 1270, 1271, 1272, 1273, 1274, 1275, 1276, 1277, 1278, 1279, 1280, 1281, 1282, 1347, 1348, 1349, 1350, 1351, 1352, 1353, 1354, 1355, 1389, 1390, 1391, 1392, 1393, 1394] (by decide +kernel) (by decide +kernel)) (goodIn_sub (fun _ h => List.mem_append_right _ h) (by decide +kernel))) (goodIn_sub (fun _ h => List.mem_append_left _ (List.mem_append_right _ h)) (by decide +kernel))
set_option maxRecDepth 20000 in
theorem gL_law_L_worth : GoodIn wsL_law (va_wsS RL 111 yL_worth wsL_worth) := goodIn_app (goodIn_of _ (by decide +kernel)) ggL_law_L_worth
set_option maxRecDepth 20000 in
theorem ggL_law_X13_worth : GoodIn wsL_law wsX13_worth := goodIn_r _ [813, 186, 795, 796, 797, 5, 798, 136, 436, 437, 438, 439, 814, 815, 816, 817, 683, 684, 685, 755, 756, 757, 758, 139, 140, 432, 1283, 1284, 1285, 1286, 1287, 1288, 1289, 1290, 1291, 1292, 1293, 1294, 1295, 1296, 1297, 1298, 1299, 1300, 1301, 1302, 1303, 1304, 1305, 1306, 1307, 1308, 1309, 1310, 1311, 1312, 1313, 1314, 1315, 1316, 1317, 1318, 1319, 1320, 1321, 1322, 1323, 1324, 1325, 1326, 1327, 1328, 1329, 1330, 1331, 1332, 1333, 1334, 1335, 1336, 1337, 1338, 1339, 1340, 1341, 1342, 1343, 1344, 1345, 1346] (by decide +kernel) (by decide +kernel)
set_option maxRecDepth 20000 in
theorem gL_law_X13_worth : GoodIn wsL_law (wsV RL 113 RX13 yX13_worth wsX13_worth) := goodIn_app (goodIn_of _ (by decide +kernel)) ggL_law_X13_worth
set_option maxRecDepth 20000 in
theorem ggL_law_L_best : GoodIn wsL_law wsL_best := goodIn_ca (goodIn_r _ [820, 664, 821, 822, 823, 2, 824, 19, 671, 693, 694, 695, 696, 669, 670, 697, 347, 348, 18, 349, 222, 825, 826, 827, 737, 738, 739, 56, 740, 741, 730, 731, 732, 733, 734, 735, 736, 73, 388, 389, 390, 391, 230, 717, 718, 719, 720, 229, 721, 722, 723, 724, 74, 725, 726, 727, 728, 75, 742, 710, 711, 712, 713, 714, 715, 716, 72, 1266, 1267, 1268, 1269, 1270, 1271, 1272, 1273, 1274, 1275, 1276, 1277, 1278, 1279, 1280, 1281, 1282, 1347, 1348, 1349, 1350, 1351, 1352, 1353, 1354, 1355, 1389, 1390, 1391, 1392, 1393, 1394] (by decide +kernel) (by decide +kernel)) (goodIn_sub (fun _ h => List.mem_append_right _ h) (by decide +kernel))
set_option maxRecDepth 20000 in
theorem gL_law_L_best : GoodIn wsL_law (va_wsS RL 114 yL_best wsL_best) := goodIn_app (goodIn_of _ (by decide +kernel)) ggL_law_L_best
set_option maxRecDepth 20000 in
theorem ggL_law_X13_best : GoodIn wsL_law wsX13_best := goodIn_r _ [831, 186, 747, 748, 749, 5, 750, 431, 436, 437, 438, 439, 751, 752, 753, 754, 153, 136, 755, 756, 757, 758, 139, 140, 432, 767, 768, 769, 770, 763, 764, 765, 766, 138, 759, 760, 761, 762, 137, 1283, 1284, 1285, 1286, 1287, 1288, 1289, 1290, 1291, 1292, 1293, 1294, 1295, 1296, 1297, 1298, 1299, 1300, 1301, 1302, 1303, 1304, 1305, 1306, 1307, 1308, 1309, 1310, 1311, 1312, 1313, 1314, 1315, 1316, 1317, 1318, 1319, 1320, 1321, 1322, 1323, 1324, 1325, 1326, 1327, 1328, 1329, 1330, 1331, 1332, 1333, 1334, 1335, 1336, 1337, 1338, 1339, 1340, 1341, 1342, 1343, 1344, 1345, 1346] (by decide +kernel) (by decide +kernel)
set_option maxRecDepth 20000 in
theorem gL_law_X13_best : GoodIn wsL_law (wsV RL 116 RX13 yX13_best wsX13_best) := goodIn_app (goodIn_of _ (by decide +kernel)) ggL_law_X13_best
set_option maxRecDepth 20000 in
theorem ggL_law_L_span : GoodIn wsL_law wsL_span := goodIn_ca (goodIn_ca (goodIn_r _ [834, 664, 196, 835, 836, 837, 2, 838, 37, 19, 693, 694, 695, 696, 669, 670, 697, 347, 348, 18, 349, 222, 839, 840, 841, 209, 210, 842, 843, 844, 36, 845, 105, 846, 107, 847, 718, 719, 56, 720, 229, 721, 722, 723, 724, 74, 388, 389, 390, 391, 230, 725, 726, 727, 728, 75, 848, 734, 735, 736, 73, 849, 850, 851, 852, 853, 714, 715, 716, 72, 854, 855, 856, 857, 858, 859, 860, 861, 862, 863, 237, 864, 865, 866, 867, 868, 869, 870, 871, 872, 873, 874, 875, 876, 877, 878, 879, 1266, 1267, 1268, 1269, 1270, 1271, 1272, 1273, 1274, 1275, 1276, 1277, 1278, 1279, 1280, 1281, 1282, 1347, 1348, 1349, 1350, 1351, 1352, 1353, 1354, 1355, 1375, 1376, 1389, 1390, 1391, 1392, 1393, 1394] (by decide +kernel) (by decide +kernel)) (goodIn_sub (fun _ h => List.mem_append_right _ h) (by decide +kernel))) (goodIn_sub (fun _ h => List.mem_append_left _ (List.mem_append_right _ h)) (by decide +kernel))
set_option maxRecDepth 20000 in
theorem gL_law_L_span : GoodIn wsL_law (va_wsS RL 117 yL_span wsL_span) := goodIn_app (goodIn_of _ (by decide +kernel)) ggL_law_L_span
set_option maxRecDepth 20000 in
theorem ggL_law_X13_span : GoodIn wsL_law wsX13_span := goodIn_r _ [883, 186, 747, 748, 749, 5, 750, 431, 436, 437, 438, 439, 884, 885, 886, 887, 751, 752, 753, 754, 153, 136, 755, 756, 757, 758, 139, 140, 432, 888, 889, 890, 891, 892, 893, 894, 895, 154, 767, 768, 769, 770, 763, 764, 765, 766, 138, 759, 760, 761, 762, 137, 896, 897, 898, 899, 1283, 1284, 1285, 1286, 1287, 1288, 1289, 1290, 1291, 1292, 1293, 1294, 1295, 1296, 1297, 1298, 1299, 1300, 1301, 1302, 1303, 1304, 1305, 1306, 1307, 1308, 1309, 1310, 1311, 1312, 1313, 1314, 1315, 1316, 1317, 1318, 1319, 1320, 1321, 1322, 1323, 1324, 1325, 1326, 1327, 1328, 1329, 1330, 1331, 1332, 1333, 1334, 1335, 1336, 1337, 1338, 1339, 1340, 1341, 1342, 1343, 1344, 1345, 1346] (by decide +kernel) (by decide +kernel)
set_option maxRecDepth 20000 in
theorem gL_law_X13_span : GoodIn wsL_law (wsV RL 120 RX13 yX13_span wsX13_span) := goodIn_app (goodIn_of _ (by decide +kernel)) ggL_law_X13_span
set_option maxRecDepth 20000 in
theorem ggL_law_L_rests : GoodIn wsL_law wsL_rests := goodIn_ca (goodIn_r _ [902, 664, 903, 904, 905, 2, 906, 669, 670, 37, 19, 41, 907, 693, 694, 695, 696, 697, 347, 348, 18, 349, 222, 842, 843, 844, 36, 845, 105, 846, 107, 847, 718, 719, 56, 720, 229, 721, 722, 723, 724, 74, 388, 389, 390, 391, 230, 725, 726, 727, 728, 75, 848, 734, 735, 736, 73, 849, 850, 851, 852, 853, 714, 715, 716, 72, 908, 909, 910, 40, 911, 912, 113, 114, 913, 406, 407, 408, 914, 915, 916, 917, 918, 919, 920, 112, 921, 236, 237, 238, 116, 922, 339, 340, 341, 342, 343, 344, 345, 63, 346, 923, 700, 701, 702, 64, 924, 925, 926, 927, 928, 863, 864, 929, 873, 874, 875, 930, 931, 932, 933, 934, 935, 936, 937, 938, 939, 940, 941, 1266, 1267, 1268, 1269, 1270, 1271, 1272, 1273, 1274, 1275, 1276, 1277, 1278, 1279, 1280, 1281, 1282, 1377, 1378, 1379, 1380, 1381, 1382, 1383, 1347, 1348, 1349, 1350, 1351, 1352, 1353, 1354, 1355, 1375, 1376, 1389, 1390, 1391, 1392, 1393, 1394] (by decide +kernel) (by decide +kernel)) (goodIn_sub (fun _ h => List.mem_append_right _ h) (by decide +kernel))
set_option maxRecDepth 20000 in
theorem gL_law_L_rests : GoodIn wsL_law (va_wsS RL 121 yL_rests wsL_rests) := goodIn_app (goodIn_of _ (by decide +kernel)) ggL_law_L_rests
set_option maxRecDepth 20000 in
theorem ggL_law_X13_rests : GoodIn wsL_law wsX13_rests := goodIn_r _ [945, 186, 431, 157, 155, 156, 747, 748, 749, 5, 750, 436, 437, 438, 439, 751, 752, 753, 754, 153, 136, 755, 756, 757, 758, 139, 140, 432, 767, 768, 769, 770, 763, 764, 765, 766, 138, 759, 760, 761, 762, 137, 946, 947, 948, 949, 641, 642, 643, 644, 132, 950, 951, 952, 953, 133, 503, 504, 505, 506, 954, 955, 956, 957, 1283, 1284, 1285, 1286, 1287, 1288, 1289, 1290, 1291, 1292, 1293, 1294, 1295, 1296, 1297, 1298, 1299, 1300, 1301, 1302, 1303, 1304, 1305, 1306, 1307, 1308, 1309, 1310, 1311, 1312, 1313, 1314, 1315, 1316, 1317, 1318, 1319, 1320, 1321, 1322, 1323, 1324, 1325, 1326, 1327, 1328, 1329, 1330, 1331, 1332, 1333, 1334, 1335, 1336, 1337, 1338, 1339, 1340, 1341, 1342, 1343, 1344, 1345, 1346] (by decide +kernel) (by decide +kernel)
set_option maxRecDepth 20000 in
theorem gL_law_X13_rests : GoodIn wsL_law (wsV RL 123 RX13 yX13_rests wsX13_rests) := goodIn_app (goodIn_of _ (by decide +kernel)) ggL_law_X13_rests
set_option maxRecDepth 20000 in
theorem ggL_law_L_alike : GoodIn wsL_law wsL_alike := goodIn_ca (goodIn_r _ [960, 196, 961, 962, 963, 2, 964, 209, 210, 965, 966, 967, 968, 969, 970, 971, 972, 973, 974, 975, 976, 977, 978, 979, 980] (by decide +kernel) (by decide +kernel)) (goodIn_sub (fun _ h => List.mem_append_left _ (List.mem_append_right _ h)) (by decide +kernel))
set_option maxRecDepth 20000 in
theorem gL_law_L_alike : GoodIn wsL_law (va_wsS RL 124 yL_alike wsL_alike) := goodIn_app (goodIn_of _ (by decide +kernel)) ggL_law_L_alike
set_option maxRecDepth 20000 in
theorem ggL_law_X13_alike : GoodIn wsL_law wsX13_alike := goodIn_r _ [984, 186, 985, 683, 684, 5, 685, 436, 437, 438, 439, 1283, 1284, 1285, 1286, 1287, 1288, 1289, 1290, 1291, 1292, 1293, 1294, 1295, 1296, 1297, 1298, 1299, 1300, 1301, 1302, 1303, 1304, 1305, 1306, 1307, 1308, 1309, 1310, 1311, 1312, 1313, 1314, 1315, 1316, 1317, 1318, 1319, 1320, 1321, 1322, 1323, 1324, 1325, 1326, 1327, 1328, 1329, 1330, 1331, 1332, 1333, 1334, 1335, 1336, 1337, 1338, 1339, 1340, 1341, 1342, 1343, 1344, 1345, 1346] (by decide +kernel) (by decide +kernel)
set_option maxRecDepth 20000 in
theorem gL_law_X13_alike : GoodIn wsL_law (wsV RL 126 RX13 yX13_alike wsX13_alike) := goodIn_app (goodIn_of _ (by decide +kernel)) ggL_law_X13_alike
set_option maxRecDepth 20000 in
theorem ggL_law_L_hedge : GoodIn wsL_law wsL_hedge := goodIn_ca (goodIn_ca (goodIn_r _ [988, 664, 196, 989, 990, 991, 2, 992, 37, 19, 671, 693, 694, 695, 696, 669, 670, 697, 347, 348, 18, 349, 222, 839, 840, 841, 209, 210, 842, 843, 844, 36, 845, 105, 846, 107, 847, 718, 719, 56, 720, 229, 721, 722, 723, 724, 74, 388, 389, 390, 391, 230, 725, 726, 727, 728, 75, 848, 734, 735, 736, 73, 849, 850, 851, 852, 853, 714, 715, 716, 72, 993, 994, 995, 996, 713, 733, 968, 969, 970, 971, 972, 973, 974, 997, 998, 999, 1000, 1001, 1002, 1003, 1004, 876, 877, 878, 879, 872, 873, 874, 875, 1266, 1267, 1268, 1269, 1270, 1271, 1272, 1273, 1274, 1275, 1276, 1277, 1278, 1279, 1280, 1281, 1282, 1347, 1348, 1349, 1350, 1351, 1352, 1353, 1354, 1355, 1375, 1376, 1389, 1390, 1391, 1392, 1393, 1394] (by decide +kernel) (by decide +kernel)) (goodIn_sub (fun _ h => List.mem_append_right _ h) (by decide +kernel))) (goodIn_sub (fun _ h => List.mem_append_left _ (List.mem_append_right _ h)) (by decide +kernel))
set_option maxRecDepth 20000 in
theorem gL_law_L_hedge : GoodIn wsL_law (va_wsS RL 127 yL_hedge wsL_hedge) := goodIn_app (goodIn_of _ (by decide +kernel)) ggL_law_L_hedge
set_option maxRecDepth 20000 in
theorem ggL_law_X13_hedge : GoodIn wsL_law wsX13_hedge := goodIn_r _ [1008, 186, 136, 137, 138, 154, 153, 747, 748, 749, 5, 750, 431, 436, 437, 438, 439, 884, 885, 886, 887, 751, 752, 753, 754, 755, 756, 757, 758, 139, 140, 432, 1009, 1010, 1011, 892, 893, 894, 895, 767, 768, 769, 770, 763, 764, 765, 766, 759, 760, 761, 762, 896, 897, 898, 899, 1283, 1284, 1285, 1286, 1287, 1288, 1289, 1290, 1291, 1292, 1293, 1294, 1295, 1296, 1297, 1298, 1299, 1300, 1301, 1302, 1303, 1304, 1305, 1306, 1307, 1308, 1309, 1310, 1311, 1312, 1313, 1314, 1315, 1316, 1317, 1318, 1319, 1320, 1321, 1322, 1323, 1324, 1325, 1326, 1327, 1328, 1329, 1330, 1331, 1332, 1333, 1334, 1335, 1336, 1337, 1338, 1339, 1340, 1341, 1342, 1343, 1344, 1345, 1346] (by decide +kernel) (by decide +kernel)
set_option maxRecDepth 20000 in
theorem gL_law_X13_hedge : GoodIn wsL_law (wsV RL 130 RX13 yX13_hedge wsX13_hedge) := goodIn_app (goodIn_of _ (by decide +kernel)) ggL_law_X13_hedge
set_option maxRecDepth 20000 in
theorem ggL_law_L_safer : GoodIn wsL_law wsL_safer := goodIn_ca (goodIn_ca (goodIn_r _ [1014, 664, 196, 1015, 1016, 1017, 2, 1018, 37, 19, 825, 826, 827, 669, 670, 839, 840, 841, 209, 210, 842, 843, 844, 36, 845, 105, 846, 107, 847, 718, 719, 56, 720, 229, 721, 722, 723, 724, 74, 388, 389, 390, 391, 230, 725, 726, 727, 728, 75, 848, 734, 735, 736, 73, 849, 850, 851, 852, 853, 714, 715, 716, 72, 1019, 1020, 1021, 1022, 1023, 1024, 1025, 1026, 1027, 1028, 1029, 1030, 671, 782, 784, 1031, 1032, 1033, 1034, 783, 1035, 859, 860, 861, 862, 863, 237, 864, 865, 866, 867, 868, 869, 870, 871, 872, 873, 874, 875, 876, 877, 878, 879, 854, 855, 856, 857, 858, 1036, 1037, 1038, 1039, 1040, 1041, 1042, 1043, 1266, 1267, 1268, 1269, 1270, 1271, 1272, 1273, 1274, 1275, 1276, 1277, 1278, 1279, 1280, 1281, 1282, 1375, 1376, 1347, 1348, 1349, 1350, 1351, 1352, 1353, 1354, 1355, 1389, 1390, 1391, 1392, 1393, 1394] (by decide +kernel) (by decide +kernel)) (goodIn_sub (fun _ h => List.mem_append_right _ h) (by decide +kernel))) (goodIn_sub (fun _ h => List.mem_append_left _ (List.mem_append_right _ h)) (by decide +kernel))
set_option maxRecDepth 20000 in
theorem gL_law_L_safer : GoodIn wsL_law (va_wsS RL 131 yL_safer wsL_safer) := goodIn_app (goodIn_of _ (by decide +kernel)) ggL_law_L_safer
set_option maxRecDepth 20000 in
theorem ggL_law_X13_safer : GoodIn wsL_law wsX13_safer := goodIn_r _ [1047, 186, 431, 158, 138, 159, 683, 684, 5, 685, 436, 437, 438, 439, 884, 885, 886, 887, 751, 752, 753, 754, 153, 136, 755, 756, 757, 758, 139, 140, 432, 888, 889, 890, 891, 892, 893, 894, 895, 154, 767, 768, 769, 770, 763, 764, 765, 766, 759, 760, 761, 762, 137, 896, 897, 898, 899, 503, 504, 505, 506, 1048, 1049, 1050, 1051, 649, 650, 651, 652, 1052, 1053, 1054, 1055, 1056, 1057, 1058, 1059, 1060, 1061, 1062, 1063, 1283, 1284, 1285, 1286, 1287, 1288, 1289, 1290, 1291, 1292, 1293, 1294, 1295, 1296, 1297, 1298, 1299, 1300, 1301, 1302, 1303, 1304, 1305, 1306, 1307, 1308, 1309, 1310, 1311, 1312, 1313, 1314, 1315, 1316, 1317, 1318, 1319, 1320, 1321, 1322, 1323, 1324, 1325, 1326, 1327, 1328, 1329, 1330, 1331, 1332, 1333, 1334, 1335, 1336, 1337, 1338, 1339, 1340, 1341, 1342, 1343, 1344, 1345, 1346] (by decide +kernel) (by decide +kernel)
set_option maxRecDepth 20000 in
theorem gL_law_X13_safer : GoodIn wsL_law (wsV RL 133 RX13 yX13_safer wsX13_safer) := goodIn_app (goodIn_of _ (by decide +kernel)) ggL_law_X13_safer
set_option maxRecDepth 20000 in
theorem ggL_law_X12_receipt : GoodIn wsL_law wsX12_receipt := goodIn_r _ [1067, 1068, 19, 675, 677, 676, 1069, 1070, 1071, 60, 1072, 418, 80, 81, 82, 1266, 1267, 1268, 1269, 1270, 1271, 1272, 1273, 1274, 1275, 1276, 1277, 1278, 1279, 1280, 1281, 1282, 1347, 1348, 1349, 1350, 1351, 1352, 1353, 1354, 1355, 1395, 1396, 1397, 1398] (by decide +kernel) (by decide +kernel)
set_option maxRecDepth 20000 in
theorem gL_law_X12_receipt : GoodIn wsL_law (wsV RL 134 RX12 yX12_receipt wsX12_receipt) := goodIn_app (goodIn_of _ (by decide +kernel)) ggL_law_X12_receipt
set_option maxRecDepth 20000 in
theorem ggL_law_X13_receipt : GoodIn wsL_law wsX13_receipt := goodIn_r _ [1076, 186, 434, 1077, 143, 160, 683, 684, 5, 685, 1283, 1284, 1285, 1286, 1287, 1288, 1289, 1290, 1291, 1292, 1293, 1294, 1295, 1296, 1297, 1298, 1299, 1300, 1301, 1302, 1303, 1304, 1305, 1306, 1307, 1308, 1309, 1310, 1311, 1312, 1313, 1314, 1315, 1316, 1317, 1318, 1319, 1320, 1321, 1322, 1323, 1324, 1325, 1326, 1327, 1328, 1329, 1330, 1331, 1332, 1333, 1334, 1335, 1336, 1337, 1338, 1339, 1340, 1341, 1342, 1343, 1344, 1345, 1346] (by decide +kernel) (by decide +kernel)
set_option maxRecDepth 20000 in
theorem gL_law_X13_receipt : GoodIn wsL_law (wsV RL 137 RX13 yX13_receipt wsX13_receipt) := goodIn_app (goodIn_of _ (by decide +kernel)) ggL_law_X13_receipt
set_option maxRecDepth 20000 in
theorem ggL_law_X12_lose : GoodIn wsL_law wsX12_lose := goodIn_r _ [1081, 19, 675, 676, 1266, 1267, 1268, 1269, 1270, 1271, 1272, 1273, 1274, 1275, 1276, 1277, 1278, 1279, 1280, 1281, 1282, 1347, 1348, 1349, 1350, 1351, 1352, 1353, 1354, 1355, 1395, 1396, 1397, 1398] (by decide +kernel) (by decide +kernel)
set_option maxRecDepth 20000 in
theorem gL_law_X12_lose : GoodIn wsL_law (wsV RL 138 RX12 yX12_lose wsX12_lose) := goodIn_app (goodIn_of _ (by decide +kernel)) ggL_law_X12_lose
set_option maxRecDepth 20000 in
theorem ggL_law_X13_lose : GoodIn wsL_law wsX13_lose := goodIn_r _ [1085, 186, 434, 1283, 1284, 1285, 1286, 1287, 1288, 1289, 1290, 1291, 1292, 1293, 1294, 1295, 1296, 1297, 1298, 1299, 1300, 1301, 1302, 1303, 1304, 1305, 1306, 1307, 1308, 1309, 1310, 1311, 1312, 1313, 1314, 1315, 1316, 1317, 1318, 1319, 1320, 1321, 1322, 1323, 1324, 1325, 1326, 1327, 1328, 1329, 1330, 1331, 1332, 1333, 1334, 1335, 1336, 1337, 1338, 1339, 1340, 1341, 1342, 1343, 1344, 1345, 1346] (by decide +kernel) (by decide +kernel)
set_option maxRecDepth 20000 in
theorem gL_law_X13_lose : GoodIn wsL_law (wsV RL 141 RX13 yX13_lose wsX13_lose) := goodIn_app (goodIn_of _ (by decide +kernel)) ggL_law_X13_lose
set_option maxRecDepth 20000 in
theorem ggL_law_L_chalked : GoodIn wsL_law wsL_chalked := goodIn_ca (goodIn_r _ [1088, 664, 1089, 1090, 1091, 2, 1092, 19, 675, 671, 825, 826, 827, 669, 670, 1093, 1094, 1095, 60, 1096, 418, 80, 82, 81, 1097, 1098, 1099, 1100, 718, 719, 56, 720, 229, 721, 722, 723, 724, 74, 388, 389, 390, 391, 230, 725, 726, 727, 728, 75, 1266, 1267, 1268, 1269, 1270, 1271, 1272, 1273, 1274, 1275, 1276, 1277, 1278, 1279, 1280, 1281, 1282, 1347, 1348, 1349, 1350, 1351, 1352, 1353, 1354, 1355, 1395, 1396, 1397, 1398, 1389, 1390, 1391, 1392, 1393, 1394] (by decide +kernel) (by decide +kernel)) (goodIn_sub (fun _ h => List.mem_append_right _ h) (by decide +kernel))
set_option maxRecDepth 20000 in
theorem gL_law_L_chalked : GoodIn wsL_law (va_wsS RL 142 yL_chalked wsL_chalked) := goodIn_app (goodIn_of _ (by decide +kernel)) ggL_law_L_chalked
set_option maxRecDepth 20000 in
theorem ggL_law_X13_chalked : GoodIn wsL_law wsX13_chalked := goodIn_r _ [1104, 186, 436, 437, 438, 5, 439, 751, 752, 753, 754, 153, 136, 755, 756, 757, 758, 139, 140, 432, 1105, 1106, 1107, 1108, 434, 160, 1283, 1284, 1285, 1286, 1287, 1288, 1289, 1290, 1291, 1292, 1293, 1294, 1295, 1296, 1297, 1298, 1299, 1300, 1301, 1302, 1303, 1304, 1305, 1306, 1307, 1308, 1309, 1310, 1311, 1312, 1313, 1314, 1315, 1316, 1317, 1318, 1319, 1320, 1321, 1322, 1323, 1324, 1325, 1326, 1327, 1328, 1329, 1330, 1331, 1332, 1333, 1334, 1335, 1336, 1337, 1338, 1339, 1340, 1341, 1342, 1343, 1344, 1345, 1346] (by decide +kernel) (by decide +kernel)
set_option maxRecDepth 20000 in
theorem gL_law_X13_chalked : GoodIn wsL_law (wsV RL 144 RX13 yX13_chalked wsX13_chalked) := goodIn_app (goodIn_of _ (by decide +kernel)) ggL_law_X13_chalked
set_option maxRecDepth 20000 in
theorem ggL_law_L_voids : GoodIn wsL_law wsL_voids := goodIn_ca (goodIn_r _ [1111, 664, 1112, 1113, 1114, 2, 1115, 19, 778, 779, 780, 781, 669, 670, 671, 782, 389, 390, 56, 391, 230, 825, 826, 827, 1116, 1117, 1118, 1119, 673, 674, 809, 718, 719, 720, 229, 721, 722, 723, 724, 74, 388, 725, 726, 727, 728, 75, 1120, 1121, 1122, 18, 1123, 63, 346, 347, 348, 349, 222, 1266, 1267, 1268, 1269, 1270, 1271, 1272, 1273, 1274, 1275, 1276, 1277, 1278, 1279, 1280, 1281, 1282, 1347, 1348, 1349, 1350, 1351, 1352, 1353, 1354, 1355, 1389, 1390, 1391, 1392, 1393, 1394] (by decide +kernel) (by decide +kernel)) (goodIn_sub (fun _ h => List.mem_append_right _ h) (by decide +kernel))
set_option maxRecDepth 20000 in
theorem gL_law_L_voids : GoodIn wsL_law (va_wsS RL 145 yL_voids wsL_voids) := goodIn_app (goodIn_of _ (by decide +kernel)) ggL_law_L_voids
set_option maxRecDepth 20000 in
theorem ggL_law_X13_voids : GoodIn wsL_law wsX13_voids := goodIn_r _ [1127, 186, 432, 433, 431, 132, 795, 796, 797, 5, 798, 136, 436, 437, 438, 439, 755, 756, 757, 758, 139, 140, 1283, 1284, 1285, 1286, 1287, 1288, 1289, 1290, 1291, 1292, 1293, 1294, 1295, 1296, 1297, 1298, 1299, 1300, 1301, 1302, 1303, 1304, 1305, 1306, 1307, 1308, 1309, 1310, 1311, 1312, 1313, 1314, 1315, 1316, 1317, 1318, 1319, 1320, 1321, 1322, 1323, 1324, 1325, 1326, 1327, 1328, 1329, 1330, 1331, 1332, 1333, 1334, 1335, 1336, 1337, 1338, 1339, 1340, 1341, 1342, 1343, 1344, 1345, 1346] (by decide +kernel) (by decide +kernel)
set_option maxRecDepth 20000 in
theorem gL_law_X13_voids : GoodIn wsL_law (wsV RL 147 RX13 yX13_voids wsX13_voids) := goodIn_app (goodIn_of _ (by decide +kernel)) ggL_law_X13_voids
set_option maxRecDepth 20000 in
theorem ggL_law_L_mean : GoodIn wsL_law wsL_mean := goodIn_ca (goodIn_ca (goodIn_r _ [1130, 664, 196, 1131, 1132, 1133, 2, 1134, 209, 210, 49, 19, 674, 671, 778, 779, 780, 781, 669, 670, 782, 389, 390, 56, 391, 230, 1135, 1136, 1137, 1138, 1139, 1140, 48, 1141, 126, 127, 1142, 1143, 1144, 1145, 1146, 1147, 1148, 1149, 1150, 1151, 718, 719, 720, 229, 721, 722, 723, 724, 74, 388, 725, 726, 727, 728, 75, 1266, 1267, 1268, 1269, 1270, 1271, 1272, 1273, 1274, 1275, 1276, 1277, 1278, 1279, 1280, 1281, 1282, 1347, 1348, 1349, 1350, 1351, 1352, 1353, 1354, 1355, 1389, 1390, 1391, 1392, 1393, 1394, 1387, 1388] (by decide +kernel) (by decide +kernel)) (goodIn_sub (fun _ h => List.mem_append_left _ (List.mem_append_right _ h)) (by decide +kernel))) (goodIn_sub (fun _ h => List.mem_append_right _ h) (by decide +kernel))
set_option maxRecDepth 20000 in
theorem gL_law_L_mean : GoodIn wsL_law (va_wsS RL 148 yL_mean wsL_mean) := goodIn_app (goodIn_of _ (by decide +kernel)) ggL_law_L_mean
set_option maxRecDepth 20000 in
theorem ggL_law_X13_mean : GoodIn wsL_law wsX13_mean := goodIn_r _ [1155, 186, 795, 796, 797, 5, 798, 136, 436, 437, 438, 439, 683, 684, 685, 1156, 1157, 1158, 1159, 1160, 1161, 1162, 1163, 161, 433, 162, 1164, 755, 756, 757, 758, 139, 140, 432, 1283, 1284, 1285, 1286, 1287, 1288, 1289, 1290, 1291, 1292, 1293, 1294, 1295, 1296, 1297, 1298, 1299, 1300, 1301, 1302, 1303, 1304, 1305, 1306, 1307, 1308, 1309, 1310, 1311, 1312, 1313, 1314, 1315, 1316, 1317, 1318, 1319, 1320, 1321, 1322, 1323, 1324, 1325, 1326, 1327, 1328, 1329, 1330, 1331, 1332, 1333, 1334, 1335, 1336, 1337, 1338, 1339, 1340, 1341, 1342, 1343, 1344, 1345, 1346] (by decide +kernel) (by decide +kernel)
set_option maxRecDepth 20000 in
theorem gL_law_X13_mean : GoodIn wsL_law (wsV RL 151 RX13 yX13_mean wsX13_mean) := goodIn_app (goodIn_of _ (by decide +kernel)) ggL_law_X13_mean
set_option maxRecDepth 20000 in
theorem ggL_law_L_pay : GoodIn wsL_law wsL_pay := goodIn_ca (goodIn_ca (goodIn_r _ [1167, 664, 196, 1168, 1169, 1170, 2, 1171, 49, 19, 674, 671, 778, 779, 780, 781, 669, 670, 782, 389, 390, 56, 391, 230, 1135, 1136, 1137, 209, 210, 1138, 1139, 1140, 48, 1141, 126, 127, 1147, 1148, 1149, 1150, 1151, 718, 719, 720, 229, 721, 722, 723, 724, 74, 388, 725, 726, 727, 728, 75, 1142, 1143, 1144, 1145, 1146, 1266, 1267, 1268, 1269, 1270, 1271, 1272, 1273, 1274, 1275, 1276, 1277, 1278, 1279, 1280, 1281, 1282, 1347, 1348, 1349, 1350, 1351, 1352, 1353, 1354, 1355, 1389, 1390, 1391, 1392, 1393, 1394, 1387, 1388] (by decide +kernel) (by decide +kernel)) (goodIn_sub (fun _ h => List.mem_append_right _ h) (by decide +kernel))) (goodIn_sub (fun _ h => List.mem_append_left _ (List.mem_append_right _ h)) (by decide +kernel))
set_option maxRecDepth 20000 in
theorem gL_law_L_pay : GoodIn wsL_law (va_wsS RL 152 yL_pay wsL_pay) := goodIn_app (goodIn_of _ (by decide +kernel)) ggL_law_L_pay
set_option maxRecDepth 20000 in
theorem ggL_law_X13_pay : GoodIn wsL_law wsX13_pay := goodIn_r _ [1175, 186, 795, 796, 797, 5, 798, 136, 436, 437, 438, 439, 1156, 1157, 1158, 1159, 683, 684, 685, 1160, 1161, 1162, 1163, 161, 433, 162, 1164, 755, 756, 757, 758, 139, 140, 432, 1283, 1284, 1285, 1286, 1287, 1288, 1289, 1290, 1291, 1292, 1293, 1294, 1295, 1296, 1297, 1298, 1299, 1300, 1301, 1302, 1303, 1304, 1305, 1306, 1307, 1308, 1309, 1310, 1311, 1312, 1313, 1314, 1315, 1316, 1317, 1318, 1319, 1320, 1321, 1322, 1323, 1324, 1325, 1326, 1327, 1328, 1329, 1330, 1331, 1332, 1333, 1334, 1335, 1336, 1337, 1338, 1339, 1340, 1341, 1342, 1343, 1344, 1345, 1346] (by decide +kernel) (by decide +kernel)
set_option maxRecDepth 20000 in
theorem gL_law_X13_pay : GoodIn wsL_law (wsV RL 154 RX13 yX13_pay wsX13_pay) := goodIn_app (goodIn_of _ (by decide +kernel)) ggL_law_X13_pay
set_option maxRecDepth 20000 in
theorem ggL_law_L_trade : GoodIn wsL_law wsL_trade := goodIn_ca (goodIn_ca (goodIn_r _ [1178, 664, 196, 1179, 1180, 1181, 2, 1182, 37, 19, 674, 825, 826, 827, 669, 670, 806, 807, 808, 209, 210, 842, 843, 844, 36, 845, 105, 846, 107, 847, 718, 719, 56, 720, 229, 721, 722, 723, 724, 74, 388, 389, 390, 391, 230, 725, 726, 727, 728, 75, 848, 734, 735, 736, 73, 849, 850, 851, 852, 853, 714, 715, 716, 72, 1183, 1184, 1185, 1186, 1187, 1188, 237, 1189, 1190, 1191, 1192, 876, 877, 878, 879, 1266, 1267, 1268, 1269, 1270, 1271, 1272, 1273, 1274, 1275, 1276, 1277, 1278, 1279, 1280, 1281, 1282, 1347, 1348, 1349, 1350, 1351, 1352, 1353, 1354, 1355, 1375, 1376, 1389, 1390, 1391, 1392, 1393, 1394] (by decide +kernel) (by decide +kernel)) (goodIn_sub (fun _ h => List.mem_append_right _ h) (by decide +kernel))) (goodIn_sub (fun _ h => List.mem_append_left _ (List.mem_append_right _ h)) (by decide +kernel))
set_option maxRecDepth 20000 in
theorem gL_law_L_trade : GoodIn wsL_law (va_wsS RL 155 yL_trade wsL_trade) := goodIn_app (goodIn_of _ (by decide +kernel)) ggL_law_L_trade
set_option maxRecDepth 20000 in
theorem ggL_law_X13_trade : GoodIn wsL_law wsX13_trade := goodIn_r _ [1196, 186, 436, 437, 438, 5, 439, 814, 815, 816, 817, 683, 684, 685, 751, 752, 753, 754, 153, 136, 755, 756, 757, 758, 139, 140, 432, 1197, 1198, 1199, 1200, 433, 1201, 1202, 1203, 1283, 1284, 1285, 1286, 1287, 1288, 1289, 1290, 1291, 1292, 1293, 1294, 1295, 1296, 1297, 1298, 1299, 1300, 1301, 1302, 1303, 1304, 1305, 1306, 1307, 1308, 1309, 1310, 1311, 1312, 1313, 1314, 1315, 1316, 1317, 1318, 1319, 1320, 1321, 1322, 1323, 1324, 1325, 1326, 1327, 1328, 1329, 1330, 1331, 1332, 1333, 1334, 1335, 1336, 1337, 1338, 1339, 1340, 1341, 1342, 1343, 1344, 1345, 1346] (by decide +kernel) (by decide +kernel)
set_option maxRecDepth 20000 in
theorem gL_law_X13_trade : GoodIn wsL_law (wsV RL 157 RX13 yX13_trade wsX13_trade) := goodIn_app (goodIn_of _ (by decide +kernel)) ggL_law_X13_trade
set_option maxRecDepth 20000 in
theorem ggL_law_L_tax : GoodIn wsL_law wsL_tax := goodIn_ca (goodIn_r _ [1206, 664, 1207, 1208, 1209, 2, 1210, 19, 671, 778, 779, 780, 781, 669, 670, 782, 389, 390, 56, 391, 230, 809, 718, 719, 720, 229, 721, 722, 723, 724, 74, 388, 725, 726, 727, 728, 75, 978, 979, 980, 1266, 1267, 1268, 1269, 1270, 1271, 1272, 1273, 1274, 1275, 1276, 1277, 1278, 1279, 1280, 1281, 1282, 1347, 1348, 1349, 1350, 1351, 1352, 1353, 1354, 1355, 1389, 1390, 1391, 1392, 1393, 1394] (by decide +kernel) (by decide +kernel)) (goodIn_sub (fun _ h => List.mem_append_right _ h) (by decide +kernel))
set_option maxRecDepth 20000 in
theorem gL_law_L_tax : GoodIn wsL_law (va_wsS RL 158 yL_tax wsL_tax) := goodIn_app (goodIn_of _ (by decide +kernel)) ggL_law_L_tax
set_option maxRecDepth 20000 in
theorem ggL_law_X13_tax : GoodIn wsL_law wsX13_tax := goodIn_r _ [1214, 186, 795, 796, 797, 5, 798, 136, 436, 437, 438, 439, 755, 756, 757, 758, 139, 140, 432, 1283, 1284, 1285, 1286, 1287, 1288, 1289, 1290, 1291, 1292, 1293, 1294, 1295, 1296, 1297, 1298, 1299, 1300, 1301, 1302, 1303, 1304, 1305, 1306, 1307, 1308, 1309, 1310, 1311, 1312, 1313, 1314, 1315, 1316, 1317, 1318, 1319, 1320, 1321, 1322, 1323, 1324, 1325, 1326, 1327, 1328, 1329, 1330, 1331, 1332, 1333, 1334, 1335, 1336, 1337, 1338, 1339, 1340, 1341, 1342, 1343, 1344, 1345, 1346] (by decide +kernel) (by decide +kernel)
set_option maxRecDepth 20000 in
theorem gL_law_X13_tax : GoodIn wsL_law (wsV RL 160 RX13 yX13_tax wsX13_tax) := goodIn_app (goodIn_of _ (by decide +kernel)) ggL_law_X13_tax
set_option maxRecDepth 20000 in
theorem ggL_law_L_sum : GoodIn wsL_law wsL_sum := goodIn_ca (goodIn_ca (goodIn_r _ [1217, 664, 196, 1218, 1219, 1220, 2, 1221, 209, 210, 669, 670, 19, 674, 45, 671, 1222, 1223, 778, 779, 780, 781, 782, 389, 390, 56, 391, 230, 1224, 1225, 1226, 44, 1227, 1228, 1229, 121, 1230, 1231, 1232, 1233, 236, 237, 238, 1234, 722, 723, 724, 74, 388, 1235, 726, 727, 728, 75, 721, 1236, 1237, 1238, 1239, 1266, 1267, 1268, 1269, 1270, 1271, 1272, 1273, 1274, 1275, 1276, 1277, 1278, 1279, 1280, 1281, 1282, 1347, 1348, 1349, 1350, 1351, 1352, 1353, 1354, 1355, 1384, 1385, 1386, 1389, 1390, 1391, 1392, 1393, 1394] (by decide +kernel) (by decide +kernel)) (goodIn_sub (fun _ h => List.mem_append_left _ (List.mem_append_right _ h)) (by decide +kernel))) (goodIn_sub (fun _ h => List.mem_append_right _ h) (by decide +kernel))
set_option maxRecDepth 20000 in
theorem gL_law_L_sum : GoodIn wsL_law (va_wsS RL 161 yL_sum wsL_sum) := goodIn_app (goodIn_of _ (by decide +kernel)) ggL_law_L_sum
set_option maxRecDepth 20000 in
theorem ggL_law_X13_sum : GoodIn wsL_law wsX13_sum := goodIn_r _ [1243, 186, 433, 163, 795, 796, 797, 5, 798, 136, 436, 437, 438, 439, 1244, 1245, 1246, 1247, 139, 140, 1283, 1284, 1285, 1286, 1287, 1288, 1289, 1290, 1291, 1292, 1293, 1294, 1295, 1296, 1297, 1298, 1299, 1300, 1301, 1302, 1303, 1304, 1305, 1306, 1307, 1308, 1309, 1310, 1311, 1312, 1313, 1314, 1315, 1316, 1317, 1318, 1319, 1320, 1321, 1322, 1323, 1324, 1325, 1326, 1327, 1328, 1329, 1330, 1331, 1332, 1333, 1334, 1335, 1336, 1337, 1338, 1339, 1340, 1341, 1342, 1343, 1344, 1345, 1346] (by decide +kernel) (by decide +kernel)
set_option maxRecDepth 20000 in
theorem gL_law_X13_sum : GoodIn wsL_law (wsV RL 163 RX13 yX13_sum wsX13_sum) := goodIn_app (goodIn_of _ (by decide +kernel)) ggL_law_X13_sum
set_option maxRecDepth 20000 in
theorem ggL_law_X12_image : GoodIn wsL_law wsX12_image := goodIn_r _ [1251, 21, 19, 204, 401, 402, 403, 18, 404, 222, 223, 57, 61, 63, 405, 406, 407, 408, 64, 65, 66, 67, 409, 410, 411, 56, 412, 229, 230, 72, 413, 73, 74, 75, 414, 415, 416, 60, 417, 418, 80, 419, 81, 82, 1266, 1267, 1268, 1269, 1270, 1271, 1272, 1273, 1274, 1275, 1276, 1277, 1278, 1279, 1280, 1281, 1282, 1347, 1348, 1349, 1350, 1351, 1352, 1353, 1354, 1355, 1389, 1390, 1391, 1392, 1393, 1394, 1395, 1396, 1397, 1398] (by decide +kernel) (by decide +kernel)
set_option maxRecDepth 20000 in
theorem gL_law_X12_image : GoodIn wsL_law (wsV RL 164 RX12 yX12_image wsX12_image) := goodIn_app (goodIn_of _ (by decide +kernel)) ggL_law_X12_image
set_option maxRecDepth 20000 in
theorem ggL_law_X13_image : GoodIn wsL_law wsX13_image := goodIn_r _ [1255, 186, 435, 433, 1256, 434, 1257, 132, 164, 134, 165, 135, 166, 136, 167, 137, 168, 138, 169, 139, 170, 140, 171, 160, 172, 503, 504, 505, 5, 506, 1283, 1284, 1285, 1286, 1287, 1288, 1289, 1290, 1291, 1292, 1293, 1294, 1295, 1296, 1297, 1298, 1299, 1300, 1301, 1302, 1303, 1304, 1305, 1306, 1307, 1308, 1309, 1310, 1311, 1312, 1313, 1314, 1315, 1316, 1317, 1318, 1319, 1320, 1321, 1322, 1323, 1324, 1325, 1326, 1327, 1328, 1329, 1330, 1331, 1332, 1333, 1334, 1335, 1336, 1337, 1338, 1339, 1340, 1341, 1342, 1343, 1344, 1345, 1346] (by decide +kernel) (by decide +kernel)
set_option maxRecDepth 20000 in
theorem gL_law_X13_image : GoodIn wsL_law (wsV RL 167 RX13 yX13_image wsX13_image) := goodIn_app (goodIn_of _ (by decide +kernel)) ggL_law_X13_image
set_option maxRecDepth 20000 in
theorem ggL_law_X12_restore : GoodIn wsL_law wsX12_restore := goodIn_r _ [1261, 204, 19, 21, 401, 402, 403, 18, 404, 222, 223, 57, 61, 63, 405, 406, 407, 408, 64, 65, 66, 67, 409, 410, 411, 56, 412, 229, 230, 72, 413, 73, 74, 75, 414, 415, 416, 60, 417, 418, 80, 419, 81, 82, 1266, 1267, 1268, 1269, 1270, 1271, 1272, 1273, 1274, 1275, 1276, 1277, 1278, 1279, 1280, 1281, 1282, 1347, 1348, 1349, 1350, 1351, 1352, 1353, 1354, 1355, 1389, 1390, 1391, 1392, 1393, 1394, 1395, 1396, 1397, 1398] (by decide +kernel) (by decide +kernel)
set_option maxRecDepth 20000 in
theorem gL_law_X12_restore : GoodIn wsL_law (wsV RL 168 RX12 yX12_restore wsX12_restore) := goodIn_app (goodIn_of _ (by decide +kernel)) ggL_law_X12_restore
set_option maxRecDepth 20000 in
theorem ggL_law_X13_restore : GoodIn wsL_law wsX13_restore := goodIn_r _ [1265, 186, 435, 1256, 433, 1257, 434, 164, 132, 165, 134, 166, 135, 167, 136, 168, 137, 169, 138, 170, 139, 171, 140, 172, 160, 503, 504, 505, 5, 506, 1283, 1284, 1285, 1286, 1287, 1288, 1289, 1290, 1291, 1292, 1293, 1294, 1295, 1296, 1297, 1298, 1299, 1300, 1301, 1302, 1303, 1304, 1305, 1306, 1307, 1308, 1309, 1310, 1311, 1312, 1313, 1314, 1315, 1316, 1317, 1318, 1319, 1320, 1321, 1322, 1323, 1324, 1325, 1326, 1327, 1328, 1329, 1330, 1331, 1332, 1333, 1334, 1335, 1336, 1337, 1338, 1339, 1340, 1341, 1342, 1343, 1344, 1345, 1346] (by decide +kernel) (by decide +kernel)
set_option maxRecDepth 20000 in
theorem gL_law_X13_restore : GoodIn wsL_law (wsV RL 172 RX13 yX13_restore wsX13_restore) := goodIn_app (goodIn_of _ (by decide +kernel)) ggL_law_X13_restore
theorem dL_law_0 : decode cL_law 0 = .ok (.new 8, 3) := by decide +kernel
theorem dL_law_3 : decode cL_law 3 = .ok (.dup, 1) := by decide +kernel
theorem dL_law_4 : decode cL_law 4 = .ok (.invokespecial 75, 3) := by decide +kernel
theorem dL_law_7 : decode cL_law 7 = .ok (.astore_n 1, 1) := by decide +kernel
theorem dL_law_8 : decode cL_law 8 = .ok (.new 76, 3) := by decide +kernel
theorem dL_law_11 : decode cL_law 11 = .ok (.dup, 1) := by decide +kernel
theorem dL_law_12 : decode cL_law 12 = .ok (.invokespecial 78, 3) := by decide +kernel
theorem dL_law_15 : decode cL_law 15 = .ok (.astore_n 2, 1) := by decide +kernel
theorem dL_law_16 : decode cL_law 16 = .ok (.iconst 1, 1) := by decide +kernel
theorem dL_law_17 : decode cL_law 17 = .ok (.newarray .long, 2) := by decide +kernel
theorem dL_law_19 : decode cL_law 19 = .ok (.astore_n 3, 1) := by decide +kernel
theorem dL_law_20 : decode cL_law 20 = .ok (.iconst 0, 1) := by decide +kernel
theorem dL_law_21 : decode cL_law 21 = .ok (.istore 4, 2) := by decide +kernel
theorem dL_law_23 : decode cL_law 23 = .ok (.iload 4, 2) := by decide +kernel
theorem dL_law_25 : decode cL_law 25 = .ok (.aload_n 0, 1) := by decide +kernel
theorem dL_law_26 : decode cL_law 26 = .ok (.arraylength, 1) := by decide +kernel
theorem dL_law_27 : decode cL_law 27 = .ok (.bipush 6, 2) := by decide +kernel
theorem dL_law_29 : decode cL_law 29 = .ok (.isub, 1) := by decide +kernel
theorem dL_law_30 : decode cL_law 30 = .ok (.if_icmp .gt 1636, 3) := by decide +kernel
theorem dL_law_33 : decode cL_law 33 = .ok (.aload_n 0, 1) := by decide +kernel
theorem dL_law_34 : decode cL_law 34 = .ok (.iload 4, 2) := by decide +kernel
theorem dL_law_36 : decode cL_law 36 = .ok (.iaload, 1) := by decide +kernel
theorem dL_law_37 : decode cL_law 37 = .ok (.bipush 31, 2) := by decide +kernel
theorem dL_law_39 : decode cL_law 39 = .ok (.iand, 1) := by decide +kernel
theorem dL_law_40 : decode cL_law 40 = .ok (.tableswitch 1620 0 24 #[116, 189, 245, 301, 314, 370, 438, 506, 574, 642, 722, 778, 846, 954, 1034, 1083, 1096, 1152, 1220, 1312, 1392, 1460, 1516, 1596, 1607], 116) := by decide +kernel
theorem dL_law_156 : decode cL_law 156 = .ok (.aload_n 1, 1) := by decide +kernel
theorem dL_law_157 : decode cL_law 157 = .ok (.aload_n 0, 1) := by decide +kernel
theorem dL_law_158 : decode cL_law 158 = .ok (.iload 4, 2) := by decide +kernel
theorem dL_law_160 : decode cL_law 160 = .ok (.iconst 1, 1) := by decide +kernel
theorem dL_law_161 : decode cL_law 161 = .ok (.iadd, 1) := by decide +kernel
theorem dL_law_162 : decode cL_law 162 = .ok (.iaload, 1) := by decide +kernel
theorem dL_law_163 : decode cL_law 163 = .ok (.aload_n 0, 1) := by decide +kernel
theorem dL_law_164 : decode cL_law 164 = .ok (.iload 4, 2) := by decide +kernel
theorem dL_law_166 : decode cL_law 166 = .ok (.iconst 2, 1) := by decide +kernel
theorem dL_law_167 : decode cL_law 167 = .ok (.iadd, 1) := by decide +kernel
theorem dL_law_168 : decode cL_law 168 = .ok (.iaload, 1) := by decide +kernel
theorem dL_law_169 : decode cL_law 169 = .ok (.aload_n 0, 1) := by decide +kernel
theorem dL_law_170 : decode cL_law 170 = .ok (.iload 4, 2) := by decide +kernel
theorem dL_law_172 : decode cL_law 172 = .ok (.iconst 3, 1) := by decide +kernel
theorem dL_law_173 : decode cL_law 173 = .ok (.iadd, 1) := by decide +kernel
theorem dL_law_174 : decode cL_law 174 = .ok (.iaload, 1) := by decide +kernel
theorem dL_law_175 : decode cL_law 175 = .ok (.aload_n 0, 1) := by decide +kernel
theorem dL_law_176 : decode cL_law 176 = .ok (.iload 4, 2) := by decide +kernel
theorem dL_law_178 : decode cL_law 178 = .ok (.iconst 4, 1) := by decide +kernel
theorem dL_law_179 : decode cL_law 179 = .ok (.iadd, 1) := by decide +kernel
theorem dL_law_180 : decode cL_law 180 = .ok (.iaload, 1) := by decide +kernel
theorem dL_law_181 : decode cL_law 181 = .ok (.aload_n 0, 1) := by decide +kernel
theorem dL_law_182 : decode cL_law 182 = .ok (.iload 4, 2) := by decide +kernel
theorem dL_law_184 : decode cL_law 184 = .ok (.iconst 5, 1) := by decide +kernel
theorem dL_law_185 : decode cL_law 185 = .ok (.iadd, 1) := by decide +kernel
theorem dL_law_186 : decode cL_law 186 = .ok (.iaload, 1) := by decide +kernel
theorem dL_law_187 : decode cL_law 187 = .ok (.invokevirtual 79, 3) := by decide +kernel
theorem dL_law_190 : decode cL_law 190 = .ok (.aload_n 2, 1) := by decide +kernel
theorem dL_law_191 : decode cL_law 191 = .ok (.aload_n 0, 1) := by decide +kernel
theorem dL_law_192 : decode cL_law 192 = .ok (.iload 4, 2) := by decide +kernel
theorem dL_law_194 : decode cL_law 194 = .ok (.iconst 1, 1) := by decide +kernel
theorem dL_law_195 : decode cL_law 195 = .ok (.iadd, 1) := by decide +kernel
theorem dL_law_196 : decode cL_law 196 = .ok (.iaload, 1) := by decide +kernel
theorem dL_law_197 : decode cL_law 197 = .ok (.aload_n 0, 1) := by decide +kernel
theorem dL_law_198 : decode cL_law 198 = .ok (.iload 4, 2) := by decide +kernel
theorem dL_law_200 : decode cL_law 200 = .ok (.iconst 2, 1) := by decide +kernel
theorem dL_law_201 : decode cL_law 201 = .ok (.iadd, 1) := by decide +kernel
theorem dL_law_202 : decode cL_law 202 = .ok (.iaload, 1) := by decide +kernel
theorem dL_law_203 : decode cL_law 203 = .ok (.aload_n 0, 1) := by decide +kernel
theorem dL_law_204 : decode cL_law 204 = .ok (.iload 4, 2) := by decide +kernel
theorem dL_law_206 : decode cL_law 206 = .ok (.iconst 3, 1) := by decide +kernel
theorem dL_law_207 : decode cL_law 207 = .ok (.iadd, 1) := by decide +kernel
theorem dL_law_208 : decode cL_law 208 = .ok (.iaload, 1) := by decide +kernel
theorem dL_law_209 : decode cL_law 209 = .ok (.aload_n 0, 1) := by decide +kernel
theorem dL_law_210 : decode cL_law 210 = .ok (.iload 4, 2) := by decide +kernel
theorem dL_law_212 : decode cL_law 212 = .ok (.iconst 4, 1) := by decide +kernel
theorem dL_law_213 : decode cL_law 213 = .ok (.iadd, 1) := by decide +kernel
theorem dL_law_214 : decode cL_law 214 = .ok (.iaload, 1) := by decide +kernel
theorem dL_law_215 : decode cL_law 215 = .ok (.aload_n 0, 1) := by decide +kernel
theorem dL_law_216 : decode cL_law 216 = .ok (.iload 4, 2) := by decide +kernel
theorem dL_law_218 : decode cL_law 218 = .ok (.iconst 5, 1) := by decide +kernel
theorem dL_law_219 : decode cL_law 219 = .ok (.iadd, 1) := by decide +kernel
theorem dL_law_220 : decode cL_law 220 = .ok (.iaload, 1) := by decide +kernel
theorem dL_law_221 : decode cL_law 221 = .ok (.invokevirtual 83, 3) := by decide +kernel
theorem dL_law_224 : decode cL_law 224 = .ok (.if_icmp .eq 1436, 3) := by decide +kernel
theorem dL_law_227 : decode cL_law 227 = .ok (.iconst 0, 1) := by decide +kernel
theorem dL_law_228 : decode cL_law 228 = .ok (.ireturn, 1) := by decide +kernel
theorem dL_law_229 : decode cL_law 229 = .ok (.aload_n 1, 1) := by decide +kernel
theorem dL_law_230 : decode cL_law 230 = .ok (.aload_n 0, 1) := by decide +kernel
theorem dL_law_231 : decode cL_law 231 = .ok (.iload 4, 2) := by decide +kernel
theorem dL_law_233 : decode cL_law 233 = .ok (.iconst 1, 1) := by decide +kernel
theorem dL_law_234 : decode cL_law 234 = .ok (.iadd, 1) := by decide +kernel
theorem dL_law_235 : decode cL_law 235 = .ok (.iaload, 1) := by decide +kernel
theorem dL_law_236 : decode cL_law 236 = .ok (.aload_n 3, 1) := by decide +kernel
theorem dL_law_237 : decode cL_law 237 = .ok (.invokestatic 84, 3) := by decide +kernel
theorem dL_law_240 : decode cL_law 240 = .ok (.istore 5, 2) := by decide +kernel
theorem dL_law_242 : decode cL_law 242 = .ok (.aload_n 2, 1) := by decide +kernel
theorem dL_law_243 : decode cL_law 243 = .ok (.aload_n 0, 1) := by decide +kernel
theorem dL_law_244 : decode cL_law 244 = .ok (.iload 4, 2) := by decide +kernel
theorem dL_law_246 : decode cL_law 246 = .ok (.iconst 1, 1) := by decide +kernel
theorem dL_law_247 : decode cL_law 247 = .ok (.iadd, 1) := by decide +kernel
theorem dL_law_248 : decode cL_law 248 = .ok (.iaload, 1) := by decide +kernel
theorem dL_law_249 : decode cL_law 249 = .ok (.invokevirtual 89, 3) := by decide +kernel
theorem dL_law_252 : decode cL_law 252 = .ok (.istore 6, 2) := by decide +kernel
theorem dL_law_254 : decode cL_law 254 = .ok (.aload_n 2, 1) := by decide +kernel
theorem dL_law_255 : decode cL_law 255 = .ok (.invokevirtual 90, 3) := by decide +kernel
theorem dL_law_258 : decode cL_law 258 = .ok (.iload 5, 2) := by decide +kernel
theorem dL_law_260 : decode cL_law 260 = .ok (.if_icmp .eq 5, 3) := by decide +kernel
theorem dL_law_263 : decode cL_law 263 = .ok (.iconst 0, 1) := by decide +kernel
theorem dL_law_264 : decode cL_law 264 = .ok (.ireturn, 1) := by decide +kernel
theorem dL_law_265 : decode cL_law 265 = .ok (.iload 5, 2) := by decide +kernel
theorem dL_law_267 : decode cL_law 267 = .ok (.ifCond .ne 15, 3) := by decide +kernel
theorem dL_law_270 : decode cL_law 270 = .ok (.aload_n 3, 1) := by decide +kernel
theorem dL_law_271 : decode cL_law 271 = .ok (.iconst 0, 1) := by decide +kernel
theorem dL_law_272 : decode cL_law 272 = .ok (.laload, 1) := by decide +kernel
theorem dL_law_273 : decode cL_law 273 = .ok (.iload 6, 2) := by decide +kernel
theorem dL_law_275 : decode cL_law 275 = .ok (.i2l, 1) := by decide +kernel
theorem dL_law_276 : decode cL_law 276 = .ok (.lcmp, 1) := by decide +kernel
theorem dL_law_277 : decode cL_law 277 = .ok (.ifCond .eq 5, 3) := by decide +kernel
theorem dL_law_280 : decode cL_law 280 = .ok (.iconst 0, 1) := by decide +kernel
theorem dL_law_281 : decode cL_law 281 = .ok (.ireturn, 1) := by decide +kernel
theorem dL_law_282 : decode cL_law 282 = .ok (.goto 1378, 3) := by decide +kernel
theorem dL_law_285 : decode cL_law 285 = .ok (.aload_n 1, 1) := by decide +kernel
theorem dL_law_286 : decode cL_law 286 = .ok (.aload_n 0, 1) := by decide +kernel
theorem dL_law_287 : decode cL_law 287 = .ok (.iload 4, 2) := by decide +kernel
theorem dL_law_289 : decode cL_law 289 = .ok (.iconst 1, 1) := by decide +kernel
theorem dL_law_290 : decode cL_law 290 = .ok (.iadd, 1) := by decide +kernel
theorem dL_law_291 : decode cL_law 291 = .ok (.iaload, 1) := by decide +kernel
theorem dL_law_292 : decode cL_law 292 = .ok (.aload_n 3, 1) := by decide +kernel
theorem dL_law_293 : decode cL_law 293 = .ok (.invokestatic 94, 3) := by decide +kernel
theorem dL_law_296 : decode cL_law 296 = .ok (.istore 5, 2) := by decide +kernel
theorem dL_law_298 : decode cL_law 298 = .ok (.aload_n 2, 1) := by decide +kernel
theorem dL_law_299 : decode cL_law 299 = .ok (.aload_n 0, 1) := by decide +kernel
theorem dL_law_300 : decode cL_law 300 = .ok (.iload 4, 2) := by decide +kernel
theorem dL_law_302 : decode cL_law 302 = .ok (.iconst 1, 1) := by decide +kernel
theorem dL_law_303 : decode cL_law 303 = .ok (.iadd, 1) := by decide +kernel
theorem dL_law_304 : decode cL_law 304 = .ok (.iaload, 1) := by decide +kernel
theorem dL_law_305 : decode cL_law 305 = .ok (.invokevirtual 96, 3) := by decide +kernel
theorem dL_law_308 : decode cL_law 308 = .ok (.istore 6, 2) := by decide +kernel
theorem dL_law_310 : decode cL_law 310 = .ok (.aload_n 2, 1) := by decide +kernel
theorem dL_law_311 : decode cL_law 311 = .ok (.invokevirtual 90, 3) := by decide +kernel
theorem dL_law_314 : decode cL_law 314 = .ok (.iload 5, 2) := by decide +kernel
theorem dL_law_316 : decode cL_law 316 = .ok (.if_icmp .eq 5, 3) := by decide +kernel
theorem dL_law_319 : decode cL_law 319 = .ok (.iconst 0, 1) := by decide +kernel
theorem dL_law_320 : decode cL_law 320 = .ok (.ireturn, 1) := by decide +kernel
theorem dL_law_321 : decode cL_law 321 = .ok (.iload 5, 2) := by decide +kernel
theorem dL_law_323 : decode cL_law 323 = .ok (.ifCond .ne 15, 3) := by decide +kernel
theorem dL_law_326 : decode cL_law 326 = .ok (.aload_n 3, 1) := by decide +kernel
theorem dL_law_327 : decode cL_law 327 = .ok (.iconst 0, 1) := by decide +kernel
theorem dL_law_328 : decode cL_law 328 = .ok (.laload, 1) := by decide +kernel
theorem dL_law_329 : decode cL_law 329 = .ok (.iload 6, 2) := by decide +kernel
theorem dL_law_331 : decode cL_law 331 = .ok (.i2l, 1) := by decide +kernel
theorem dL_law_332 : decode cL_law 332 = .ok (.lcmp, 1) := by decide +kernel
theorem dL_law_333 : decode cL_law 333 = .ok (.ifCond .eq 5, 3) := by decide +kernel
theorem dL_law_336 : decode cL_law 336 = .ok (.iconst 0, 1) := by decide +kernel
theorem dL_law_337 : decode cL_law 337 = .ok (.ireturn, 1) := by decide +kernel
theorem dL_law_338 : decode cL_law 338 = .ok (.goto 1322, 3) := by decide +kernel
theorem dL_law_341 : decode cL_law 341 = .ok (.aload_n 1, 1) := by decide +kernel
theorem dL_law_342 : decode cL_law 342 = .ok (.invokevirtual 97, 3) := by decide +kernel
theorem dL_law_345 : decode cL_law 345 = .ok (.aload_n 2, 1) := by decide +kernel
theorem dL_law_346 : decode cL_law 346 = .ok (.invokevirtual 100, 3) := by decide +kernel
theorem dL_law_349 : decode cL_law 349 = .ok (.if_icmp .eq 1311, 3) := by decide +kernel
theorem dL_law_352 : decode cL_law 352 = .ok (.iconst 0, 1) := by decide +kernel
theorem dL_law_353 : decode cL_law 353 = .ok (.ireturn, 1) := by decide +kernel
theorem dL_law_354 : decode cL_law 354 = .ok (.aload_n 1, 1) := by decide +kernel
theorem dL_law_355 : decode cL_law 355 = .ok (.aload_n 0, 1) := by decide +kernel
theorem dL_law_356 : decode cL_law 356 = .ok (.iload 4, 2) := by decide +kernel
theorem dL_law_358 : decode cL_law 358 = .ok (.iconst 1, 1) := by decide +kernel
theorem dL_law_359 : decode cL_law 359 = .ok (.iadd, 1) := by decide +kernel
theorem dL_law_360 : decode cL_law 360 = .ok (.iaload, 1) := by decide +kernel
theorem dL_law_361 : decode cL_law 361 = .ok (.aload_n 3, 1) := by decide +kernel
theorem dL_law_362 : decode cL_law 362 = .ok (.invokestatic 101, 3) := by decide +kernel
theorem dL_law_365 : decode cL_law 365 = .ok (.istore 5, 2) := by decide +kernel
theorem dL_law_367 : decode cL_law 367 = .ok (.aload_n 2, 1) := by decide +kernel
theorem dL_law_368 : decode cL_law 368 = .ok (.aload_n 0, 1) := by decide +kernel
theorem dL_law_369 : decode cL_law 369 = .ok (.iload 4, 2) := by decide +kernel
theorem dL_law_371 : decode cL_law 371 = .ok (.iconst 1, 1) := by decide +kernel
theorem dL_law_372 : decode cL_law 372 = .ok (.iadd, 1) := by decide +kernel
theorem dL_law_373 : decode cL_law 373 = .ok (.iaload, 1) := by decide +kernel
theorem dL_law_374 : decode cL_law 374 = .ok (.invokevirtual 103, 3) := by decide +kernel
theorem dL_law_377 : decode cL_law 377 = .ok (.istore 6, 2) := by decide +kernel
theorem dL_law_379 : decode cL_law 379 = .ok (.aload_n 2, 1) := by decide +kernel
theorem dL_law_380 : decode cL_law 380 = .ok (.invokevirtual 90, 3) := by decide +kernel
theorem dL_law_383 : decode cL_law 383 = .ok (.iload 5, 2) := by decide +kernel
theorem dL_law_385 : decode cL_law 385 = .ok (.if_icmp .eq 5, 3) := by decide +kernel
theorem dL_law_388 : decode cL_law 388 = .ok (.iconst 0, 1) := by decide +kernel
theorem dL_law_389 : decode cL_law 389 = .ok (.ireturn, 1) := by decide +kernel
theorem dL_law_390 : decode cL_law 390 = .ok (.iload 5, 2) := by decide +kernel
theorem dL_law_392 : decode cL_law 392 = .ok (.ifCond .ne 15, 3) := by decide +kernel
theorem dL_law_395 : decode cL_law 395 = .ok (.aload_n 3, 1) := by decide +kernel
theorem dL_law_396 : decode cL_law 396 = .ok (.iconst 0, 1) := by decide +kernel
theorem dL_law_397 : decode cL_law 397 = .ok (.laload, 1) := by decide +kernel
theorem dL_law_398 : decode cL_law 398 = .ok (.iload 6, 2) := by decide +kernel
theorem dL_law_400 : decode cL_law 400 = .ok (.i2l, 1) := by decide +kernel
theorem dL_law_401 : decode cL_law 401 = .ok (.lcmp, 1) := by decide +kernel
theorem dL_law_402 : decode cL_law 402 = .ok (.ifCond .eq 5, 3) := by decide +kernel
theorem dL_law_405 : decode cL_law 405 = .ok (.iconst 0, 1) := by decide +kernel
theorem dL_law_406 : decode cL_law 406 = .ok (.ireturn, 1) := by decide +kernel
theorem dL_law_407 : decode cL_law 407 = .ok (.goto 1253, 3) := by decide +kernel
theorem dL_law_410 : decode cL_law 410 = .ok (.aload_n 1, 1) := by decide +kernel
theorem dL_law_411 : decode cL_law 411 = .ok (.aload_n 0, 1) := by decide +kernel
theorem dL_law_412 : decode cL_law 412 = .ok (.iload 4, 2) := by decide +kernel
theorem dL_law_414 : decode cL_law 414 = .ok (.iconst 1, 1) := by decide +kernel
theorem dL_law_415 : decode cL_law 415 = .ok (.iadd, 1) := by decide +kernel
theorem dL_law_416 : decode cL_law 416 = .ok (.iaload, 1) := by decide +kernel
theorem dL_law_417 : decode cL_law 417 = .ok (.aload_n 0, 1) := by decide +kernel
theorem dL_law_418 : decode cL_law 418 = .ok (.iload 4, 2) := by decide +kernel
theorem dL_law_420 : decode cL_law 420 = .ok (.iconst 2, 1) := by decide +kernel
theorem dL_law_421 : decode cL_law 421 = .ok (.iadd, 1) := by decide +kernel
theorem dL_law_422 : decode cL_law 422 = .ok (.iaload, 1) := by decide +kernel
theorem dL_law_423 : decode cL_law 423 = .ok (.aload_n 3, 1) := by decide +kernel
theorem dL_law_424 : decode cL_law 424 = .ok (.invokestatic 104, 3) := by decide +kernel
theorem dL_law_427 : decode cL_law 427 = .ok (.istore 5, 2) := by decide +kernel
theorem dL_law_429 : decode cL_law 429 = .ok (.aload_n 2, 1) := by decide +kernel
theorem dL_law_430 : decode cL_law 430 = .ok (.aload_n 0, 1) := by decide +kernel
theorem dL_law_431 : decode cL_law 431 = .ok (.iload 4, 2) := by decide +kernel
theorem dL_law_433 : decode cL_law 433 = .ok (.iconst 1, 1) := by decide +kernel
theorem dL_law_434 : decode cL_law 434 = .ok (.iadd, 1) := by decide +kernel
theorem dL_law_435 : decode cL_law 435 = .ok (.iaload, 1) := by decide +kernel
theorem dL_law_436 : decode cL_law 436 = .ok (.aload_n 0, 1) := by decide +kernel
theorem dL_law_437 : decode cL_law 437 = .ok (.iload 4, 2) := by decide +kernel
theorem dL_law_439 : decode cL_law 439 = .ok (.iconst 2, 1) := by decide +kernel
theorem dL_law_440 : decode cL_law 440 = .ok (.iadd, 1) := by decide +kernel
theorem dL_law_441 : decode cL_law 441 = .ok (.iaload, 1) := by decide +kernel
theorem dL_law_442 : decode cL_law 442 = .ok (.invokevirtual 107, 3) := by decide +kernel
theorem dL_law_445 : decode cL_law 445 = .ok (.istore 6, 2) := by decide +kernel
theorem dL_law_447 : decode cL_law 447 = .ok (.aload_n 2, 1) := by decide +kernel
theorem dL_law_448 : decode cL_law 448 = .ok (.invokevirtual 90, 3) := by decide +kernel
theorem dL_law_451 : decode cL_law 451 = .ok (.iload 5, 2) := by decide +kernel
theorem dL_law_453 : decode cL_law 453 = .ok (.if_icmp .eq 5, 3) := by decide +kernel
theorem dL_law_456 : decode cL_law 456 = .ok (.iconst 0, 1) := by decide +kernel
