theorem dX12_safer_0 : decode cX12_safer 0 = .ok (.iload_n 3, 1) := by decide +kernel
theorem dX12_safer_1 : decode cX12_safer 1 = .ok (.iconst 3, 1) := by decide +kernel
theorem dX12_safer_2 : decode cX12_safer 2 = .ok (.invokestatic 226, 3) := by decide +kernel
theorem dX12_safer_5 : decode cX12_safer 5 = .ok (.iload_n 1, 1) := by decide +kernel
theorem dX12_safer_6 : decode cX12_safer 6 = .ok (.iload_n 2, 1) := by decide +kernel
theorem dX12_safer_7 : decode cX12_safer 7 = .ok (.invokestatic 230, 3) := by decide +kernel
theorem dX12_safer_10 : decode cX12_safer 10 = .ok (.aload_n 0, 1) := by decide +kernel
theorem dX12_safer_11 : decode cX12_safer 11 = .ok (.getfield 58, 3) := by decide +kernel
theorem dX12_safer_14 : decode cX12_safer 14 = .ok (.aload_n 0, 1) := by decide +kernel
theorem dX12_safer_15 : decode cX12_safer 15 = .ok (.getfield 20, 3) := by decide +kernel
theorem dX12_safer_18 : decode cX12_safer 18 = .ok (.invokevirtual 233, 3) := by decide +kernel
theorem dX12_safer_21 : decode cX12_safer 21 = .ok (.iload_n 3, 1) := by decide +kernel
theorem dX12_safer_22 : decode cX12_safer 22 = .ok (.iconst 2, 1) := by decide +kernel
theorem dX12_safer_23 : decode cX12_safer 23 = .ok (.if_icmp .ge 21, 3) := by decide +kernel
theorem dX12_safer_26 : decode cX12_safer 26 = .ok (.aload_n 0, 1) := by decide +kernel
theorem dX12_safer_27 : decode cX12_safer 27 = .ok (.iload_n 1, 1) := by decide +kernel
theorem dX12_safer_28 : decode cX12_safer 28 = .ok (.iload_n 2, 1) := by decide +kernel
theorem dX12_safer_29 : decode cX12_safer 29 = .ok (.iload_n 3, 1) := by decide +kernel
theorem dX12_safer_30 : decode cX12_safer 30 = .ok (.ifCond .ne 7, 3) := by decide +kernel
theorem dX12_safer_33 : decode cX12_safer 33 = .ok (.iconst 1, 1) := by decide +kernel
theorem dX12_safer_34 : decode cX12_safer 34 = .ok (.goto 4, 3) := by decide +kernel
theorem dX12_safer_37 : decode cX12_safer 37 = .ok (.iconst 0, 1) := by decide +kernel
theorem dX12_safer_38 : decode cX12_safer 38 = .ok (.invokevirtual 280, 3) := by decide +kernel
theorem dX12_safer_41 : decode cX12_safer 41 = .ok (.goto 19, 3) := by decide +kernel
theorem dX12_safer_44 : decode cX12_safer 44 = .ok (.aload_n 0, 1) := by decide +kernel
theorem dX12_safer_45 : decode cX12_safer 45 = .ok (.iload_n 1, 1) := by decide +kernel
theorem dX12_safer_46 : decode cX12_safer 46 = .ok (.iload_n 2, 1) := by decide +kernel
theorem dX12_safer_47 : decode cX12_safer 47 = .ok (.iload_n 3, 1) := by decide +kernel
theorem dX12_safer_48 : decode cX12_safer 48 = .ok (.iconst 2, 1) := by decide +kernel
theorem dX12_safer_49 : decode cX12_safer 49 = .ok (.if_icmp .ne 7, 3) := by decide +kernel
theorem dX12_safer_52 : decode cX12_safer 52 = .ok (.iconst 1, 1) := by decide +kernel
theorem dX12_safer_53 : decode cX12_safer 53 = .ok (.goto 4, 3) := by decide +kernel
theorem dX12_safer_56 : decode cX12_safer 56 = .ok (.iconst 0, 1) := by decide +kernel
theorem dX12_safer_57 : decode cX12_safer 57 = .ok (.invokevirtual 284, 3) := by decide +kernel
theorem dX12_safer_60 : decode cX12_safer 60 = .ok (.ireturn, 1) := by decide +kernel
set_option maxRecDepth 20000 in
theorem ggX12_saferCouples_X12_isSaferCouple : GoodIn wsX12_saferCouples wsX12_isSaferCouple := goodIn_r _ [5, 6, 7, 8, 4, 9, 10, 11, 12, 13, 14, 15, 16, 17, 18, 19, 20, 21, 22, 23, 24, 25, 26, 27, 28, 29, 30, 31, 32, 33, 34, 35, 36, 37, 38, 39, 40, 41, 42, 43, 44, 45, 46, 47, 48, 49, 50, 51, 52, 53, 54, 55, 56, 57, 58, 59, 60, 61, 62, 63, 64, 65, 66, 67, 68, 69, 70, 71, 72, 73, 74, 75, 76, 77, 78, 79, 80, 81, 82, 83, 84, 85, 86, 87, 88, 89, 90, 91, 92, 93, 94, 95, 96, 97, 98] (by decide +kernel) (by decide +kernel)
set_option maxRecDepth 20000 in
theorem gX12_saferCouples_X12_isSaferCouple : GoodIn wsX12_saferCouples (wsV RX12 287 RX12 yX12_isSaferCouple wsX12_isSaferCouple) := goodIn_app (goodIn_of _ (by decide +kernel)) ggX12_saferCouples_X12_isSaferCouple
theorem dX12_saferCouples_0 : decode cX12_saferCouples 0 = .ok (.iconst 0, 1) := by decide +kernel
theorem dX12_saferCouples_1 : decode cX12_saferCouples 1 = .ok (.istore 4, 2) := by decide +kernel
theorem dX12_saferCouples_3 : decode cX12_saferCouples 3 = .ok (.iconst 0, 1) := by decide +kernel
theorem dX12_saferCouples_4 : decode cX12_saferCouples 4 = .ok (.istore 5, 2) := by decide +kernel
theorem dX12_saferCouples_6 : decode cX12_saferCouples 6 = .ok (.iload 5, 2) := by decide +kernel
theorem dX12_saferCouples_8 : decode cX12_saferCouples 8 = .ok (.bipush 10, 2) := by decide +kernel
theorem dX12_saferCouples_10 : decode cX12_saferCouples 10 = .ok (.if_icmp .ge 57, 3) := by decide +kernel
theorem dX12_saferCouples_13 : decode cX12_saferCouples 13 = .ok (.iload 5, 2) := by decide +kernel
theorem dX12_saferCouples_15 : decode cX12_saferCouples 15 = .ok (.iconst 1, 1) := by decide +kernel
theorem dX12_saferCouples_16 : decode cX12_saferCouples 16 = .ok (.iadd, 1) := by decide +kernel
theorem dX12_saferCouples_17 : decode cX12_saferCouples 17 = .ok (.istore 6, 2) := by decide +kernel
theorem dX12_saferCouples_19 : decode cX12_saferCouples 19 = .ok (.iload 6, 2) := by decide +kernel
theorem dX12_saferCouples_21 : decode cX12_saferCouples 21 = .ok (.bipush 10, 2) := by decide +kernel
theorem dX12_saferCouples_23 : decode cX12_saferCouples 23 = .ok (.if_icmp .ge 38, 3) := by decide +kernel
theorem dX12_saferCouples_26 : decode cX12_saferCouples 26 = .ok (.aload_n 0, 1) := by decide +kernel
theorem dX12_saferCouples_27 : decode cX12_saferCouples 27 = .ok (.iload 5, 2) := by decide +kernel
theorem dX12_saferCouples_29 : decode cX12_saferCouples 29 = .ok (.iload 6, 2) := by decide +kernel
theorem dX12_saferCouples_31 : decode cX12_saferCouples 31 = .ok (.iload_n 1, 1) := by decide +kernel
theorem dX12_saferCouples_32 : decode cX12_saferCouples 32 = .ok (.iload_n 2, 1) := by decide +kernel
theorem dX12_saferCouples_33 : decode cX12_saferCouples 33 = .ok (.invokevirtual 287, 3) := by decide +kernel
theorem dX12_saferCouples_36 : decode cX12_saferCouples 36 = .ok (.ifCond .eq 19, 3) := by decide +kernel
theorem dX12_saferCouples_39 : decode cX12_saferCouples 39 = .ok (.iload_n 3, 1) := by decide +kernel
theorem dX12_saferCouples_40 : decode cX12_saferCouples 40 = .ok (.ifCond .ne 12, 3) := by decide +kernel
theorem dX12_saferCouples_43 : decode cX12_saferCouples 43 = .ok (.bipush 16, 2) := by decide +kernel
theorem dX12_saferCouples_45 : decode cX12_saferCouples 45 = .ok (.iload 5, 2) := by decide +kernel
theorem dX12_saferCouples_47 : decode cX12_saferCouples 47 = .ok (.imul, 1) := by decide +kernel
theorem dX12_saferCouples_48 : decode cX12_saferCouples 48 = .ok (.iload 6, 2) := by decide +kernel
theorem dX12_saferCouples_50 : decode cX12_saferCouples 50 = .ok (.iadd, 1) := by decide +kernel
theorem dX12_saferCouples_51 : decode cX12_saferCouples 51 = .ok (.ireturn, 1) := by decide +kernel
theorem dX12_saferCouples_52 : decode cX12_saferCouples 52 = .ok (.iinc 4 1, 3) := by decide +kernel
theorem dX12_saferCouples_55 : decode cX12_saferCouples 55 = .ok (.iinc 6 1, 3) := by decide +kernel
theorem dX12_saferCouples_58 : decode cX12_saferCouples 58 = .ok (.goto (-39), 3) := by decide +kernel
theorem dX12_saferCouples_61 : decode cX12_saferCouples 61 = .ok (.iinc 5 1, 3) := by decide +kernel
theorem dX12_saferCouples_64 : decode cX12_saferCouples 64 = .ok (.goto (-58), 3) := by decide +kernel
theorem dX12_saferCouples_67 : decode cX12_saferCouples 67 = .ok (.iload_n 3, 1) := by decide +kernel
theorem dX12_saferCouples_68 : decode cX12_saferCouples 68 = .ok (.ifCond .eq 8, 3) := by decide +kernel
theorem dX12_saferCouples_71 : decode cX12_saferCouples 71 = .ok (.iload 4, 2) := by decide +kernel
theorem dX12_saferCouples_73 : decode cX12_saferCouples 73 = .ok (.goto 4, 3) := by decide +kernel
theorem dX12_saferCouples_76 : decode cX12_saferCouples 76 = .ok (.iconst (-1), 1) := by decide +kernel
theorem dX12_saferCouples_77 : decode cX12_saferCouples 77 = .ok (.ireturn, 1) := by decide +kernel
set_option maxRecDepth 20000 in
theorem ggX12_isSaferCouple_X12_areOwedApart : GoodIn wsX12_isSaferCouple wsX12_areOwedApart := goodIn_r _ [5, 6, 7, 8, 9, 10, 11, 12, 13, 14, 15, 16, 17, 18, 19, 61, 62, 63, 64, 65, 66, 67, 68, 69, 70, 71, 72, 73, 74, 75, 76, 77, 78, 79, 80, 81, 82, 83, 84, 85, 86, 87, 88, 89, 90, 91, 92] (by decide +kernel) (by decide +kernel)
set_option maxRecDepth 20000 in
theorem gX12_isSaferCouple_X12_areOwedApart : GoodIn wsX12_isSaferCouple (wsV RX12 291 RX12 yX12_areOwedApart wsX12_areOwedApart) := goodIn_app (goodIn_of _ (by decide +kernel)) ggX12_isSaferCouple_X12_areOwedApart
set_option maxRecDepth 20000 in
theorem ggX12_isSaferCouple_X12_eases : GoodIn wsX12_isSaferCouple wsX12_eases := goodIn_r _ [23, 6, 7, 24, 14, 15, 16, 11, 17, 18, 19, 9, 10, 12, 13, 25, 26, 27, 28, 29, 30, 31, 32, 33, 34, 35, 36, 37, 38, 39, 40, 41, 42, 43, 44, 45, 46, 47, 48, 49, 50, 51, 52, 53, 54, 55, 56, 57, 58, 59, 60, 61, 62, 63, 64, 65, 66, 67, 68, 69, 70, 71, 72, 73, 74, 75, 76, 77, 78, 79, 80, 81, 82, 83, 84, 85, 86, 87, 88, 89, 90, 91, 92, 93, 94] (by decide +kernel) (by decide +kernel)
set_option maxRecDepth 20000 in
theorem gX12_isSaferCouple_X12_eases : GoodIn wsX12_isSaferCouple (wsV RX12 294 RX12 yX12_eases wsX12_eases) := goodIn_app (goodIn_of _ (by decide +kernel)) ggX12_isSaferCouple_X12_eases
theorem dX12_isSaferCouple_0 : decode cX12_isSaferCouple 0 = .ok (.aload_n 0, 1) := by decide +kernel
theorem dX12_isSaferCouple_1 : decode cX12_isSaferCouple 1 = .ok (.iload_n 1, 1) := by decide +kernel
theorem dX12_isSaferCouple_2 : decode cX12_isSaferCouple 2 = .ok (.iload_n 2, 1) := by decide +kernel
theorem dX12_isSaferCouple_3 : decode cX12_isSaferCouple 3 = .ok (.invokevirtual 291, 3) := by decide +kernel
theorem dX12_isSaferCouple_6 : decode cX12_isSaferCouple 6 = .ok (.ifCond .eq 31, 3) := by decide +kernel
theorem dX12_isSaferCouple_9 : decode cX12_isSaferCouple 9 = .ok (.aload_n 0, 1) := by decide +kernel
theorem dX12_isSaferCouple_10 : decode cX12_isSaferCouple 10 = .ok (.iload_n 2, 1) := by decide +kernel
theorem dX12_isSaferCouple_11 : decode cX12_isSaferCouple 11 = .ok (.iload_n 1, 1) := by decide +kernel
theorem dX12_isSaferCouple_12 : decode cX12_isSaferCouple 12 = .ok (.iload_n 3, 1) := by decide +kernel
theorem dX12_isSaferCouple_13 : decode cX12_isSaferCouple 13 = .ok (.iload 4, 2) := by decide +kernel
theorem dX12_isSaferCouple_15 : decode cX12_isSaferCouple 15 = .ok (.invokevirtual 294, 3) := by decide +kernel
theorem dX12_isSaferCouple_18 : decode cX12_isSaferCouple 18 = .ok (.ifCond .eq 19, 3) := by decide +kernel
theorem dX12_isSaferCouple_21 : decode cX12_isSaferCouple 21 = .ok (.aload_n 0, 1) := by decide +kernel
theorem dX12_isSaferCouple_22 : decode cX12_isSaferCouple 22 = .ok (.iload_n 1, 1) := by decide +kernel
theorem dX12_isSaferCouple_23 : decode cX12_isSaferCouple 23 = .ok (.iload_n 2, 1) := by decide +kernel
theorem dX12_isSaferCouple_24 : decode cX12_isSaferCouple 24 = .ok (.iload_n 3, 1) := by decide +kernel
theorem dX12_isSaferCouple_25 : decode cX12_isSaferCouple 25 = .ok (.iload 4, 2) := by decide +kernel
theorem dX12_isSaferCouple_27 : decode cX12_isSaferCouple 27 = .ok (.invokevirtual 294, 3) := by decide +kernel
theorem dX12_isSaferCouple_30 : decode cX12_isSaferCouple 30 = .ok (.ifCond .eq 7, 3) := by decide +kernel
theorem dX12_isSaferCouple_33 : decode cX12_isSaferCouple 33 = .ok (.iconst 1, 1) := by decide +kernel
theorem dX12_isSaferCouple_34 : decode cX12_isSaferCouple 34 = .ok (.goto 4, 3) := by decide +kernel
theorem dX12_isSaferCouple_37 : decode cX12_isSaferCouple 37 = .ok (.iconst 0, 1) := by decide +kernel
theorem dX12_isSaferCouple_38 : decode cX12_isSaferCouple 38 = .ok (.ireturn, 1) := by decide +kernel
set_option maxRecDepth 20000 in
theorem ggX12_saferRings_X12_isSaferRing : GoodIn wsX12_saferRings wsX12_isSaferRing := goodIn_r _ [5, 6, 7, 8, 4, 9, 10, 11, 12, 13, 14, 15, 16, 17, 18, 19, 20, 21, 22, 23, 24, 25, 26, 27, 28, 29, 30, 31, 32, 33, 34, 35, 36, 37, 38, 39, 40, 41, 42, 43, 44, 45, 46, 47, 48, 49, 50, 51, 52, 53, 54, 55, 56, 57, 58, 59, 60, 61, 62, 63, 64, 65, 66, 67, 68, 69, 70, 71, 72, 73, 74, 75, 76, 77, 78, 79, 80, 81, 82, 83, 84, 85, 86, 87, 88, 89, 90, 91, 92, 93, 94, 95, 96, 97, 98] (by decide +kernel) (by decide +kernel)
set_option maxRecDepth 20000 in
theorem gX12_saferRings_X12_isSaferRing : GoodIn wsX12_saferRings (wsV RX12 297 RX12 yX12_isSaferRing wsX12_isSaferRing) := goodIn_app (goodIn_of _ (by decide +kernel)) ggX12_saferRings_X12_isSaferRing
theorem dX12_saferRings_0 : decode cX12_saferRings 0 = .ok (.iconst 0, 1) := by decide +kernel
theorem dX12_saferRings_1 : decode cX12_saferRings 1 = .ok (.istore 4, 2) := by decide +kernel
theorem dX12_saferRings_3 : decode cX12_saferRings 3 = .ok (.iconst 0, 1) := by decide +kernel
theorem dX12_saferRings_4 : decode cX12_saferRings 4 = .ok (.istore 5, 2) := by decide +kernel
theorem dX12_saferRings_6 : decode cX12_saferRings 6 = .ok (.iload 5, 2) := by decide +kernel
theorem dX12_saferRings_8 : decode cX12_saferRings 8 = .ok (.bipush 10, 2) := by decide +kernel
theorem dX12_saferRings_10 : decode cX12_saferRings 10 = .ok (.if_icmp .ge 85, 3) := by decide +kernel
theorem dX12_saferRings_13 : decode cX12_saferRings 13 = .ok (.iload 5, 2) := by decide +kernel
theorem dX12_saferRings_15 : decode cX12_saferRings 15 = .ok (.iconst 1, 1) := by decide +kernel
theorem dX12_saferRings_16 : decode cX12_saferRings 16 = .ok (.iadd, 1) := by decide +kernel
theorem dX12_saferRings_17 : decode cX12_saferRings 17 = .ok (.istore 6, 2) := by decide +kernel
theorem dX12_saferRings_19 : decode cX12_saferRings 19 = .ok (.iload 6, 2) := by decide +kernel
theorem dX12_saferRings_21 : decode cX12_saferRings 21 = .ok (.bipush 10, 2) := by decide +kernel
theorem dX12_saferRings_23 : decode cX12_saferRings 23 = .ok (.if_icmp .ge 66, 3) := by decide +kernel
theorem dX12_saferRings_26 : decode cX12_saferRings 26 = .ok (.iload 5, 2) := by decide +kernel
theorem dX12_saferRings_28 : decode cX12_saferRings 28 = .ok (.iconst 1, 1) := by decide +kernel
theorem dX12_saferRings_29 : decode cX12_saferRings 29 = .ok (.iadd, 1) := by decide +kernel
theorem dX12_saferRings_30 : decode cX12_saferRings 30 = .ok (.istore 7, 2) := by decide +kernel
theorem dX12_saferRings_32 : decode cX12_saferRings 32 = .ok (.iload 7, 2) := by decide +kernel
theorem dX12_saferRings_34 : decode cX12_saferRings 34 = .ok (.bipush 10, 2) := by decide +kernel
theorem dX12_saferRings_36 : decode cX12_saferRings 36 = .ok (.if_icmp .ge 47, 3) := by decide +kernel
theorem dX12_saferRings_39 : decode cX12_saferRings 39 = .ok (.aload_n 0, 1) := by decide +kernel
theorem dX12_saferRings_40 : decode cX12_saferRings 40 = .ok (.iload 5, 2) := by decide +kernel
theorem dX12_saferRings_42 : decode cX12_saferRings 42 = .ok (.iload 6, 2) := by decide +kernel
theorem dX12_saferRings_44 : decode cX12_saferRings 44 = .ok (.iload 7, 2) := by decide +kernel
theorem dX12_saferRings_46 : decode cX12_saferRings 46 = .ok (.iload_n 1, 1) := by decide +kernel
theorem dX12_saferRings_47 : decode cX12_saferRings 47 = .ok (.iload_n 2, 1) := by decide +kernel
theorem dX12_saferRings_48 : decode cX12_saferRings 48 = .ok (.invokevirtual 297, 3) := by decide +kernel
theorem dX12_saferRings_51 : decode cX12_saferRings 51 = .ok (.ifCond .eq 26, 3) := by decide +kernel
theorem dX12_saferRings_54 : decode cX12_saferRings 54 = .ok (.iload_n 3, 1) := by decide +kernel
theorem dX12_saferRings_55 : decode cX12_saferRings 55 = .ok (.ifCond .ne 19, 3) := by decide +kernel
theorem dX12_saferRings_58 : decode cX12_saferRings 58 = .ok (.sipush 256, 3) := by decide +kernel
theorem dX12_saferRings_61 : decode cX12_saferRings 61 = .ok (.iload 5, 2) := by decide +kernel
theorem dX12_saferRings_63 : decode cX12_saferRings 63 = .ok (.imul, 1) := by decide +kernel
theorem dX12_saferRings_64 : decode cX12_saferRings 64 = .ok (.bipush 16, 2) := by decide +kernel
theorem dX12_saferRings_66 : decode cX12_saferRings 66 = .ok (.iload 6, 2) := by decide +kernel
theorem dX12_saferRings_68 : decode cX12_saferRings 68 = .ok (.imul, 1) := by decide +kernel
theorem dX12_saferRings_69 : decode cX12_saferRings 69 = .ok (.iadd, 1) := by decide +kernel
theorem dX12_saferRings_70 : decode cX12_saferRings 70 = .ok (.iload 7, 2) := by decide +kernel
theorem dX12_saferRings_72 : decode cX12_saferRings 72 = .ok (.iadd, 1) := by decide +kernel
theorem dX12_saferRings_73 : decode cX12_saferRings 73 = .ok (.ireturn, 1) := by decide +kernel
theorem dX12_saferRings_74 : decode cX12_saferRings 74 = .ok (.iinc 4 1, 3) := by decide +kernel
theorem dX12_saferRings_77 : decode cX12_saferRings 77 = .ok (.iinc 7 1, 3) := by decide +kernel
theorem dX12_saferRings_80 : decode cX12_saferRings 80 = .ok (.goto (-48), 3) := by decide +kernel
theorem dX12_saferRings_83 : decode cX12_saferRings 83 = .ok (.iinc 6 1, 3) := by decide +kernel
theorem dX12_saferRings_86 : decode cX12_saferRings 86 = .ok (.goto (-67), 3) := by decide +kernel
theorem dX12_saferRings_89 : decode cX12_saferRings 89 = .ok (.iinc 5 1, 3) := by decide +kernel
theorem dX12_saferRings_92 : decode cX12_saferRings 92 = .ok (.goto (-86), 3) := by decide +kernel
theorem dX12_saferRings_95 : decode cX12_saferRings 95 = .ok (.iload_n 3, 1) := by decide +kernel
theorem dX12_saferRings_96 : decode cX12_saferRings 96 = .ok (.ifCond .eq 8, 3) := by decide +kernel
theorem dX12_saferRings_99 : decode cX12_saferRings 99 = .ok (.iload 4, 2) := by decide +kernel
theorem dX12_saferRings_101 : decode cX12_saferRings 101 = .ok (.goto 4, 3) := by decide +kernel
theorem dX12_saferRings_104 : decode cX12_saferRings 104 = .ok (.iconst (-1), 1) := by decide +kernel
theorem dX12_saferRings_105 : decode cX12_saferRings 105 = .ok (.ireturn, 1) := by decide +kernel
set_option maxRecDepth 20000 in
theorem ggX12_isSaferRing_X12_areOwedApart : GoodIn wsX12_isSaferRing wsX12_areOwedApart := goodIn_r _ [5, 6, 7, 8, 9, 10, 11, 12, 13, 14, 15, 16, 17, 18, 19, 61, 62, 63, 64, 65, 66, 67, 68, 69, 70, 71, 72, 73, 74, 75, 76, 77, 78, 79, 80, 81, 82, 83, 84, 85, 86, 87, 88, 89, 90, 91, 92] (by decide +kernel) (by decide +kernel)
set_option maxRecDepth 20000 in
theorem gX12_isSaferRing_X12_areOwedApart : GoodIn wsX12_isSaferRing (wsV RX12 291 RX12 yX12_areOwedApart wsX12_areOwedApart) := goodIn_app (goodIn_of _ (by decide +kernel)) ggX12_isSaferRing_X12_areOwedApart
set_option maxRecDepth 20000 in
theorem ggX12_isSaferRing_X12_eases : GoodIn wsX12_isSaferRing wsX12_eases := goodIn_r _ [23, 6, 7, 24, 14, 15, 16, 11, 17, 18, 19, 9, 10, 12, 13, 25, 26, 27, 28, 29, 30, 31, 32, 33, 34, 35, 36, 37, 38, 39, 40, 41, 42, 43, 44, 45, 46, 47, 48, 49, 50, 51, 52, 53, 54, 55, 56, 57, 58, 59, 60, 61, 62, 63, 64, 65, 66, 67, 68, 69, 70, 71, 72, 73, 74, 75, 76, 77, 78, 79, 80, 81, 82, 83, 84, 85, 86, 87, 88, 89, 90, 91, 92, 93, 94] (by decide +kernel) (by decide +kernel)
set_option maxRecDepth 20000 in
theorem gX12_isSaferRing_X12_eases : GoodIn wsX12_isSaferRing (wsV RX12 294 RX12 yX12_eases wsX12_eases) := goodIn_app (goodIn_of _ (by decide +kernel)) ggX12_isSaferRing_X12_eases
theorem dX12_isSaferRing_0 : decode cX12_isSaferRing 0 = .ok (.aload_n 0, 1) := by decide +kernel
theorem dX12_isSaferRing_1 : decode cX12_isSaferRing 1 = .ok (.iload_n 1, 1) := by decide +kernel
theorem dX12_isSaferRing_2 : decode cX12_isSaferRing 2 = .ok (.iload_n 2, 1) := by decide +kernel
theorem dX12_isSaferRing_3 : decode cX12_isSaferRing 3 = .ok (.invokevirtual 291, 3) := by decide +kernel
theorem dX12_isSaferRing_6 : decode cX12_isSaferRing 6 = .ok (.ifCond .eq 64, 3) := by decide +kernel
theorem dX12_isSaferRing_9 : decode cX12_isSaferRing 9 = .ok (.aload_n 0, 1) := by decide +kernel
theorem dX12_isSaferRing_10 : decode cX12_isSaferRing 10 = .ok (.iload_n 2, 1) := by decide +kernel
theorem dX12_isSaferRing_11 : decode cX12_isSaferRing 11 = .ok (.iload_n 3, 1) := by decide +kernel
theorem dX12_isSaferRing_12 : decode cX12_isSaferRing 12 = .ok (.invokevirtual 291, 3) := by decide +kernel
theorem dX12_isSaferRing_15 : decode cX12_isSaferRing 15 = .ok (.ifCond .eq 55, 3) := by decide +kernel
theorem dX12_isSaferRing_18 : decode cX12_isSaferRing 18 = .ok (.aload_n 0, 1) := by decide +kernel
theorem dX12_isSaferRing_19 : decode cX12_isSaferRing 19 = .ok (.iload_n 3, 1) := by decide +kernel
theorem dX12_isSaferRing_20 : decode cX12_isSaferRing 20 = .ok (.iload_n 1, 1) := by decide +kernel
theorem dX12_isSaferRing_21 : decode cX12_isSaferRing 21 = .ok (.invokevirtual 291, 3) := by decide +kernel
theorem dX12_isSaferRing_24 : decode cX12_isSaferRing 24 = .ok (.ifCond .eq 46, 3) := by decide +kernel
theorem dX12_isSaferRing_27 : decode cX12_isSaferRing 27 = .ok (.aload_n 0, 1) := by decide +kernel
theorem dX12_isSaferRing_28 : decode cX12_isSaferRing 28 = .ok (.iload_n 1, 1) := by decide +kernel
theorem dX12_isSaferRing_29 : decode cX12_isSaferRing 29 = .ok (.iload_n 2, 1) := by decide +kernel
theorem dX12_isSaferRing_30 : decode cX12_isSaferRing 30 = .ok (.iload 4, 2) := by decide +kernel
theorem dX12_isSaferRing_32 : decode cX12_isSaferRing 32 = .ok (.iload 5, 2) := by decide +kernel
theorem dX12_isSaferRing_34 : decode cX12_isSaferRing 34 = .ok (.invokevirtual 294, 3) := by decide +kernel
theorem dX12_isSaferRing_37 : decode cX12_isSaferRing 37 = .ok (.ifCond .eq 33, 3) := by decide +kernel
theorem dX12_isSaferRing_40 : decode cX12_isSaferRing 40 = .ok (.aload_n 0, 1) := by decide +kernel
theorem dX12_isSaferRing_41 : decode cX12_isSaferRing 41 = .ok (.iload_n 2, 1) := by decide +kernel
theorem dX12_isSaferRing_42 : decode cX12_isSaferRing 42 = .ok (.iload_n 3, 1) := by decide +kernel
theorem dX12_isSaferRing_43 : decode cX12_isSaferRing 43 = .ok (.iload 4, 2) := by decide +kernel
theorem dX12_isSaferRing_45 : decode cX12_isSaferRing 45 = .ok (.iload 5, 2) := by decide +kernel
theorem dX12_isSaferRing_47 : decode cX12_isSaferRing 47 = .ok (.invokevirtual 294, 3) := by decide +kernel
theorem dX12_isSaferRing_50 : decode cX12_isSaferRing 50 = .ok (.ifCond .eq 20, 3) := by decide +kernel
theorem dX12_isSaferRing_53 : decode cX12_isSaferRing 53 = .ok (.aload_n 0, 1) := by decide +kernel
theorem dX12_isSaferRing_54 : decode cX12_isSaferRing 54 = .ok (.iload_n 3, 1) := by decide +kernel
theorem dX12_isSaferRing_55 : decode cX12_isSaferRing 55 = .ok (.iload_n 1, 1) := by decide +kernel
theorem dX12_isSaferRing_56 : decode cX12_isSaferRing 56 = .ok (.iload 4, 2) := by decide +kernel
theorem dX12_isSaferRing_58 : decode cX12_isSaferRing 58 = .ok (.iload 5, 2) := by decide +kernel
theorem dX12_isSaferRing_60 : decode cX12_isSaferRing 60 = .ok (.invokevirtual 294, 3) := by decide +kernel
theorem dX12_isSaferRing_63 : decode cX12_isSaferRing 63 = .ok (.ifCond .eq 7, 3) := by decide +kernel
theorem dX12_isSaferRing_66 : decode cX12_isSaferRing 66 = .ok (.iconst 1, 1) := by decide +kernel
theorem dX12_isSaferRing_67 : decode cX12_isSaferRing 67 = .ok (.goto 4, 3) := by decide +kernel
theorem dX12_isSaferRing_70 : decode cX12_isSaferRing 70 = .ok (.iconst 0, 1) := by decide +kernel
theorem dX12_isSaferRing_71 : decode cX12_isSaferRing 71 = .ok (.ireturn, 1) := by decide +kernel
set_option maxRecDepth 20000 in
theorem ggX12_areOwedApart_X4_has : GoodIn wsX12_areOwedApart wsX4_has := goodIn_r _ [7, 8, 41, 42, 43, 44, 45, 46] (by decide +kernel) (by decide +kernel)
set_option maxRecDepth 20000 in
theorem gX12_areOwedApart_X4_has : GoodIn wsX12_areOwedApart (wsV RX12 301 RX4 yX4_has wsX4_has) := goodIn_app (goodIn_of _ (by decide +kernel)) ggX12_areOwedApart_X4_has
set_option maxRecDepth 20000 in
theorem ggX12_areOwedApart_X4_lenderOf : GoodIn wsX12_areOwedApart wsX4_lenderOf := goodIn_r _ [12, 13, 14, 4, 5, 6, 7, 8, 41, 42, 43, 44, 45, 46] (by decide +kernel) (by decide +kernel)
set_option maxRecDepth 20000 in
theorem gX12_areOwedApart_X4_lenderOf : GoodIn wsX12_areOwedApart (wsV RX12 205 RX4 yX4_lenderOf wsX4_lenderOf) := goodIn_app (goodIn_of _ (by decide +kernel)) ggX12_areOwedApart_X4_lenderOf
theorem dX12_areOwedApart_0 : decode cX12_areOwedApart 0 = .ok (.aload_n 0, 1) := by decide +kernel
theorem dX12_areOwedApart_1 : decode cX12_areOwedApart 1 = .ok (.getfield 20, 3) := by decide +kernel
theorem dX12_areOwedApart_4 : decode cX12_areOwedApart 4 = .ok (.getfield 130, 3) := by decide +kernel
theorem dX12_areOwedApart_7 : decode cX12_areOwedApart 7 = .ok (.iload_n 1, 1) := by decide +kernel
theorem dX12_areOwedApart_8 : decode cX12_areOwedApart 8 = .ok (.invokevirtual 301, 3) := by decide +kernel
theorem dX12_areOwedApart_11 : decode cX12_areOwedApart 11 = .ok (.ifCond .eq 46, 3) := by decide +kernel
theorem dX12_areOwedApart_14 : decode cX12_areOwedApart 14 = .ok (.aload_n 0, 1) := by decide +kernel
theorem dX12_areOwedApart_15 : decode cX12_areOwedApart 15 = .ok (.getfield 20, 3) := by decide +kernel
theorem dX12_areOwedApart_18 : decode cX12_areOwedApart 18 = .ok (.getfield 130, 3) := by decide +kernel
theorem dX12_areOwedApart_21 : decode cX12_areOwedApart 21 = .ok (.iload_n 2, 1) := by decide +kernel
theorem dX12_areOwedApart_22 : decode cX12_areOwedApart 22 = .ok (.invokevirtual 301, 3) := by decide +kernel
theorem dX12_areOwedApart_25 : decode cX12_areOwedApart 25 = .ok (.ifCond .eq 32, 3) := by decide +kernel
theorem dX12_areOwedApart_28 : decode cX12_areOwedApart 28 = .ok (.aload_n 0, 1) := by decide +kernel
theorem dX12_areOwedApart_29 : decode cX12_areOwedApart 29 = .ok (.getfield 20, 3) := by decide +kernel
theorem dX12_areOwedApart_32 : decode cX12_areOwedApart 32 = .ok (.getfield 130, 3) := by decide +kernel
theorem dX12_areOwedApart_35 : decode cX12_areOwedApart 35 = .ok (.iload_n 1, 1) := by decide +kernel
theorem dX12_areOwedApart_36 : decode cX12_areOwedApart 36 = .ok (.invokevirtual 205, 3) := by decide +kernel
theorem dX12_areOwedApart_39 : decode cX12_areOwedApart 39 = .ok (.aload_n 0, 1) := by decide +kernel
theorem dX12_areOwedApart_40 : decode cX12_areOwedApart 40 = .ok (.getfield 20, 3) := by decide +kernel
theorem dX12_areOwedApart_43 : decode cX12_areOwedApart 43 = .ok (.getfield 130, 3) := by decide +kernel
theorem dX12_areOwedApart_46 : decode cX12_areOwedApart 46 = .ok (.iload_n 2, 1) := by decide +kernel
theorem dX12_areOwedApart_47 : decode cX12_areOwedApart 47 = .ok (.invokevirtual 205, 3) := by decide +kernel
theorem dX12_areOwedApart_50 : decode cX12_areOwedApart 50 = .ok (.if_icmp .eq 7, 3) := by decide +kernel
theorem dX12_areOwedApart_53 : decode cX12_areOwedApart 53 = .ok (.iconst 1, 1) := by decide +kernel
theorem dX12_areOwedApart_54 : decode cX12_areOwedApart 54 = .ok (.goto 4, 3) := by decide +kernel
theorem dX12_areOwedApart_57 : decode cX12_areOwedApart 57 = .ok (.iconst 0, 1) := by decide +kernel
theorem dX12_areOwedApart_58 : decode cX12_areOwedApart 58 = .ok (.ireturn, 1) := by decide +kernel
set_option maxRecDepth 20000 in
theorem ggX12_eases_X4_lenderOf : GoodIn wsX12_eases wsX4_lenderOf := goodIn_r _ [8, 9, 10, 11, 12, 7, 13, 14, 77, 78, 79, 80, 81, 82] (by decide +kernel) (by decide +kernel)
set_option maxRecDepth 20000 in
theorem gX12_eases_X4_lenderOf : GoodIn wsX12_eases (wsV RX12 205 RX4 yX4_lenderOf wsX4_lenderOf) := goodIn_app (goodIn_of _ (by decide +kernel)) ggX12_eases_X4_lenderOf
set_option maxRecDepth 20000 in
theorem ggX12_eases_X4_debtorOf : GoodIn wsX12_eases wsX4_debtorOf := goodIn_r _ [18, 19, 10, 11, 12, 7, 13, 14, 77, 78, 79, 80, 81, 82] (by decide +kernel) (by decide +kernel)
set_option maxRecDepth 20000 in
theorem gX12_eases_X4_debtorOf : GoodIn wsX12_eases (wsV RX12 202 RX4 yX4_debtorOf wsX4_debtorOf) := goodIn_app (goodIn_of _ (by decide +kernel)) ggX12_eases_X4_debtorOf
set_option maxRecDepth 20000 in
theorem ggX12_eases_X6_spanWith : GoodIn wsX12_eases wsX6_spanWith := goodIn_r _ [24, 25, 26, 27, 28, 29, 30, 31, 32, 33, 34, 23, 35, 36, 37, 38, 39, 40, 41, 42, 43, 44, 45, 83, 84] (by decide +kernel) (by decide +kernel)
set_option maxRecDepth 20000 in
theorem gX12_eases_X6_spanWith : GoodIn wsX12_eases (wsV RX12 305 RX6 yX6_spanWith wsX6_spanWith) := goodIn_app (goodIn_of _ (by decide +kernel)) ggX12_eases_X6_spanWith
set_option maxRecDepth 20000 in
theorem ggX12_eases_X6_spanOf : GoodIn wsX12_eases wsX6_spanOf := goodIn_r _ [49, 50, 21, 22, 23, 24, 25, 26, 27, 28, 29, 30, 31, 32, 33, 34, 35, 36, 37, 38, 39, 40, 41, 42, 43, 44, 45, 83, 84] (by decide +kernel) (by decide +kernel)
set_option maxRecDepth 20000 in
theorem gX12_eases_X6_spanOf : GoodIn wsX12_eases (wsV RX12 236 RX6 yX6_spanOf wsX6_spanOf) := goodIn_app (goodIn_of _ (by decide +kernel)) ggX12_eases_X6_spanOf
theorem dX12_eases_0 : decode cX12_eases 0 = .ok (.aload_n 0, 1) := by decide +kernel
theorem dX12_eases_1 : decode cX12_eases 1 = .ok (.getfield 20, 3) := by decide +kernel
theorem dX12_eases_4 : decode cX12_eases 4 = .ok (.getfield 130, 3) := by decide +kernel
theorem dX12_eases_7 : decode cX12_eases 7 = .ok (.iload_n 2, 1) := by decide +kernel
theorem dX12_eases_8 : decode cX12_eases 8 = .ok (.invokevirtual 205, 3) := by decide +kernel
theorem dX12_eases_11 : decode cX12_eases 11 = .ok (.istore 5, 2) := by decide +kernel
theorem dX12_eases_13 : decode cX12_eases 13 = .ok (.aload_n 0, 1) := by decide +kernel
theorem dX12_eases_14 : decode cX12_eases 14 = .ok (.getfield 20, 3) := by decide +kernel
theorem dX12_eases_17 : decode cX12_eases 17 = .ok (.getfield 130, 3) := by decide +kernel
theorem dX12_eases_20 : decode cX12_eases 20 = .ok (.iload_n 1, 1) := by decide +kernel
theorem dX12_eases_21 : decode cX12_eases 21 = .ok (.invokevirtual 202, 3) := by decide +kernel
theorem dX12_eases_24 : decode cX12_eases 24 = .ok (.iload 5, 2) := by decide +kernel
theorem dX12_eases_26 : decode cX12_eases 26 = .ok (.if_icmp .eq 37, 3) := by decide +kernel
theorem dX12_eases_29 : decode cX12_eases 29 = .ok (.aload_n 0, 1) := by decide +kernel
theorem dX12_eases_30 : decode cX12_eases 30 = .ok (.getfield 58, 3) := by decide +kernel
theorem dX12_eases_33 : decode cX12_eases 33 = .ok (.iload 5, 2) := by decide +kernel
theorem dX12_eases_35 : decode cX12_eases 35 = .ok (.iload_n 2, 1) := by decide +kernel
theorem dX12_eases_36 : decode cX12_eases 36 = .ok (.iload_n 1, 1) := by decide +kernel
theorem dX12_eases_37 : decode cX12_eases 37 = .ok (.iload_n 3, 1) := by decide +kernel
theorem dX12_eases_38 : decode cX12_eases 38 = .ok (.iload 4, 2) := by decide +kernel
theorem dX12_eases_40 : decode cX12_eases 40 = .ok (.invokevirtual 305, 3) := by decide +kernel
theorem dX12_eases_43 : decode cX12_eases 43 = .ok (.aload_n 0, 1) := by decide +kernel
theorem dX12_eases_44 : decode cX12_eases 44 = .ok (.getfield 58, 3) := by decide +kernel
theorem dX12_eases_47 : decode cX12_eases 47 = .ok (.iload 5, 2) := by decide +kernel
theorem dX12_eases_49 : decode cX12_eases 49 = .ok (.iload_n 3, 1) := by decide +kernel
theorem dX12_eases_50 : decode cX12_eases 50 = .ok (.iload 4, 2) := by decide +kernel
theorem dX12_eases_52 : decode cX12_eases 52 = .ok (.invokevirtual 236, 3) := by decide +kernel
theorem dX12_eases_55 : decode cX12_eases 55 = .ok (.lcmp, 1) := by decide +kernel
theorem dX12_eases_56 : decode cX12_eases 56 = .ok (.ifCond .ge 7, 3) := by decide +kernel
theorem dX12_eases_59 : decode cX12_eases 59 = .ok (.iconst 1, 1) := by decide +kernel
theorem dX12_eases_60 : decode cX12_eases 60 = .ok (.goto 4, 3) := by decide +kernel
theorem dX12_eases_63 : decode cX12_eases 63 = .ok (.iconst 0, 1) := by decide +kernel
theorem dX12_eases_64 : decode cX12_eases 64 = .ok (.ireturn, 1) := by decide +kernel
set_option maxRecDepth 20000 in
theorem ggX12_receipt_X8_add : GoodIn wsX12_receipt wsX8_add := goodIn_r _ [10, 11, 12, 13, 14, 41, 42, 43, 44] (by decide +kernel) (by decide +kernel)
set_option maxRecDepth 20000 in
theorem gX12_receipt_X8_add : GoodIn wsX12_receipt (wsV RX12 310 RX8 yX8_add wsX8_add) := goodIn_app (goodIn_of _ (by decide +kernel)) ggX12_receipt_X8_add
theorem dX12_receipt_0 : decode cX12_receipt 0 = .ok (.iload_n 1, 1) := by decide +kernel
theorem dX12_receipt_1 : decode cX12_receipt 1 = .ok (.ifCond .lt 37, 3) := by decide +kernel
theorem dX12_receipt_4 : decode cX12_receipt 4 = .ok (.iload_n 1, 1) := by decide +kernel
theorem dX12_receipt_5 : decode cX12_receipt 5 = .ok (.sipush 1024, 3) := by decide +kernel
theorem dX12_receipt_8 : decode cX12_receipt 8 = .ok (.if_icmp .ge 30, 3) := by decide +kernel
theorem dX12_receipt_11 : decode cX12_receipt 11 = .ok (.iload_n 2, 1) := by decide +kernel
theorem dX12_receipt_12 : decode cX12_receipt 12 = .ok (.ifCond .lt 26, 3) := by decide +kernel
theorem dX12_receipt_15 : decode cX12_receipt 15 = .ok (.iload_n 2, 1) := by decide +kernel
theorem dX12_receipt_16 : decode cX12_receipt 16 = .ok (.ldc_w 309, 3) := by decide +kernel
theorem dX12_receipt_19 : decode cX12_receipt 19 = .ok (.if_icmp .gt 19, 3) := by decide +kernel
theorem dX12_receipt_22 : decode cX12_receipt 22 = .ok (.iload_n 3, 1) := by decide +kernel
theorem dX12_receipt_23 : decode cX12_receipt 23 = .ok (.bipush (-20), 2) := by decide +kernel
theorem dX12_receipt_25 : decode cX12_receipt 25 = .ok (.if_icmp .lt 13, 3) := by decide +kernel
theorem dX12_receipt_28 : decode cX12_receipt 28 = .ok (.iload_n 3, 1) := by decide +kernel
theorem dX12_receipt_29 : decode cX12_receipt 29 = .ok (.bipush 20, 2) := by decide +kernel
theorem dX12_receipt_31 : decode cX12_receipt 31 = .ok (.if_icmp .gt 7, 3) := by decide +kernel
theorem dX12_receipt_34 : decode cX12_receipt 34 = .ok (.iconst 1, 1) := by decide +kernel
theorem dX12_receipt_35 : decode cX12_receipt 35 = .ok (.goto 4, 3) := by decide +kernel
theorem dX12_receipt_38 : decode cX12_receipt 38 = .ok (.iconst 0, 1) := by decide +kernel
theorem dX12_receipt_39 : decode cX12_receipt 39 = .ok (.istore 4, 2) := by decide +kernel
theorem dX12_receipt_41 : decode cX12_receipt 41 = .ok (.iload 4, 2) := by decide +kernel
theorem dX12_receipt_43 : decode cX12_receipt 43 = .ok (.ifCond .eq 19, 3) := by decide +kernel
theorem dX12_receipt_46 : decode cX12_receipt 46 = .ok (.aload_n 0, 1) := by decide +kernel
theorem dX12_receipt_47 : decode cX12_receipt 47 = .ok (.getfield 20, 3) := by decide +kernel
theorem dX12_receipt_50 : decode cX12_receipt 50 = .ok (.getfield 149, 3) := by decide +kernel
theorem dX12_receipt_53 : decode cX12_receipt 53 = .ok (.iload_n 1, 1) := by decide +kernel
theorem dX12_receipt_54 : decode cX12_receipt 54 = .ok (.iload_n 2, 1) := by decide +kernel
theorem dX12_receipt_55 : decode cX12_receipt 55 = .ok (.iload_n 3, 1) := by decide +kernel
theorem dX12_receipt_56 : decode cX12_receipt 56 = .ok (.invokevirtual 310, 3) := by decide +kernel
theorem dX12_receipt_59 : decode cX12_receipt 59 = .ok (.ifCond .ne 15, 3) := by decide +kernel
theorem dX12_receipt_62 : decode cX12_receipt 62 = .ok (.aload_n 0, 1) := by decide +kernel
theorem dX12_receipt_63 : decode cX12_receipt 63 = .ok (.dup, 1) := by decide +kernel
theorem dX12_receipt_64 : decode cX12_receipt 64 = .ok (.getfield 158, 3) := by decide +kernel
theorem dX12_receipt_67 : decode cX12_receipt 67 = .ok (.iconst 1, 1) := by decide +kernel
theorem dX12_receipt_68 : decode cX12_receipt 68 = .ok (.iadd, 1) := by decide +kernel
theorem dX12_receipt_69 : decode cX12_receipt 69 = .ok (.putfield 158, 3) := by decide +kernel
theorem dX12_receipt_72 : decode cX12_receipt 72 = .ok (.iconst (-1), 1) := by decide +kernel
theorem dX12_receipt_73 : decode cX12_receipt 73 = .ok (.ireturn, 1) := by decide +kernel
theorem dX12_receipt_74 : decode cX12_receipt 74 = .ok (.aload_n 0, 1) := by decide +kernel
theorem dX12_receipt_75 : decode cX12_receipt 75 = .ok (.getfield 20, 3) := by decide +kernel
theorem dX12_receipt_78 : decode cX12_receipt 78 = .ok (.getfield 149, 3) := by decide +kernel
theorem dX12_receipt_81 : decode cX12_receipt 81 = .ok (.getfield 153, 3) := by decide +kernel
theorem dX12_receipt_84 : decode cX12_receipt 84 = .ok (.ireturn, 1) := by decide +kernel
theorem dX12_lose_0 : decode cX12_lose 0 = .ok (.aload_n 0, 1) := by decide +kernel
theorem dX12_lose_1 : decode cX12_lose 1 = .ok (.getfield 20, 3) := by decide +kernel
theorem dX12_lose_4 : decode cX12_lose 4 = .ok (.getfield 149, 3) := by decide +kernel
theorem dX12_lose_7 : decode cX12_lose 7 = .ok (.getfield 153, 3) := by decide +kernel
theorem dX12_lose_10 : decode cX12_lose 10 = .ok (.ifCond .ne 5, 3) := by decide +kernel
theorem dX12_lose_13 : decode cX12_lose 13 = .ok (.iconst (-1), 1) := by decide +kernel
theorem dX12_lose_14 : decode cX12_lose 14 = .ok (.ireturn, 1) := by decide +kernel
theorem dX12_lose_15 : decode cX12_lose 15 = .ok (.aload_n 0, 1) := by decide +kernel
theorem dX12_lose_16 : decode cX12_lose 16 = .ok (.getfield 20, 3) := by decide +kernel
theorem dX12_lose_19 : decode cX12_lose 19 = .ok (.getfield 149, 3) := by decide +kernel
theorem dX12_lose_22 : decode cX12_lose 22 = .ok (.dup, 1) := by decide +kernel
theorem dX12_lose_23 : decode cX12_lose 23 = .ok (.getfield 153, 3) := by decide +kernel
theorem dX12_lose_26 : decode cX12_lose 26 = .ok (.iconst 1, 1) := by decide +kernel
theorem dX12_lose_27 : decode cX12_lose 27 = .ok (.isub, 1) := by decide +kernel
theorem dX12_lose_28 : decode cX12_lose 28 = .ok (.putfield 153, 3) := by decide +kernel
theorem dX12_lose_31 : decode cX12_lose 31 = .ok (.aload_n 0, 1) := by decide +kernel
theorem dX12_lose_32 : decode cX12_lose 32 = .ok (.getfield 20, 3) := by decide +kernel
theorem dX12_lose_35 : decode cX12_lose 35 = .ok (.getfield 149, 3) := by decide +kernel
theorem dX12_lose_38 : decode cX12_lose 38 = .ok (.getfield 153, 3) := by decide +kernel
theorem dX12_lose_41 : decode cX12_lose 41 = .ok (.ireturn, 1) := by decide +kernel
set_option maxRecDepth 20000 in
theorem ggX12_chalked_X12_needWhat : GoodIn wsX12_chalked wsX12_needWhat := goodIn_ca (goodIn_r _ [7, 8, 9] (by decide +kernel) (by decide +kernel)) (goodIn_sub (fun _ h => List.mem_cons_of_mem _ (List.mem_append_right _ h)) (by decide +kernel))
set_option maxRecDepth 20000 in
theorem gX12_chalked_X12_needWhat : GoodIn wsX12_chalked (va_wsS RX12 226 yX12_needWhat wsX12_needWhat) := goodIn_app (goodIn_of _ (by decide +kernel)) ggX12_chalked_X12_needWhat
set_option maxRecDepth 20000 in
theorem ggX12_chalked_X8_fit : GoodIn wsX12_chalked wsX8_fit := goodIn_r _ [14, 15, 16, 17, 18, 19, 20, 13, 21, 22, 23, 24, 25, 26, 27, 28, 29, 30, 31, 32, 33, 34, 35, 36, 37, 38, 39, 40, 41, 42, 69, 70, 71, 72, 73, 74, 75, 76, 77, 78] (by decide +kernel) (by decide +kernel)
set_option maxRecDepth 20000 in
theorem gX12_chalked_X8_fit : GoodIn wsX12_chalked (wsV RX12 314 RX8 yX8_fit wsX8_fit) := goodIn_app (goodIn_of _ (by decide +kernel)) ggX12_chalked_X8_fit
theorem dX12_chalked_0 : decode cX12_chalked 0 = .ok (.iload_n 1, 1) := by decide +kernel
theorem dX12_chalked_1 : decode cX12_chalked 1 = .ok (.iconst 1, 1) := by decide +kernel
theorem dX12_chalked_2 : decode cX12_chalked 2 = .ok (.invokestatic 226, 3) := by decide +kernel
theorem dX12_chalked_5 : decode cX12_chalked 5 = .ok (.iconst 0, 1) := by decide +kernel
theorem dX12_chalked_6 : decode cX12_chalked 6 = .ok (.istore_n 2, 1) := by decide +kernel
theorem dX12_chalked_7 : decode cX12_chalked 7 = .ok (.iconst (-1), 1) := by decide +kernel
theorem dX12_chalked_8 : decode cX12_chalked 8 = .ok (.istore_n 3, 1) := by decide +kernel
theorem dX12_chalked_9 : decode cX12_chalked 9 = .ok (.bipush 40, 2) := by decide +kernel
theorem dX12_chalked_11 : decode cX12_chalked 11 = .ok (.istore 4, 2) := by decide +kernel
theorem dX12_chalked_13 : decode cX12_chalked 13 = .ok (.iload 4, 2) := by decide +kernel
theorem dX12_chalked_15 : decode cX12_chalked 15 = .ok (.iconst 2, 1) := by decide +kernel
theorem dX12_chalked_16 : decode cX12_chalked 16 = .ok (.if_icmp .lt 37, 3) := by decide +kernel
theorem dX12_chalked_19 : decode cX12_chalked 19 = .ok (.aload_n 0, 1) := by decide +kernel
theorem dX12_chalked_20 : decode cX12_chalked 20 = .ok (.getfield 20, 3) := by decide +kernel
theorem dX12_chalked_23 : decode cX12_chalked 23 = .ok (.getfield 149, 3) := by decide +kernel
theorem dX12_chalked_26 : decode cX12_chalked 26 = .ok (.aload_n 0, 1) := by decide +kernel
theorem dX12_chalked_27 : decode cX12_chalked 27 = .ok (.getfield 20, 3) := by decide +kernel
theorem dX12_chalked_30 : decode cX12_chalked 30 = .ok (.getfield 130, 3) := by decide +kernel
theorem dX12_chalked_33 : decode cX12_chalked 33 = .ok (.iload 4, 2) := by decide +kernel
theorem dX12_chalked_35 : decode cX12_chalked 35 = .ok (.invokevirtual 314, 3) := by decide +kernel
theorem dX12_chalked_38 : decode cX12_chalked 38 = .ok (.ifCond .eq 9, 3) := by decide +kernel
theorem dX12_chalked_41 : decode cX12_chalked 41 = .ok (.iinc 2 1, 3) := by decide +kernel
theorem dX12_chalked_44 : decode cX12_chalked 44 = .ok (.iload 4, 2) := by decide +kernel
theorem dX12_chalked_46 : decode cX12_chalked 46 = .ok (.istore_n 3, 1) := by decide +kernel
theorem dX12_chalked_47 : decode cX12_chalked 47 = .ok (.iinc 4 (-1), 3) := by decide +kernel
theorem dX12_chalked_50 : decode cX12_chalked 50 = .ok (.goto (-37), 3) := by decide +kernel
theorem dX12_chalked_53 : decode cX12_chalked 53 = .ok (.iload_n 1, 1) := by decide +kernel
theorem dX12_chalked_54 : decode cX12_chalked 54 = .ok (.ifCond .ne 7, 3) := by decide +kernel
theorem dX12_chalked_57 : decode cX12_chalked 57 = .ok (.iload_n 2, 1) := by decide +kernel
theorem dX12_chalked_58 : decode cX12_chalked 58 = .ok (.goto 4, 3) := by decide +kernel
theorem dX12_chalked_61 : decode cX12_chalked 61 = .ok (.iload_n 3, 1) := by decide +kernel
theorem dX12_chalked_62 : decode cX12_chalked 62 = .ok (.ireturn, 1) := by decide +kernel
set_option maxRecDepth 20000 in
theorem ggX12_voids_X12_needDoor : GoodIn wsX12_voids wsX12_needDoor := goodIn_ca (goodIn_r _ [6, 7, 8, 1, 9, 10, 11, 12, 13, 14, 15, 52, 53, 54, 55, 56, 57, 58, 59, 60, 61, 62, 63, 64, 65, 66, 67, 68, 69, 70, 71, 72, 73, 74, 75, 76, 77, 78, 79, 80, 81, 82, 83] (by decide +kernel) (by decide +kernel)) (goodIn_sub (fun _ h => List.mem_cons_of_mem _ (List.mem_append_right _ h)) (by decide +kernel))
set_option maxRecDepth 20000 in
theorem gX12_voids_X12_needDoor : GoodIn wsX12_voids (wsV RX12 199 RX12 yX12_needDoor wsX12_needDoor) := goodIn_app (goodIn_of _ (by decide +kernel)) ggX12_voids_X12_needDoor
set_option maxRecDepth 20000 in
theorem ggX12_voids_X12_needWhat : GoodIn wsX12_voids wsX12_needWhat := goodIn_ca (goodIn_r _ [18, 7, 8] (by decide +kernel) (by decide +kernel)) (goodIn_sub (fun _ h => List.mem_cons_of_mem _ (List.mem_append_right _ h)) (by decide +kernel))
set_option maxRecDepth 20000 in
theorem gX12_voids_X12_needWhat : GoodIn wsX12_voids (va_wsS RX12 226 yX12_needWhat wsX12_needWhat) := goodIn_app (goodIn_of _ (by decide +kernel)) ggX12_voids_X12_needWhat
set_option maxRecDepth 20000 in
theorem ggX12_voids_X12_fewestToVoid : GoodIn wsX12_voids wsX12_fewestToVoid := goodIn_r _ [22, 1, 9, 23, 24, 25, 26, 27, 13, 28, 29, 30, 31, 32, 33, 34, 35, 11, 12, 14, 15, 36, 37, 38, 39, 40, 52, 53, 54, 55, 56, 57, 58, 59, 60, 61, 62, 63, 64, 65, 66, 67, 68, 69, 70, 71, 72, 73, 74, 75, 76, 77, 78, 79, 80, 81, 82, 83] (by decide +kernel) (by decide +kernel)
set_option maxRecDepth 20000 in
theorem gX12_voids_X12_fewestToVoid : GoodIn wsX12_voids (wsV RX12 318 RX12 yX12_fewestToVoid wsX12_fewestToVoid) := goodIn_app (goodIn_of _ (by decide +kernel)) ggX12_voids_X12_fewestToVoid
set_option maxRecDepth 20000 in
theorem ggX12_voids_X9_ownersWith : GoodIn wsX12_voids wsX9_ownersWith := goodIn_r _ [45, 46, 47, 48, 49, 44, 50, 51, 69, 70, 71, 72, 73, 74, 75, 76, 77] (by decide +kernel) (by decide +kernel)
set_option maxRecDepth 20000 in
theorem gX12_voids_X9_ownersWith : GoodIn wsX12_voids (wsV RX12 321 RX9 yX9_ownersWith wsX9_ownersWith) := goodIn_app (goodIn_of _ (by decide +kernel)) ggX12_voids_X9_ownersWith
theorem dX12_voids_0 : decode cX12_voids 0 = .ok (.aload_n 0, 1) := by decide +kernel
theorem dX12_voids_1 : decode cX12_voids 1 = .ok (.iload_n 1, 1) := by decide +kernel
theorem dX12_voids_2 : decode cX12_voids 2 = .ok (.invokevirtual 199, 3) := by decide +kernel
theorem dX12_voids_5 : decode cX12_voids 5 = .ok (.iload_n 2, 1) := by decide +kernel
theorem dX12_voids_6 : decode cX12_voids 6 = .ok (.iconst 1, 1) := by decide +kernel
theorem dX12_voids_7 : decode cX12_voids 7 = .ok (.invokestatic 226, 3) := by decide +kernel
theorem dX12_voids_10 : decode cX12_voids 10 = .ok (.aload_n 0, 1) := by decide +kernel
theorem dX12_voids_11 : decode cX12_voids 11 = .ok (.iload_n 1, 1) := by decide +kernel
theorem dX12_voids_12 : decode cX12_voids 12 = .ok (.invokevirtual 318, 3) := by decide +kernel
theorem dX12_voids_15 : decode cX12_voids 15 = .ok (.istore_n 3, 1) := by decide +kernel
theorem dX12_voids_16 : decode cX12_voids 16 = .ok (.iload_n 2, 1) := by decide +kernel
theorem dX12_voids_17 : decode cX12_voids 17 = .ok (.ifCond .eq 8, 3) := by decide +kernel
theorem dX12_voids_20 : decode cX12_voids 20 = .ok (.iload_n 3, 1) := by decide +kernel
theorem dX12_voids_21 : decode cX12_voids 21 = .ok (.iconst (-1), 1) := by decide +kernel
theorem dX12_voids_22 : decode cX12_voids 22 = .ok (.if_icmp .ne 7, 3) := by decide +kernel
theorem dX12_voids_25 : decode cX12_voids 25 = .ok (.iload_n 3, 1) := by decide +kernel
theorem dX12_voids_26 : decode cX12_voids 26 = .ok (.goto 11, 3) := by decide +kernel
theorem dX12_voids_29 : decode cX12_voids 29 = .ok (.aload_n 0, 1) := by decide +kernel
theorem dX12_voids_30 : decode cX12_voids 30 = .ok (.getfield 20, 3) := by decide +kernel
theorem dX12_voids_33 : decode cX12_voids 33 = .ok (.iload_n 3, 1) := by decide +kernel
theorem dX12_voids_34 : decode cX12_voids 34 = .ok (.invokevirtual 321, 3) := by decide +kernel
theorem dX12_voids_37 : decode cX12_voids 37 = .ok (.ireturn, 1) := by decide +kernel
set_option maxRecDepth 20000 in
theorem ggX12_fewestToVoid_X4_worthIn : GoodIn wsX12_fewestToVoid wsX4_worthIn := goodIn_r _ [9, 10, 11, 12, 13, 8, 14, 15, 16, 17, 18, 19, 20, 21, 22, 23, 24, 25, 52, 53, 54, 55, 56, 57] (by decide +kernel) (by decide +kernel)
set_option maxRecDepth 20000 in
theorem gX12_fewestToVoid_X4_worthIn : GoodIn wsX12_fewestToVoid (wsV RX12 223 RX4 yX4_worthIn wsX4_worthIn) := goodIn_app (goodIn_of _ (by decide +kernel)) ggX12_fewestToVoid_X4_worthIn
theorem dX12_fewestToVoid_0 : decode cX12_fewestToVoid 0 = .ok (.aload_n 0, 1) := by decide +kernel
theorem dX12_fewestToVoid_1 : decode cX12_fewestToVoid 1 = .ok (.getfield 20, 3) := by decide +kernel
theorem dX12_fewestToVoid_4 : decode cX12_fewestToVoid 4 = .ok (.getfield 130, 3) := by decide +kernel
theorem dX12_fewestToVoid_7 : decode cX12_fewestToVoid 7 = .ok (.getfield 139, 3) := by decide +kernel
theorem dX12_fewestToVoid_10 : decode cX12_fewestToVoid 10 = .ok (.ifCond .eq 5, 3) := by decide +kernel
theorem dX12_fewestToVoid_13 : decode cX12_fewestToVoid 13 = .ok (.iconst (-1), 1) := by decide +kernel
theorem dX12_fewestToVoid_14 : decode cX12_fewestToVoid 14 = .ok (.ireturn, 1) := by decide +kernel
theorem dX12_fewestToVoid_15 : decode cX12_fewestToVoid 15 = .ok (.aload_n 0, 1) := by decide +kernel
theorem dX12_fewestToVoid_16 : decode cX12_fewestToVoid 16 = .ok (.getfield 20, 3) := by decide +kernel
theorem dX12_fewestToVoid_19 : decode cX12_fewestToVoid 19 = .ok (.getfield 142, 3) := by decide +kernel
theorem dX12_fewestToVoid_22 : decode cX12_fewestToVoid 22 = .ok (.iconst 1, 1) := by decide +kernel
theorem dX12_fewestToVoid_23 : decode cX12_fewestToVoid 23 = .ok (.isub, 1) := by decide +kernel
theorem dX12_fewestToVoid_24 : decode cX12_fewestToVoid 24 = .ok (.istore_n 2, 1) := by decide +kernel
theorem dX12_fewestToVoid_25 : decode cX12_fewestToVoid 25 = .ok (.iload_n 2, 1) := by decide +kernel
theorem dX12_fewestToVoid_26 : decode cX12_fewestToVoid 26 = .ok (.iconst 2, 1) := by decide +kernel
theorem dX12_fewestToVoid_27 : decode cX12_fewestToVoid 27 = .ok (.if_icmp .lt 34, 3) := by decide +kernel
theorem dX12_fewestToVoid_30 : decode cX12_fewestToVoid 30 = .ok (.aload_n 0, 1) := by decide +kernel
theorem dX12_fewestToVoid_31 : decode cX12_fewestToVoid 31 = .ok (.getfield 20, 3) := by decide +kernel
theorem dX12_fewestToVoid_34 : decode cX12_fewestToVoid 34 = .ok (.getfield 130, 3) := by decide +kernel
theorem dX12_fewestToVoid_37 : decode cX12_fewestToVoid 37 = .ok (.iload_n 1, 1) := by decide +kernel
theorem dX12_fewestToVoid_38 : decode cX12_fewestToVoid 38 = .ok (.iload_n 2, 1) := by decide +kernel
theorem dX12_fewestToVoid_39 : decode cX12_fewestToVoid 39 = .ok (.invokevirtual 223, 3) := by decide +kernel
theorem dX12_fewestToVoid_42 : decode cX12_fewestToVoid 42 = .ok (.ifCond .ne 13, 3) := by decide +kernel
theorem dX12_fewestToVoid_45 : decode cX12_fewestToVoid 45 = .ok (.aload_n 0, 1) := by decide +kernel
theorem dX12_fewestToVoid_46 : decode cX12_fewestToVoid 46 = .ok (.getfield 20, 3) := by decide +kernel
theorem dX12_fewestToVoid_49 : decode cX12_fewestToVoid 49 = .ok (.getfield 142, 3) := by decide +kernel
theorem dX12_fewestToVoid_52 : decode cX12_fewestToVoid 52 = .ok (.iload_n 2, 1) := by decide +kernel
theorem dX12_fewestToVoid_53 : decode cX12_fewestToVoid 53 = .ok (.isub, 1) := by decide +kernel
theorem dX12_fewestToVoid_54 : decode cX12_fewestToVoid 54 = .ok (.ireturn, 1) := by decide +kernel
theorem dX12_fewestToVoid_55 : decode cX12_fewestToVoid 55 = .ok (.iinc 2 (-1), 3) := by decide +kernel
theorem dX12_fewestToVoid_58 : decode cX12_fewestToVoid 58 = .ok (.goto (-33), 3) := by decide +kernel
theorem dX12_fewestToVoid_61 : decode cX12_fewestToVoid 61 = .ok (.iconst (-1), 1) := by decide +kernel
theorem dX12_fewestToVoid_62 : decode cX12_fewestToVoid 62 = .ok (.ireturn, 1) := by decide +kernel
set_option maxRecDepth 20000 in
theorem ggX12_mean_X12_needDoor : GoodIn wsX12_mean wsX12_needDoor := goodIn_ca (goodIn_r _ [11, 12, 13, 4, 6, 14, 15, 16, 17, 18, 19, 55, 56, 57, 58, 59, 60, 61, 62, 63, 64, 65, 66, 67, 68, 69, 70, 71, 72, 73, 74, 75, 76, 77, 78, 79, 80, 81, 82, 83, 84, 85, 86] (by decide +kernel) (by decide +kernel)) (goodIn_sub (fun _ h => List.mem_cons_of_mem _ (List.mem_append_right _ h)) (by decide +kernel))
set_option maxRecDepth 20000 in
theorem gX12_mean_X12_needDoor : GoodIn wsX12_mean (wsV RX12 199 RX12 yX12_needDoor wsX12_needDoor) := goodIn_app (goodIn_of _ (by decide +kernel)) ggX12_mean_X12_needDoor
set_option maxRecDepth 20000 in
theorem ggX12_mean_X12_needTenths : GoodIn wsX12_mean wsX12_needTenths := goodIn_ca (goodIn_r _ [22, 1, 2] (by decide +kernel) (by decide +kernel)) (goodIn_sub (fun _ h => List.mem_cons_of_mem _ (List.mem_append_left _ (List.mem_append_right _ h))) (by decide +kernel))
set_option maxRecDepth 20000 in
theorem gX12_mean_X12_needTenths : GoodIn wsX12_mean (va_wsS RX12 324 yX12_needTenths wsX12_needTenths) := goodIn_app (goodIn_of _ (by decide +kernel)) ggX12_mean_X12_needTenths
set_option maxRecDepth 20000 in
theorem ggX12_mean_X11_begin : GoodIn wsX12_mean wsX11_begin := goodIn_r _ [27, 28, 29, 87, 88] (by decide +kernel) (by decide +kernel)
set_option maxRecDepth 20000 in
theorem gX12_mean_X11_begin : GoodIn wsX12_mean (wsV RX12 329 RX11 yX11_begin wsX11_begin) := goodIn_app (goodIn_of _ (by decide +kernel)) ggX12_mean_X11_begin
set_option maxRecDepth 20000 in
theorem ggX12_mean_X11_step : GoodIn wsX12_mean wsX11_step := goodIn_r _ [33, 28, 29, 34, 87, 88] (by decide +kernel) (by decide +kernel)
set_option maxRecDepth 20000 in
theorem gX12_mean_X11_step : GoodIn wsX12_mean (wsV RX12 332 RX11 yX11_step wsX11_step) := goodIn_app (goodIn_of _ (by decide +kernel)) ggX12_mean_X11_step
set_option maxRecDepth 20000 in
theorem ggX12_mean_X11_meanOf : GoodIn wsX12_mean wsX11_meanOf := goodIn_r _ [38, 28, 29, 39, 40, 41, 17, 42, 43, 44, 45, 46, 47, 48, 49, 15, 16, 18, 19, 50, 51, 52, 53, 54, 87, 88, 81, 82, 83, 84, 85, 86] (by decide +kernel) (by decide +kernel)
set_option maxRecDepth 20000 in
theorem gX12_mean_X11_meanOf : GoodIn wsX12_mean (wsV RX12 335 RX11 yX11_meanOf wsX11_meanOf) := goodIn_app (goodIn_of _ (by decide +kernel)) ggX12_mean_X11_meanOf
theorem dX12_mean_0 : decode cX12_mean 0 = .ok (.aload_n 0, 1) := by decide +kernel
theorem dX12_mean_1 : decode cX12_mean 1 = .ok (.iload_n 1, 1) := by decide +kernel
theorem dX12_mean_2 : decode cX12_mean 2 = .ok (.invokevirtual 199, 3) := by decide +kernel
theorem dX12_mean_5 : decode cX12_mean 5 = .ok (.iload_n 3, 1) := by decide +kernel
theorem dX12_mean_6 : decode cX12_mean 6 = .ok (.iload 4, 2) := by decide +kernel
theorem dX12_mean_8 : decode cX12_mean 8 = .ok (.invokestatic 324, 3) := by decide +kernel
theorem dX12_mean_11 : decode cX12_mean 11 = .ok (.iload_n 2, 1) := by decide +kernel
theorem dX12_mean_12 : decode cX12_mean 12 = .ok (.ifCond .lt 9, 3) := by decide +kernel
theorem dX12_mean_15 : decode cX12_mean 15 = .ok (.iload_n 2, 1) := by decide +kernel
theorem dX12_mean_16 : decode cX12_mean 16 = .ok (.bipush 8, 2) := by decide +kernel
theorem dX12_mean_18 : decode cX12_mean 18 = .ok (.if_icmp .le 14, 3) := by decide +kernel
theorem dX12_mean_21 : decode cX12_mean 21 = .ok (.new 252, 3) := by decide +kernel
theorem dX12_mean_24 : decode cX12_mean 24 = .ok (.dup, 1) := by decide +kernel
theorem dX12_mean_25 : decode cX12_mean 25 = .ok (.ldc_w 327, 3) := by decide +kernel
theorem dX12_mean_28 : decode cX12_mean 28 = .ok (.invokespecial 256, 3) := by decide +kernel
theorem dX12_mean_31 : decode cX12_mean 31 = .ok (.athrow, 1) := by decide +kernel
theorem dX12_mean_32 : decode cX12_mean 32 = .ok (.aload_n 0, 1) := by decide +kernel
theorem dX12_mean_33 : decode cX12_mean 33 = .ok (.getfield 79, 3) := by decide +kernel
theorem dX12_mean_36 : decode cX12_mean 36 = .ok (.aload_n 0, 1) := by decide +kernel
theorem dX12_mean_37 : decode cX12_mean 37 = .ok (.getfield 20, 3) := by decide +kernel
theorem dX12_mean_40 : decode cX12_mean 40 = .ok (.getfield 142, 3) := by decide +kernel
theorem dX12_mean_43 : decode cX12_mean 43 = .ok (.invokevirtual 329, 3) := by decide +kernel
theorem dX12_mean_46 : decode cX12_mean 46 = .ok (.iconst 0, 1) := by decide +kernel
theorem dX12_mean_47 : decode cX12_mean 47 = .ok (.istore 5, 2) := by decide +kernel
theorem dX12_mean_49 : decode cX12_mean 49 = .ok (.iload 5, 2) := by decide +kernel
theorem dX12_mean_51 : decode cX12_mean 51 = .ok (.iload_n 2, 1) := by decide +kernel
theorem dX12_mean_52 : decode cX12_mean 52 = .ok (.if_icmp .ge 19, 3) := by decide +kernel
theorem dX12_mean_55 : decode cX12_mean 55 = .ok (.aload_n 0, 1) := by decide +kernel
theorem dX12_mean_56 : decode cX12_mean 56 = .ok (.getfield 79, 3) := by decide +kernel
theorem dX12_mean_59 : decode cX12_mean 59 = .ok (.iload_n 3, 1) := by decide +kernel
theorem dX12_mean_60 : decode cX12_mean 60 = .ok (.iload 4, 2) := by decide +kernel
theorem dX12_mean_62 : decode cX12_mean 62 = .ok (.invokevirtual 332, 3) := by decide +kernel
theorem dX12_mean_65 : decode cX12_mean 65 = .ok (.iinc 5 1, 3) := by decide +kernel
theorem dX12_mean_68 : decode cX12_mean 68 = .ok (.goto (-19), 3) := by decide +kernel
theorem dX12_mean_71 : decode cX12_mean 71 = .ok (.aload_n 0, 1) := by decide +kernel
theorem dX12_mean_72 : decode cX12_mean 72 = .ok (.getfield 79, 3) := by decide +kernel
theorem dX12_mean_75 : decode cX12_mean 75 = .ok (.aload_n 0, 1) := by decide +kernel
theorem dX12_mean_76 : decode cX12_mean 76 = .ok (.getfield 20, 3) := by decide +kernel
theorem dX12_mean_79 : decode cX12_mean 79 = .ok (.getfield 130, 3) := by decide +kernel
theorem dX12_mean_82 : decode cX12_mean 82 = .ok (.iload_n 1, 1) := by decide +kernel
theorem dX12_mean_83 : decode cX12_mean 83 = .ok (.invokevirtual 335, 3) := by decide +kernel
theorem dX12_mean_86 : decode cX12_mean 86 = .ok (.l2i, 1) := by decide +kernel
theorem dX12_mean_87 : decode cX12_mean 87 = .ok (.ireturn, 1) := by decide +kernel
set_option maxRecDepth 20000 in
theorem ggX12_pay_X12_needDoor : GoodIn wsX12_pay wsX12_needDoor := goodIn_ca (goodIn_r _ [9, 10, 11, 2, 4, 12, 13, 14, 15, 16, 17, 55, 56, 57, 58, 59, 60, 61, 62, 63, 64, 65, 66, 67, 68, 69, 70, 71, 72, 73, 74, 75, 76, 77, 78, 79, 80, 81, 82, 83, 84, 85, 86] (by decide +kernel) (by decide +kernel)) (goodIn_sub (fun _ h => List.mem_cons_of_mem _ (List.mem_append_left _ (List.mem_append_right _ h))) (by decide +kernel))
set_option maxRecDepth 20000 in
theorem gX12_pay_X12_needDoor : GoodIn wsX12_pay (wsV RX12 199 RX12 yX12_needDoor wsX12_needDoor) := goodIn_app (goodIn_of _ (by decide +kernel)) ggX12_pay_X12_needDoor
set_option maxRecDepth 20000 in
theorem ggX12_pay_X12_needTenths : GoodIn wsX12_pay wsX12_needTenths := goodIn_ca (goodIn_r _ [20, 21, 22] (by decide +kernel) (by decide +kernel)) (goodIn_sub (fun _ h => List.mem_cons_of_mem _ (List.mem_append_right _ h)) (by decide +kernel))
set_option maxRecDepth 20000 in
theorem gX12_pay_X12_needTenths : GoodIn wsX12_pay (va_wsS RX12 324 yX12_needTenths wsX12_needTenths) := goodIn_app (goodIn_of _ (by decide +kernel)) ggX12_pay_X12_needTenths
set_option maxRecDepth 20000 in
theorem ggX12_pay_X11_begin : GoodIn wsX12_pay wsX11_begin := goodIn_r _ [27, 28, 29, 87, 88] (by decide +kernel) (by decide +kernel)
set_option maxRecDepth 20000 in
theorem gX12_pay_X11_begin : GoodIn wsX12_pay (wsV RX12 329 RX11 yX11_begin wsX11_begin) := goodIn_app (goodIn_of _ (by decide +kernel)) ggX12_pay_X11_begin
set_option maxRecDepth 20000 in
theorem ggX12_pay_X11_meanOf : GoodIn wsX12_pay wsX11_meanOf := goodIn_r _ [33, 28, 29, 34, 35, 36, 15, 37, 38, 39, 40, 41, 42, 43, 44, 13, 14, 16, 17, 45, 46, 47, 48, 49, 87, 88, 81, 82, 83, 84, 85, 86] (by decide +kernel) (by decide +kernel)
set_option maxRecDepth 20000 in
theorem gX12_pay_X11_meanOf : GoodIn wsX12_pay (wsV RX12 335 RX11 yX11_meanOf wsX11_meanOf) := goodIn_app (goodIn_of _ (by decide +kernel)) ggX12_pay_X11_meanOf
set_option maxRecDepth 20000 in
theorem ggX12_pay_X11_step : GoodIn wsX12_pay wsX11_step := goodIn_r _ [53, 28, 29, 54, 87, 88] (by decide +kernel) (by decide +kernel)
set_option maxRecDepth 20000 in
theorem gX12_pay_X11_step : GoodIn wsX12_pay (wsV RX12 332 RX11 yX11_step wsX11_step) := goodIn_app (goodIn_of _ (by decide +kernel)) ggX12_pay_X11_step
theorem dX12_pay_0 : decode cX12_pay 0 = .ok (.aload_n 0, 1) := by decide +kernel
theorem dX12_pay_1 : decode cX12_pay 1 = .ok (.iload_n 1, 1) := by decide +kernel
theorem dX12_pay_2 : decode cX12_pay 2 = .ok (.invokevirtual 199, 3) := by decide +kernel
theorem dX12_pay_5 : decode cX12_pay 5 = .ok (.iload_n 2, 1) := by decide +kernel
theorem dX12_pay_6 : decode cX12_pay 6 = .ok (.iload_n 3, 1) := by decide +kernel
theorem dX12_pay_7 : decode cX12_pay 7 = .ok (.invokestatic 324, 3) := by decide +kernel
theorem dX12_pay_10 : decode cX12_pay 10 = .ok (.aload_n 0, 1) := by decide +kernel
theorem dX12_pay_11 : decode cX12_pay 11 = .ok (.getfield 79, 3) := by decide +kernel
theorem dX12_pay_14 : decode cX12_pay 14 = .ok (.aload_n 0, 1) := by decide +kernel
theorem dX12_pay_15 : decode cX12_pay 15 = .ok (.getfield 20, 3) := by decide +kernel
theorem dX12_pay_18 : decode cX12_pay 18 = .ok (.getfield 142, 3) := by decide +kernel
theorem dX12_pay_21 : decode cX12_pay 21 = .ok (.invokevirtual 329, 3) := by decide +kernel
theorem dX12_pay_24 : decode cX12_pay 24 = .ok (.iconst 0, 1) := by decide +kernel
theorem dX12_pay_25 : decode cX12_pay 25 = .ok (.istore 4, 2) := by decide +kernel
theorem dX12_pay_27 : decode cX12_pay 27 = .ok (.aload_n 0, 1) := by decide +kernel
theorem dX12_pay_28 : decode cX12_pay 28 = .ok (.getfield 79, 3) := by decide +kernel
theorem dX12_pay_31 : decode cX12_pay 31 = .ok (.aload_n 0, 1) := by decide +kernel
theorem dX12_pay_32 : decode cX12_pay 32 = .ok (.getfield 20, 3) := by decide +kernel
theorem dX12_pay_35 : decode cX12_pay 35 = .ok (.getfield 130, 3) := by decide +kernel
theorem dX12_pay_38 : decode cX12_pay 38 = .ok (.iload_n 1, 1) := by decide +kernel
theorem dX12_pay_39 : decode cX12_pay 39 = .ok (.invokevirtual 335, 3) := by decide +kernel
theorem dX12_pay_42 : decode cX12_pay 42 = .ok (.lstore 5, 2) := by decide +kernel
theorem dX12_pay_44 : decode cX12_pay 44 = .ok (.iconst 1, 1) := by decide +kernel
theorem dX12_pay_45 : decode cX12_pay 45 = .ok (.istore 7, 2) := by decide +kernel
theorem dX12_pay_47 : decode cX12_pay 47 = .ok (.iload 7, 2) := by decide +kernel
theorem dX12_pay_49 : decode cX12_pay 49 = .ok (.bipush 8, 2) := by decide +kernel
theorem dX12_pay_51 : decode cX12_pay 51 = .ok (.if_icmp .gt 51, 3) := by decide +kernel
theorem dX12_pay_54 : decode cX12_pay 54 = .ok (.aload_n 0, 1) := by decide +kernel
theorem dX12_pay_55 : decode cX12_pay 55 = .ok (.getfield 79, 3) := by decide +kernel
theorem dX12_pay_58 : decode cX12_pay 58 = .ok (.iload_n 2, 1) := by decide +kernel
theorem dX12_pay_59 : decode cX12_pay 59 = .ok (.iload_n 3, 1) := by decide +kernel
theorem dX12_pay_60 : decode cX12_pay 60 = .ok (.invokevirtual 332, 3) := by decide +kernel
theorem dX12_pay_63 : decode cX12_pay 63 = .ok (.aload_n 0, 1) := by decide +kernel
theorem dX12_pay_64 : decode cX12_pay 64 = .ok (.getfield 79, 3) := by decide +kernel
theorem dX12_pay_67 : decode cX12_pay 67 = .ok (.aload_n 0, 1) := by decide +kernel
theorem dX12_pay_68 : decode cX12_pay 68 = .ok (.getfield 20, 3) := by decide +kernel
theorem dX12_pay_71 : decode cX12_pay 71 = .ok (.getfield 130, 3) := by decide +kernel
theorem dX12_pay_74 : decode cX12_pay 74 = .ok (.iload_n 1, 1) := by decide +kernel
theorem dX12_pay_75 : decode cX12_pay 75 = .ok (.invokevirtual 335, 3) := by decide +kernel
theorem dX12_pay_78 : decode cX12_pay 78 = .ok (.lstore 8, 2) := by decide +kernel
theorem dX12_pay_80 : decode cX12_pay 80 = .ok (.lload 8, 2) := by decide +kernel
theorem dX12_pay_82 : decode cX12_pay 82 = .ok (.lload 5, 2) := by decide +kernel
theorem dX12_pay_84 : decode cX12_pay 84 = .ok (.lcmp, 1) := by decide +kernel
theorem dX12_pay_85 : decode cX12_pay 85 = .ok (.ifCond .ge 11, 3) := by decide +kernel
theorem dX12_pay_88 : decode cX12_pay 88 = .ok (.lload 8, 2) := by decide +kernel
theorem dX12_pay_90 : decode cX12_pay 90 = .ok (.lstore 5, 2) := by decide +kernel
theorem dX12_pay_92 : decode cX12_pay 92 = .ok (.iload 7, 2) := by decide +kernel
theorem dX12_pay_94 : decode cX12_pay 94 = .ok (.istore 4, 2) := by decide +kernel
theorem dX12_pay_96 : decode cX12_pay 96 = .ok (.iinc 7 1, 3) := by decide +kernel
theorem dX12_pay_99 : decode cX12_pay 99 = .ok (.goto (-52), 3) := by decide +kernel
theorem dX12_pay_102 : decode cX12_pay 102 = .ok (.iload 4, 2) := by decide +kernel
theorem dX12_pay_104 : decode cX12_pay 104 = .ok (.ireturn, 1) := by decide +kernel
set_option maxRecDepth 20000 in
theorem ggX12_trade_X12_needWhat : GoodIn wsX12_trade wsX12_needWhat := goodIn_ca (goodIn_r _ [7, 8, 9] (by decide +kernel) (by decide +kernel)) (goodIn_sub (fun _ h => List.mem_cons_of_mem _ (List.mem_append_left _ (List.mem_append_right _ h))) (by decide +kernel))
set_option maxRecDepth 20000 in
theorem gX12_trade_X12_needWhat : GoodIn wsX12_trade (va_wsS RX12 226 yX12_needWhat wsX12_needWhat) := goodIn_app (goodIn_of _ (by decide +kernel)) ggX12_trade_X12_needWhat
set_option maxRecDepth 20000 in
theorem ggX12_trade_X12_needBase : GoodIn wsX12_trade wsX12_needBase := goodIn_ca (goodIn_r _ [12, 13, 14] (by decide +kernel) (by decide +kernel)) (goodIn_sub (fun _ h => List.mem_cons_of_mem _ (List.mem_append_right _ h)) (by decide +kernel))
set_option maxRecDepth 20000 in
theorem gX12_trade_X12_needBase : GoodIn wsX12_trade (va_wsS RX12 220 yX12_needBase wsX12_needBase) := goodIn_app (goodIn_of _ (by decide +kernel)) ggX12_trade_X12_needBase
set_option maxRecDepth 20000 in
theorem ggX12_trade_X6_fill : GoodIn wsX12_trade wsX6_fill := goodIn_r _ [19, 20, 21, 22, 23, 24, 25, 26, 27, 28, 29, 30, 31, 32, 33, 34, 35, 36, 37, 38, 39, 40, 41, 42, 43, 44, 45, 46, 47, 48, 49, 50, 51, 18, 52, 53, 54, 55, 56, 57, 99, 100, 90, 91, 92, 93, 94, 95, 96, 97, 98, 101, 102, 103, 104, 105, 106] (by decide +kernel) (by decide +kernel)
set_option maxRecDepth 20000 in
theorem gX12_trade_X6_fill : GoodIn wsX12_trade (wsV RX12 233 RX6 yX6_fill wsX6_fill) := goodIn_app (goodIn_of _ (by decide +kernel)) ggX12_trade_X6_fill
set_option maxRecDepth 20000 in
theorem ggX12_trade_X6_misreadIn : GoodIn wsX12_trade wsX6_misreadIn := goodIn_r _ [61, 62, 63, 64, 65, 66, 67, 68, 69, 70, 71, 18, 72, 20, 99, 100] (by decide +kernel) (by decide +kernel)
set_option maxRecDepth 20000 in
theorem gX12_trade_X6_misreadIn : GoodIn wsX12_trade (wsV RX12 339 RX6 yX6_misreadIn wsX6_misreadIn) := goodIn_app (goodIn_of _ (by decide +kernel)) ggX12_trade_X6_misreadIn
theorem dX12_trade_0 : decode cX12_trade 0 = .ok (.iload_n 2, 1) := by decide +kernel
theorem dX12_trade_1 : decode cX12_trade 1 = .ok (.iconst 1, 1) := by decide +kernel
theorem dX12_trade_2 : decode cX12_trade 2 = .ok (.invokestatic 226, 3) := by decide +kernel
theorem dX12_trade_5 : decode cX12_trade 5 = .ok (.iload_n 1, 1) := by decide +kernel
theorem dX12_trade_6 : decode cX12_trade 6 = .ok (.invokestatic 220, 3) := by decide +kernel
theorem dX12_trade_9 : decode cX12_trade 9 = .ok (.aload_n 0, 1) := by decide +kernel
theorem dX12_trade_10 : decode cX12_trade 10 = .ok (.getfield 58, 3) := by decide +kernel
theorem dX12_trade_13 : decode cX12_trade 13 = .ok (.aload_n 0, 1) := by decide +kernel
theorem dX12_trade_14 : decode cX12_trade 14 = .ok (.getfield 20, 3) := by decide +kernel
theorem dX12_trade_17 : decode cX12_trade 17 = .ok (.invokevirtual 233, 3) := by decide +kernel
theorem dX12_trade_20 : decode cX12_trade 20 = .ok (.iconst 0, 1) := by decide +kernel
theorem dX12_trade_21 : decode cX12_trade 21 = .ok (.istore_n 3, 1) := by decide +kernel
theorem dX12_trade_22 : decode cX12_trade 22 = .ok (.aload_n 0, 1) := by decide +kernel
theorem dX12_trade_23 : decode cX12_trade 23 = .ok (.getfield 58, 3) := by decide +kernel
theorem dX12_trade_26 : decode cX12_trade 26 = .ok (.iload_n 3, 1) := by decide +kernel
theorem dX12_trade_27 : decode cX12_trade 27 = .ok (.aload_n 0, 1) := by decide +kernel
theorem dX12_trade_28 : decode cX12_trade 28 = .ok (.getfield 20, 3) := by decide +kernel
theorem dX12_trade_31 : decode cX12_trade 31 = .ok (.getfield 142, 3) := by decide +kernel
theorem dX12_trade_34 : decode cX12_trade 34 = .ok (.iload_n 1, 1) := by decide +kernel
theorem dX12_trade_35 : decode cX12_trade 35 = .ok (.invokevirtual 339, 3) := by decide +kernel
theorem dX12_trade_38 : decode cX12_trade 38 = .ok (.istore 4, 2) := by decide +kernel
theorem dX12_trade_40 : decode cX12_trade 40 = .ok (.iconst 1, 1) := by decide +kernel
theorem dX12_trade_41 : decode cX12_trade 41 = .ok (.istore 5, 2) := by decide +kernel
theorem dX12_trade_43 : decode cX12_trade 43 = .ok (.iload 5, 2) := by decide +kernel
theorem dX12_trade_45 : decode cX12_trade 45 = .ok (.bipush 40, 2) := by decide +kernel
theorem dX12_trade_47 : decode cX12_trade 47 = .ok (.if_icmp .gt 42, 3) := by decide +kernel
theorem dX12_trade_50 : decode cX12_trade 50 = .ok (.aload_n 0, 1) := by decide +kernel
theorem dX12_trade_51 : decode cX12_trade 51 = .ok (.getfield 58, 3) := by decide +kernel
theorem dX12_trade_54 : decode cX12_trade 54 = .ok (.iload 5, 2) := by decide +kernel
theorem dX12_trade_56 : decode cX12_trade 56 = .ok (.aload_n 0, 1) := by decide +kernel
theorem dX12_trade_57 : decode cX12_trade 57 = .ok (.getfield 20, 3) := by decide +kernel
theorem dX12_trade_60 : decode cX12_trade 60 = .ok (.getfield 142, 3) := by decide +kernel
theorem dX12_trade_63 : decode cX12_trade 63 = .ok (.iload_n 1, 1) := by decide +kernel
theorem dX12_trade_64 : decode cX12_trade 64 = .ok (.invokevirtual 339, 3) := by decide +kernel
theorem dX12_trade_67 : decode cX12_trade 67 = .ok (.istore 6, 2) := by decide +kernel
theorem dX12_trade_69 : decode cX12_trade 69 = .ok (.iload 6, 2) := by decide +kernel
theorem dX12_trade_71 : decode cX12_trade 71 = .ok (.iload 4, 2) := by decide +kernel
theorem dX12_trade_73 : decode cX12_trade 73 = .ok (.if_icmp .ge 10, 3) := by decide +kernel
theorem dX12_trade_76 : decode cX12_trade 76 = .ok (.iload 6, 2) := by decide +kernel
theorem dX12_trade_78 : decode cX12_trade 78 = .ok (.istore 4, 2) := by decide +kernel
theorem dX12_trade_80 : decode cX12_trade 80 = .ok (.iload 5, 2) := by decide +kernel
theorem dX12_trade_82 : decode cX12_trade 82 = .ok (.istore_n 3, 1) := by decide +kernel
theorem dX12_trade_83 : decode cX12_trade 83 = .ok (.iinc 5 1, 3) := by decide +kernel
theorem dX12_trade_86 : decode cX12_trade 86 = .ok (.goto (-43), 3) := by decide +kernel
theorem dX12_trade_89 : decode cX12_trade 89 = .ok (.iload_n 2, 1) := by decide +kernel
theorem dX12_trade_90 : decode cX12_trade 90 = .ok (.ifCond .ne 7, 3) := by decide +kernel
theorem dX12_trade_93 : decode cX12_trade 93 = .ok (.iload_n 3, 1) := by decide +kernel
theorem dX12_trade_94 : decode cX12_trade 94 = .ok (.goto 5, 3) := by decide +kernel
theorem dX12_trade_97 : decode cX12_trade 97 = .ok (.iload 4, 2) := by decide +kernel
theorem dX12_trade_99 : decode cX12_trade 99 = .ok (.ireturn, 1) := by decide +kernel
set_option maxRecDepth 20000 in
theorem ggX12_tax_X12_needDoor : GoodIn wsX12_tax wsX12_needDoor := goodIn_ca (goodIn_r _ [7, 8, 9, 1, 2, 10, 11, 12, 13, 14, 15, 35, 36, 37, 38, 39, 40, 41, 42, 43, 44, 45, 46, 47, 48, 49, 50, 51, 52, 53, 54, 55, 56, 57, 58, 59, 60, 61, 62, 63, 64, 65, 66] (by decide +kernel) (by decide +kernel)) (goodIn_sub (fun _ h => List.mem_cons_of_mem _ (List.mem_append_right _ h)) (by decide +kernel))
set_option maxRecDepth 20000 in
theorem gX12_tax_X12_needDoor : GoodIn wsX12_tax (wsV RX12 199 RX12 yX12_needDoor wsX12_needDoor) := goodIn_app (goodIn_of _ (by decide +kernel)) ggX12_tax_X12_needDoor
set_option maxRecDepth 20000 in
theorem ggX12_tax_X4_worthIn : GoodIn wsX12_tax wsX4_worthIn := goodIn_r _ [19, 20, 21, 22, 23, 13, 24, 25, 26, 11, 12, 14, 15, 27, 28, 29, 30, 31, 61, 62, 63, 64, 65, 66] (by decide +kernel) (by decide +kernel)
set_option maxRecDepth 20000 in
theorem gX12_tax_X4_worthIn : GoodIn wsX12_tax (wsV RX12 223 RX4 yX4_worthIn wsX4_worthIn) := goodIn_app (goodIn_of _ (by decide +kernel)) ggX12_tax_X4_worthIn
set_option maxRecDepth 20000 in
theorem ggX12_tax_X12_dividedUp : GoodIn wsX12_tax wsX12_dividedUp := goodIn_r _ [34] (by decide +kernel) (by decide +kernel)
set_option maxRecDepth 20000 in
theorem gX12_tax_X12_dividedUp : GoodIn wsX12_tax (va_wsS RX12 270 yX12_dividedUp wsX12_dividedUp) := goodIn_app (goodIn_of _ (by decide +kernel)) ggX12_tax_X12_dividedUp
theorem dX12_tax_0 : decode cX12_tax 0 = .ok (.aload_n 0, 1) := by decide +kernel
theorem dX12_tax_1 : decode cX12_tax 1 = .ok (.iload_n 1, 1) := by decide +kernel
theorem dX12_tax_2 : decode cX12_tax 2 = .ok (.invokevirtual 199, 3) := by decide +kernel
theorem dX12_tax_5 : decode cX12_tax 5 = .ok (.aload_n 0, 1) := by decide +kernel
theorem dX12_tax_6 : decode cX12_tax 6 = .ok (.getfield 20, 3) := by decide +kernel
theorem dX12_tax_9 : decode cX12_tax 9 = .ok (.getfield 130, 3) := by decide +kernel
theorem dX12_tax_12 : decode cX12_tax 12 = .ok (.iload_n 1, 1) := by decide +kernel
theorem dX12_tax_13 : decode cX12_tax 13 = .ok (.bipush 10, 2) := by decide +kernel
theorem dX12_tax_15 : decode cX12_tax 15 = .ok (.invokevirtual 223, 3) := by decide +kernel
theorem dX12_tax_18 : decode cX12_tax 18 = .ok (.bipush 10, 2) := by decide +kernel
theorem dX12_tax_20 : decode cX12_tax 20 = .ok (.invokestatic 270, 3) := by decide +kernel
theorem dX12_tax_23 : decode cX12_tax 23 = .ok (.ireturn, 1) := by decide +kernel
set_option maxRecDepth 20000 in
theorem ggX12_sum_X12_needDoor : GoodIn wsX12_sum wsX12_needDoor := goodIn_ca (goodIn_r _ [15, 3, 4, 5, 8, 16, 17, 18, 19, 20, 21, 53, 54, 55, 56, 57, 58, 59, 60, 61, 62, 63, 64, 65, 66, 67, 68, 69, 70, 71, 72, 73, 74, 75, 76, 77, 78, 82, 83, 84, 85, 86, 87] (by decide +kernel) (by decide +kernel)) (goodIn_sub (fun _ h => List.mem_cons_of_mem _ (List.mem_append_right _ h)) (by decide +kernel))
set_option maxRecDepth 20000 in
theorem gX12_sum_X12_needDoor : GoodIn wsX12_sum (wsV RX12 199 RX12 yX12_needDoor wsX12_needDoor) := goodIn_app (goodIn_of _ (by decide +kernel)) ggX12_sum_X12_needDoor
set_option maxRecDepth 20000 in
theorem ggX12_sum_X1_add : GoodIn wsX12_sum wsX1_add := goodIn_r _ [26, 27, 28, 29, 30, 31, 25, 32, 33, 34, 35, 36, 37, 38, 39, 19, 40, 41, 42, 17, 18, 20, 21, 43, 44, 45, 46, 47, 48, 79, 80, 81, 82, 83, 84, 85, 86, 87] (by decide +kernel) (by decide +kernel)
set_option maxRecDepth 20000 in
theorem gX12_sum_X1_add : GoodIn wsX12_sum (wsV RX12 345 RX1 yX1_add wsX1_add) := goodIn_app (goodIn_of _ (by decide +kernel)) ggX12_sum_X1_add
set_option maxRecDepth 20000 in
theorem ggX12_sum_X1_figureAt : GoodIn wsX12_sum wsX1_figureAt := goodIn_r _ [52, 28, 29, 79, 80, 81] (by decide +kernel) (by decide +kernel)
set_option maxRecDepth 20000 in
theorem gX12_sum_X1_figureAt : GoodIn wsX12_sum (wsV RX12 356 RX1 yX1_figureAt wsX1_figureAt) := goodIn_app (goodIn_of _ (by decide +kernel)) ggX12_sum_X1_figureAt
theorem dX12_sum_0 : decode cX12_sum 0 = .ok (.aload_n 0, 1) := by decide +kernel
theorem dX12_sum_1 : decode cX12_sum 1 = .ok (.iload_n 1, 1) := by decide +kernel
theorem dX12_sum_2 : decode cX12_sum 2 = .ok (.invokevirtual 199, 3) := by decide +kernel
theorem dX12_sum_5 : decode cX12_sum 5 = .ok (.aload_n 0, 1) := by decide +kernel
theorem dX12_sum_6 : decode cX12_sum 6 = .ok (.iload_n 2, 1) := by decide +kernel
theorem dX12_sum_7 : decode cX12_sum 7 = .ok (.invokevirtual 199, 3) := by decide +kernel
theorem dX12_sum_10 : decode cX12_sum 10 = .ok (.aload_n 0, 1) := by decide +kernel
theorem dX12_sum_11 : decode cX12_sum 11 = .ok (.getfield 20, 3) := by decide +kernel
theorem dX12_sum_14 : decode cX12_sum 14 = .ok (.getfield 142, 3) := by decide +kernel
theorem dX12_sum_17 : decode cX12_sum 17 = .ok (.iconst 2, 1) := by decide +kernel
theorem dX12_sum_18 : decode cX12_sum 18 = .ok (.if_icmp .ge 14, 3) := by decide +kernel
theorem dX12_sum_21 : decode cX12_sum 21 = .ok (.new 252, 3) := by decide +kernel
theorem dX12_sum_24 : decode cX12_sum 24 = .ok (.dup, 1) := by decide +kernel
theorem dX12_sum_25 : decode cX12_sum 25 = .ok (.ldc_w 343, 3) := by decide +kernel
theorem dX12_sum_28 : decode cX12_sum 28 = .ok (.invokespecial 256, 3) := by decide +kernel
theorem dX12_sum_31 : decode cX12_sum 31 = .ok (.athrow, 1) := by decide +kernel
theorem dX12_sum_32 : decode cX12_sum 32 = .ok (.aload_n 0, 1) := by decide +kernel
theorem dX12_sum_33 : decode cX12_sum 33 = .ok (.getfield 72, 3) := by decide +kernel
theorem dX12_sum_36 : decode cX12_sum 36 = .ok (.aload_n 0, 1) := by decide +kernel
theorem dX12_sum_37 : decode cX12_sum 37 = .ok (.getfield 20, 3) := by decide +kernel
theorem dX12_sum_40 : decode cX12_sum 40 = .ok (.getfield 130, 3) := by decide +kernel
theorem dX12_sum_43 : decode cX12_sum 43 = .ok (.iload_n 1, 1) := by decide +kernel
theorem dX12_sum_44 : decode cX12_sum 44 = .ok (.iload_n 2, 1) := by decide +kernel
theorem dX12_sum_45 : decode cX12_sum 45 = .ok (.aload_n 0, 1) := by decide +kernel
theorem dX12_sum_46 : decode cX12_sum 46 = .ok (.getfield 20, 3) := by decide +kernel
theorem dX12_sum_49 : decode cX12_sum 49 = .ok (.getfield 142, 3) := by decide +kernel
theorem dX12_sum_52 : decode cX12_sum 52 = .ok (.invokevirtual 345, 3) := by decide +kernel
theorem dX12_sum_55 : decode cX12_sum 55 = .ok (.iload_n 3, 1) := by decide +kernel
theorem dX12_sum_56 : decode cX12_sum 56 = .ok (.iconst (-1), 1) := by decide +kernel
theorem dX12_sum_57 : decode cX12_sum 57 = .ok (.if_icmp .ne 11, 3) := by decide +kernel
theorem dX12_sum_60 : decode cX12_sum 60 = .ok (.aload_n 0, 1) := by decide +kernel
theorem dX12_sum_61 : decode cX12_sum 61 = .ok (.getfield 72, 3) := by decide +kernel
theorem dX12_sum_64 : decode cX12_sum 64 = .ok (.getfield 348, 3) := by decide +kernel
theorem dX12_sum_67 : decode cX12_sum 67 = .ok (.ireturn, 1) := by decide +kernel
theorem dX12_sum_68 : decode cX12_sum 68 = .ok (.iload_n 3, 1) := by decide +kernel
theorem dX12_sum_69 : decode cX12_sum 69 = .ok (.bipush (-2), 2) := by decide +kernel
theorem dX12_sum_71 : decode cX12_sum 71 = .ok (.if_icmp .ne 11, 3) := by decide +kernel
theorem dX12_sum_74 : decode cX12_sum 74 = .ok (.aload_n 0, 1) := by decide +kernel
theorem dX12_sum_75 : decode cX12_sum 75 = .ok (.getfield 72, 3) := by decide +kernel
theorem dX12_sum_78 : decode cX12_sum 78 = .ok (.getfield 351, 3) := by decide +kernel
theorem dX12_sum_81 : decode cX12_sum 81 = .ok (.ireturn, 1) := by decide +kernel
theorem dX12_sum_82 : decode cX12_sum 82 = .ok (.iload_n 3, 1) := by decide +kernel
theorem dX12_sum_83 : decode cX12_sum 83 = .ok (.ifCond .lt 14, 3) := by decide +kernel
theorem dX12_sum_86 : decode cX12_sum 86 = .ok (.iload_n 3, 1) := by decide +kernel
theorem dX12_sum_87 : decode cX12_sum 87 = .ok (.aload_n 0, 1) := by decide +kernel
theorem dX12_sum_88 : decode cX12_sum 88 = .ok (.getfield 72, 3) := by decide +kernel
theorem dX12_sum_91 : decode cX12_sum 91 = .ok (.getfield 348, 3) := by decide +kernel
theorem dX12_sum_94 : decode cX12_sum 94 = .ok (.if_icmp .lt 14, 3) := by decide +kernel
theorem dX12_sum_97 : decode cX12_sum 97 = .ok (.new 161, 3) := by decide +kernel
theorem dX12_sum_100 : decode cX12_sum 100 = .ok (.dup, 1) := by decide +kernel
theorem dX12_sum_101 : decode cX12_sum 101 = .ok (.ldc_w 354, 3) := by decide +kernel
theorem dX12_sum_104 : decode cX12_sum 104 = .ok (.invokespecial 165, 3) := by decide +kernel
theorem dX12_sum_107 : decode cX12_sum 107 = .ok (.athrow, 1) := by decide +kernel
theorem dX12_sum_108 : decode cX12_sum 108 = .ok (.aload_n 0, 1) := by decide +kernel
theorem dX12_sum_109 : decode cX12_sum 109 = .ok (.getfield 72, 3) := by decide +kernel
theorem dX12_sum_112 : decode cX12_sum 112 = .ok (.iload_n 3, 1) := by decide +kernel
theorem dX12_sum_113 : decode cX12_sum 113 = .ok (.invokevirtual 356, 3) := by decide +kernel
theorem dX12_sum_116 : decode cX12_sum 116 = .ok (.ireturn, 1) := by decide +kernel
set_option maxRecDepth 20000 in
theorem ggX12_image_X9_copyFrom : GoodIn wsX12_image wsX9_copyFrom := goodIn_r _ [8, 9, 10, 11, 12, 13, 14, 15, 16, 17, 18, 19, 20, 21, 22, 23, 24, 25, 26, 27, 28, 29, 30, 31, 32, 33, 34, 35, 36, 37, 38, 39, 40, 41, 42, 43, 61, 62, 63, 64, 65, 66, 67, 68, 69, 70, 71, 72, 73, 74, 75, 76, 77, 78, 79] (by decide +kernel) (by decide +kernel)
set_option maxRecDepth 20000 in
theorem gX12_image_X9_copyFrom : GoodIn wsX12_image (wsV RX12 106 RX9 yX9_copyFrom wsX9_copyFrom) := goodIn_app (goodIn_of _ (by decide +kernel)) ggX12_image_X9_copyFrom
theorem dX12_image_0 : decode cX12_image 0 = .ok (.aload_n 0, 1) := by decide +kernel
theorem dX12_image_1 : decode cX12_image 1 = .ok (.getfield 27, 3) := by decide +kernel
theorem dX12_image_4 : decode cX12_image 4 = .ok (.aload_n 0, 1) := by decide +kernel
theorem dX12_image_5 : decode cX12_image 5 = .ok (.getfield 20, 3) := by decide +kernel
theorem dX12_image_8 : decode cX12_image 8 = .ok (.invokevirtual 106, 3) := by decide +kernel
theorem dX12_image_11 : decode cX12_image 11 = .ok (.aload_n 0, 1) := by decide +kernel
theorem dX12_image_12 : decode cX12_image 12 = .ok (.iconst 1, 1) := by decide +kernel
theorem dX12_image_13 : decode cX12_image 13 = .ok (.putfield 110, 3) := by decide +kernel
theorem dX12_image_16 : decode cX12_image 16 = .ok (.return_, 1) := by decide +kernel
set_option maxRecDepth 20000 in
theorem ggX12_restore_X9_copyFrom : GoodIn wsX12_restore wsX9_copyFrom := goodIn_r _ [8, 9, 10, 11, 12, 13, 14, 15, 16, 17, 18, 19, 20, 21, 22, 23, 24, 25, 26, 27, 28, 29, 30, 31, 32, 33, 34, 35, 36, 37, 38, 39, 40, 41, 42, 43, 61, 62, 63, 64, 65, 66, 67, 68, 69, 70, 71, 72, 73, 74, 75, 76, 77, 78, 79] (by decide +kernel) (by decide +kernel)
set_option maxRecDepth 20000 in
theorem gX12_restore_X9_copyFrom : GoodIn wsX12_restore (wsV RX12 106 RX9 yX9_copyFrom wsX9_copyFrom) := goodIn_app (goodIn_of _ (by decide +kernel)) ggX12_restore_X9_copyFrom
theorem dX12_restore_0 : decode cX12_restore 0 = .ok (.aload_n 0, 1) := by decide +kernel
theorem dX12_restore_1 : decode cX12_restore 1 = .ok (.getfield 110, 3) := by decide +kernel
theorem dX12_restore_4 : decode cX12_restore 4 = .ok (.ifCond .eq 14, 3) := by decide +kernel
theorem dX12_restore_7 : decode cX12_restore 7 = .ok (.aload_n 0, 1) := by decide +kernel
theorem dX12_restore_8 : decode cX12_restore 8 = .ok (.getfield 20, 3) := by decide +kernel
theorem dX12_restore_11 : decode cX12_restore 11 = .ok (.aload_n 0, 1) := by decide +kernel
theorem dX12_restore_12 : decode cX12_restore 12 = .ok (.getfield 27, 3) := by decide +kernel
theorem dX12_restore_15 : decode cX12_restore 15 = .ok (.invokevirtual 106, 3) := by decide +kernel
theorem dX12_restore_18 : decode cX12_restore 18 = .ok (.aload_n 0, 1) := by decide +kernel
theorem dX12_restore_19 : decode cX12_restore 19 = .ok (.getfield 110, 3) := by decide +kernel
theorem dX12_restore_22 : decode cX12_restore 22 = .ok (.ireturn, 1) := by decide +kernel
theorem dX12_needBytes_0 : decode cX12_needBytes 0 = .ok (.iload_n 1, 1) := by decide +kernel
theorem dX12_needBytes_1 : decode cX12_needBytes 1 = .ok (.ifCond .lt 11, 3) := by decide +kernel
theorem dX12_needBytes_4 : decode cX12_needBytes 4 = .ok (.iload_n 1, 1) := by decide +kernel
theorem dX12_needBytes_5 : decode cX12_needBytes 5 = .ok (.aload_n 0, 1) := by decide +kernel
theorem dX12_needBytes_6 : decode cX12_needBytes 6 = .ok (.getfield 83, 3) := by decide +kernel
theorem dX12_needBytes_9 : decode cX12_needBytes 9 = .ok (.if_icmp .le 14, 3) := by decide +kernel
theorem dX12_needBytes_12 : decode cX12_needBytes 12 = .ok (.new 252, 3) := by decide +kernel
theorem dX12_needBytes_15 : decode cX12_needBytes 15 = .ok (.dup, 1) := by decide +kernel
theorem dX12_needBytes_16 : decode cX12_needBytes 16 = .ok (.ldc_w 358, 3) := by decide +kernel
theorem dX12_needBytes_19 : decode cX12_needBytes 19 = .ok (.invokespecial 256, 3) := by decide +kernel
theorem dX12_needBytes_22 : decode cX12_needBytes 22 = .ok (.athrow, 1) := by decide +kernel
theorem dX12_needBytes_23 : decode cX12_needBytes 23 = .ok (.return_, 1) := by decide +kernel
set_option maxRecDepth 20000 in
theorem ggX12_needOwner_X9_hasOwner : GoodIn wsX12_needOwner wsX9_hasOwner := goodIn_r _ [8, 9, 27, 28, 29, 30, 31, 32, 33, 34, 35] (by decide +kernel) (by decide +kernel)
set_option maxRecDepth 20000 in
theorem gX12_needOwner_X9_hasOwner : GoodIn wsX12_needOwner (wsV RX12 360 RX9 yX9_hasOwner wsX9_hasOwner) := goodIn_app (goodIn_of _ (by decide +kernel)) ggX12_needOwner_X9_hasOwner
theorem dX12_needOwner_0 : decode cX12_needOwner 0 = .ok (.aload_n 0, 1) := by decide +kernel
theorem dX12_needOwner_1 : decode cX12_needOwner 1 = .ok (.getfield 20, 3) := by decide +kernel
theorem dX12_needOwner_4 : decode cX12_needOwner 4 = .ok (.iload_n 1, 1) := by decide +kernel
theorem dX12_needOwner_5 : decode cX12_needOwner 5 = .ok (.invokevirtual 360, 3) := by decide +kernel
theorem dX12_needOwner_8 : decode cX12_needOwner 8 = .ok (.ifCond .ne 14, 3) := by decide +kernel
theorem dX12_needOwner_11 : decode cX12_needOwner 11 = .ok (.new 161, 3) := by decide +kernel
theorem dX12_needOwner_14 : decode cX12_needOwner 14 = .ok (.dup, 1) := by decide +kernel
theorem dX12_needOwner_15 : decode cX12_needOwner 15 = .ok (.ldc_w 363, 3) := by decide +kernel
theorem dX12_needOwner_18 : decode cX12_needOwner 18 = .ok (.invokespecial 165, 3) := by decide +kernel
theorem dX12_needOwner_21 : decode cX12_needOwner 21 = .ok (.athrow, 1) := by decide +kernel
theorem dX12_needOwner_22 : decode cX12_needOwner 22 = .ok (.return_, 1) := by decide +kernel
set_option maxRecDepth 20000 in
theorem ggX12_needDoor_X4_has : GoodIn wsX12_needDoor wsX4_has := goodIn_r _ [9, 10, 37, 38, 39, 40, 41, 42] (by decide +kernel) (by decide +kernel)
set_option maxRecDepth 20000 in
theorem gX12_needDoor_X4_has : GoodIn wsX12_needDoor (wsV RX12 301 RX4 yX4_has wsX4_has) := goodIn_app (goodIn_of _ (by decide +kernel)) ggX12_needDoor_X4_has
theorem dX12_needDoor_0 : decode cX12_needDoor 0 = .ok (.aload_n 0, 1) := by decide +kernel
theorem dX12_needDoor_1 : decode cX12_needDoor 1 = .ok (.getfield 20, 3) := by decide +kernel
theorem dX12_needDoor_4 : decode cX12_needDoor 4 = .ok (.getfield 130, 3) := by decide +kernel
theorem dX12_needDoor_7 : decode cX12_needDoor 7 = .ok (.iload_n 1, 1) := by decide +kernel
theorem dX12_needDoor_8 : decode cX12_needDoor 8 = .ok (.invokevirtual 301, 3) := by decide +kernel
theorem dX12_needDoor_11 : decode cX12_needDoor 11 = .ok (.ifCond .ne 14, 3) := by decide +kernel
theorem dX12_needDoor_14 : decode cX12_needDoor 14 = .ok (.new 161, 3) := by decide +kernel
theorem dX12_needDoor_17 : decode cX12_needDoor 17 = .ok (.dup, 1) := by decide +kernel
theorem dX12_needDoor_18 : decode cX12_needDoor 18 = .ok (.ldc_w 365, 3) := by decide +kernel
theorem dX12_needDoor_21 : decode cX12_needDoor 21 = .ok (.invokespecial 165, 3) := by decide +kernel
theorem dX12_needDoor_24 : decode cX12_needDoor 24 = .ok (.athrow, 1) := by decide +kernel
theorem dX12_needDoor_25 : decode cX12_needDoor 25 = .ok (.return_, 1) := by decide +kernel
theorem dX12_needWhat_0 : decode cX12_needWhat 0 = .ok (.iload_n 0, 1) := by decide +kernel
theorem dX12_needWhat_1 : decode cX12_needWhat 1 = .ok (.ifCond .lt 8, 3) := by decide +kernel
theorem dX12_needWhat_4 : decode cX12_needWhat 4 = .ok (.iload_n 0, 1) := by decide +kernel
theorem dX12_needWhat_5 : decode cX12_needWhat 5 = .ok (.iload_n 1, 1) := by decide +kernel
theorem dX12_needWhat_6 : decode cX12_needWhat 6 = .ok (.if_icmp .le 14, 3) := by decide +kernel
theorem dX12_needWhat_9 : decode cX12_needWhat 9 = .ok (.new 161, 3) := by decide +kernel
theorem dX12_needWhat_12 : decode cX12_needWhat 12 = .ok (.dup, 1) := by decide +kernel
theorem dX12_needWhat_13 : decode cX12_needWhat 13 = .ok (.ldc_w 367, 3) := by decide +kernel
theorem dX12_needWhat_16 : decode cX12_needWhat 16 = .ok (.invokespecial 165, 3) := by decide +kernel
theorem dX12_needWhat_19 : decode cX12_needWhat 19 = .ok (.athrow, 1) := by decide +kernel
theorem dX12_needWhat_20 : decode cX12_needWhat 20 = .ok (.return_, 1) := by decide +kernel
theorem dX12_needBase_0 : decode cX12_needBase 0 = .ok (.iload_n 0, 1) := by decide +kernel
theorem dX12_needBase_1 : decode cX12_needBase 1 = .ok (.ifCond .lt 9, 3) := by decide +kernel
theorem dX12_needBase_4 : decode cX12_needBase 4 = .ok (.iload_n 0, 1) := by decide +kernel
theorem dX12_needBase_5 : decode cX12_needBase 5 = .ok (.bipush 40, 2) := by decide +kernel
theorem dX12_needBase_7 : decode cX12_needBase 7 = .ok (.if_icmp .le 14, 3) := by decide +kernel
theorem dX12_needBase_10 : decode cX12_needBase 10 = .ok (.new 252, 3) := by decide +kernel
theorem dX12_needBase_13 : decode cX12_needBase 13 = .ok (.dup, 1) := by decide +kernel
theorem dX12_needBase_14 : decode cX12_needBase 14 = .ok (.ldc_w 369, 3) := by decide +kernel
theorem dX12_needBase_17 : decode cX12_needBase 17 = .ok (.invokespecial 256, 3) := by decide +kernel
theorem dX12_needBase_20 : decode cX12_needBase 20 = .ok (.athrow, 1) := by decide +kernel
theorem dX12_needBase_21 : decode cX12_needBase 21 = .ok (.return_, 1) := by decide +kernel
theorem dX12_needBases_0 : decode cX12_needBases 0 = .ok (.iload_n 0, 1) := by decide +kernel
theorem dX12_needBases_1 : decode cX12_needBases 1 = .ok (.ifCond .lt 14, 3) := by decide +kernel
theorem dX12_needBases_4 : decode cX12_needBases 4 = .ok (.iload_n 1, 1) := by decide +kernel
theorem dX12_needBases_5 : decode cX12_needBases 5 = .ok (.bipush 40, 2) := by decide +kernel
theorem dX12_needBases_7 : decode cX12_needBases 7 = .ok (.if_icmp .gt 8, 3) := by decide +kernel
theorem dX12_needBases_10 : decode cX12_needBases 10 = .ok (.iload_n 0, 1) := by decide +kernel
theorem dX12_needBases_11 : decode cX12_needBases 11 = .ok (.iload_n 1, 1) := by decide +kernel
theorem dX12_needBases_12 : decode cX12_needBases 12 = .ok (.if_icmp .le 14, 3) := by decide +kernel
theorem dX12_needBases_15 : decode cX12_needBases 15 = .ok (.new 252, 3) := by decide +kernel
theorem dX12_needBases_18 : decode cX12_needBases 18 = .ok (.dup, 1) := by decide +kernel
theorem dX12_needBases_19 : decode cX12_needBases 19 = .ok (.ldc_w 257, 3) := by decide +kernel
theorem dX12_needBases_22 : decode cX12_needBases 22 = .ok (.invokespecial 256, 3) := by decide +kernel
theorem dX12_needBases_25 : decode cX12_needBases 25 = .ok (.athrow, 1) := by decide +kernel
theorem dX12_needBases_26 : decode cX12_needBases 26 = .ok (.return_, 1) := by decide +kernel
theorem dX12_needTenths_0 : decode cX12_needTenths 0 = .ok (.iload_n 0, 1) := by decide +kernel
theorem dX12_needTenths_1 : decode cX12_needTenths 1 = .ok (.ifCond .lt 27, 3) := by decide +kernel
theorem dX12_needTenths_4 : decode cX12_needTenths 4 = .ok (.iload_n 0, 1) := by decide +kernel
theorem dX12_needTenths_5 : decode cX12_needTenths 5 = .ok (.bipush 10, 2) := by decide +kernel
theorem dX12_needTenths_7 : decode cX12_needTenths 7 = .ok (.if_icmp .gt 21, 3) := by decide +kernel
theorem dX12_needTenths_10 : decode cX12_needTenths 10 = .ok (.iload_n 1, 1) := by decide +kernel
theorem dX12_needTenths_11 : decode cX12_needTenths 11 = .ok (.ifCond .lt 17, 3) := by decide +kernel
theorem dX12_needTenths_14 : decode cX12_needTenths 14 = .ok (.iload_n 1, 1) := by decide +kernel
theorem dX12_needTenths_15 : decode cX12_needTenths 15 = .ok (.bipush 10, 2) := by decide +kernel
theorem dX12_needTenths_17 : decode cX12_needTenths 17 = .ok (.if_icmp .gt 11, 3) := by decide +kernel
theorem dX12_needTenths_20 : decode cX12_needTenths 20 = .ok (.iload_n 0, 1) := by decide +kernel
theorem dX12_needTenths_21 : decode cX12_needTenths 21 = .ok (.iload_n 1, 1) := by decide +kernel
theorem dX12_needTenths_22 : decode cX12_needTenths 22 = .ok (.iadd, 1) := by decide +kernel
theorem dX12_needTenths_23 : decode cX12_needTenths 23 = .ok (.bipush 10, 2) := by decide +kernel
theorem dX12_needTenths_25 : decode cX12_needTenths 25 = .ok (.if_icmp .le 14, 3) := by decide +kernel
theorem dX12_needTenths_28 : decode cX12_needTenths 28 = .ok (.new 252, 3) := by decide +kernel
theorem dX12_needTenths_31 : decode cX12_needTenths 31 = .ok (.dup, 1) := by decide +kernel
theorem dX12_needTenths_32 : decode cX12_needTenths 32 = .ok (.ldc_w 371, 3) := by decide +kernel
theorem dX12_needTenths_35 : decode cX12_needTenths 35 = .ok (.invokespecial 256, 3) := by decide +kernel
theorem dX12_needTenths_38 : decode cX12_needTenths 38 = .ok (.athrow, 1) := by decide +kernel
theorem dX12_needTenths_39 : decode cX12_needTenths 39 = .ok (.return_, 1) := by decide +kernel
