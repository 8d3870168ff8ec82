theorem dX13_thrown_0 : decode cX13_thrown 0 = .ok (.aload_n 0, 1) := by decide +kernel
theorem dX13_thrown_1 : decode cX13_thrown 1 = .ok (.getfield 135, 3) := by decide +kernel
theorem dX13_thrown_4 : decode cX13_thrown 4 = .ok (.ireturn, 1) := by decide +kernel
theorem dX13_right_0 : decode cX13_right 0 = .ok (.aload_n 0, 1) := by decide +kernel
theorem dX13_right_1 : decode cX13_right 1 = .ok (.getfield 135, 3) := by decide +kernel
theorem dX13_right_4 : decode cX13_right 4 = .ok (.ifCond .ne 12, 3) := by decide +kernel
theorem dX13_right_7 : decode cX13_right 7 = .ok (.iload_n 1, 1) := by decide +kernel
theorem dX13_right_8 : decode cX13_right 8 = .ok (.ifCond .ne 8, 3) := by decide +kernel
theorem dX13_right_11 : decode cX13_right 11 = .ok (.aload_n 0, 1) := by decide +kernel
theorem dX13_right_12 : decode cX13_right 12 = .ok (.iload_n 2, 1) := by decide +kernel
theorem dX13_right_13 : decode cX13_right 13 = .ok (.putfield 135, 3) := by decide +kernel
theorem dX13_right_16 : decode cX13_right 16 = .ok (.aload_n 0, 1) := by decide +kernel
theorem dX13_right_17 : decode cX13_right 17 = .ok (.getfield 135, 3) := by decide +kernel
theorem dX13_right_20 : decode cX13_right 20 = .ok (.ifCond .ne 7, 3) := by decide +kernel
theorem dX13_right_23 : decode cX13_right 23 = .ok (.iconst 1, 1) := by decide +kernel
theorem dX13_right_24 : decode cX13_right 24 = .ok (.goto 4, 3) := by decide +kernel
theorem dX13_right_27 : decode cX13_right 27 = .ok (.iconst 0, 1) := by decide +kernel
theorem dX13_right_28 : decode cX13_right 28 = .ok (.ireturn, 1) := by decide +kernel
theorem dX13_within_0 : decode cX13_within 0 = .ok (.iload_n 0, 1) := by decide +kernel
theorem dX13_within_1 : decode cX13_within 1 = .ok (.iload_n 1, 1) := by decide +kernel
theorem dX13_within_2 : decode cX13_within 2 = .ok (.if_icmp .lt 12, 3) := by decide +kernel
theorem dX13_within_5 : decode cX13_within 5 = .ok (.iload_n 0, 1) := by decide +kernel
theorem dX13_within_6 : decode cX13_within 6 = .ok (.iload_n 2, 1) := by decide +kernel
theorem dX13_within_7 : decode cX13_within 7 = .ok (.if_icmp .gt 7, 3) := by decide +kernel
theorem dX13_within_10 : decode cX13_within 10 = .ok (.iconst 1, 1) := by decide +kernel
theorem dX13_within_11 : decode cX13_within 11 = .ok (.goto 4, 3) := by decide +kernel
theorem dX13_within_14 : decode cX13_within 14 = .ok (.iconst 0, 1) := by decide +kernel
theorem dX13_within_15 : decode cX13_within 15 = .ok (.ireturn, 1) := by decide +kernel
theorem dX13_bits_0 : decode cX13_bits 0 = .ok (.iconst 0, 1) := by decide +kernel
theorem dX13_bits_1 : decode cX13_bits 1 = .ok (.istore_n 1, 1) := by decide +kernel
theorem dX13_bits_2 : decode cX13_bits 2 = .ok (.iconst 0, 1) := by decide +kernel
theorem dX13_bits_3 : decode cX13_bits 3 = .ok (.istore_n 2, 1) := by decide +kernel
theorem dX13_bits_4 : decode cX13_bits 4 = .ok (.iload_n 2, 1) := by decide +kernel
theorem dX13_bits_5 : decode cX13_bits 5 = .ok (.bipush 10, 2) := by decide +kernel
theorem dX13_bits_7 : decode cX13_bits 7 = .ok (.if_icmp .ge 17, 3) := by decide +kernel
theorem dX13_bits_10 : decode cX13_bits 10 = .ok (.iload_n 1, 1) := by decide +kernel
theorem dX13_bits_11 : decode cX13_bits 11 = .ok (.iload_n 0, 1) := by decide +kernel
theorem dX13_bits_12 : decode cX13_bits 12 = .ok (.iload_n 2, 1) := by decide +kernel
theorem dX13_bits_13 : decode cX13_bits 13 = .ok (.ishr, 1) := by decide +kernel
theorem dX13_bits_14 : decode cX13_bits 14 = .ok (.iconst 1, 1) := by decide +kernel
theorem dX13_bits_15 : decode cX13_bits 15 = .ok (.iand, 1) := by decide +kernel
theorem dX13_bits_16 : decode cX13_bits 16 = .ok (.iadd, 1) := by decide +kernel
theorem dX13_bits_17 : decode cX13_bits 17 = .ok (.istore_n 1, 1) := by decide +kernel
theorem dX13_bits_18 : decode cX13_bits 18 = .ok (.iinc 2 1, 3) := by decide +kernel
theorem dX13_bits_21 : decode cX13_bits 21 = .ok (.goto (-17), 3) := by decide +kernel
theorem dX13_bits_24 : decode cX13_bits 24 = .ok (.iload_n 1, 1) := by decide +kernel
theorem dX13_bits_25 : decode cX13_bits 25 = .ok (.ireturn, 1) := by decide +kernel
theorem dX13_copies_0 : decode cX13_copies 0 = .ok (.iconst 0, 1) := by decide +kernel
theorem dX13_copies_1 : decode cX13_copies 1 = .ok (.istore_n 3, 1) := by decide +kernel
theorem dX13_copies_2 : decode cX13_copies 2 = .ok (.iload_n 3, 1) := by decide +kernel
theorem dX13_copies_3 : decode cX13_copies 3 = .ok (.aload_n 1, 1) := by decide +kernel
theorem dX13_copies_4 : decode cX13_copies 4 = .ok (.arraylength, 1) := by decide +kernel
theorem dX13_copies_5 : decode cX13_copies 5 = .ok (.if_icmp .ge 15, 3) := by decide +kernel
theorem dX13_copies_8 : decode cX13_copies 8 = .ok (.aload_n 2, 1) := by decide +kernel
theorem dX13_copies_9 : decode cX13_copies 9 = .ok (.iload_n 3, 1) := by decide +kernel
theorem dX13_copies_10 : decode cX13_copies 10 = .ok (.aload_n 1, 1) := by decide +kernel
theorem dX13_copies_11 : decode cX13_copies 11 = .ok (.iload_n 3, 1) := by decide +kernel
theorem dX13_copies_12 : decode cX13_copies 12 = .ok (.iaload, 1) := by decide +kernel
theorem dX13_copies_13 : decode cX13_copies 13 = .ok (.iastore, 1) := by decide +kernel
theorem dX13_copies_14 : decode cX13_copies 14 = .ok (.iinc 3 1, 3) := by decide +kernel
theorem dX13_copies_17 : decode cX13_copies 17 = .ok (.goto (-15), 3) := by decide +kernel
theorem dX13_copies_20 : decode cX13_copies 20 = .ok (.return_, 1) := by decide +kernel
theorem dX13_feed_0 : decode cX13_feed 0 = .ok (.aload_n 0, 1) := by decide +kernel
theorem dX13_feed_1 : decode cX13_feed 1 = .ok (.iconst 0, 1) := by decide +kernel
theorem dX13_feed_2 : decode cX13_feed 2 = .ok (.putfield 135, 3) := by decide +kernel
theorem dX13_feed_5 : decode cX13_feed 5 = .ok (.aload_n 0, 1) := by decide +kernel
theorem dX13_feed_6 : decode cX13_feed 6 = .ok (.getfield 138, 3) := by decide +kernel
theorem dX13_feed_9 : decode cX13_feed 9 = .ok (.bipush 20, 2) := by decide +kernel
theorem dX13_feed_11 : decode cX13_feed 11 = .ok (.iadd, 1) := by decide +kernel
theorem dX13_feed_12 : decode cX13_feed 12 = .ok (.sipush 600, 3) := by decide +kernel
theorem dX13_feed_15 : decode cX13_feed 15 = .ok (.if_icmp .le 5, 3) := by decide +kernel
theorem dX13_feed_18 : decode cX13_feed 18 = .ok (.iconst (-1), 1) := by decide +kernel
theorem dX13_feed_19 : decode cX13_feed 19 = .ok (.ireturn, 1) := by decide +kernel
theorem dX13_feed_20 : decode cX13_feed 20 = .ok (.aload_n 0, 1) := by decide +kernel
theorem dX13_feed_21 : decode cX13_feed 21 = .ok (.iload_n 1, 1) := by decide +kernel
theorem dX13_feed_22 : decode cX13_feed 22 = .ok (.invokevirtual 141, 3) := by decide +kernel
theorem dX13_feed_25 : decode cX13_feed 25 = .ok (.aload_n 0, 1) := by decide +kernel
theorem dX13_feed_26 : decode cX13_feed 26 = .ok (.iload_n 2, 1) := by decide +kernel
theorem dX13_feed_27 : decode cX13_feed 27 = .ok (.invokevirtual 141, 3) := by decide +kernel
theorem dX13_feed_30 : decode cX13_feed 30 = .ok (.aload_n 0, 1) := by decide +kernel
theorem dX13_feed_31 : decode cX13_feed 31 = .ok (.iload_n 3, 1) := by decide +kernel
theorem dX13_feed_32 : decode cX13_feed 32 = .ok (.invokevirtual 141, 3) := by decide +kernel
theorem dX13_feed_35 : decode cX13_feed 35 = .ok (.aload_n 0, 1) := by decide +kernel
theorem dX13_feed_36 : decode cX13_feed 36 = .ok (.iload 4, 2) := by decide +kernel
theorem dX13_feed_38 : decode cX13_feed 38 = .ok (.invokevirtual 141, 3) := by decide +kernel
theorem dX13_feed_41 : decode cX13_feed 41 = .ok (.aload_n 0, 1) := by decide +kernel
theorem dX13_feed_42 : decode cX13_feed 42 = .ok (.iload 5, 2) := by decide +kernel
theorem dX13_feed_44 : decode cX13_feed 44 = .ok (.invokevirtual 141, 3) := by decide +kernel
theorem dX13_feed_47 : decode cX13_feed 47 = .ok (.aload_n 0, 1) := by decide +kernel
theorem dX13_feed_48 : decode cX13_feed 48 = .ok (.getfield 138, 3) := by decide +kernel
theorem dX13_feed_51 : decode cX13_feed 51 = .ok (.ireturn, 1) := by decide +kernel
theorem dX13_lays_0 : decode cX13_lays 0 = .ok (.bipush 24, 2) := by decide +kernel
theorem dX13_lays_2 : decode cX13_lays 2 = .ok (.istore_n 2, 1) := by decide +kernel
theorem dX13_lays_3 : decode cX13_lays 3 = .ok (.iload_n 2, 1) := by decide +kernel
theorem dX13_lays_4 : decode cX13_lays 4 = .ok (.ifCond .lt 35, 3) := by decide +kernel
theorem dX13_lays_7 : decode cX13_lays 7 = .ok (.aload_n 0, 1) := by decide +kernel
theorem dX13_lays_8 : decode cX13_lays 8 = .ok (.getfield 37, 3) := by decide +kernel
theorem dX13_lays_11 : decode cX13_lays 11 = .ok (.aload_n 0, 1) := by decide +kernel
theorem dX13_lays_12 : decode cX13_lays 12 = .ok (.getfield 138, 3) := by decide +kernel
theorem dX13_lays_15 : decode cX13_lays 15 = .ok (.iload_n 1, 1) := by decide +kernel
theorem dX13_lays_16 : decode cX13_lays 16 = .ok (.iload_n 2, 1) := by decide +kernel
theorem dX13_lays_17 : decode cX13_lays 17 = .ok (.ishr, 1) := by decide +kernel
theorem dX13_lays_18 : decode cX13_lays 18 = .ok (.sipush 255, 3) := by decide +kernel
theorem dX13_lays_21 : decode cX13_lays 21 = .ok (.iand, 1) := by decide +kernel
theorem dX13_lays_22 : decode cX13_lays 22 = .ok (.iastore, 1) := by decide +kernel
theorem dX13_lays_23 : decode cX13_lays 23 = .ok (.aload_n 0, 1) := by decide +kernel
theorem dX13_lays_24 : decode cX13_lays 24 = .ok (.dup, 1) := by decide +kernel
theorem dX13_lays_25 : decode cX13_lays 25 = .ok (.getfield 138, 3) := by decide +kernel
theorem dX13_lays_28 : decode cX13_lays 28 = .ok (.iconst 1, 1) := by decide +kernel
theorem dX13_lays_29 : decode cX13_lays 29 = .ok (.iadd, 1) := by decide +kernel
theorem dX13_lays_30 : decode cX13_lays 30 = .ok (.putfield 138, 3) := by decide +kernel
theorem dX13_lays_33 : decode cX13_lays 33 = .ok (.iinc 2 (-8), 3) := by decide +kernel
theorem dX13_lays_36 : decode cX13_lays 36 = .ok (.goto (-33), 3) := by decide +kernel
theorem dX13_lays_39 : decode cX13_lays 39 = .ok (.return_, 1) := by decide +kernel
theorem dX13_byteAt_0 : decode cX13_byteAt 0 = .ok (.iload_n 1, 1) := by decide +kernel
theorem dX13_byteAt_1 : decode cX13_byteAt 1 = .ok (.aload_n 0, 1) := by decide +kernel
theorem dX13_byteAt_2 : decode cX13_byteAt 2 = .ok (.getfield 145, 3) := by decide +kernel
theorem dX13_byteAt_5 : decode cX13_byteAt 5 = .ok (.if_icmp .ge 12, 3) := by decide +kernel
theorem dX13_byteAt_8 : decode cX13_byteAt 8 = .ok (.aload_n 0, 1) := by decide +kernel
theorem dX13_byteAt_9 : decode cX13_byteAt 9 = .ok (.getfield 37, 3) := by decide +kernel
theorem dX13_byteAt_12 : decode cX13_byteAt 12 = .ok (.iload_n 1, 1) := by decide +kernel
theorem dX13_byteAt_13 : decode cX13_byteAt 13 = .ok (.iaload, 1) := by decide +kernel
theorem dX13_byteAt_14 : decode cX13_byteAt 14 = .ok (.goto 4, 3) := by decide +kernel
theorem dX13_byteAt_17 : decode cX13_byteAt 17 = .ok (.iconst 0, 1) := by decide +kernel
theorem dX13_byteAt_18 : decode cX13_byteAt 18 = .ok (.ireturn, 1) := by decide +kernel
theorem dX13_isLetter_0 : decode cX13_isLetter 0 = .ok (.iload_n 0, 1) := by decide +kernel
theorem dX13_isLetter_1 : decode cX13_isLetter 1 = .ok (.bipush 97, 2) := by decide +kernel
theorem dX13_isLetter_3 : decode cX13_isLetter 3 = .ok (.if_icmp .lt 13, 3) := by decide +kernel
theorem dX13_isLetter_6 : decode cX13_isLetter 6 = .ok (.iload_n 0, 1) := by decide +kernel
theorem dX13_isLetter_7 : decode cX13_isLetter 7 = .ok (.bipush 122, 2) := by decide +kernel
theorem dX13_isLetter_9 : decode cX13_isLetter 9 = .ok (.if_icmp .gt 7, 3) := by decide +kernel
theorem dX13_isLetter_12 : decode cX13_isLetter 12 = .ok (.iconst 1, 1) := by decide +kernel
theorem dX13_isLetter_13 : decode cX13_isLetter 13 = .ok (.goto 4, 3) := by decide +kernel
theorem dX13_isLetter_16 : decode cX13_isLetter 16 = .ok (.iconst 0, 1) := by decide +kernel
theorem dX13_isLetter_17 : decode cX13_isLetter 17 = .ok (.ireturn, 1) := by decide +kernel
theorem dX13_isDigit_0 : decode cX13_isDigit 0 = .ok (.iload_n 0, 1) := by decide +kernel
theorem dX13_isDigit_1 : decode cX13_isDigit 1 = .ok (.bipush 48, 2) := by decide +kernel
theorem dX13_isDigit_3 : decode cX13_isDigit 3 = .ok (.if_icmp .lt 13, 3) := by decide +kernel
theorem dX13_isDigit_6 : decode cX13_isDigit 6 = .ok (.iload_n 0, 1) := by decide +kernel
theorem dX13_isDigit_7 : decode cX13_isDigit 7 = .ok (.bipush 57, 2) := by decide +kernel
theorem dX13_isDigit_9 : decode cX13_isDigit 9 = .ok (.if_icmp .gt 7, 3) := by decide +kernel
theorem dX13_isDigit_12 : decode cX13_isDigit 12 = .ok (.iconst 1, 1) := by decide +kernel
theorem dX13_isDigit_13 : decode cX13_isDigit 13 = .ok (.goto 4, 3) := by decide +kernel
theorem dX13_isDigit_16 : decode cX13_isDigit 16 = .ok (.iconst 0, 1) := by decide +kernel
theorem dX13_isDigit_17 : decode cX13_isDigit 17 = .ok (.ireturn, 1) := by decide +kernel
theorem dX13_steps_0 : decode cX13_steps 0 = .ok (.aload_n 0, 1) := by decide +kernel
theorem dX13_steps_1 : decode cX13_steps 1 = .ok (.getfield 148, 3) := by decide +kernel
theorem dX13_steps_4 : decode cX13_steps 4 = .ok (.aload_n 0, 1) := by decide +kernel
theorem dX13_steps_5 : decode cX13_steps 5 = .ok (.getfield 145, 3) := by decide +kernel
theorem dX13_steps_8 : decode cX13_steps 8 = .ok (.if_icmp .ge 42, 3) := by decide +kernel
theorem dX13_steps_11 : decode cX13_steps 11 = .ok (.aload_n 0, 1) := by decide +kernel
theorem dX13_steps_12 : decode cX13_steps 12 = .ok (.aload_n 0, 1) := by decide +kernel
theorem dX13_steps_13 : decode cX13_steps 13 = .ok (.getfield 148, 3) := by decide +kernel
theorem dX13_steps_16 : decode cX13_steps 16 = .ok (.invokevirtual 151, 3) := by decide +kernel
theorem dX13_steps_19 : decode cX13_steps 19 = .ok (.bipush 32, 2) := by decide +kernel
theorem dX13_steps_21 : decode cX13_steps 21 = .ok (.if_icmp .eq 16, 3) := by decide +kernel
theorem dX13_steps_24 : decode cX13_steps 24 = .ok (.aload_n 0, 1) := by decide +kernel
theorem dX13_steps_25 : decode cX13_steps 25 = .ok (.aload_n 0, 1) := by decide +kernel
theorem dX13_steps_26 : decode cX13_steps 26 = .ok (.getfield 148, 3) := by decide +kernel
theorem dX13_steps_29 : decode cX13_steps 29 = .ok (.invokevirtual 151, 3) := by decide +kernel
theorem dX13_steps_32 : decode cX13_steps 32 = .ok (.bipush 10, 2) := by decide +kernel
theorem dX13_steps_34 : decode cX13_steps 34 = .ok (.if_icmp .ne 16, 3) := by decide +kernel
theorem dX13_steps_37 : decode cX13_steps 37 = .ok (.aload_n 0, 1) := by decide +kernel
theorem dX13_steps_38 : decode cX13_steps 38 = .ok (.dup, 1) := by decide +kernel
theorem dX13_steps_39 : decode cX13_steps 39 = .ok (.getfield 148, 3) := by decide +kernel
theorem dX13_steps_42 : decode cX13_steps 42 = .ok (.iconst 1, 1) := by decide +kernel
theorem dX13_steps_43 : decode cX13_steps 43 = .ok (.iadd, 1) := by decide +kernel
theorem dX13_steps_44 : decode cX13_steps 44 = .ok (.putfield 148, 3) := by decide +kernel
theorem dX13_steps_47 : decode cX13_steps 47 = .ok (.goto (-47), 3) := by decide +kernel
theorem dX13_steps_50 : decode cX13_steps 50 = .ok (.aload_n 0, 1) := by decide +kernel
theorem dX13_steps_51 : decode cX13_steps 51 = .ok (.aload_n 0, 1) := by decide +kernel
theorem dX13_steps_52 : decode cX13_steps 52 = .ok (.getfield 148, 3) := by decide +kernel
theorem dX13_steps_55 : decode cX13_steps 55 = .ok (.putfield 155, 3) := by decide +kernel
theorem dX13_steps_58 : decode cX13_steps 58 = .ok (.aload_n 0, 1) := by decide +kernel
theorem dX13_steps_59 : decode cX13_steps 59 = .ok (.lconst 0, 1) := by decide +kernel
theorem dX13_steps_60 : decode cX13_steps 60 = .ok (.putfield 158, 3) := by decide +kernel
theorem dX13_steps_63 : decode cX13_steps 63 = .ok (.aload_n 0, 1) := by decide +kernel
theorem dX13_steps_64 : decode cX13_steps 64 = .ok (.iconst 0, 1) := by decide +kernel
theorem dX13_steps_65 : decode cX13_steps 65 = .ok (.putfield 162, 3) := by decide +kernel
theorem dX13_steps_68 : decode cX13_steps 68 = .ok (.aload_n 0, 1) := by decide +kernel
theorem dX13_steps_69 : decode cX13_steps 69 = .ok (.aload_n 0, 1) := by decide +kernel
theorem dX13_steps_70 : decode cX13_steps 70 = .ok (.getfield 148, 3) := by decide +kernel
theorem dX13_steps_73 : decode cX13_steps 73 = .ok (.invokevirtual 151, 3) := by decide +kernel
theorem dX13_steps_76 : decode cX13_steps 76 = .ok (.istore_n 1, 1) := by decide +kernel
theorem dX13_steps_77 : decode cX13_steps 77 = .ok (.aload_n 0, 1) := by decide +kernel
theorem dX13_steps_78 : decode cX13_steps 78 = .ok (.getfield 148, 3) := by decide +kernel
theorem dX13_steps_81 : decode cX13_steps 81 = .ok (.aload_n 0, 1) := by decide +kernel
theorem dX13_steps_82 : decode cX13_steps 82 = .ok (.getfield 145, 3) := by decide +kernel
theorem dX13_steps_85 : decode cX13_steps 85 = .ok (.if_icmp .lt 11, 3) := by decide +kernel
theorem dX13_steps_88 : decode cX13_steps 88 = .ok (.aload_n 0, 1) := by decide +kernel
theorem dX13_steps_89 : decode cX13_steps 89 = .ok (.iconst 0, 1) := by decide +kernel
theorem dX13_steps_90 : decode cX13_steps 90 = .ok (.putfield 165, 3) := by decide +kernel
theorem dX13_steps_93 : decode cX13_steps 93 = .ok (.goto 337, 3) := by decide +kernel
theorem dX13_steps_96 : decode cX13_steps 96 = .ok (.iload_n 1, 1) := by decide +kernel
theorem dX13_steps_97 : decode cX13_steps 97 = .ok (.invokestatic 168, 3) := by decide +kernel
theorem dX13_steps_100 : decode cX13_steps 100 = .ok (.ifCond .eq 75, 3) := by decide +kernel
theorem dX13_steps_103 : decode cX13_steps 103 = .ok (.aload_n 0, 1) := by decide +kernel
theorem dX13_steps_104 : decode cX13_steps 104 = .ok (.aload_n 0, 1) := by decide +kernel
theorem dX13_steps_105 : decode cX13_steps 105 = .ok (.getfield 148, 3) := by decide +kernel
theorem dX13_steps_108 : decode cX13_steps 108 = .ok (.invokevirtual 151, 3) := by decide +kernel
theorem dX13_steps_111 : decode cX13_steps 111 = .ok (.invokestatic 168, 3) := by decide +kernel
theorem dX13_steps_114 : decode cX13_steps 114 = .ok (.ifCond .eq 53, 3) := by decide +kernel
theorem dX13_steps_117 : decode cX13_steps 117 = .ok (.aload_n 0, 1) := by decide +kernel
theorem dX13_steps_118 : decode cX13_steps 118 = .ok (.getfield 148, 3) := by decide +kernel
theorem dX13_steps_121 : decode cX13_steps 121 = .ok (.aload_n 0, 1) := by decide +kernel
theorem dX13_steps_122 : decode cX13_steps 122 = .ok (.getfield 155, 3) := by decide +kernel
theorem dX13_steps_125 : decode cX13_steps 125 = .ok (.isub, 1) := by decide +kernel
theorem dX13_steps_126 : decode cX13_steps 126 = .ok (.bipush 8, 2) := by decide +kernel
theorem dX13_steps_128 : decode cX13_steps 128 = .ok (.if_icmp .ge 26, 3) := by decide +kernel
theorem dX13_steps_131 : decode cX13_steps 131 = .ok (.aload_n 0, 1) := by decide +kernel
theorem dX13_steps_132 : decode cX13_steps 132 = .ok (.aload_n 0, 1) := by decide +kernel
theorem dX13_steps_133 : decode cX13_steps 133 = .ok (.getfield 158, 3) := by decide +kernel
theorem dX13_steps_136 : decode cX13_steps 136 = .ok (.iconst 5, 1) := by decide +kernel
theorem dX13_steps_137 : decode cX13_steps 137 = .ok (.lshl, 1) := by decide +kernel
theorem dX13_steps_138 : decode cX13_steps 138 = .ok (.aload_n 0, 1) := by decide +kernel
theorem dX13_steps_139 : decode cX13_steps 139 = .ok (.aload_n 0, 1) := by decide +kernel
theorem dX13_steps_140 : decode cX13_steps 140 = .ok (.getfield 148, 3) := by decide +kernel
theorem dX13_steps_143 : decode cX13_steps 143 = .ok (.invokevirtual 151, 3) := by decide +kernel
theorem dX13_steps_146 : decode cX13_steps 146 = .ok (.bipush 96, 2) := by decide +kernel
theorem dX13_steps_148 : decode cX13_steps 148 = .ok (.isub, 1) := by decide +kernel
theorem dX13_steps_149 : decode cX13_steps 149 = .ok (.i2l, 1) := by decide +kernel
theorem dX13_steps_150 : decode cX13_steps 150 = .ok (.lor, 1) := by decide +kernel
theorem dX13_steps_151 : decode cX13_steps 151 = .ok (.putfield 158, 3) := by decide +kernel
theorem dX13_steps_154 : decode cX13_steps 154 = .ok (.aload_n 0, 1) := by decide +kernel
theorem dX13_steps_155 : decode cX13_steps 155 = .ok (.dup, 1) := by decide +kernel
theorem dX13_steps_156 : decode cX13_steps 156 = .ok (.getfield 148, 3) := by decide +kernel
theorem dX13_steps_159 : decode cX13_steps 159 = .ok (.iconst 1, 1) := by decide +kernel
theorem dX13_steps_160 : decode cX13_steps 160 = .ok (.iadd, 1) := by decide +kernel
theorem dX13_steps_161 : decode cX13_steps 161 = .ok (.putfield 148, 3) := by decide +kernel
theorem dX13_steps_164 : decode cX13_steps 164 = .ok (.goto (-61), 3) := by decide +kernel
theorem dX13_steps_167 : decode cX13_steps 167 = .ok (.aload_n 0, 1) := by decide +kernel
theorem dX13_steps_168 : decode cX13_steps 168 = .ok (.iconst 1, 1) := by decide +kernel
theorem dX13_steps_169 : decode cX13_steps 169 = .ok (.putfield 165, 3) := by decide +kernel
theorem dX13_steps_172 : decode cX13_steps 172 = .ok (.goto 258, 3) := by decide +kernel
theorem dX13_steps_175 : decode cX13_steps 175 = .ok (.iload_n 1, 1) := by decide +kernel
theorem dX13_steps_176 : decode cX13_steps 176 = .ok (.invokestatic 172, 3) := by decide +kernel
theorem dX13_steps_179 : decode cX13_steps 179 = .ok (.ifCond .eq 74, 3) := by decide +kernel
theorem dX13_steps_182 : decode cX13_steps 182 = .ok (.aload_n 0, 1) := by decide +kernel
theorem dX13_steps_183 : decode cX13_steps 183 = .ok (.aload_n 0, 1) := by decide +kernel
theorem dX13_steps_184 : decode cX13_steps 184 = .ok (.getfield 148, 3) := by decide +kernel
theorem dX13_steps_187 : decode cX13_steps 187 = .ok (.invokevirtual 151, 3) := by decide +kernel
theorem dX13_steps_190 : decode cX13_steps 190 = .ok (.invokestatic 172, 3) := by decide +kernel
theorem dX13_steps_193 : decode cX13_steps 193 = .ok (.ifCond .eq 52, 3) := by decide +kernel
theorem dX13_steps_196 : decode cX13_steps 196 = .ok (.aload_n 0, 1) := by decide +kernel
theorem dX13_steps_197 : decode cX13_steps 197 = .ok (.getfield 148, 3) := by decide +kernel
theorem dX13_steps_200 : decode cX13_steps 200 = .ok (.aload_n 0, 1) := by decide +kernel
theorem dX13_steps_201 : decode cX13_steps 201 = .ok (.getfield 155, 3) := by decide +kernel
theorem dX13_steps_204 : decode cX13_steps 204 = .ok (.isub, 1) := by decide +kernel
theorem dX13_steps_205 : decode cX13_steps 205 = .ok (.iconst 3, 1) := by decide +kernel
theorem dX13_steps_206 : decode cX13_steps 206 = .ok (.if_icmp .ge 26, 3) := by decide +kernel
theorem dX13_steps_209 : decode cX13_steps 209 = .ok (.aload_n 0, 1) := by decide +kernel
theorem dX13_steps_210 : decode cX13_steps 210 = .ok (.bipush 10, 2) := by decide +kernel
theorem dX13_steps_212 : decode cX13_steps 212 = .ok (.aload_n 0, 1) := by decide +kernel
theorem dX13_steps_213 : decode cX13_steps 213 = .ok (.getfield 162, 3) := by decide +kernel
theorem dX13_steps_216 : decode cX13_steps 216 = .ok (.imul, 1) := by decide +kernel
theorem dX13_steps_217 : decode cX13_steps 217 = .ok (.aload_n 0, 1) := by decide +kernel
theorem dX13_steps_218 : decode cX13_steps 218 = .ok (.aload_n 0, 1) := by decide +kernel
theorem dX13_steps_219 : decode cX13_steps 219 = .ok (.getfield 148, 3) := by decide +kernel
theorem dX13_steps_222 : decode cX13_steps 222 = .ok (.invokevirtual 151, 3) := by decide +kernel
theorem dX13_steps_225 : decode cX13_steps 225 = .ok (.iadd, 1) := by decide +kernel
theorem dX13_steps_226 : decode cX13_steps 226 = .ok (.bipush 48, 2) := by decide +kernel
theorem dX13_steps_228 : decode cX13_steps 228 = .ok (.isub, 1) := by decide +kernel
theorem dX13_steps_229 : decode cX13_steps 229 = .ok (.putfield 162, 3) := by decide +kernel
theorem dX13_steps_232 : decode cX13_steps 232 = .ok (.aload_n 0, 1) := by decide +kernel
theorem dX13_steps_233 : decode cX13_steps 233 = .ok (.dup, 1) := by decide +kernel
theorem dX13_steps_234 : decode cX13_steps 234 = .ok (.getfield 148, 3) := by decide +kernel
theorem dX13_steps_237 : decode cX13_steps 237 = .ok (.iconst 1, 1) := by decide +kernel
theorem dX13_steps_238 : decode cX13_steps 238 = .ok (.iadd, 1) := by decide +kernel
theorem dX13_steps_239 : decode cX13_steps 239 = .ok (.putfield 148, 3) := by decide +kernel
theorem dX13_steps_242 : decode cX13_steps 242 = .ok (.goto (-60), 3) := by decide +kernel
theorem dX13_steps_245 : decode cX13_steps 245 = .ok (.aload_n 0, 1) := by decide +kernel
theorem dX13_steps_246 : decode cX13_steps 246 = .ok (.iconst 2, 1) := by decide +kernel
theorem dX13_steps_247 : decode cX13_steps 247 = .ok (.putfield 165, 3) := by decide +kernel
theorem dX13_steps_250 : decode cX13_steps 250 = .ok (.goto 180, 3) := by decide +kernel
theorem dX13_steps_253 : decode cX13_steps 253 = .ok (.iload_n 1, 1) := by decide +kernel
theorem dX13_steps_254 : decode cX13_steps 254 = .ok (.bipush 35, 2) := by decide +kernel
theorem dX13_steps_256 : decode cX13_steps 256 = .ok (.if_icmp .ne 149, 3) := by decide +kernel
theorem dX13_steps_259 : decode cX13_steps 259 = .ok (.aload_n 0, 1) := by decide +kernel
theorem dX13_steps_260 : decode cX13_steps 260 = .ok (.dup, 1) := by decide +kernel
theorem dX13_steps_261 : decode cX13_steps 261 = .ok (.getfield 148, 3) := by decide +kernel
theorem dX13_steps_264 : decode cX13_steps 264 = .ok (.iconst 1, 1) := by decide +kernel
theorem dX13_steps_265 : decode cX13_steps 265 = .ok (.iadd, 1) := by decide +kernel
theorem dX13_steps_266 : decode cX13_steps 266 = .ok (.putfield 148, 3) := by decide +kernel
theorem dX13_steps_269 : decode cX13_steps 269 = .ok (.aload_n 0, 1) := by decide +kernel
theorem dX13_steps_270 : decode cX13_steps 270 = .ok (.aload_n 0, 1) := by decide +kernel
theorem dX13_steps_271 : decode cX13_steps 271 = .ok (.getfield 148, 3) := by decide +kernel
theorem dX13_steps_274 : decode cX13_steps 274 = .ok (.invokevirtual 151, 3) := by decide +kernel
theorem dX13_steps_277 : decode cX13_steps 277 = .ok (.invokestatic 168, 3) := by decide +kernel
theorem dX13_steps_280 : decode cX13_steps 280 = .ok (.ifCond .ne 17, 3) := by decide +kernel
theorem dX13_steps_283 : decode cX13_steps 283 = .ok (.aload_n 0, 1) := by decide +kernel
theorem dX13_steps_284 : decode cX13_steps 284 = .ok (.aload_n 0, 1) := by decide +kernel
theorem dX13_steps_285 : decode cX13_steps 285 = .ok (.getfield 148, 3) := by decide +kernel
theorem dX13_steps_288 : decode cX13_steps 288 = .ok (.invokevirtual 151, 3) := by decide +kernel
theorem dX13_steps_291 : decode cX13_steps 291 = .ok (.invokestatic 172, 3) := by decide +kernel
theorem dX13_steps_294 : decode cX13_steps 294 = .ok (.ifCond .eq 86, 3) := by decide +kernel
theorem dX13_steps_297 : decode cX13_steps 297 = .ok (.aload_n 0, 1) := by decide +kernel
theorem dX13_steps_298 : decode cX13_steps 298 = .ok (.aload_n 0, 1) := by decide +kernel
theorem dX13_steps_299 : decode cX13_steps 299 = .ok (.getfield 148, 3) := by decide +kernel
theorem dX13_steps_302 : decode cX13_steps 302 = .ok (.invokevirtual 151, 3) := by decide +kernel
theorem dX13_steps_305 : decode cX13_steps 305 = .ok (.invokestatic 172, 3) := by decide +kernel
theorem dX13_steps_308 : decode cX13_steps 308 = .ok (.ifCond .eq 17, 3) := by decide +kernel
theorem dX13_steps_311 : decode cX13_steps 311 = .ok (.aload_n 0, 1) := by decide +kernel
theorem dX13_steps_312 : decode cX13_steps 312 = .ok (.aload_n 0, 1) := by decide +kernel
theorem dX13_steps_313 : decode cX13_steps 313 = .ok (.getfield 148, 3) := by decide +kernel
theorem dX13_steps_316 : decode cX13_steps 316 = .ok (.invokevirtual 151, 3) := by decide +kernel
theorem dX13_steps_319 : decode cX13_steps 319 = .ok (.bipush 48, 2) := by decide +kernel
theorem dX13_steps_321 : decode cX13_steps 321 = .ok (.isub, 1) := by decide +kernel
theorem dX13_steps_322 : decode cX13_steps 322 = .ok (.goto 14, 3) := by decide +kernel
theorem dX13_steps_325 : decode cX13_steps 325 = .ok (.aload_n 0, 1) := by decide +kernel
theorem dX13_steps_326 : decode cX13_steps 326 = .ok (.aload_n 0, 1) := by decide +kernel
theorem dX13_steps_327 : decode cX13_steps 327 = .ok (.getfield 148, 3) := by decide +kernel
theorem dX13_steps_330 : decode cX13_steps 330 = .ok (.invokevirtual 151, 3) := by decide +kernel
theorem dX13_steps_333 : decode cX13_steps 333 = .ok (.bipush 87, 2) := by decide +kernel
theorem dX13_steps_335 : decode cX13_steps 335 = .ok (.isub, 1) := by decide +kernel
theorem dX13_steps_336 : decode cX13_steps 336 = .ok (.istore_n 2, 1) := by decide +kernel
theorem dX13_steps_337 : decode cX13_steps 337 = .ok (.aload_n 0, 1) := by decide +kernel
theorem dX13_steps_338 : decode cX13_steps 338 = .ok (.getfield 148, 3) := by decide +kernel
theorem dX13_steps_341 : decode cX13_steps 341 = .ok (.aload_n 0, 1) := by decide +kernel
theorem dX13_steps_342 : decode cX13_steps 342 = .ok (.getfield 155, 3) := by decide +kernel
theorem dX13_steps_345 : decode cX13_steps 345 = .ok (.isub, 1) := by decide +kernel
theorem dX13_steps_346 : decode cX13_steps 346 = .ok (.iconst 5, 1) := by decide +kernel
theorem dX13_steps_347 : decode cX13_steps 347 = .ok (.if_icmp .gt 20, 3) := by decide +kernel
theorem dX13_steps_350 : decode cX13_steps 350 = .ok (.aload_n 0, 1) := by decide +kernel
theorem dX13_steps_351 : decode cX13_steps 351 = .ok (.getfield 47, 3) := by decide +kernel
theorem dX13_steps_354 : decode cX13_steps 354 = .ok (.aload_n 0, 1) := by decide +kernel
theorem dX13_steps_355 : decode cX13_steps 355 = .ok (.getfield 148, 3) := by decide +kernel
theorem dX13_steps_358 : decode cX13_steps 358 = .ok (.aload_n 0, 1) := by decide +kernel
theorem dX13_steps_359 : decode cX13_steps 359 = .ok (.getfield 155, 3) := by decide +kernel
theorem dX13_steps_362 : decode cX13_steps 362 = .ok (.isub, 1) := by decide +kernel
theorem dX13_steps_363 : decode cX13_steps 363 = .ok (.iconst 1, 1) := by decide +kernel
theorem dX13_steps_364 : decode cX13_steps 364 = .ok (.isub, 1) := by decide +kernel
theorem dX13_steps_365 : decode cX13_steps 365 = .ok (.iload_n 2, 1) := by decide +kernel
theorem dX13_steps_366 : decode cX13_steps 366 = .ok (.iastore, 1) := by decide +kernel
theorem dX13_steps_367 : decode cX13_steps 367 = .ok (.aload_n 0, 1) := by decide +kernel
theorem dX13_steps_368 : decode cX13_steps 368 = .ok (.dup, 1) := by decide +kernel
theorem dX13_steps_369 : decode cX13_steps 369 = .ok (.getfield 148, 3) := by decide +kernel
theorem dX13_steps_372 : decode cX13_steps 372 = .ok (.iconst 1, 1) := by decide +kernel
theorem dX13_steps_373 : decode cX13_steps 373 = .ok (.iadd, 1) := by decide +kernel
theorem dX13_steps_374 : decode cX13_steps 374 = .ok (.putfield 148, 3) := by decide +kernel
theorem dX13_steps_377 : decode cX13_steps 377 = .ok (.goto (-108), 3) := by decide +kernel
theorem dX13_steps_380 : decode cX13_steps 380 = .ok (.aload_n 0, 1) := by decide +kernel
theorem dX13_steps_381 : decode cX13_steps 381 = .ok (.aload_n 0, 1) := by decide +kernel
theorem dX13_steps_382 : decode cX13_steps 382 = .ok (.getfield 148, 3) := by decide +kernel
theorem dX13_steps_385 : decode cX13_steps 385 = .ok (.aload_n 0, 1) := by decide +kernel
theorem dX13_steps_386 : decode cX13_steps 386 = .ok (.getfield 155, 3) := by decide +kernel
theorem dX13_steps_389 : decode cX13_steps 389 = .ok (.isub, 1) := by decide +kernel
theorem dX13_steps_390 : decode cX13_steps 390 = .ok (.iconst 1, 1) := by decide +kernel
theorem dX13_steps_391 : decode cX13_steps 391 = .ok (.if_icmp .le 7, 3) := by decide +kernel
theorem dX13_steps_394 : decode cX13_steps 394 = .ok (.iconst 3, 1) := by decide +kernel
theorem dX13_steps_395 : decode cX13_steps 395 = .ok (.goto 4, 3) := by decide +kernel
theorem dX13_steps_398 : decode cX13_steps 398 = .ok (.iconst 5, 1) := by decide +kernel
theorem dX13_steps_399 : decode cX13_steps 399 = .ok (.putfield 165, 3) := by decide +kernel
theorem dX13_steps_402 : decode cX13_steps 402 = .ok (.goto 28, 3) := by decide +kernel
theorem dX13_steps_405 : decode cX13_steps 405 = .ok (.aload_n 0, 1) := by decide +kernel
theorem dX13_steps_406 : decode cX13_steps 406 = .ok (.dup, 1) := by decide +kernel
theorem dX13_steps_407 : decode cX13_steps 407 = .ok (.getfield 148, 3) := by decide +kernel
theorem dX13_steps_410 : decode cX13_steps 410 = .ok (.iconst 1, 1) := by decide +kernel
theorem dX13_steps_411 : decode cX13_steps 411 = .ok (.iadd, 1) := by decide +kernel
theorem dX13_steps_412 : decode cX13_steps 412 = .ok (.putfield 148, 3) := by decide +kernel
theorem dX13_steps_415 : decode cX13_steps 415 = .ok (.aload_n 0, 1) := by decide +kernel
theorem dX13_steps_416 : decode cX13_steps 416 = .ok (.iload_n 1, 1) := by decide +kernel
theorem dX13_steps_417 : decode cX13_steps 417 = .ok (.bipush 59, 2) := by decide +kernel
theorem dX13_steps_419 : decode cX13_steps 419 = .ok (.if_icmp .ne 7, 3) := by decide +kernel
theorem dX13_steps_422 : decode cX13_steps 422 = .ok (.iconst 4, 1) := by decide +kernel
theorem dX13_steps_423 : decode cX13_steps 423 = .ok (.goto 4, 3) := by decide +kernel
theorem dX13_steps_426 : decode cX13_steps 426 = .ok (.iconst 5, 1) := by decide +kernel
theorem dX13_steps_427 : decode cX13_steps 427 = .ok (.putfield 165, 3) := by decide +kernel
theorem dX13_steps_430 : decode cX13_steps 430 = .ok (.aload_n 0, 1) := by decide +kernel
theorem dX13_steps_431 : decode cX13_steps 431 = .ok (.aload_n 0, 1) := by decide +kernel
theorem dX13_steps_432 : decode cX13_steps 432 = .ok (.getfield 148, 3) := by decide +kernel
theorem dX13_steps_435 : decode cX13_steps 435 = .ok (.aload_n 0, 1) := by decide +kernel
theorem dX13_steps_436 : decode cX13_steps 436 = .ok (.getfield 155, 3) := by decide +kernel
theorem dX13_steps_439 : decode cX13_steps 439 = .ok (.isub, 1) := by decide +kernel
theorem dX13_steps_440 : decode cX13_steps 440 = .ok (.putfield 175, 3) := by decide +kernel
theorem dX13_steps_443 : decode cX13_steps 443 = .ok (.return_, 1) := by decide +kernel
theorem dX13_spelled_0 : decode cX13_spelled 0 = .ok (.iload_n 0, 1) := by decide +kernel
theorem dX13_spelled_1 : decode cX13_spelled 1 = .ok (.i2l, 1) := by decide +kernel
theorem dX13_spelled_2 : decode cX13_spelled 2 = .ok (.ldc2_w 178, 3) := by decide +kernel
theorem dX13_spelled_5 : decode cX13_spelled 5 = .ok (.lsub, 1) := by decide +kernel
theorem dX13_spelled_6 : decode cX13_spelled 6 = .ok (.bipush 10, 2) := by decide +kernel
theorem dX13_spelled_8 : decode cX13_spelled 8 = .ok (.lshl, 1) := by decide +kernel
theorem dX13_spelled_9 : decode cX13_spelled 9 = .ok (.iload_n 1, 1) := by decide +kernel
theorem dX13_spelled_10 : decode cX13_spelled 10 = .ok (.i2l, 1) := by decide +kernel
theorem dX13_spelled_11 : decode cX13_spelled 11 = .ok (.ldc2_w 178, 3) := by decide +kernel
theorem dX13_spelled_14 : decode cX13_spelled 14 = .ok (.lsub, 1) := by decide +kernel
theorem dX13_spelled_15 : decode cX13_spelled 15 = .ok (.iconst 5, 1) := by decide +kernel
theorem dX13_spelled_16 : decode cX13_spelled 16 = .ok (.lshl, 1) := by decide +kernel
theorem dX13_spelled_17 : decode cX13_spelled 17 = .ok (.lor, 1) := by decide +kernel
theorem dX13_spelled_18 : decode cX13_spelled 18 = .ok (.iload_n 2, 1) := by decide +kernel
theorem dX13_spelled_19 : decode cX13_spelled 19 = .ok (.bipush 96, 2) := by decide +kernel
theorem dX13_spelled_21 : decode cX13_spelled 21 = .ok (.isub, 1) := by decide +kernel
theorem dX13_spelled_22 : decode cX13_spelled 22 = .ok (.i2l, 1) := by decide +kernel
theorem dX13_spelled_23 : decode cX13_spelled 23 = .ok (.lor, 1) := by decide +kernel
theorem dX13_spelled_24 : decode cX13_spelled 24 = .ok (.lstore 8, 2) := by decide +kernel
theorem dX13_spelled_26 : decode cX13_spelled 26 = .ok (.iload_n 3, 1) := by decide +kernel
theorem dX13_spelled_27 : decode cX13_spelled 27 = .ok (.ifCond .eq 15, 3) := by decide +kernel
theorem dX13_spelled_30 : decode cX13_spelled 30 = .ok (.lload 8, 2) := by decide +kernel
theorem dX13_spelled_32 : decode cX13_spelled 32 = .ok (.iconst 5, 1) := by decide +kernel
theorem dX13_spelled_33 : decode cX13_spelled 33 = .ok (.lshl, 1) := by decide +kernel
theorem dX13_spelled_34 : decode cX13_spelled 34 = .ok (.iload_n 3, 1) := by decide +kernel
theorem dX13_spelled_35 : decode cX13_spelled 35 = .ok (.bipush 96, 2) := by decide +kernel
theorem dX13_spelled_37 : decode cX13_spelled 37 = .ok (.isub, 1) := by decide +kernel
theorem dX13_spelled_38 : decode cX13_spelled 38 = .ok (.i2l, 1) := by decide +kernel
theorem dX13_spelled_39 : decode cX13_spelled 39 = .ok (.lor, 1) := by decide +kernel
theorem dX13_spelled_40 : decode cX13_spelled 40 = .ok (.lstore 8, 2) := by decide +kernel
theorem dX13_spelled_42 : decode cX13_spelled 42 = .ok (.iload 4, 2) := by decide +kernel
theorem dX13_spelled_44 : decode cX13_spelled 44 = .ok (.ifCond .eq 16, 3) := by decide +kernel
theorem dX13_spelled_47 : decode cX13_spelled 47 = .ok (.lload 8, 2) := by decide +kernel
theorem dX13_spelled_49 : decode cX13_spelled 49 = .ok (.iconst 5, 1) := by decide +kernel
theorem dX13_spelled_50 : decode cX13_spelled 50 = .ok (.lshl, 1) := by decide +kernel
theorem dX13_spelled_51 : decode cX13_spelled 51 = .ok (.iload 4, 2) := by decide +kernel
theorem dX13_spelled_53 : decode cX13_spelled 53 = .ok (.bipush 96, 2) := by decide +kernel
theorem dX13_spelled_55 : decode cX13_spelled 55 = .ok (.isub, 1) := by decide +kernel
theorem dX13_spelled_56 : decode cX13_spelled 56 = .ok (.i2l, 1) := by decide +kernel
theorem dX13_spelled_57 : decode cX13_spelled 57 = .ok (.lor, 1) := by decide +kernel
theorem dX13_spelled_58 : decode cX13_spelled 58 = .ok (.lstore 8, 2) := by decide +kernel
theorem dX13_spelled_60 : decode cX13_spelled 60 = .ok (.iload 5, 2) := by decide +kernel
theorem dX13_spelled_62 : decode cX13_spelled 62 = .ok (.ifCond .eq 16, 3) := by decide +kernel
theorem dX13_spelled_65 : decode cX13_spelled 65 = .ok (.lload 8, 2) := by decide +kernel
theorem dX13_spelled_67 : decode cX13_spelled 67 = .ok (.iconst 5, 1) := by decide +kernel
theorem dX13_spelled_68 : decode cX13_spelled 68 = .ok (.lshl, 1) := by decide +kernel
theorem dX13_spelled_69 : decode cX13_spelled 69 = .ok (.iload 5, 2) := by decide +kernel
theorem dX13_spelled_71 : decode cX13_spelled 71 = .ok (.bipush 96, 2) := by decide +kernel
theorem dX13_spelled_73 : decode cX13_spelled 73 = .ok (.isub, 1) := by decide +kernel
theorem dX13_spelled_74 : decode cX13_spelled 74 = .ok (.i2l, 1) := by decide +kernel
theorem dX13_spelled_75 : decode cX13_spelled 75 = .ok (.lor, 1) := by decide +kernel
theorem dX13_spelled_76 : decode cX13_spelled 76 = .ok (.lstore 8, 2) := by decide +kernel
theorem dX13_spelled_78 : decode cX13_spelled 78 = .ok (.iload 6, 2) := by decide +kernel
theorem dX13_spelled_80 : decode cX13_spelled 80 = .ok (.ifCond .eq 16, 3) := by decide +kernel
theorem dX13_spelled_83 : decode cX13_spelled 83 = .ok (.lload 8, 2) := by decide +kernel
theorem dX13_spelled_85 : decode cX13_spelled 85 = .ok (.iconst 5, 1) := by decide +kernel
theorem dX13_spelled_86 : decode cX13_spelled 86 = .ok (.lshl, 1) := by decide +kernel
theorem dX13_spelled_87 : decode cX13_spelled 87 = .ok (.iload 6, 2) := by decide +kernel
theorem dX13_spelled_89 : decode cX13_spelled 89 = .ok (.bipush 96, 2) := by decide +kernel
theorem dX13_spelled_91 : decode cX13_spelled 91 = .ok (.isub, 1) := by decide +kernel
theorem dX13_spelled_92 : decode cX13_spelled 92 = .ok (.i2l, 1) := by decide +kernel
theorem dX13_spelled_93 : decode cX13_spelled 93 = .ok (.lor, 1) := by decide +kernel
theorem dX13_spelled_94 : decode cX13_spelled 94 = .ok (.lstore 8, 2) := by decide +kernel
theorem dX13_spelled_96 : decode cX13_spelled 96 = .ok (.iload 7, 2) := by decide +kernel
theorem dX13_spelled_98 : decode cX13_spelled 98 = .ok (.ifCond .eq 16, 3) := by decide +kernel
theorem dX13_spelled_101 : decode cX13_spelled 101 = .ok (.lload 8, 2) := by decide +kernel
theorem dX13_spelled_103 : decode cX13_spelled 103 = .ok (.iconst 5, 1) := by decide +kernel
theorem dX13_spelled_104 : decode cX13_spelled 104 = .ok (.lshl, 1) := by decide +kernel
theorem dX13_spelled_105 : decode cX13_spelled 105 = .ok (.iload 7, 2) := by decide +kernel
theorem dX13_spelled_107 : decode cX13_spelled 107 = .ok (.bipush 96, 2) := by decide +kernel
theorem dX13_spelled_109 : decode cX13_spelled 109 = .ok (.isub, 1) := by decide +kernel
theorem dX13_spelled_110 : decode cX13_spelled 110 = .ok (.i2l, 1) := by decide +kernel
theorem dX13_spelled_111 : decode cX13_spelled 111 = .ok (.lor, 1) := by decide +kernel
theorem dX13_spelled_112 : decode cX13_spelled 112 = .ok (.lstore 8, 2) := by decide +kernel
theorem dX13_spelled_114 : decode cX13_spelled 114 = .ok (.lload 8, 2) := by decide +kernel
theorem dX13_spelled_116 : decode cX13_spelled 116 = .ok (.lreturn, 1) := by decide +kernel
theorem dX13_letters_0 : decode cX13_letters 0 = .ok (.iload_n 0, 1) := by decide +kernel
theorem dX13_letters_1 : decode cX13_letters 1 = .ok (.tableswitch 300 0 13 #[71, 87, 104, 120, 138, 156, 171, 188, 204, 221, 238, 254, 269, 285], 71) := by decide +kernel
theorem dX13_letters_72 : decode cX13_letters 72 = .ok (.bipush 98, 2) := by decide +kernel
theorem dX13_letters_74 : decode cX13_letters 74 = .ok (.bipush 111, 2) := by decide +kernel
theorem dX13_letters_76 : decode cX13_letters 76 = .ok (.bipush 114, 2) := by decide +kernel
theorem dX13_letters_78 : decode cX13_letters 78 = .ok (.bipush 110, 2) := by decide +kernel
theorem dX13_letters_80 : decode cX13_letters 80 = .ok (.iconst 0, 1) := by decide +kernel
theorem dX13_letters_81 : decode cX13_letters 81 = .ok (.iconst 0, 1) := by decide +kernel
theorem dX13_letters_82 : decode cX13_letters 82 = .ok (.iconst 0, 1) := by decide +kernel
theorem dX13_letters_83 : decode cX13_letters 83 = .ok (.iconst 0, 1) := by decide +kernel
theorem dX13_letters_84 : decode cX13_letters 84 = .ok (.invokestatic 180, 3) := by decide +kernel
theorem dX13_letters_87 : decode cX13_letters 87 = .ok (.lreturn, 1) := by decide +kernel
theorem dX13_letters_88 : decode cX13_letters 88 = .ok (.bipush 101, 2) := by decide +kernel
theorem dX13_letters_90 : decode cX13_letters 90 = .ok (.bipush 97, 2) := by decide +kernel
theorem dX13_letters_92 : decode cX13_letters 92 = .ok (.bipush 116, 2) := by decide +kernel
theorem dX13_letters_94 : decode cX13_letters 94 = .ok (.bipush 101, 2) := by decide +kernel
theorem dX13_letters_96 : decode cX13_letters 96 = .ok (.bipush 110, 2) := by decide +kernel
theorem dX13_letters_98 : decode cX13_letters 98 = .ok (.iconst 0, 1) := by decide +kernel
theorem dX13_letters_99 : decode cX13_letters 99 = .ok (.iconst 0, 1) := by decide +kernel
theorem dX13_letters_100 : decode cX13_letters 100 = .ok (.iconst 0, 1) := by decide +kernel
theorem dX13_letters_101 : decode cX13_letters 101 = .ok (.invokestatic 180, 3) := by decide +kernel
theorem dX13_letters_104 : decode cX13_letters 104 = .ok (.lreturn, 1) := by decide +kernel
theorem dX13_letters_105 : decode cX13_letters 105 = .ok (.bipush 108, 2) := by decide +kernel
theorem dX13_letters_107 : decode cX13_letters 107 = .ok (.bipush 101, 2) := by decide +kernel
theorem dX13_letters_109 : decode cX13_letters 109 = .ok (.bipush 110, 2) := by decide +kernel
theorem dX13_letters_111 : decode cX13_letters 111 = .ok (.bipush 116, 2) := by decide +kernel
theorem dX13_letters_113 : decode cX13_letters 113 = .ok (.iconst 0, 1) := by decide +kernel
theorem dX13_letters_114 : decode cX13_letters 114 = .ok (.iconst 0, 1) := by decide +kernel
theorem dX13_letters_115 : decode cX13_letters 115 = .ok (.iconst 0, 1) := by decide +kernel
theorem dX13_letters_116 : decode cX13_letters 116 = .ok (.iconst 0, 1) := by decide +kernel
theorem dX13_letters_117 : decode cX13_letters 117 = .ok (.invokestatic 180, 3) := by decide +kernel
theorem dX13_letters_120 : decode cX13_letters 120 = .ok (.lreturn, 1) := by decide +kernel
theorem dX13_letters_121 : decode cX13_letters 121 = .ok (.bipush 104, 2) := by decide +kernel
theorem dX13_letters_123 : decode cX13_letters 123 = .ok (.bipush 105, 2) := by decide +kernel
theorem dX13_letters_125 : decode cX13_letters 125 = .ok (.bipush 100, 2) := by decide +kernel
theorem dX13_letters_127 : decode cX13_letters 127 = .ok (.bipush 100, 2) := by decide +kernel
theorem dX13_letters_129 : decode cX13_letters 129 = .ok (.bipush 101, 2) := by decide +kernel
theorem dX13_letters_131 : decode cX13_letters 131 = .ok (.bipush 110, 2) := by decide +kernel
theorem dX13_letters_133 : decode cX13_letters 133 = .ok (.iconst 0, 1) := by decide +kernel
theorem dX13_letters_134 : decode cX13_letters 134 = .ok (.iconst 0, 1) := by decide +kernel
theorem dX13_letters_135 : decode cX13_letters 135 = .ok (.invokestatic 180, 3) := by decide +kernel
theorem dX13_letters_138 : decode cX13_letters 138 = .ok (.lreturn, 1) := by decide +kernel
theorem dX13_letters_139 : decode cX13_letters 139 = .ok (.bipush 99, 2) := by decide +kernel
theorem dX13_letters_141 : decode cX13_letters 141 = .ok (.bipush 101, 2) := by decide +kernel
theorem dX13_letters_143 : decode cX13_letters 143 = .ok (.bipush 110, 2) := by decide +kernel
theorem dX13_letters_145 : decode cX13_letters 145 = .ok (.bipush 115, 2) := by decide +kernel
theorem dX13_letters_147 : decode cX13_letters 147 = .ok (.bipush 117, 2) := by decide +kernel
theorem dX13_letters_149 : decode cX13_letters 149 = .ok (.bipush 115, 2) := by decide +kernel
theorem dX13_letters_151 : decode cX13_letters 151 = .ok (.iconst 0, 1) := by decide +kernel
theorem dX13_letters_152 : decode cX13_letters 152 = .ok (.iconst 0, 1) := by decide +kernel
theorem dX13_letters_153 : decode cX13_letters 153 = .ok (.invokestatic 180, 3) := by decide +kernel
theorem dX13_letters_156 : decode cX13_letters 156 = .ok (.lreturn, 1) := by decide +kernel
theorem dX13_letters_157 : decode cX13_letters 157 = .ok (.bipush 114, 2) := by decide +kernel
theorem dX13_letters_159 : decode cX13_letters 159 = .ok (.bipush 117, 2) := by decide +kernel
theorem dX13_letters_161 : decode cX13_letters 161 = .ok (.bipush 98, 2) := by decide +kernel
theorem dX13_letters_163 : decode cX13_letters 163 = .ok (.iconst 0, 1) := by decide +kernel
theorem dX13_letters_164 : decode cX13_letters 164 = .ok (.iconst 0, 1) := by decide +kernel
theorem dX13_letters_165 : decode cX13_letters 165 = .ok (.iconst 0, 1) := by decide +kernel
theorem dX13_letters_166 : decode cX13_letters 166 = .ok (.iconst 0, 1) := by decide +kernel
theorem dX13_letters_167 : decode cX13_letters 167 = .ok (.iconst 0, 1) := by decide +kernel
theorem dX13_letters_168 : decode cX13_letters 168 = .ok (.invokestatic 180, 3) := by decide +kernel
theorem dX13_letters_171 : decode cX13_letters 171 = .ok (.lreturn, 1) := by decide +kernel
theorem dX13_letters_172 : decode cX13_letters 172 = .ok (.bipush 119, 2) := by decide +kernel
theorem dX13_letters_174 : decode cX13_letters 174 = .ok (.bipush 114, 2) := by decide +kernel
theorem dX13_letters_176 : decode cX13_letters 176 = .ok (.bipush 105, 2) := by decide +kernel
theorem dX13_letters_178 : decode cX13_letters 178 = .ok (.bipush 116, 2) := by decide +kernel
theorem dX13_letters_180 : decode cX13_letters 180 = .ok (.bipush 101, 2) := by decide +kernel
theorem dX13_letters_182 : decode cX13_letters 182 = .ok (.iconst 0, 1) := by decide +kernel
theorem dX13_letters_183 : decode cX13_letters 183 = .ok (.iconst 0, 1) := by decide +kernel
theorem dX13_letters_184 : decode cX13_letters 184 = .ok (.iconst 0, 1) := by decide +kernel
theorem dX13_letters_185 : decode cX13_letters 185 = .ok (.invokestatic 180, 3) := by decide +kernel
theorem dX13_letters_188 : decode cX13_letters 188 = .ok (.lreturn, 1) := by decide +kernel
theorem dX13_letters_189 : decode cX13_letters 189 = .ok (.bipush 115, 2) := by decide +kernel
theorem dX13_letters_191 : decode cX13_letters 191 = .ok (.bipush 119, 2) := by decide +kernel
theorem dX13_letters_193 : decode cX13_letters 193 = .ok (.bipush 97, 2) := by decide +kernel
theorem dX13_letters_195 : decode cX13_letters 195 = .ok (.bipush 112, 2) := by decide +kernel
theorem dX13_letters_197 : decode cX13_letters 197 = .ok (.iconst 0, 1) := by decide +kernel
theorem dX13_letters_198 : decode cX13_letters 198 = .ok (.iconst 0, 1) := by decide +kernel
theorem dX13_letters_199 : decode cX13_letters 199 = .ok (.iconst 0, 1) := by decide +kernel
theorem dX13_letters_200 : decode cX13_letters 200 = .ok (.iconst 0, 1) := by decide +kernel
theorem dX13_letters_201 : decode cX13_letters 201 = .ok (.invokestatic 180, 3) := by decide +kernel
theorem dX13_letters_204 : decode cX13_letters 204 = .ok (.lreturn, 1) := by decide +kernel
theorem dX13_letters_205 : decode cX13_letters 205 = .ok (.bipush 111, 2) := by decide +kernel
theorem dX13_letters_207 : decode cX13_letters 207 = .ok (.bipush 119, 2) := by decide +kernel
theorem dX13_letters_209 : decode cX13_letters 209 = .ok (.bipush 110, 2) := by decide +kernel
theorem dX13_letters_211 : decode cX13_letters 211 = .ok (.bipush 101, 2) := by decide +kernel
theorem dX13_letters_213 : decode cX13_letters 213 = .ok (.bipush 114, 2) := by decide +kernel
theorem dX13_letters_215 : decode cX13_letters 215 = .ok (.iconst 0, 1) := by decide +kernel
theorem dX13_letters_216 : decode cX13_letters 216 = .ok (.iconst 0, 1) := by decide +kernel
theorem dX13_letters_217 : decode cX13_letters 217 = .ok (.iconst 0, 1) := by decide +kernel
theorem dX13_letters_218 : decode cX13_letters 218 = .ok (.invokestatic 180, 3) := by decide +kernel
theorem dX13_letters_221 : decode cX13_letters 221 = .ok (.lreturn, 1) := by decide +kernel
theorem dX13_letters_222 : decode cX13_letters 222 = .ok (.bipush 104, 2) := by decide +kernel
theorem dX13_letters_224 : decode cX13_letters 224 = .ok (.bipush 105, 2) := by decide +kernel
theorem dX13_letters_226 : decode cX13_letters 226 = .ok (.bipush 100, 2) := by decide +kernel
theorem dX13_letters_228 : decode cX13_letters 228 = .ok (.bipush 101, 2) := by decide +kernel
theorem dX13_letters_230 : decode cX13_letters 230 = .ok (.bipush 115, 2) := by decide +kernel
theorem dX13_letters_232 : decode cX13_letters 232 = .ok (.iconst 0, 1) := by decide +kernel
theorem dX13_letters_233 : decode cX13_letters 233 = .ok (.iconst 0, 1) := by decide +kernel
theorem dX13_letters_234 : decode cX13_letters 234 = .ok (.iconst 0, 1) := by decide +kernel
theorem dX13_letters_235 : decode cX13_letters 235 = .ok (.invokestatic 180, 3) := by decide +kernel
theorem dX13_letters_238 : decode cX13_letters 238 = .ok (.lreturn, 1) := by decide +kernel
theorem dX13_letters_239 : decode cX13_letters 239 = .ok (.bipush 100, 2) := by decide +kernel
theorem dX13_letters_241 : decode cX13_letters 241 = .ok (.bipush 111, 2) := by decide +kernel
theorem dX13_letters_243 : decode cX13_letters 243 = .ok (.bipush 111, 2) := by decide +kernel
theorem dX13_letters_245 : decode cX13_letters 245 = .ok (.bipush 114, 2) := by decide +kernel
theorem dX13_letters_247 : decode cX13_letters 247 = .ok (.iconst 0, 1) := by decide +kernel
theorem dX13_letters_248 : decode cX13_letters 248 = .ok (.iconst 0, 1) := by decide +kernel
theorem dX13_letters_249 : decode cX13_letters 249 = .ok (.iconst 0, 1) := by decide +kernel
theorem dX13_letters_250 : decode cX13_letters 250 = .ok (.iconst 0, 1) := by decide +kernel
theorem dX13_letters_251 : decode cX13_letters 251 = .ok (.invokestatic 180, 3) := by decide +kernel
theorem dX13_letters_254 : decode cX13_letters 254 = .ok (.lreturn, 1) := by decide +kernel
theorem dX13_letters_255 : decode cX13_letters 255 = .ok (.bipush 108, 2) := by decide +kernel
theorem dX13_letters_257 : decode cX13_letters 257 = .ok (.bipush 97, 2) := by decide +kernel
theorem dX13_letters_259 : decode cX13_letters 259 = .ok (.bipush 119, 2) := by decide +kernel
theorem dX13_letters_261 : decode cX13_letters 261 = .ok (.iconst 0, 1) := by decide +kernel
theorem dX13_letters_262 : decode cX13_letters 262 = .ok (.iconst 0, 1) := by decide +kernel
theorem dX13_letters_263 : decode cX13_letters 263 = .ok (.iconst 0, 1) := by decide +kernel
theorem dX13_letters_264 : decode cX13_letters 264 = .ok (.iconst 0, 1) := by decide +kernel
theorem dX13_letters_265 : decode cX13_letters 265 = .ok (.iconst 0, 1) := by decide +kernel
theorem dX13_letters_266 : decode cX13_letters 266 = .ok (.invokestatic 180, 3) := by decide +kernel
theorem dX13_letters_269 : decode cX13_letters 269 = .ok (.lreturn, 1) := by decide +kernel
theorem dX13_letters_270 : decode cX13_letters 270 = .ok (.bipush 118, 2) := by decide +kernel
theorem dX13_letters_272 : decode cX13_letters 272 = .ok (.bipush 111, 2) := by decide +kernel
theorem dX13_letters_274 : decode cX13_letters 274 = .ok (.bipush 105, 2) := by decide +kernel
theorem dX13_letters_276 : decode cX13_letters 276 = .ok (.bipush 100, 2) := by decide +kernel
theorem dX13_letters_278 : decode cX13_letters 278 = .ok (.iconst 0, 1) := by decide +kernel
theorem dX13_letters_279 : decode cX13_letters 279 = .ok (.iconst 0, 1) := by decide +kernel
theorem dX13_letters_280 : decode cX13_letters 280 = .ok (.iconst 0, 1) := by decide +kernel
theorem dX13_letters_281 : decode cX13_letters 281 = .ok (.iconst 0, 1) := by decide +kernel
theorem dX13_letters_282 : decode cX13_letters 282 = .ok (.invokestatic 180, 3) := by decide +kernel
theorem dX13_letters_285 : decode cX13_letters 285 = .ok (.lreturn, 1) := by decide +kernel
theorem dX13_letters_286 : decode cX13_letters 286 = .ok (.bipush 100, 2) := by decide +kernel
theorem dX13_letters_288 : decode cX13_letters 288 = .ok (.bipush 117, 2) := by decide +kernel
theorem dX13_letters_290 : decode cX13_letters 290 = .ok (.bipush 101, 2) := by decide +kernel
theorem dX13_letters_292 : decode cX13_letters 292 = .ok (.iconst 0, 1) := by decide +kernel
theorem dX13_letters_293 : decode cX13_letters 293 = .ok (.iconst 0, 1) := by decide +kernel
theorem dX13_letters_294 : decode cX13_letters 294 = .ok (.iconst 0, 1) := by decide +kernel
theorem dX13_letters_295 : decode cX13_letters 295 = .ok (.iconst 0, 1) := by decide +kernel
theorem dX13_letters_296 : decode cX13_letters 296 = .ok (.iconst 0, 1) := by decide +kernel
theorem dX13_letters_297 : decode cX13_letters 297 = .ok (.invokestatic 180, 3) := by decide +kernel
theorem dX13_letters_300 : decode cX13_letters 300 = .ok (.lreturn, 1) := by decide +kernel
theorem dX13_letters_301 : decode cX13_letters 301 = .ok (.bipush 103, 2) := by decide +kernel
theorem dX13_letters_303 : decode cX13_letters 303 = .ok (.bipush 114, 2) := by decide +kernel
theorem dX13_letters_305 : decode cX13_letters 305 = .ok (.bipush 101, 2) := by decide +kernel
theorem dX13_letters_307 : decode cX13_letters 307 = .ok (.bipush 97, 2) := by decide +kernel
theorem dX13_letters_309 : decode cX13_letters 309 = .ok (.bipush 116, 2) := by decide +kernel
theorem dX13_letters_311 : decode cX13_letters 311 = .ok (.bipush 101, 2) := by decide +kernel
theorem dX13_letters_313 : decode cX13_letters 313 = .ok (.bipush 115, 2) := by decide +kernel
theorem dX13_letters_315 : decode cX13_letters 315 = .ok (.bipush 116, 2) := by decide +kernel
theorem dX13_letters_317 : decode cX13_letters 317 = .ok (.invokestatic 180, 3) := by decide +kernel
theorem dX13_letters_320 : decode cX13_letters 320 = .ok (.lreturn, 1) := by decide +kernel
theorem dX13_is_0 : decode cX13_is 0 = .ok (.aload_n 0, 1) := by decide +kernel
theorem dX13_is_1 : decode cX13_is 1 = .ok (.getfield 165, 3) := by decide +kernel
theorem dX13_is_4 : decode cX13_is 4 = .ok (.iconst 1, 1) := by decide +kernel
theorem dX13_is_5 : decode cX13_is 5 = .ok (.if_icmp .ne 28, 3) := by decide +kernel
theorem dX13_is_8 : decode cX13_is 8 = .ok (.aload_n 0, 1) := by decide +kernel
theorem dX13_is_9 : decode cX13_is 9 = .ok (.getfield 175, 3) := by decide +kernel
theorem dX13_is_12 : decode cX13_is 12 = .ok (.bipush 9, 2) := by decide +kernel
theorem dX13_is_14 : decode cX13_is 14 = .ok (.if_icmp .ge 19, 3) := by decide +kernel
theorem dX13_is_17 : decode cX13_is 17 = .ok (.aload_n 0, 1) := by decide +kernel
theorem dX13_is_18 : decode cX13_is 18 = .ok (.getfield 158, 3) := by decide +kernel
theorem dX13_is_21 : decode cX13_is 21 = .ok (.iload_n 1, 1) := by decide +kernel
theorem dX13_is_22 : decode cX13_is 22 = .ok (.invokestatic 184, 3) := by decide +kernel
theorem dX13_is_25 : decode cX13_is 25 = .ok (.lcmp, 1) := by decide +kernel
theorem dX13_is_26 : decode cX13_is 26 = .ok (.ifCond .ne 7, 3) := by decide +kernel
theorem dX13_is_29 : decode cX13_is 29 = .ok (.iconst 1, 1) := by decide +kernel
theorem dX13_is_30 : decode cX13_is 30 = .ok (.goto 4, 3) := by decide +kernel
theorem dX13_is_33 : decode cX13_is 33 = .ok (.iconst 0, 1) := by decide +kernel
theorem dX13_is_34 : decode cX13_is 34 = .ok (.ireturn, 1) := by decide +kernel
theorem dX13_wrong_0 : decode cX13_wrong 0 = .ok (.aload_n 0, 1) := by decide +kernel
theorem dX13_wrong_1 : decode cX13_wrong 1 = .ok (.getfield 188, 3) := by decide +kernel
theorem dX13_wrong_4 : decode cX13_wrong 4 = .ok (.ifCond .eq 4, 3) := by decide +kernel
theorem dX13_wrong_7 : decode cX13_wrong 7 = .ok (.return_, 1) := by decide +kernel
theorem dX13_wrong_8 : decode cX13_wrong 8 = .ok (.aload_n 0, 1) := by decide +kernel
theorem dX13_wrong_9 : decode cX13_wrong 9 = .ok (.iload_n 1, 1) := by decide +kernel
theorem dX13_wrong_10 : decode cX13_wrong 10 = .ok (.putfield 188, 3) := by decide +kernel
theorem dX13_wrong_13 : decode cX13_wrong 13 = .ok (.aload_n 0, 1) := by decide +kernel
theorem dX13_wrong_14 : decode cX13_wrong 14 = .ok (.aload_n 0, 1) := by decide +kernel
theorem dX13_wrong_15 : decode cX13_wrong 15 = .ok (.getfield 155, 3) := by decide +kernel
theorem dX13_wrong_18 : decode cX13_wrong 18 = .ok (.putfield 40, 3) := by decide +kernel
theorem dX13_wrong_21 : decode cX13_wrong 21 = .ok (.return_, 1) := by decide +kernel
theorem dX13_isGood_0 : decode cX13_isGood 0 = .ok (.aload_n 0, 1) := by decide +kernel
theorem dX13_isGood_1 : decode cX13_isGood 1 = .ok (.getfield 188, 3) := by decide +kernel
theorem dX13_isGood_4 : decode cX13_isGood 4 = .ok (.ifCond .ne 7, 3) := by decide +kernel
theorem dX13_isGood_7 : decode cX13_isGood 7 = .ok (.iconst 1, 1) := by decide +kernel
theorem dX13_isGood_8 : decode cX13_isGood 8 = .ok (.goto 4, 3) := by decide +kernel
theorem dX13_isGood_11 : decode cX13_isGood 11 = .ok (.iconst 0, 1) := by decide +kernel
theorem dX13_isGood_12 : decode cX13_isGood 12 = .ok (.ireturn, 1) := by decide +kernel
theorem dX13_need_0 : decode cX13_need 0 = .ok (.aload_n 0, 1) := by decide +kernel
theorem dX13_need_1 : decode cX13_need 1 = .ok (.invokevirtual 191, 3) := by decide +kernel
theorem dX13_need_4 : decode cX13_need 4 = .ok (.ifCond .ne 4, 3) := by decide +kernel
theorem dX13_need_7 : decode cX13_need 7 = .ok (.return_, 1) := by decide +kernel
theorem dX13_need_8 : decode cX13_need 8 = .ok (.iload_n 1, 1) := by decide +kernel
theorem dX13_need_9 : decode cX13_need 9 = .ok (.ifCond .eq 10, 3) := by decide +kernel
theorem dX13_need_12 : decode cX13_need 12 = .ok (.aload_n 0, 1) := by decide +kernel
theorem dX13_need_13 : decode cX13_need 13 = .ok (.invokevirtual 195, 3) := by decide +kernel
theorem dX13_need_16 : decode cX13_need 16 = .ok (.goto 8, 3) := by decide +kernel
theorem dX13_need_19 : decode cX13_need 19 = .ok (.aload_n 0, 1) := by decide +kernel
theorem dX13_need_20 : decode cX13_need 20 = .ok (.iconst 1, 1) := by decide +kernel
theorem dX13_need_21 : decode cX13_need 21 = .ok (.invokevirtual 198, 3) := by decide +kernel
theorem dX13_need_24 : decode cX13_need 24 = .ok (.return_, 1) := by decide +kernel
theorem dX13_number_0 : decode cX13_number 0 = .ok (.aload_n 0, 1) := by decide +kernel
theorem dX13_number_1 : decode cX13_number 1 = .ok (.invokevirtual 191, 3) := by decide +kernel
theorem dX13_number_4 : decode cX13_number 4 = .ok (.ifCond .ne 5, 3) := by decide +kernel
theorem dX13_number_7 : decode cX13_number 7 = .ok (.iconst 0, 1) := by decide +kernel
theorem dX13_number_8 : decode cX13_number 8 = .ok (.ireturn, 1) := by decide +kernel
theorem dX13_number_9 : decode cX13_number 9 = .ok (.aload_n 0, 1) := by decide +kernel
theorem dX13_number_10 : decode cX13_number 10 = .ok (.getfield 165, 3) := by decide +kernel
theorem dX13_number_13 : decode cX13_number 13 = .ok (.iconst 2, 1) := by decide +kernel
theorem dX13_number_14 : decode cX13_number 14 = .ok (.if_icmp .eq 11, 3) := by decide +kernel
theorem dX13_number_17 : decode cX13_number 17 = .ok (.aload_n 0, 1) := by decide +kernel
theorem dX13_number_18 : decode cX13_number 18 = .ok (.iconst 1, 1) := by decide +kernel
theorem dX13_number_19 : decode cX13_number 19 = .ok (.invokevirtual 198, 3) := by decide +kernel
theorem dX13_number_22 : decode cX13_number 22 = .ok (.goto 32, 3) := by decide +kernel
theorem dX13_number_25 : decode cX13_number 25 = .ok (.aload_n 0, 1) := by decide +kernel
theorem dX13_number_26 : decode cX13_number 26 = .ok (.getfield 175, 3) := by decide +kernel
theorem dX13_number_29 : decode cX13_number 29 = .ok (.iconst 3, 1) := by decide +kernel
theorem dX13_number_30 : decode cX13_number 30 = .ok (.if_icmp .gt 19, 3) := by decide +kernel
theorem dX13_number_33 : decode cX13_number 33 = .ok (.aload_n 0, 1) := by decide +kernel
theorem dX13_number_34 : decode cX13_number 34 = .ok (.getfield 162, 3) := by decide +kernel
theorem dX13_number_37 : decode cX13_number 37 = .ok (.iload_n 1, 1) := by decide +kernel
theorem dX13_number_38 : decode cX13_number 38 = .ok (.if_icmp .lt 11, 3) := by decide +kernel
theorem dX13_number_41 : decode cX13_number 41 = .ok (.aload_n 0, 1) := by decide +kernel
theorem dX13_number_42 : decode cX13_number 42 = .ok (.getfield 162, 3) := by decide +kernel
theorem dX13_number_45 : decode cX13_number 45 = .ok (.iload_n 2, 1) := by decide +kernel
theorem dX13_number_46 : decode cX13_number 46 = .ok (.if_icmp .le 8, 3) := by decide +kernel
theorem dX13_number_49 : decode cX13_number 49 = .ok (.aload_n 0, 1) := by decide +kernel
theorem dX13_number_50 : decode cX13_number 50 = .ok (.iconst 2, 1) := by decide +kernel
theorem dX13_number_51 : decode cX13_number 51 = .ok (.invokevirtual 198, 3) := by decide +kernel
theorem dX13_number_54 : decode cX13_number 54 = .ok (.aload_n 0, 1) := by decide +kernel
theorem dX13_number_55 : decode cX13_number 55 = .ok (.getfield 162, 3) := by decide +kernel
theorem dX13_number_58 : decode cX13_number 58 = .ok (.istore_n 3, 1) := by decide +kernel
theorem dX13_number_59 : decode cX13_number 59 = .ok (.aload_n 0, 1) := by decide +kernel
theorem dX13_number_60 : decode cX13_number 60 = .ok (.invokevirtual 191, 3) := by decide +kernel
theorem dX13_number_63 : decode cX13_number 63 = .ok (.ifCond .eq 7, 3) := by decide +kernel
theorem dX13_number_66 : decode cX13_number 66 = .ok (.aload_n 0, 1) := by decide +kernel
theorem dX13_number_67 : decode cX13_number 67 = .ok (.invokevirtual 195, 3) := by decide +kernel
theorem dX13_number_70 : decode cX13_number 70 = .ok (.iload_n 3, 1) := by decide +kernel
theorem dX13_number_71 : decode cX13_number 71 = .ok (.ireturn, 1) := by decide +kernel
theorem dX13_among_0 : decode cX13_among 0 = .ok (.aload_n 0, 1) := by decide +kernel
theorem dX13_among_1 : decode cX13_among 1 = .ok (.invokevirtual 191, 3) := by decide +kernel
theorem dX13_among_4 : decode cX13_among 4 = .ok (.ifCond .ne 5, 3) := by decide +kernel
theorem dX13_among_7 : decode cX13_among 7 = .ok (.iconst 0, 1) := by decide +kernel
theorem dX13_among_8 : decode cX13_among 8 = .ok (.ireturn, 1) := by decide +kernel
theorem dX13_among_9 : decode cX13_among 9 = .ok (.aload_n 0, 1) := by decide +kernel
theorem dX13_among_10 : decode cX13_among 10 = .ok (.getfield 165, 3) := by decide +kernel
theorem dX13_among_13 : decode cX13_among 13 = .ok (.iconst 2, 1) := by decide +kernel
theorem dX13_among_14 : decode cX13_among 14 = .ok (.if_icmp .eq 11, 3) := by decide +kernel
