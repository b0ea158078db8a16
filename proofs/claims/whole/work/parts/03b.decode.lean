theorem dX8_thrown_0 : decode cX8_thrown 0 = .ok (.aload_n 0, 1) := by decide +kernel
theorem dX8_thrown_1 : decode cX8_thrown 1 = .ok (.getfield 1, 3) := by decide +kernel
theorem dX8_thrown_4 : decode cX8_thrown 4 = .ok (.ireturn, 1) := by decide +kernel
theorem dX8_refuse_0 : decode cX8_refuse 0 = .ok (.aload_n 0, 1) := by decide +kernel
theorem dX8_refuse_1 : decode cX8_refuse 1 = .ok (.iconst 1, 1) := by decide +kernel
theorem dX8_refuse_2 : decode cX8_refuse 2 = .ok (.putfield 1, 3) := by decide +kernel
theorem dX8_refuse_5 : decode cX8_refuse 5 = .ok (.iconst 0, 1) := by decide +kernel
theorem dX8_refuse_6 : decode cX8_refuse 6 = .ok (.ireturn, 1) := by decide +kernel
theorem dX8_isIn_0 : decode cX8_isIn 0 = .ok (.iload_n 0, 1) := by decide +kernel
theorem dX8_isIn_1 : decode cX8_isIn 1 = .ok (.iload_n 1, 1) := by decide +kernel
theorem dX8_isIn_2 : decode cX8_isIn 2 = .ok (.if_icmp .lt 12, 3) := by decide +kernel
theorem dX8_isIn_5 : decode cX8_isIn 5 = .ok (.iload_n 0, 1) := by decide +kernel
theorem dX8_isIn_6 : decode cX8_isIn 6 = .ok (.iload_n 2, 1) := by decide +kernel
theorem dX8_isIn_7 : decode cX8_isIn 7 = .ok (.if_icmp .gt 7, 3) := by decide +kernel
theorem dX8_isIn_10 : decode cX8_isIn 10 = .ok (.iconst 1, 1) := by decide +kernel
theorem dX8_isIn_11 : decode cX8_isIn 11 = .ok (.goto 4, 3) := by decide +kernel
theorem dX8_isIn_14 : decode cX8_isIn 14 = .ok (.iconst 0, 1) := by decide +kernel
theorem dX8_isIn_15 : decode cX8_isIn 15 = .ok (.ireturn, 1) := by decide +kernel
theorem dX8_has_0 : decode cX8_has 0 = .ok (.iload_n 0, 1) := by decide +kernel
theorem dX8_has_1 : decode cX8_has 1 = .ok (.iload_n 1, 1) := by decide +kernel
theorem dX8_has_2 : decode cX8_has 2 = .ok (.ishr, 1) := by decide +kernel
theorem dX8_has_3 : decode cX8_has 3 = .ok (.iconst 1, 1) := by decide +kernel
theorem dX8_has_4 : decode cX8_has 4 = .ok (.iand, 1) := by decide +kernel
theorem dX8_has_5 : decode cX8_has 5 = .ok (.iconst 1, 1) := by decide +kernel
theorem dX8_has_6 : decode cX8_has 6 = .ok (.if_icmp .ne 7, 3) := by decide +kernel
theorem dX8_has_9 : decode cX8_has 9 = .ok (.iconst 1, 1) := by decide +kernel
theorem dX8_has_10 : decode cX8_has 10 = .ok (.goto 4, 3) := by decide +kernel
theorem dX8_has_13 : decode cX8_has 13 = .ok (.iconst 0, 1) := by decide +kernel
theorem dX8_has_14 : decode cX8_has 14 = .ok (.ireturn, 1) := by decide +kernel
theorem dX8_bits_0 : decode cX8_bits 0 = .ok (.iconst 0, 1) := by decide +kernel
theorem dX8_bits_1 : decode cX8_bits 1 = .ok (.istore_n 1, 1) := by decide +kernel
theorem dX8_bits_2 : decode cX8_bits 2 = .ok (.iload_n 0, 1) := by decide +kernel
theorem dX8_bits_3 : decode cX8_bits 3 = .ok (.istore_n 2, 1) := by decide +kernel
theorem dX8_bits_4 : decode cX8_bits 4 = .ok (.iload_n 2, 1) := by decide +kernel
theorem dX8_bits_5 : decode cX8_bits 5 = .ok (.ifCond .eq 15, 3) := by decide +kernel
theorem dX8_bits_8 : decode cX8_bits 8 = .ok (.iinc 1 1, 3) := by decide +kernel
theorem dX8_bits_11 : decode cX8_bits 11 = .ok (.iload_n 2, 1) := by decide +kernel
theorem dX8_bits_12 : decode cX8_bits 12 = .ok (.iload_n 2, 1) := by decide +kernel
theorem dX8_bits_13 : decode cX8_bits 13 = .ok (.iconst 1, 1) := by decide +kernel
theorem dX8_bits_14 : decode cX8_bits 14 = .ok (.isub, 1) := by decide +kernel
theorem dX8_bits_15 : decode cX8_bits 15 = .ok (.iand, 1) := by decide +kernel
theorem dX8_bits_16 : decode cX8_bits 16 = .ok (.istore_n 2, 1) := by decide +kernel
theorem dX8_bits_17 : decode cX8_bits 17 = .ok (.goto (-13), 3) := by decide +kernel
theorem dX8_bits_20 : decode cX8_bits 20 = .ok (.iload_n 1, 1) := by decide +kernel
theorem dX8_bits_21 : decode cX8_bits 21 = .ok (.ireturn, 1) := by decide +kernel
theorem dX8_lays_0 : decode cX8_lays 0 = .ok (.bipush 24, 2) := by decide +kernel
theorem dX8_lays_2 : decode cX8_lays 2 = .ok (.istore_n 2, 1) := by decide +kernel
theorem dX8_lays_3 : decode cX8_lays 3 = .ok (.iload_n 2, 1) := by decide +kernel
theorem dX8_lays_4 : decode cX8_lays 4 = .ok (.ifCond .lt 35, 3) := by decide +kernel
theorem dX8_lays_7 : decode cX8_lays 7 = .ok (.aload_n 0, 1) := by decide +kernel
theorem dX8_lays_8 : decode cX8_lays 8 = .ok (.getfield 7, 3) := by decide +kernel
theorem dX8_lays_11 : decode cX8_lays 11 = .ok (.aload_n 0, 1) := by decide +kernel
theorem dX8_lays_12 : decode cX8_lays 12 = .ok (.getfield 11, 3) := by decide +kernel
theorem dX8_lays_15 : decode cX8_lays 15 = .ok (.iload_n 1, 1) := by decide +kernel
theorem dX8_lays_16 : decode cX8_lays 16 = .ok (.iload_n 2, 1) := by decide +kernel
theorem dX8_lays_17 : decode cX8_lays 17 = .ok (.iushr, 1) := by decide +kernel
theorem dX8_lays_18 : decode cX8_lays 18 = .ok (.sipush 255, 3) := by decide +kernel
theorem dX8_lays_21 : decode cX8_lays 21 = .ok (.iand, 1) := by decide +kernel
theorem dX8_lays_22 : decode cX8_lays 22 = .ok (.iastore, 1) := by decide +kernel
theorem dX8_lays_23 : decode cX8_lays 23 = .ok (.aload_n 0, 1) := by decide +kernel
theorem dX8_lays_24 : decode cX8_lays 24 = .ok (.dup, 1) := by decide +kernel
theorem dX8_lays_25 : decode cX8_lays 25 = .ok (.getfield 11, 3) := by decide +kernel
theorem dX8_lays_28 : decode cX8_lays 28 = .ok (.iconst 1, 1) := by decide +kernel
theorem dX8_lays_29 : decode cX8_lays 29 = .ok (.iadd, 1) := by decide +kernel
theorem dX8_lays_30 : decode cX8_lays 30 = .ok (.putfield 11, 3) := by decide +kernel
theorem dX8_lays_33 : decode cX8_lays 33 = .ok (.iinc 2 (-8), 3) := by decide +kernel
theorem dX8_lays_36 : decode cX8_lays 36 = .ok (.goto (-33), 3) := by decide +kernel
theorem dX8_lays_39 : decode cX8_lays 39 = .ok (.return_, 1) := by decide +kernel
theorem dX8_feed_0 : decode cX8_feed 0 = .ok (.aload_n 0, 1) := by decide +kernel
theorem dX8_feed_1 : decode cX8_feed 1 = .ok (.iconst 0, 1) := by decide +kernel
theorem dX8_feed_2 : decode cX8_feed 2 = .ok (.putfield 1, 3) := by decide +kernel
theorem dX8_feed_5 : decode cX8_feed 5 = .ok (.aload_n 0, 1) := by decide +kernel
theorem dX8_feed_6 : decode cX8_feed 6 = .ok (.getfield 11, 3) := by decide +kernel
theorem dX8_feed_9 : decode cX8_feed 9 = .ok (.bipush 20, 2) := by decide +kernel
theorem dX8_feed_11 : decode cX8_feed 11 = .ok (.iadd, 1) := by decide +kernel
theorem dX8_feed_12 : decode cX8_feed 12 = .ok (.sipush 540, 3) := by decide +kernel
theorem dX8_feed_15 : decode cX8_feed 15 = .ok (.if_icmp .le 5, 3) := by decide +kernel
theorem dX8_feed_18 : decode cX8_feed 18 = .ok (.iconst (-1), 1) := by decide +kernel
theorem dX8_feed_19 : decode cX8_feed 19 = .ok (.ireturn, 1) := by decide +kernel
theorem dX8_feed_20 : decode cX8_feed 20 = .ok (.aload_n 0, 1) := by decide +kernel
theorem dX8_feed_21 : decode cX8_feed 21 = .ok (.iload_n 1, 1) := by decide +kernel
theorem dX8_feed_22 : decode cX8_feed 22 = .ok (.invokevirtual 14, 3) := by decide +kernel
theorem dX8_feed_25 : decode cX8_feed 25 = .ok (.aload_n 0, 1) := by decide +kernel
theorem dX8_feed_26 : decode cX8_feed 26 = .ok (.iload_n 2, 1) := by decide +kernel
theorem dX8_feed_27 : decode cX8_feed 27 = .ok (.invokevirtual 14, 3) := by decide +kernel
theorem dX8_feed_30 : decode cX8_feed 30 = .ok (.aload_n 0, 1) := by decide +kernel
theorem dX8_feed_31 : decode cX8_feed 31 = .ok (.iload_n 3, 1) := by decide +kernel
theorem dX8_feed_32 : decode cX8_feed 32 = .ok (.invokevirtual 14, 3) := by decide +kernel
theorem dX8_feed_35 : decode cX8_feed 35 = .ok (.aload_n 0, 1) := by decide +kernel
theorem dX8_feed_36 : decode cX8_feed 36 = .ok (.iload 4, 2) := by decide +kernel
theorem dX8_feed_38 : decode cX8_feed 38 = .ok (.invokevirtual 14, 3) := by decide +kernel
theorem dX8_feed_41 : decode cX8_feed 41 = .ok (.aload_n 0, 1) := by decide +kernel
theorem dX8_feed_42 : decode cX8_feed 42 = .ok (.iload 5, 2) := by decide +kernel
theorem dX8_feed_44 : decode cX8_feed 44 = .ok (.invokevirtual 14, 3) := by decide +kernel
theorem dX8_feed_47 : decode cX8_feed 47 = .ok (.aload_n 0, 1) := by decide +kernel
theorem dX8_feed_48 : decode cX8_feed 48 = .ok (.getfield 11, 3) := by decide +kernel
theorem dX8_feed_51 : decode cX8_feed 51 = .ok (.ireturn, 1) := by decide +kernel
theorem dX8_end_0 : decode cX8_end 0 = .ok (.aload_n 0, 1) := by decide +kernel
theorem dX8_end_1 : decode cX8_end 1 = .ok (.iconst 0, 1) := by decide +kernel
theorem dX8_end_2 : decode cX8_end 2 = .ok (.putfield 1, 3) := by decide +kernel
theorem dX8_end_5 : decode cX8_end 5 = .ok (.iload_n 1, 1) := by decide +kernel
theorem dX8_end_6 : decode cX8_end 6 = .ok (.ifCond .lt 11, 3) := by decide +kernel
theorem dX8_end_9 : decode cX8_end 9 = .ok (.iload_n 1, 1) := by decide +kernel
theorem dX8_end_10 : decode cX8_end 10 = .ok (.aload_n 0, 1) := by decide +kernel
theorem dX8_end_11 : decode cX8_end 11 = .ok (.getfield 11, 3) := by decide +kernel
theorem dX8_end_14 : decode cX8_end 14 = .ok (.if_icmp .le 5, 3) := by decide +kernel
theorem dX8_end_17 : decode cX8_end 17 = .ok (.iconst 0, 1) := by decide +kernel
theorem dX8_end_18 : decode cX8_end 18 = .ok (.ireturn, 1) := by decide +kernel
theorem dX8_end_19 : decode cX8_end 19 = .ok (.aload_n 0, 1) := by decide +kernel
theorem dX8_end_20 : decode cX8_end 20 = .ok (.iload_n 1, 1) := by decide +kernel
theorem dX8_end_21 : decode cX8_end 21 = .ok (.putfield 11, 3) := by decide +kernel
theorem dX8_end_24 : decode cX8_end 24 = .ok (.iconst 1, 1) := by decide +kernel
theorem dX8_end_25 : decode cX8_end 25 = .ok (.ireturn, 1) := by decide +kernel
theorem dX8_tapeAt_0 : decode cX8_tapeAt 0 = .ok (.iload_n 1, 1) := by decide +kernel
theorem dX8_tapeAt_1 : decode cX8_tapeAt 1 = .ok (.aload_n 0, 1) := by decide +kernel
theorem dX8_tapeAt_2 : decode cX8_tapeAt 2 = .ok (.getfield 18, 3) := by decide +kernel
theorem dX8_tapeAt_5 : decode cX8_tapeAt 5 = .ok (.if_icmp .ge 12, 3) := by decide +kernel
theorem dX8_tapeAt_8 : decode cX8_tapeAt 8 = .ok (.aload_n 0, 1) := by decide +kernel
theorem dX8_tapeAt_9 : decode cX8_tapeAt 9 = .ok (.getfield 7, 3) := by decide +kernel
theorem dX8_tapeAt_12 : decode cX8_tapeAt 12 = .ok (.iload_n 1, 1) := by decide +kernel
theorem dX8_tapeAt_13 : decode cX8_tapeAt 13 = .ok (.iaload, 1) := by decide +kernel
theorem dX8_tapeAt_14 : decode cX8_tapeAt 14 = .ok (.goto 4, 3) := by decide +kernel
theorem dX8_tapeAt_17 : decode cX8_tapeAt 17 = .ok (.iconst 0, 1) := by decide +kernel
theorem dX8_tapeAt_18 : decode cX8_tapeAt 18 = .ok (.ireturn, 1) := by decide +kernel
theorem dX8_isDigit_0 : decode cX8_isDigit 0 = .ok (.iload_n 0, 1) := by decide +kernel
theorem dX8_isDigit_1 : decode cX8_isDigit 1 = .ok (.bipush 48, 2) := by decide +kernel
theorem dX8_isDigit_3 : decode cX8_isDigit 3 = .ok (.if_icmp .lt 13, 3) := by decide +kernel
theorem dX8_isDigit_6 : decode cX8_isDigit 6 = .ok (.iload_n 0, 1) := by decide +kernel
theorem dX8_isDigit_7 : decode cX8_isDigit 7 = .ok (.bipush 57, 2) := by decide +kernel
theorem dX8_isDigit_9 : decode cX8_isDigit 9 = .ok (.if_icmp .gt 7, 3) := by decide +kernel
theorem dX8_isDigit_12 : decode cX8_isDigit 12 = .ok (.iconst 1, 1) := by decide +kernel
theorem dX8_isDigit_13 : decode cX8_isDigit 13 = .ok (.goto 4, 3) := by decide +kernel
theorem dX8_isDigit_16 : decode cX8_isDigit 16 = .ok (.iconst 0, 1) := by decide +kernel
theorem dX8_isDigit_17 : decode cX8_isDigit 17 = .ok (.ireturn, 1) := by decide +kernel
theorem dX8_isLetter_0 : decode cX8_isLetter 0 = .ok (.iload_n 0, 1) := by decide +kernel
theorem dX8_isLetter_1 : decode cX8_isLetter 1 = .ok (.bipush 97, 2) := by decide +kernel
theorem dX8_isLetter_3 : decode cX8_isLetter 3 = .ok (.if_icmp .lt 13, 3) := by decide +kernel
theorem dX8_isLetter_6 : decode cX8_isLetter 6 = .ok (.iload_n 0, 1) := by decide +kernel
theorem dX8_isLetter_7 : decode cX8_isLetter 7 = .ok (.bipush 122, 2) := by decide +kernel
theorem dX8_isLetter_9 : decode cX8_isLetter 9 = .ok (.if_icmp .gt 7, 3) := by decide +kernel
theorem dX8_isLetter_12 : decode cX8_isLetter 12 = .ok (.iconst 1, 1) := by decide +kernel
theorem dX8_isLetter_13 : decode cX8_isLetter 13 = .ok (.goto 4, 3) := by decide +kernel
theorem dX8_isLetter_16 : decode cX8_isLetter 16 = .ok (.iconst 0, 1) := by decide +kernel
theorem dX8_isLetter_17 : decode cX8_isLetter 17 = .ok (.ireturn, 1) := by decide +kernel
theorem dX8_go_0 : decode cX8_go 0 = .ok (.aload_n 0, 1) := by decide +kernel
theorem dX8_go_1 : decode cX8_go 1 = .ok (.getfield 21, 3) := by decide +kernel
theorem dX8_go_4 : decode cX8_go 4 = .ok (.aload_n 0, 1) := by decide +kernel
theorem dX8_go_5 : decode cX8_go 5 = .ok (.getfield 18, 3) := by decide +kernel
theorem dX8_go_8 : decode cX8_go 8 = .ok (.if_icmp .ge 44, 3) := by decide +kernel
theorem dX8_go_11 : decode cX8_go 11 = .ok (.aload_n 0, 1) := by decide +kernel
theorem dX8_go_12 : decode cX8_go 12 = .ok (.getfield 7, 3) := by decide +kernel
theorem dX8_go_15 : decode cX8_go 15 = .ok (.aload_n 0, 1) := by decide +kernel
theorem dX8_go_16 : decode cX8_go 16 = .ok (.getfield 21, 3) := by decide +kernel
theorem dX8_go_19 : decode cX8_go 19 = .ok (.iaload, 1) := by decide +kernel
theorem dX8_go_20 : decode cX8_go 20 = .ok (.bipush 32, 2) := by decide +kernel
theorem dX8_go_22 : decode cX8_go 22 = .ok (.if_icmp .eq 17, 3) := by decide +kernel
theorem dX8_go_25 : decode cX8_go 25 = .ok (.aload_n 0, 1) := by decide +kernel
theorem dX8_go_26 : decode cX8_go 26 = .ok (.getfield 7, 3) := by decide +kernel
theorem dX8_go_29 : decode cX8_go 29 = .ok (.aload_n 0, 1) := by decide +kernel
theorem dX8_go_30 : decode cX8_go 30 = .ok (.getfield 21, 3) := by decide +kernel
theorem dX8_go_33 : decode cX8_go 33 = .ok (.iaload, 1) := by decide +kernel
theorem dX8_go_34 : decode cX8_go 34 = .ok (.bipush 10, 2) := by decide +kernel
theorem dX8_go_36 : decode cX8_go 36 = .ok (.if_icmp .ne 16, 3) := by decide +kernel
theorem dX8_go_39 : decode cX8_go 39 = .ok (.aload_n 0, 1) := by decide +kernel
theorem dX8_go_40 : decode cX8_go 40 = .ok (.dup, 1) := by decide +kernel
theorem dX8_go_41 : decode cX8_go 41 = .ok (.getfield 21, 3) := by decide +kernel
theorem dX8_go_44 : decode cX8_go 44 = .ok (.iconst 1, 1) := by decide +kernel
theorem dX8_go_45 : decode cX8_go 45 = .ok (.iadd, 1) := by decide +kernel
theorem dX8_go_46 : decode cX8_go 46 = .ok (.putfield 21, 3) := by decide +kernel
theorem dX8_go_49 : decode cX8_go 49 = .ok (.goto (-49), 3) := by decide +kernel
theorem dX8_go_52 : decode cX8_go 52 = .ok (.aload_n 0, 1) := by decide +kernel
theorem dX8_go_53 : decode cX8_go 53 = .ok (.aload_n 0, 1) := by decide +kernel
theorem dX8_go_54 : decode cX8_go 54 = .ok (.getfield 21, 3) := by decide +kernel
theorem dX8_go_57 : decode cX8_go 57 = .ok (.putfield 24, 3) := by decide +kernel
theorem dX8_go_60 : decode cX8_go 60 = .ok (.aload_n 0, 1) := by decide +kernel
theorem dX8_go_61 : decode cX8_go 61 = .ok (.getfield 18, 3) := by decide +kernel
theorem dX8_go_64 : decode cX8_go 64 = .ok (.sipush 500, 3) := by decide +kernel
theorem dX8_go_67 : decode cX8_go 67 = .ok (.if_icmp .le 26, 3) := by decide +kernel
theorem dX8_go_70 : decode cX8_go 70 = .ok (.aload_n 0, 1) := by decide +kernel
theorem dX8_go_71 : decode cX8_go 71 = .ok (.getfield 24, 3) := by decide +kernel
theorem dX8_go_74 : decode cX8_go 74 = .ok (.sipush 500, 3) := by decide +kernel
theorem dX8_go_77 : decode cX8_go 77 = .ok (.if_icmp .lt 16, 3) := by decide +kernel
theorem dX8_go_80 : decode cX8_go 80 = .ok (.aload_n 0, 1) := by decide +kernel
theorem dX8_go_81 : decode cX8_go 81 = .ok (.sipush 500, 3) := by decide +kernel
theorem dX8_go_84 : decode cX8_go 84 = .ok (.putfield 24, 3) := by decide +kernel
theorem dX8_go_87 : decode cX8_go 87 = .ok (.aload_n 0, 1) := by decide +kernel
theorem dX8_go_88 : decode cX8_go 88 = .ok (.iconst 1, 1) := by decide +kernel
theorem dX8_go_89 : decode cX8_go 89 = .ok (.putfield 27, 3) := by decide +kernel
theorem dX8_go_92 : decode cX8_go 92 = .ok (.return_, 1) := by decide +kernel
theorem dX8_go_93 : decode cX8_go 93 = .ok (.aload_n 0, 1) := by decide +kernel
theorem dX8_go_94 : decode cX8_go 94 = .ok (.getfield 21, 3) := by decide +kernel
theorem dX8_go_97 : decode cX8_go 97 = .ok (.aload_n 0, 1) := by decide +kernel
theorem dX8_go_98 : decode cX8_go 98 = .ok (.getfield 18, 3) := by decide +kernel
theorem dX8_go_101 : decode cX8_go 101 = .ok (.if_icmp .lt 9, 3) := by decide +kernel
theorem dX8_go_104 : decode cX8_go 104 = .ok (.aload_n 0, 1) := by decide +kernel
theorem dX8_go_105 : decode cX8_go 105 = .ok (.iconst 0, 1) := by decide +kernel
theorem dX8_go_106 : decode cX8_go 106 = .ok (.putfield 27, 3) := by decide +kernel
theorem dX8_go_109 : decode cX8_go 109 = .ok (.return_, 1) := by decide +kernel
theorem dX8_go_110 : decode cX8_go 110 = .ok (.aload_n 0, 1) := by decide +kernel
theorem dX8_go_111 : decode cX8_go 111 = .ok (.getfield 7, 3) := by decide +kernel
theorem dX8_go_114 : decode cX8_go 114 = .ok (.aload_n 0, 1) := by decide +kernel
theorem dX8_go_115 : decode cX8_go 115 = .ok (.getfield 21, 3) := by decide +kernel
theorem dX8_go_118 : decode cX8_go 118 = .ok (.iaload, 1) := by decide +kernel
theorem dX8_go_119 : decode cX8_go 119 = .ok (.istore_n 1, 1) := by decide +kernel
theorem dX8_go_120 : decode cX8_go 120 = .ok (.iload_n 1, 1) := by decide +kernel
theorem dX8_go_121 : decode cX8_go 121 = .ok (.invokestatic 30, 3) := by decide +kernel
theorem dX8_go_124 : decode cX8_go 124 = .ok (.ifCond .ne 36, 3) := by decide +kernel
theorem dX8_go_127 : decode cX8_go 127 = .ok (.iload_n 1, 1) := by decide +kernel
theorem dX8_go_128 : decode cX8_go 128 = .ok (.invokestatic 34, 3) := by decide +kernel
theorem dX8_go_131 : decode cX8_go 131 = .ok (.ifCond .ne 29, 3) := by decide +kernel
theorem dX8_go_134 : decode cX8_go 134 = .ok (.aload_n 0, 1) := by decide +kernel
theorem dX8_go_135 : decode cX8_go 135 = .ok (.iload_n 1, 1) := by decide +kernel
theorem dX8_go_136 : decode cX8_go 136 = .ok (.bipush 59, 2) := by decide +kernel
theorem dX8_go_138 : decode cX8_go 138 = .ok (.if_icmp .ne 7, 3) := by decide +kernel
theorem dX8_go_141 : decode cX8_go 141 = .ok (.iconst 4, 1) := by decide +kernel
theorem dX8_go_142 : decode cX8_go 142 = .ok (.goto 4, 3) := by decide +kernel
theorem dX8_go_145 : decode cX8_go 145 = .ok (.iconst 1, 1) := by decide +kernel
theorem dX8_go_146 : decode cX8_go 146 = .ok (.putfield 27, 3) := by decide +kernel
theorem dX8_go_149 : decode cX8_go 149 = .ok (.aload_n 0, 1) := by decide +kernel
theorem dX8_go_150 : decode cX8_go 150 = .ok (.dup, 1) := by decide +kernel
theorem dX8_go_151 : decode cX8_go 151 = .ok (.getfield 21, 3) := by decide +kernel
theorem dX8_go_154 : decode cX8_go 154 = .ok (.iconst 1, 1) := by decide +kernel
theorem dX8_go_155 : decode cX8_go 155 = .ok (.iadd, 1) := by decide +kernel
theorem dX8_go_156 : decode cX8_go 156 = .ok (.putfield 21, 3) := by decide +kernel
theorem dX8_go_159 : decode cX8_go 159 = .ok (.return_, 1) := by decide +kernel
theorem dX8_go_160 : decode cX8_go 160 = .ok (.iload_n 1, 1) := by decide +kernel
theorem dX8_go_161 : decode cX8_go 161 = .ok (.invokestatic 30, 3) := by decide +kernel
theorem dX8_go_164 : decode cX8_go 164 = .ok (.istore_n 2, 1) := by decide +kernel
theorem dX8_go_165 : decode cX8_go 165 = .ok (.iconst 1, 1) := by decide +kernel
theorem dX8_go_166 : decode cX8_go 166 = .ok (.istore_n 3, 1) := by decide +kernel
theorem dX8_go_167 : decode cX8_go 167 = .ok (.aload_n 0, 1) := by decide +kernel
theorem dX8_go_168 : decode cX8_go 168 = .ok (.lconst 0, 1) := by decide +kernel
theorem dX8_go_169 : decode cX8_go 169 = .ok (.putfield 37, 3) := by decide +kernel
theorem dX8_go_172 : decode cX8_go 172 = .ok (.aload_n 0, 1) := by decide +kernel
theorem dX8_go_173 : decode cX8_go 173 = .ok (.iconst 0, 1) := by decide +kernel
theorem dX8_go_174 : decode cX8_go 174 = .ok (.putfield 41, 3) := by decide +kernel
theorem dX8_go_177 : decode cX8_go 177 = .ok (.aload_n 0, 1) := by decide +kernel
theorem dX8_go_178 : decode cX8_go 178 = .ok (.aload_n 0, 1) := by decide +kernel
theorem dX8_go_179 : decode cX8_go 179 = .ok (.getfield 21, 3) := by decide +kernel
theorem dX8_go_182 : decode cX8_go 182 = .ok (.invokevirtual 44, 3) := by decide +kernel
theorem dX8_go_185 : decode cX8_go 185 = .ok (.invokestatic 30, 3) := by decide +kernel
theorem dX8_go_188 : decode cX8_go 188 = .ok (.ifCond .ne 17, 3) := by decide +kernel
theorem dX8_go_191 : decode cX8_go 191 = .ok (.aload_n 0, 1) := by decide +kernel
theorem dX8_go_192 : decode cX8_go 192 = .ok (.aload_n 0, 1) := by decide +kernel
theorem dX8_go_193 : decode cX8_go 193 = .ok (.getfield 21, 3) := by decide +kernel
theorem dX8_go_196 : decode cX8_go 196 = .ok (.invokevirtual 44, 3) := by decide +kernel
theorem dX8_go_199 : decode cX8_go 199 = .ok (.invokestatic 34, 3) := by decide +kernel
theorem dX8_go_202 : decode cX8_go 202 = .ok (.ifCond .eq 110, 3) := by decide +kernel
theorem dX8_go_205 : decode cX8_go 205 = .ok (.aload_n 0, 1) := by decide +kernel
theorem dX8_go_206 : decode cX8_go 206 = .ok (.getfield 7, 3) := by decide +kernel
theorem dX8_go_209 : decode cX8_go 209 = .ok (.aload_n 0, 1) := by decide +kernel
theorem dX8_go_210 : decode cX8_go 210 = .ok (.getfield 21, 3) := by decide +kernel
theorem dX8_go_213 : decode cX8_go 213 = .ok (.iaload, 1) := by decide +kernel
theorem dX8_go_214 : decode cX8_go 214 = .ok (.istore 4, 2) := by decide +kernel
theorem dX8_go_216 : decode cX8_go 216 = .ok (.iload_n 3, 1) := by decide +kernel
theorem dX8_go_217 : decode cX8_go 217 = .ok (.ifCond .eq 16, 3) := by decide +kernel
theorem dX8_go_220 : decode cX8_go 220 = .ok (.iload 4, 2) := by decide +kernel
theorem dX8_go_222 : decode cX8_go 222 = .ok (.invokestatic 30, 3) := by decide +kernel
theorem dX8_go_225 : decode cX8_go 225 = .ok (.iload_n 2, 1) := by decide +kernel
theorem dX8_go_226 : decode cX8_go 226 = .ok (.if_icmp .ne 7, 3) := by decide +kernel
theorem dX8_go_229 : decode cX8_go 229 = .ok (.iconst 1, 1) := by decide +kernel
theorem dX8_go_230 : decode cX8_go 230 = .ok (.goto 4, 3) := by decide +kernel
theorem dX8_go_233 : decode cX8_go 233 = .ok (.iconst 0, 1) := by decide +kernel
theorem dX8_go_234 : decode cX8_go 234 = .ok (.istore_n 3, 1) := by decide +kernel
theorem dX8_go_235 : decode cX8_go 235 = .ok (.aload_n 0, 1) := by decide +kernel
theorem dX8_go_236 : decode cX8_go 236 = .ok (.getfield 21, 3) := by decide +kernel
theorem dX8_go_239 : decode cX8_go 239 = .ok (.aload_n 0, 1) := by decide +kernel
theorem dX8_go_240 : decode cX8_go 240 = .ok (.getfield 24, 3) := by decide +kernel
theorem dX8_go_243 : decode cX8_go 243 = .ok (.isub, 1) := by decide +kernel
theorem dX8_go_244 : decode cX8_go 244 = .ok (.bipush 7, 2) := by decide +kernel
theorem dX8_go_246 : decode cX8_go 246 = .ok (.if_icmp .ge 23, 3) := by decide +kernel
theorem dX8_go_249 : decode cX8_go 249 = .ok (.aload_n 0, 1) := by decide +kernel
theorem dX8_go_250 : decode cX8_go 250 = .ok (.ldc2_w 48, 3) := by decide +kernel
theorem dX8_go_253 : decode cX8_go 253 = .ok (.aload_n 0, 1) := by decide +kernel
theorem dX8_go_254 : decode cX8_go 254 = .ok (.getfield 37, 3) := by decide +kernel
theorem dX8_go_257 : decode cX8_go 257 = .ok (.lmul, 1) := by decide +kernel
theorem dX8_go_258 : decode cX8_go 258 = .ok (.iload 4, 2) := by decide +kernel
theorem dX8_go_260 : decode cX8_go 260 = .ok (.i2l, 1) := by decide +kernel
theorem dX8_go_261 : decode cX8_go 261 = .ok (.ladd, 1) := by decide +kernel
theorem dX8_go_262 : decode cX8_go 262 = .ok (.ldc2_w 50, 3) := by decide +kernel
theorem dX8_go_265 : decode cX8_go 265 = .ok (.lsub, 1) := by decide +kernel
theorem dX8_go_266 : decode cX8_go 266 = .ok (.putfield 37, 3) := by decide +kernel
theorem dX8_go_269 : decode cX8_go 269 = .ok (.aload_n 0, 1) := by decide +kernel
theorem dX8_go_270 : decode cX8_go 270 = .ok (.getfield 21, 3) := by decide +kernel
theorem dX8_go_273 : decode cX8_go 273 = .ok (.aload_n 0, 1) := by decide +kernel
theorem dX8_go_274 : decode cX8_go 274 = .ok (.getfield 24, 3) := by decide +kernel
theorem dX8_go_277 : decode cX8_go 277 = .ok (.isub, 1) := by decide +kernel
theorem dX8_go_278 : decode cX8_go 278 = .ok (.iconst 4, 1) := by decide +kernel
theorem dX8_go_279 : decode cX8_go 279 = .ok (.if_icmp .ge 20, 3) := by decide +kernel
theorem dX8_go_282 : decode cX8_go 282 = .ok (.aload_n 0, 1) := by decide +kernel
theorem dX8_go_283 : decode cX8_go 283 = .ok (.bipush 10, 2) := by decide +kernel
theorem dX8_go_285 : decode cX8_go 285 = .ok (.aload_n 0, 1) := by decide +kernel
theorem dX8_go_286 : decode cX8_go 286 = .ok (.getfield 41, 3) := by decide +kernel
theorem dX8_go_289 : decode cX8_go 289 = .ok (.imul, 1) := by decide +kernel
theorem dX8_go_290 : decode cX8_go 290 = .ok (.iload 4, 2) := by decide +kernel
theorem dX8_go_292 : decode cX8_go 292 = .ok (.iadd, 1) := by decide +kernel
theorem dX8_go_293 : decode cX8_go 293 = .ok (.bipush 48, 2) := by decide +kernel
theorem dX8_go_295 : decode cX8_go 295 = .ok (.isub, 1) := by decide +kernel
theorem dX8_go_296 : decode cX8_go 296 = .ok (.putfield 41, 3) := by decide +kernel
theorem dX8_go_299 : decode cX8_go 299 = .ok (.aload_n 0, 1) := by decide +kernel
theorem dX8_go_300 : decode cX8_go 300 = .ok (.dup, 1) := by decide +kernel
theorem dX8_go_301 : decode cX8_go 301 = .ok (.getfield 21, 3) := by decide +kernel
theorem dX8_go_304 : decode cX8_go 304 = .ok (.iconst 1, 1) := by decide +kernel
theorem dX8_go_305 : decode cX8_go 305 = .ok (.iadd, 1) := by decide +kernel
theorem dX8_go_306 : decode cX8_go 306 = .ok (.putfield 21, 3) := by decide +kernel
theorem dX8_go_309 : decode cX8_go 309 = .ok (.goto (-132), 3) := by decide +kernel
theorem dX8_go_312 : decode cX8_go 312 = .ok (.aload_n 0, 1) := by decide +kernel
theorem dX8_go_313 : decode cX8_go 313 = .ok (.iload_n 3, 1) := by decide +kernel
theorem dX8_go_314 : decode cX8_go 314 = .ok (.ifCond .eq 20, 3) := by decide +kernel
theorem dX8_go_317 : decode cX8_go 317 = .ok (.iload_n 2, 1) := by decide +kernel
theorem dX8_go_318 : decode cX8_go 318 = .ok (.ifCond .ne 20, 3) := by decide +kernel
theorem dX8_go_321 : decode cX8_go 321 = .ok (.aload_n 0, 1) := by decide +kernel
theorem dX8_go_322 : decode cX8_go 322 = .ok (.getfield 21, 3) := by decide +kernel
theorem dX8_go_325 : decode cX8_go 325 = .ok (.aload_n 0, 1) := by decide +kernel
theorem dX8_go_326 : decode cX8_go 326 = .ok (.getfield 24, 3) := by decide +kernel
theorem dX8_go_329 : decode cX8_go 329 = .ok (.isub, 1) := by decide +kernel
theorem dX8_go_330 : decode cX8_go 330 = .ok (.iconst 4, 1) := by decide +kernel
theorem dX8_go_331 : decode cX8_go 331 = .ok (.if_icmp .le 7, 3) := by decide +kernel
theorem dX8_go_334 : decode cX8_go 334 = .ok (.iconst 1, 1) := by decide +kernel
theorem dX8_go_335 : decode cX8_go 335 = .ok (.goto 12, 3) := by decide +kernel
theorem dX8_go_338 : decode cX8_go 338 = .ok (.iload_n 2, 1) := by decide +kernel
theorem dX8_go_339 : decode cX8_go 339 = .ok (.ifCond .eq 7, 3) := by decide +kernel
theorem dX8_go_342 : decode cX8_go 342 = .ok (.iconst 2, 1) := by decide +kernel
theorem dX8_go_343 : decode cX8_go 343 = .ok (.goto 4, 3) := by decide +kernel
theorem dX8_go_346 : decode cX8_go 346 = .ok (.iconst 3, 1) := by decide +kernel
theorem dX8_go_347 : decode cX8_go 347 = .ok (.putfield 27, 3) := by decide +kernel
theorem dX8_go_350 : decode cX8_go 350 = .ok (.return_, 1) := by decide +kernel
theorem dX8_is_0 : decode cX8_is 0 = .ok (.ldc2_w 48, 3) := by decide +kernel
theorem dX8_is_3 : decode cX8_is 3 = .ok (.ldc2_w 48, 3) := by decide +kernel
theorem dX8_is_6 : decode cX8_is 6 = .ok (.iload_n 1, 1) := by decide +kernel
theorem dX8_is_7 : decode cX8_is 7 = .ok (.i2l, 1) := by decide +kernel
theorem dX8_is_8 : decode cX8_is 8 = .ok (.ldc2_w 50, 3) := by decide +kernel
theorem dX8_is_11 : decode cX8_is 11 = .ok (.lsub, 1) := by decide +kernel
theorem dX8_is_12 : decode cX8_is 12 = .ok (.lmul, 1) := by decide +kernel
theorem dX8_is_13 : decode cX8_is 13 = .ok (.iload_n 2, 1) := by decide +kernel
theorem dX8_is_14 : decode cX8_is 14 = .ok (.i2l, 1) := by decide +kernel
theorem dX8_is_15 : decode cX8_is 15 = .ok (.ladd, 1) := by decide +kernel
theorem dX8_is_16 : decode cX8_is 16 = .ok (.ldc2_w 50, 3) := by decide +kernel
theorem dX8_is_19 : decode cX8_is 19 = .ok (.lsub, 1) := by decide +kernel
theorem dX8_is_20 : decode cX8_is 20 = .ok (.lmul, 1) := by decide +kernel
theorem dX8_is_21 : decode cX8_is 21 = .ok (.iload_n 3, 1) := by decide +kernel
theorem dX8_is_22 : decode cX8_is 22 = .ok (.i2l, 1) := by decide +kernel
theorem dX8_is_23 : decode cX8_is 23 = .ok (.ladd, 1) := by decide +kernel
theorem dX8_is_24 : decode cX8_is 24 = .ok (.ldc2_w 50, 3) := by decide +kernel
theorem dX8_is_27 : decode cX8_is 27 = .ok (.lsub, 1) := by decide +kernel
theorem dX8_is_28 : decode cX8_is 28 = .ok (.lstore 7, 2) := by decide +kernel
theorem dX8_is_30 : decode cX8_is 30 = .ok (.iload 4, 2) := by decide +kernel
theorem dX8_is_32 : decode cX8_is 32 = .ok (.ifCond .le 19, 3) := by decide +kernel
theorem dX8_is_35 : decode cX8_is 35 = .ok (.ldc2_w 48, 3) := by decide +kernel
theorem dX8_is_38 : decode cX8_is 38 = .ok (.lload 7, 2) := by decide +kernel
theorem dX8_is_40 : decode cX8_is 40 = .ok (.lmul, 1) := by decide +kernel
theorem dX8_is_41 : decode cX8_is 41 = .ok (.iload 4, 2) := by decide +kernel
theorem dX8_is_43 : decode cX8_is 43 = .ok (.i2l, 1) := by decide +kernel
theorem dX8_is_44 : decode cX8_is 44 = .ok (.ladd, 1) := by decide +kernel
theorem dX8_is_45 : decode cX8_is 45 = .ok (.ldc2_w 50, 3) := by decide +kernel
theorem dX8_is_48 : decode cX8_is 48 = .ok (.lsub, 1) := by decide +kernel
theorem dX8_is_49 : decode cX8_is 49 = .ok (.lstore 7, 2) := by decide +kernel
theorem dX8_is_51 : decode cX8_is 51 = .ok (.iload 5, 2) := by decide +kernel
theorem dX8_is_53 : decode cX8_is 53 = .ok (.ifCond .le 19, 3) := by decide +kernel
theorem dX8_is_56 : decode cX8_is 56 = .ok (.ldc2_w 48, 3) := by decide +kernel
theorem dX8_is_59 : decode cX8_is 59 = .ok (.lload 7, 2) := by decide +kernel
theorem dX8_is_61 : decode cX8_is 61 = .ok (.lmul, 1) := by decide +kernel
theorem dX8_is_62 : decode cX8_is 62 = .ok (.iload 5, 2) := by decide +kernel
theorem dX8_is_64 : decode cX8_is 64 = .ok (.i2l, 1) := by decide +kernel
theorem dX8_is_65 : decode cX8_is 65 = .ok (.ladd, 1) := by decide +kernel
theorem dX8_is_66 : decode cX8_is 66 = .ok (.ldc2_w 50, 3) := by decide +kernel
theorem dX8_is_69 : decode cX8_is 69 = .ok (.lsub, 1) := by decide +kernel
theorem dX8_is_70 : decode cX8_is 70 = .ok (.lstore 7, 2) := by decide +kernel
theorem dX8_is_72 : decode cX8_is 72 = .ok (.iload 6, 2) := by decide +kernel
theorem dX8_is_74 : decode cX8_is 74 = .ok (.ifCond .le 19, 3) := by decide +kernel
theorem dX8_is_77 : decode cX8_is 77 = .ok (.ldc2_w 48, 3) := by decide +kernel
theorem dX8_is_80 : decode cX8_is 80 = .ok (.lload 7, 2) := by decide +kernel
theorem dX8_is_82 : decode cX8_is 82 = .ok (.lmul, 1) := by decide +kernel
theorem dX8_is_83 : decode cX8_is 83 = .ok (.iload 6, 2) := by decide +kernel
theorem dX8_is_85 : decode cX8_is 85 = .ok (.i2l, 1) := by decide +kernel
theorem dX8_is_86 : decode cX8_is 86 = .ok (.ladd, 1) := by decide +kernel
theorem dX8_is_87 : decode cX8_is 87 = .ok (.ldc2_w 50, 3) := by decide +kernel
theorem dX8_is_90 : decode cX8_is 90 = .ok (.lsub, 1) := by decide +kernel
theorem dX8_is_91 : decode cX8_is 91 = .ok (.lstore 7, 2) := by decide +kernel
theorem dX8_is_93 : decode cX8_is 93 = .ok (.aload_n 0, 1) := by decide +kernel
theorem dX8_is_94 : decode cX8_is 94 = .ok (.getfield 27, 3) := by decide +kernel
theorem dX8_is_97 : decode cX8_is 97 = .ok (.iconst 2, 1) := by decide +kernel
theorem dX8_is_98 : decode cX8_is 98 = .ok (.if_icmp .ne 17, 3) := by decide +kernel
theorem dX8_is_101 : decode cX8_is 101 = .ok (.aload_n 0, 1) := by decide +kernel
theorem dX8_is_102 : decode cX8_is 102 = .ok (.getfield 37, 3) := by decide +kernel
theorem dX8_is_105 : decode cX8_is 105 = .ok (.lload 7, 2) := by decide +kernel
theorem dX8_is_107 : decode cX8_is 107 = .ok (.lcmp, 1) := by decide +kernel
theorem dX8_is_108 : decode cX8_is 108 = .ok (.ifCond .ne 7, 3) := by decide +kernel
theorem dX8_is_111 : decode cX8_is 111 = .ok (.iconst 1, 1) := by decide +kernel
theorem dX8_is_112 : decode cX8_is 112 = .ok (.goto 4, 3) := by decide +kernel
theorem dX8_is_115 : decode cX8_is 115 = .ok (.iconst 0, 1) := by decide +kernel
theorem dX8_is_116 : decode cX8_is 116 = .ok (.ireturn, 1) := by decide +kernel
theorem dX8_bad_0 : decode cX8_bad 0 = .ok (.aload_n 0, 1) := by decide +kernel
theorem dX8_bad_1 : decode cX8_bad 1 = .ok (.aload_n 0, 1) := by decide +kernel
theorem dX8_bad_2 : decode cX8_bad 2 = .ok (.getfield 27, 3) := by decide +kernel
theorem dX8_bad_5 : decode cX8_bad 5 = .ok (.iconst 1, 1) := by decide +kernel
theorem dX8_bad_6 : decode cX8_bad 6 = .ok (.if_icmp .ne 7, 3) := by decide +kernel
theorem dX8_bad_9 : decode cX8_bad 9 = .ok (.iconst 1, 1) := by decide +kernel
theorem dX8_bad_10 : decode cX8_bad 10 = .ok (.goto 4, 3) := by decide +kernel
theorem dX8_bad_13 : decode cX8_bad 13 = .ok (.iload_n 1, 1) := by decide +kernel
theorem dX8_bad_14 : decode cX8_bad 14 = .ok (.putfield 52, 3) := by decide +kernel
theorem dX8_bad_17 : decode cX8_bad 17 = .ok (.aload_n 0, 1) := by decide +kernel
theorem dX8_bad_18 : decode cX8_bad 18 = .ok (.aload_n 0, 1) := by decide +kernel
theorem dX8_bad_19 : decode cX8_bad 19 = .ok (.getfield 24, 3) := by decide +kernel
theorem dX8_bad_22 : decode cX8_bad 22 = .ok (.putfield 55, 3) := by decide +kernel
theorem dX8_bad_25 : decode cX8_bad 25 = .ok (.iconst 0, 1) := by decide +kernel
theorem dX8_bad_26 : decode cX8_bad 26 = .ok (.ireturn, 1) := by decide +kernel
theorem dX8_init_0 : decode cX8_init 0 = .ok (.aload_n 0, 1) := by decide +kernel
theorem dX8_init_1 : decode cX8_init 1 = .ok (.invokespecial 58, 3) := by decide +kernel
theorem dX8_init_4 : decode cX8_init 4 = .ok (.aload_n 0, 1) := by decide +kernel
theorem dX8_init_5 : decode cX8_init 5 = .ok (.sipush 540, 3) := by decide +kernel
theorem dX8_init_8 : decode cX8_init 8 = .ok (.newarray .int, 2) := by decide +kernel
theorem dX8_init_10 : decode cX8_init 10 = .ok (.putfield 7, 3) := by decide +kernel
theorem dX8_init_13 : decode cX8_init 13 = .ok (.aload_n 0, 1) := by decide +kernel
theorem dX8_init_14 : decode cX8_init 14 = .ok (.bipush 89, 2) := by decide +kernel
theorem dX8_init_16 : decode cX8_init 16 = .ok (.newarray .int, 2) := by decide +kernel
theorem dX8_init_18 : decode cX8_init 18 = .ok (.putfield 64, 3) := by decide +kernel
theorem dX8_init_21 : decode cX8_init 21 = .ok (.aload_n 0, 1) := by decide +kernel
theorem dX8_init_22 : decode cX8_init 22 = .ok (.bipush 89, 2) := by decide +kernel
theorem dX8_init_24 : decode cX8_init 24 = .ok (.newarray .int, 2) := by decide +kernel
theorem dX8_init_26 : decode cX8_init 26 = .ok (.putfield 67, 3) := by decide +kernel
theorem dX8_init_29 : decode cX8_init 29 = .ok (.aload_n 0, 1) := by decide +kernel
theorem dX8_init_30 : decode cX8_init 30 = .ok (.bipush 89, 2) := by decide +kernel
theorem dX8_init_32 : decode cX8_init 32 = .ok (.newarray .int, 2) := by decide +kernel
theorem dX8_init_34 : decode cX8_init 34 = .ok (.putfield 70, 3) := by decide +kernel
theorem dX8_init_37 : decode cX8_init 37 = .ok (.aload_n 0, 1) := by decide +kernel
theorem dX8_init_38 : decode cX8_init 38 = .ok (.sipush 890, 3) := by decide +kernel
theorem dX8_init_41 : decode cX8_init 41 = .ok (.newarray .int, 2) := by decide +kernel
theorem dX8_init_43 : decode cX8_init 43 = .ok (.putfield 73, 3) := by decide +kernel
theorem dX8_init_46 : decode cX8_init 46 = .ok (.aload_n 0, 1) := by decide +kernel
theorem dX8_init_47 : decode cX8_init 47 = .ok (.bipush 89, 2) := by decide +kernel
theorem dX8_init_49 : decode cX8_init 49 = .ok (.newarray .int, 2) := by decide +kernel
theorem dX8_init_51 : decode cX8_init 51 = .ok (.putfield 76, 3) := by decide +kernel
theorem dX8_init_54 : decode cX8_init 54 = .ok (.aload_n 0, 1) := by decide +kernel
theorem dX8_init_55 : decode cX8_init 55 = .ok (.bipush 89, 2) := by decide +kernel
theorem dX8_init_57 : decode cX8_init 57 = .ok (.newarray .int, 2) := by decide +kernel
theorem dX8_init_59 : decode cX8_init 59 = .ok (.putfield 79, 3) := by decide +kernel
theorem dX8_init_62 : decode cX8_init 62 = .ok (.aload_n 0, 1) := by decide +kernel
theorem dX8_init_63 : decode cX8_init 63 = .ok (.bipush 84, 2) := by decide +kernel
theorem dX8_init_65 : decode cX8_init 65 = .ok (.newarray .int, 2) := by decide +kernel
theorem dX8_init_67 : decode cX8_init 67 = .ok (.putfield 82, 3) := by decide +kernel
theorem dX8_init_70 : decode cX8_init 70 = .ok (.aload_n 0, 1) := by decide +kernel
theorem dX8_init_71 : decode cX8_init 71 = .ok (.bipush 84, 2) := by decide +kernel
theorem dX8_init_73 : decode cX8_init 73 = .ok (.newarray .int, 2) := by decide +kernel
theorem dX8_init_75 : decode cX8_init 75 = .ok (.putfield 85, 3) := by decide +kernel
theorem dX8_init_78 : decode cX8_init 78 = .ok (.return_, 1) := by decide +kernel
theorem dX8_copy_0 : decode cX8_copy 0 = .ok (.iconst 0, 1) := by decide +kernel
theorem dX8_copy_1 : decode cX8_copy 1 = .ok (.istore 4, 2) := by decide +kernel
theorem dX8_copy_3 : decode cX8_copy 3 = .ok (.iload 4, 2) := by decide +kernel
theorem dX8_copy_5 : decode cX8_copy 5 = .ok (.bipush 89, 2) := by decide +kernel
theorem dX8_copy_7 : decode cX8_copy 7 = .ok (.if_icmp .ge 21, 3) := by decide +kernel
theorem dX8_copy_10 : decode cX8_copy 10 = .ok (.aload_n 2, 1) := by decide +kernel
theorem dX8_copy_11 : decode cX8_copy 11 = .ok (.iload_n 3, 1) := by decide +kernel
theorem dX8_copy_12 : decode cX8_copy 12 = .ok (.iload 4, 2) := by decide +kernel
theorem dX8_copy_14 : decode cX8_copy 14 = .ok (.iadd, 1) := by decide +kernel
theorem dX8_copy_15 : decode cX8_copy 15 = .ok (.aload_n 0, 1) := by decide +kernel
theorem dX8_copy_16 : decode cX8_copy 16 = .ok (.iload_n 1, 1) := by decide +kernel
theorem dX8_copy_17 : decode cX8_copy 17 = .ok (.iload 4, 2) := by decide +kernel
theorem dX8_copy_19 : decode cX8_copy 19 = .ok (.iadd, 1) := by decide +kernel
theorem dX8_copy_20 : decode cX8_copy 20 = .ok (.iaload, 1) := by decide +kernel
theorem dX8_copy_21 : decode cX8_copy 21 = .ok (.iastore, 1) := by decide +kernel
theorem dX8_copy_22 : decode cX8_copy 22 = .ok (.iinc 4 1, 3) := by decide +kernel
theorem dX8_copy_25 : decode cX8_copy 25 = .ok (.goto (-22), 3) := by decide +kernel
theorem dX8_copy_28 : decode cX8_copy 28 = .ok (.return_, 1) := by decide +kernel
theorem dX8_told_0 : decode cX8_told 0 = .ok (.aload_n 0, 1) := by decide +kernel
theorem dX8_told_1 : decode cX8_told 1 = .ok (.getfield 27, 3) := by decide +kernel
theorem dX8_told_4 : decode cX8_told 4 = .ok (.iconst 3, 1) := by decide +kernel
theorem dX8_told_5 : decode cX8_told 5 = .ok (.if_icmp .eq 9, 3) := by decide +kernel
theorem dX8_told_8 : decode cX8_told 8 = .ok (.aload_n 0, 1) := by decide +kernel
theorem dX8_told_9 : decode cX8_told 9 = .ok (.iconst 1, 1) := by decide +kernel
theorem dX8_told_10 : decode cX8_told 10 = .ok (.invokevirtual 88, 3) := by decide +kernel
theorem dX8_told_13 : decode cX8_told 13 = .ok (.ireturn, 1) := by decide +kernel
theorem dX8_told_14 : decode cX8_told 14 = .ok (.aload_n 0, 1) := by decide +kernel
theorem dX8_told_15 : decode cX8_told 15 = .ok (.getfield 41, 3) := by decide +kernel
theorem dX8_told_18 : decode cX8_told 18 = .ok (.iload_n 2, 1) := by decide +kernel
theorem dX8_told_19 : decode cX8_told 19 = .ok (.iload_n 3, 1) := by decide +kernel
theorem dX8_told_20 : decode cX8_told 20 = .ok (.invokestatic 91, 3) := by decide +kernel
theorem dX8_told_23 : decode cX8_told 23 = .ok (.ifCond .ne 9, 3) := by decide +kernel
theorem dX8_told_26 : decode cX8_told 26 = .ok (.aload_n 0, 1) := by decide +kernel
theorem dX8_told_27 : decode cX8_told 27 = .ok (.iconst 2, 1) := by decide +kernel
theorem dX8_told_28 : decode cX8_told 28 = .ok (.invokevirtual 88, 3) := by decide +kernel
theorem dX8_told_31 : decode cX8_told 31 = .ok (.ireturn, 1) := by decide +kernel
theorem dX8_told_32 : decode cX8_told 32 = .ok (.aload_n 0, 1) := by decide +kernel
theorem dX8_told_33 : decode cX8_told 33 = .ok (.getfield 67, 3) := by decide +kernel
theorem dX8_told_36 : decode cX8_told 36 = .ok (.iload_n 1, 1) := by decide +kernel
theorem dX8_told_37 : decode cX8_told 37 = .ok (.aload_n 0, 1) := by decide +kernel
theorem dX8_told_38 : decode cX8_told 38 = .ok (.getfield 41, 3) := by decide +kernel
theorem dX8_told_41 : decode cX8_told 41 = .ok (.iastore, 1) := by decide +kernel
theorem dX8_told_42 : decode cX8_told 42 = .ok (.aload_n 0, 1) := by decide +kernel
theorem dX8_told_43 : decode cX8_told 43 = .ok (.invokevirtual 95, 3) := by decide +kernel
theorem dX8_told_46 : decode cX8_told 46 = .ok (.iconst 1, 1) := by decide +kernel
theorem dX8_told_47 : decode cX8_told 47 = .ok (.ireturn, 1) := by decide +kernel
theorem dX8_readCourt_0 : decode cX8_readCourt 0 = .ok (.aload_n 0, 1) := by decide +kernel
theorem dX8_readCourt_1 : decode cX8_readCourt 1 = .ok (.invokevirtual 95, 3) := by decide +kernel
theorem dX8_readCourt_4 : decode cX8_readCourt 4 = .ok (.aload_n 0, 1) := by decide +kernel
theorem dX8_readCourt_5 : decode cX8_readCourt 5 = .ok (.iconst 4, 1) := by decide +kernel
theorem dX8_readCourt_6 : decode cX8_readCourt 6 = .ok (.iconst 0, 1) := by decide +kernel
theorem dX8_readCourt_7 : decode cX8_readCourt 7 = .ok (.sipush 9999, 3) := by decide +kernel
theorem dX8_readCourt_10 : decode cX8_readCourt 10 = .ok (.invokevirtual 98, 3) := by decide +kernel
theorem dX8_readCourt_13 : decode cX8_readCourt 13 = .ok (.ifCond .ne 5, 3) := by decide +kernel
theorem dX8_readCourt_16 : decode cX8_readCourt 16 = .ok (.iconst 0, 1) := by decide +kernel
theorem dX8_readCourt_17 : decode cX8_readCourt 17 = .ok (.ireturn, 1) := by decide +kernel
theorem dX8_readCourt_18 : decode cX8_readCourt 18 = .ok (.aload_n 0, 1) := by decide +kernel
theorem dX8_readCourt_19 : decode cX8_readCourt 19 = .ok (.iconst 0, 1) := by decide +kernel
theorem dX8_readCourt_20 : decode cX8_readCourt 20 = .ok (.iconst 1, 1) := by decide +kernel
theorem dX8_readCourt_21 : decode cX8_readCourt 21 = .ok (.bipush 20, 2) := by decide +kernel
theorem dX8_readCourt_23 : decode cX8_readCourt 23 = .ok (.invokevirtual 98, 3) := by decide +kernel
theorem dX8_readCourt_26 : decode cX8_readCourt 26 = .ok (.ifCond .eq 36, 3) := by decide +kernel
theorem dX8_readCourt_29 : decode cX8_readCourt 29 = .ok (.aload_n 0, 1) := by decide +kernel
theorem dX8_readCourt_30 : decode cX8_readCourt 30 = .ok (.iconst 1, 1) := by decide +kernel
theorem dX8_readCourt_31 : decode cX8_readCourt 31 = .ok (.iconst 0, 1) := by decide +kernel
theorem dX8_readCourt_32 : decode cX8_readCourt 32 = .ok (.bipush 9, 2) := by decide +kernel
theorem dX8_readCourt_34 : decode cX8_readCourt 34 = .ok (.invokevirtual 98, 3) := by decide +kernel
theorem dX8_readCourt_37 : decode cX8_readCourt 37 = .ok (.ifCond .eq 25, 3) := by decide +kernel
theorem dX8_readCourt_40 : decode cX8_readCourt 40 = .ok (.aload_n 0, 1) := by decide +kernel
theorem dX8_readCourt_41 : decode cX8_readCourt 41 = .ok (.iconst 2, 1) := by decide +kernel
theorem dX8_readCourt_42 : decode cX8_readCourt 42 = .ok (.iconst 0, 1) := by decide +kernel
theorem dX8_readCourt_43 : decode cX8_readCourt 43 = .ok (.bipush 9, 2) := by decide +kernel
theorem dX8_readCourt_45 : decode cX8_readCourt 45 = .ok (.invokevirtual 98, 3) := by decide +kernel
theorem dX8_readCourt_48 : decode cX8_readCourt 48 = .ok (.ifCond .eq 14, 3) := by decide +kernel
theorem dX8_readCourt_51 : decode cX8_readCourt 51 = .ok (.aload_n 0, 1) := by decide +kernel
theorem dX8_readCourt_52 : decode cX8_readCourt 52 = .ok (.iconst 3, 1) := by decide +kernel
theorem dX8_readCourt_53 : decode cX8_readCourt 53 = .ok (.iconst 0, 1) := by decide +kernel
theorem dX8_readCourt_54 : decode cX8_readCourt 54 = .ok (.bipush 9, 2) := by decide +kernel
theorem dX8_readCourt_56 : decode cX8_readCourt 56 = .ok (.invokevirtual 98, 3) := by decide +kernel
theorem dX8_readCourt_59 : decode cX8_readCourt 59 = .ok (.ifCond .ne 5, 3) := by decide +kernel
theorem dX8_readCourt_62 : decode cX8_readCourt 62 = .ok (.iconst 0, 1) := by decide +kernel
theorem dX8_readCourt_63 : decode cX8_readCourt 63 = .ok (.ireturn, 1) := by decide +kernel
theorem dX8_readCourt_64 : decode cX8_readCourt 64 = .ok (.aload_n 0, 1) := by decide +kernel
theorem dX8_readCourt_65 : decode cX8_readCourt 65 = .ok (.getfield 67, 3) := by decide +kernel
theorem dX8_readCourt_68 : decode cX8_readCourt 68 = .ok (.iconst 5, 1) := by decide +kernel
theorem dX8_readCourt_69 : decode cX8_readCourt 69 = .ok (.aload_n 0, 1) := by decide +kernel
theorem dX8_readCourt_70 : decode cX8_readCourt 70 = .ok (.getfield 67, 3) := by decide +kernel
theorem dX8_readCourt_73 : decode cX8_readCourt 73 = .ok (.iconst 4, 1) := by decide +kernel
theorem dX8_readCourt_74 : decode cX8_readCourt 74 = .ok (.iaload, 1) := by decide +kernel
theorem dX8_readCourt_75 : decode cX8_readCourt 75 = .ok (.iastore, 1) := by decide +kernel
theorem dX8_readCourt_76 : decode cX8_readCourt 76 = .ok (.iconst 1, 1) := by decide +kernel
theorem dX8_readCourt_77 : decode cX8_readCourt 77 = .ok (.ireturn, 1) := by decide +kernel
theorem dX8_readJudge_0 : decode cX8_readJudge 0 = .ok (.aload_n 0, 1) := by decide +kernel
theorem dX8_readJudge_1 : decode cX8_readJudge 1 = .ok (.getfield 67, 3) := by decide +kernel
theorem dX8_readJudge_4 : decode cX8_readJudge 4 = .ok (.bipush 7, 2) := by decide +kernel
theorem dX8_readJudge_6 : decode cX8_readJudge 6 = .ok (.iaload, 1) := by decide +kernel
theorem dX8_readJudge_7 : decode cX8_readJudge 7 = .ok (.bipush 9, 2) := by decide +kernel
theorem dX8_readJudge_9 : decode cX8_readJudge 9 = .ok (.if_icmp .ne 9, 3) := by decide +kernel
theorem dX8_readJudge_12 : decode cX8_readJudge 12 = .ok (.aload_n 0, 1) := by decide +kernel
theorem dX8_readJudge_13 : decode cX8_readJudge 13 = .ok (.iconst 3, 1) := by decide +kernel
theorem dX8_readJudge_14 : decode cX8_readJudge 14 = .ok (.invokevirtual 88, 3) := by decide +kernel
theorem dX8_readJudge_17 : decode cX8_readJudge 17 = .ok (.ireturn, 1) := by decide +kernel
theorem dX8_readJudge_18 : decode cX8_readJudge 18 = .ok (.aload_n 0, 1) := by decide +kernel
theorem dX8_readJudge_19 : decode cX8_readJudge 19 = .ok (.invokevirtual 95, 3) := by decide +kernel
theorem dX8_readJudge_22 : decode cX8_readJudge 22 = .ok (.aload_n 0, 1) := by decide +kernel
theorem dX8_readJudge_23 : decode cX8_readJudge 23 = .ok (.bipush 8, 2) := by decide +kernel
theorem dX8_readJudge_25 : decode cX8_readJudge 25 = .ok (.aload_n 0, 1) := by decide +kernel
theorem dX8_readJudge_26 : decode cX8_readJudge 26 = .ok (.getfield 67, 3) := by decide +kernel
theorem dX8_readJudge_29 : decode cX8_readJudge 29 = .ok (.bipush 7, 2) := by decide +kernel
theorem dX8_readJudge_31 : decode cX8_readJudge 31 = .ok (.iaload, 1) := by decide +kernel
theorem dX8_readJudge_32 : decode cX8_readJudge 32 = .ok (.iadd, 1) := by decide +kernel
theorem dX8_readJudge_33 : decode cX8_readJudge 33 = .ok (.iconst 1, 1) := by decide +kernel
theorem dX8_readJudge_34 : decode cX8_readJudge 34 = .ok (.bipush 99, 2) := by decide +kernel
theorem dX8_readJudge_36 : decode cX8_readJudge 36 = .ok (.invokevirtual 98, 3) := by decide +kernel
theorem dX8_readJudge_39 : decode cX8_readJudge 39 = .ok (.ifCond .ne 5, 3) := by decide +kernel
theorem dX8_readJudge_42 : decode cX8_readJudge 42 = .ok (.iconst 0, 1) := by decide +kernel
theorem dX8_readJudge_43 : decode cX8_readJudge 43 = .ok (.ireturn, 1) := by decide +kernel
theorem dX8_readJudge_44 : decode cX8_readJudge 44 = .ok (.aload_n 0, 1) := by decide +kernel
theorem dX8_readJudge_45 : decode cX8_readJudge 45 = .ok (.getfield 67, 3) := by decide +kernel
theorem dX8_readJudge_48 : decode cX8_readJudge 48 = .ok (.bipush 7, 2) := by decide +kernel
theorem dX8_readJudge_50 : decode cX8_readJudge 50 = .ok (.dup2, 1) := by decide +kernel
theorem dX8_readJudge_51 : decode cX8_readJudge 51 = .ok (.iaload, 1) := by decide +kernel
theorem dX8_readJudge_52 : decode cX8_readJudge 52 = .ok (.iconst 1, 1) := by decide +kernel
theorem dX8_readJudge_53 : decode cX8_readJudge 53 = .ok (.iadd, 1) := by decide +kernel
theorem dX8_readJudge_54 : decode cX8_readJudge 54 = .ok (.iastore, 1) := by decide +kernel
theorem dX8_readJudge_55 : decode cX8_readJudge 55 = .ok (.iconst 1, 1) := by decide +kernel
theorem dX8_readJudge_56 : decode cX8_readJudge 56 = .ok (.ireturn, 1) := by decide +kernel
theorem dX8_readCase_0 : decode cX8_readCase 0 = .ok (.aload_n 0, 1) := by decide +kernel
theorem dX8_readCase_1 : decode cX8_readCase 1 = .ok (.getfield 67, 3) := by decide +kernel
theorem dX8_readCase_4 : decode cX8_readCase 4 = .ok (.bipush 18, 2) := by decide +kernel
theorem dX8_readCase_6 : decode cX8_readCase 6 = .ok (.iaload, 1) := by decide +kernel
theorem dX8_readCase_7 : decode cX8_readCase 7 = .ok (.istore_n 1, 1) := by decide +kernel
theorem dX8_readCase_8 : decode cX8_readCase 8 = .ok (.iload_n 1, 1) := by decide +kernel
theorem dX8_readCase_9 : decode cX8_readCase 9 = .ok (.bipush 14, 2) := by decide +kernel
theorem dX8_readCase_11 : decode cX8_readCase 11 = .ok (.if_icmp .ne 9, 3) := by decide +kernel
theorem dX8_readCase_14 : decode cX8_readCase 14 = .ok (.aload_n 0, 1) := by decide +kernel
theorem dX8_readCase_15 : decode cX8_readCase 15 = .ok (.iconst 3, 1) := by decide +kernel
theorem dX8_readCase_16 : decode cX8_readCase 16 = .ok (.invokevirtual 88, 3) := by decide +kernel
theorem dX8_readCase_19 : decode cX8_readCase 19 = .ok (.ireturn, 1) := by decide +kernel
theorem dX8_readCase_20 : decode cX8_readCase 20 = .ok (.aload_n 0, 1) := by decide +kernel
theorem dX8_readCase_21 : decode cX8_readCase 21 = .ok (.invokevirtual 95, 3) := by decide +kernel
theorem dX8_readCase_24 : decode cX8_readCase 24 = .ok (.aload_n 0, 1) := by decide +kernel
theorem dX8_readCase_25 : decode cX8_readCase 25 = .ok (.bipush 19, 2) := by decide +kernel
theorem dX8_readCase_27 : decode cX8_readCase 27 = .ok (.iload_n 1, 1) := by decide +kernel
theorem dX8_readCase_28 : decode cX8_readCase 28 = .ok (.iadd, 1) := by decide +kernel
theorem dX8_readCase_29 : decode cX8_readCase 29 = .ok (.iconst 1, 1) := by decide +kernel
theorem dX8_readCase_30 : decode cX8_readCase 30 = .ok (.bipush 9, 2) := by decide +kernel
theorem dX8_readCase_32 : decode cX8_readCase 32 = .ok (.invokevirtual 98, 3) := by decide +kernel
theorem dX8_readCase_35 : decode cX8_readCase 35 = .ok (.ifCond .ne 5, 3) := by decide +kernel
theorem dX8_readCase_38 : decode cX8_readCase 38 = .ok (.iconst 0, 1) := by decide +kernel
theorem dX8_readCase_39 : decode cX8_readCase 39 = .ok (.ireturn, 1) := by decide +kernel
theorem dX8_readCase_40 : decode cX8_readCase 40 = .ok (.aload_n 0, 1) := by decide +kernel
theorem dX8_readCase_41 : decode cX8_readCase 41 = .ok (.bipush 110, 2) := by decide +kernel
theorem dX8_readCase_43 : decode cX8_readCase 43 = .ok (.bipush 111, 2) := by decide +kernel
theorem dX8_readCase_45 : decode cX8_readCase 45 = .ok (.bipush 116, 2) := by decide +kernel
theorem dX8_readCase_47 : decode cX8_readCase 47 = .ok (.iconst 0, 1) := by decide +kernel
theorem dX8_readCase_48 : decode cX8_readCase 48 = .ok (.iconst 0, 1) := by decide +kernel
theorem dX8_readCase_49 : decode cX8_readCase 49 = .ok (.iconst 0, 1) := by decide +kernel
theorem dX8_readCase_50 : decode cX8_readCase 50 = .ok (.invokevirtual 101, 3) := by decide +kernel
theorem dX8_readCase_53 : decode cX8_readCase 53 = .ok (.ifCond .eq 93, 3) := by decide +kernel
theorem dX8_readCase_56 : decode cX8_readCase 56 = .ok (.aload_n 0, 1) := by decide +kernel
theorem dX8_readCase_57 : decode cX8_readCase 57 = .ok (.invokevirtual 95, 3) := by decide +kernel
theorem dX8_readCase_60 : decode cX8_readCase 60 = .ok (.aload_n 0, 1) := by decide +kernel
theorem dX8_readCase_61 : decode cX8_readCase 61 = .ok (.getfield 27, 3) := by decide +kernel
theorem dX8_readCase_64 : decode cX8_readCase 64 = .ok (.iconst 3, 1) := by decide +kernel
theorem dX8_readCase_65 : decode cX8_readCase 65 = .ok (.if_icmp .eq 9, 3) := by decide +kernel
theorem dX8_readCase_68 : decode cX8_readCase 68 = .ok (.aload_n 0, 1) := by decide +kernel
theorem dX8_readCase_69 : decode cX8_readCase 69 = .ok (.iconst 1, 1) := by decide +kernel
theorem dX8_readCase_70 : decode cX8_readCase 70 = .ok (.invokevirtual 88, 3) := by decide +kernel
theorem dX8_readCase_73 : decode cX8_readCase 73 = .ok (.ireturn, 1) := by decide +kernel
theorem dX8_readCase_74 : decode cX8_readCase 74 = .ok (.aload_n 0, 1) := by decide +kernel
theorem dX8_readCase_75 : decode cX8_readCase 75 = .ok (.getfield 27, 3) := by decide +kernel
theorem dX8_readCase_78 : decode cX8_readCase 78 = .ok (.iconst 3, 1) := by decide +kernel
theorem dX8_readCase_79 : decode cX8_readCase 79 = .ok (.if_icmp .ne 67, 3) := by decide +kernel
theorem dX8_readCase_82 : decode cX8_readCase 82 = .ok (.aload_n 0, 1) := by decide +kernel
theorem dX8_readCase_83 : decode cX8_readCase 83 = .ok (.getfield 41, 3) := by decide +kernel
theorem dX8_readCase_86 : decode cX8_readCase 86 = .ok (.aload_n 0, 1) := by decide +kernel
theorem dX8_readCase_87 : decode cX8_readCase 87 = .ok (.getfield 67, 3) := by decide +kernel
theorem dX8_readCase_90 : decode cX8_readCase 90 = .ok (.bipush 7, 2) := by decide +kernel
theorem dX8_readCase_92 : decode cX8_readCase 92 = .ok (.iaload, 1) := by decide +kernel
theorem dX8_readCase_93 : decode cX8_readCase 93 = .ok (.if_icmp .ge 22, 3) := by decide +kernel
theorem dX8_readCase_96 : decode cX8_readCase 96 = .ok (.aload_n 0, 1) := by decide +kernel
theorem dX8_readCase_97 : decode cX8_readCase 97 = .ok (.getfield 67, 3) := by decide +kernel
theorem dX8_readCase_100 : decode cX8_readCase 100 = .ok (.bipush 33, 2) := by decide +kernel
theorem dX8_readCase_102 : decode cX8_readCase 102 = .ok (.iload_n 1, 1) := by decide +kernel
theorem dX8_readCase_103 : decode cX8_readCase 103 = .ok (.iadd, 1) := by decide +kernel
theorem dX8_readCase_104 : decode cX8_readCase 104 = .ok (.iaload, 1) := by decide +kernel
theorem dX8_readCase_105 : decode cX8_readCase 105 = .ok (.aload_n 0, 1) := by decide +kernel
theorem dX8_readCase_106 : decode cX8_readCase 106 = .ok (.getfield 41, 3) := by decide +kernel
theorem dX8_readCase_109 : decode cX8_readCase 109 = .ok (.invokestatic 105, 3) := by decide +kernel
theorem dX8_readCase_112 : decode cX8_readCase 112 = .ok (.ifCond .eq 9, 3) := by decide +kernel
theorem dX8_readCase_115 : decode cX8_readCase 115 = .ok (.aload_n 0, 1) := by decide +kernel
theorem dX8_readCase_116 : decode cX8_readCase 116 = .ok (.iconst 4, 1) := by decide +kernel
theorem dX8_readCase_117 : decode cX8_readCase 117 = .ok (.invokevirtual 88, 3) := by decide +kernel
theorem dX8_readCase_120 : decode cX8_readCase 120 = .ok (.ireturn, 1) := by decide +kernel
theorem dX8_readCase_121 : decode cX8_readCase 121 = .ok (.aload_n 0, 1) := by decide +kernel
theorem dX8_readCase_122 : decode cX8_readCase 122 = .ok (.getfield 67, 3) := by decide +kernel
theorem dX8_readCase_125 : decode cX8_readCase 125 = .ok (.bipush 33, 2) := by decide +kernel
theorem dX8_readCase_127 : decode cX8_readCase 127 = .ok (.iload_n 1, 1) := by decide +kernel
theorem dX8_readCase_128 : decode cX8_readCase 128 = .ok (.iadd, 1) := by decide +kernel
theorem dX8_readCase_129 : decode cX8_readCase 129 = .ok (.dup2, 1) := by decide +kernel
theorem dX8_readCase_130 : decode cX8_readCase 130 = .ok (.iaload, 1) := by decide +kernel
theorem dX8_readCase_131 : decode cX8_readCase 131 = .ok (.iconst 1, 1) := by decide +kernel
theorem dX8_readCase_132 : decode cX8_readCase 132 = .ok (.aload_n 0, 1) := by decide +kernel
theorem dX8_readCase_133 : decode cX8_readCase 133 = .ok (.getfield 41, 3) := by decide +kernel
theorem dX8_readCase_136 : decode cX8_readCase 136 = .ok (.ishl, 1) := by decide +kernel
theorem dX8_readCase_137 : decode cX8_readCase 137 = .ok (.ior, 1) := by decide +kernel
theorem dX8_readCase_138 : decode cX8_readCase 138 = .ok (.iastore, 1) := by decide +kernel
theorem dX8_readCase_139 : decode cX8_readCase 139 = .ok (.aload_n 0, 1) := by decide +kernel
theorem dX8_readCase_140 : decode cX8_readCase 140 = .ok (.invokevirtual 95, 3) := by decide +kernel
theorem dX8_readCase_143 : decode cX8_readCase 143 = .ok (.goto (-69), 3) := by decide +kernel
theorem dX8_readCase_146 : decode cX8_readCase 146 = .ok (.aload_n 0, 1) := by decide +kernel
theorem dX8_readCase_147 : decode cX8_readCase 147 = .ok (.getfield 67, 3) := by decide +kernel
theorem dX8_readCase_150 : decode cX8_readCase 150 = .ok (.bipush 47, 2) := by decide +kernel
theorem dX8_readCase_152 : decode cX8_readCase 152 = .ok (.iload_n 1, 1) := by decide +kernel
theorem dX8_readCase_153 : decode cX8_readCase 153 = .ok (.iadd, 1) := by decide +kernel
theorem dX8_readCase_154 : decode cX8_readCase 154 = .ok (.aload_n 0, 1) := by decide +kernel
theorem dX8_readCase_155 : decode cX8_readCase 155 = .ok (.getfield 67, 3) := by decide +kernel
theorem dX8_readCase_158 : decode cX8_readCase 158 = .ok (.bipush 33, 2) := by decide +kernel
theorem dX8_readCase_160 : decode cX8_readCase 160 = .ok (.iload_n 1, 1) := by decide +kernel
theorem dX8_readCase_161 : decode cX8_readCase 161 = .ok (.iadd, 1) := by decide +kernel
theorem dX8_readCase_162 : decode cX8_readCase 162 = .ok (.iaload, 1) := by decide +kernel
theorem dX8_readCase_163 : decode cX8_readCase 163 = .ok (.iastore, 1) := by decide +kernel
theorem dX8_readCase_164 : decode cX8_readCase 164 = .ok (.aload_n 0, 1) := by decide +kernel
theorem dX8_readCase_165 : decode cX8_readCase 165 = .ok (.getfield 67, 3) := by decide +kernel
theorem dX8_readCase_168 : decode cX8_readCase 168 = .ok (.bipush 18, 2) := by decide +kernel
theorem dX8_readCase_170 : decode cX8_readCase 170 = .ok (.dup2, 1) := by decide +kernel
theorem dX8_readCase_171 : decode cX8_readCase 171 = .ok (.iaload, 1) := by decide +kernel
theorem dX8_readCase_172 : decode cX8_readCase 172 = .ok (.iconst 1, 1) := by decide +kernel
theorem dX8_readCase_173 : decode cX8_readCase 173 = .ok (.iadd, 1) := by decide +kernel
theorem dX8_readCase_174 : decode cX8_readCase 174 = .ok (.iastore, 1) := by decide +kernel
theorem dX8_readCase_175 : decode cX8_readCase 175 = .ok (.iconst 1, 1) := by decide +kernel
theorem dX8_readCase_176 : decode cX8_readCase 176 = .ok (.ireturn, 1) := by decide +kernel
theorem dX8_readLine_0 : decode cX8_readLine 0 = .ok (.aload_n 0, 1) := by decide +kernel
theorem dX8_readLine_1 : decode cX8_readLine 1 = .ok (.getfield 67, 3) := by decide +kernel
theorem dX8_readLine_4 : decode cX8_readLine 4 = .ok (.iconst 0, 1) := by decide +kernel
theorem dX8_readLine_5 : decode cX8_readLine 5 = .ok (.iaload, 1) := by decide +kernel
theorem dX8_readLine_6 : decode cX8_readLine 6 = .ok (.ifCond .ne 34, 3) := by decide +kernel
theorem dX8_readLine_9 : decode cX8_readLine 9 = .ok (.aload_n 0, 1) := by decide +kernel
theorem dX8_readLine_10 : decode cX8_readLine 10 = .ok (.bipush 99, 2) := by decide +kernel
theorem dX8_readLine_12 : decode cX8_readLine 12 = .ok (.bipush 111, 2) := by decide +kernel
theorem dX8_readLine_14 : decode cX8_readLine 14 = .ok (.bipush 117, 2) := by decide +kernel
theorem dX8_readLine_16 : decode cX8_readLine 16 = .ok (.bipush 114, 2) := by decide +kernel
theorem dX8_readLine_18 : decode cX8_readLine 18 = .ok (.bipush 116, 2) := by decide +kernel
theorem dX8_readLine_20 : decode cX8_readLine 20 = .ok (.iconst 0, 1) := by decide +kernel
theorem dX8_readLine_21 : decode cX8_readLine 21 = .ok (.invokevirtual 101, 3) := by decide +kernel
theorem dX8_readLine_24 : decode cX8_readLine 24 = .ok (.ifCond .eq 10, 3) := by decide +kernel
theorem dX8_readLine_27 : decode cX8_readLine 27 = .ok (.aload_n 0, 1) := by decide +kernel
theorem dX8_readLine_28 : decode cX8_readLine 28 = .ok (.invokevirtual 109, 3) := by decide +kernel
theorem dX8_readLine_31 : decode cX8_readLine 31 = .ok (.goto 8, 3) := by decide +kernel
theorem dX8_readLine_34 : decode cX8_readLine 34 = .ok (.aload_n 0, 1) := by decide +kernel
theorem dX8_readLine_35 : decode cX8_readLine 35 = .ok (.iconst 1, 1) := by decide +kernel
theorem dX8_readLine_36 : decode cX8_readLine 36 = .ok (.invokevirtual 88, 3) := by decide +kernel
theorem dX8_readLine_39 : decode cX8_readLine 39 = .ok (.ireturn, 1) := by decide +kernel
theorem dX8_readLine_40 : decode cX8_readLine 40 = .ok (.aload_n 0, 1) := by decide +kernel
theorem dX8_readLine_41 : decode cX8_readLine 41 = .ok (.bipush 106, 2) := by decide +kernel
theorem dX8_readLine_43 : decode cX8_readLine 43 = .ok (.bipush 117, 2) := by decide +kernel
theorem dX8_readLine_45 : decode cX8_readLine 45 = .ok (.bipush 100, 2) := by decide +kernel
theorem dX8_readLine_47 : decode cX8_readLine 47 = .ok (.bipush 103, 2) := by decide +kernel
theorem dX8_readLine_49 : decode cX8_readLine 49 = .ok (.bipush 101, 2) := by decide +kernel
theorem dX8_readLine_51 : decode cX8_readLine 51 = .ok (.iconst 0, 1) := by decide +kernel
theorem dX8_readLine_52 : decode cX8_readLine 52 = .ok (.invokevirtual 101, 3) := by decide +kernel
theorem dX8_readLine_55 : decode cX8_readLine 55 = .ok (.ifCond .eq 8, 3) := by decide +kernel
theorem dX8_readLine_58 : decode cX8_readLine 58 = .ok (.aload_n 0, 1) := by decide +kernel
theorem dX8_readLine_59 : decode cX8_readLine 59 = .ok (.invokevirtual 113, 3) := by decide +kernel
theorem dX8_readLine_62 : decode cX8_readLine 62 = .ok (.ireturn, 1) := by decide +kernel
theorem dX8_readLine_63 : decode cX8_readLine 63 = .ok (.aload_n 0, 1) := by decide +kernel
theorem dX8_readLine_64 : decode cX8_readLine 64 = .ok (.bipush 99, 2) := by decide +kernel
theorem dX8_readLine_66 : decode cX8_readLine 66 = .ok (.bipush 97, 2) := by decide +kernel
theorem dX8_readLine_68 : decode cX8_readLine 68 = .ok (.bipush 115, 2) := by decide +kernel
theorem dX8_readLine_70 : decode cX8_readLine 70 = .ok (.bipush 101, 2) := by decide +kernel
theorem dX8_readLine_72 : decode cX8_readLine 72 = .ok (.iconst 0, 1) := by decide +kernel
theorem dX8_readLine_73 : decode cX8_readLine 73 = .ok (.iconst 0, 1) := by decide +kernel
theorem dX8_readLine_74 : decode cX8_readLine 74 = .ok (.invokevirtual 101, 3) := by decide +kernel
theorem dX8_readLine_77 : decode cX8_readLine 77 = .ok (.ifCond .eq 8, 3) := by decide +kernel
theorem dX8_readLine_80 : decode cX8_readLine 80 = .ok (.aload_n 0, 1) := by decide +kernel
theorem dX8_readLine_81 : decode cX8_readLine 81 = .ok (.invokevirtual 116, 3) := by decide +kernel
theorem dX8_readLine_84 : decode cX8_readLine 84 = .ok (.ireturn, 1) := by decide +kernel
theorem dX8_readLine_85 : decode cX8_readLine 85 = .ok (.aload_n 0, 1) := by decide +kernel
theorem dX8_readLine_86 : decode cX8_readLine 86 = .ok (.bipush 115, 2) := by decide +kernel
theorem dX8_readLine_88 : decode cX8_readLine 88 = .ok (.bipush 101, 2) := by decide +kernel
theorem dX8_readLine_90 : decode cX8_readLine 90 = .ok (.bipush 110, 2) := by decide +kernel
theorem dX8_readLine_92 : decode cX8_readLine 92 = .ok (.bipush 105, 2) := by decide +kernel
theorem dX8_readLine_94 : decode cX8_readLine 94 = .ok (.bipush 111, 2) := by decide +kernel
theorem dX8_readLine_96 : decode cX8_readLine 96 = .ok (.bipush 114, 2) := by decide +kernel
theorem dX8_readLine_98 : decode cX8_readLine 98 = .ok (.invokevirtual 101, 3) := by decide +kernel
theorem dX8_readLine_101 : decode cX8_readLine 101 = .ok (.ifCond .ne 9, 3) := by decide +kernel
theorem dX8_readLine_104 : decode cX8_readLine 104 = .ok (.aload_n 0, 1) := by decide +kernel
theorem dX8_readLine_105 : decode cX8_readLine 105 = .ok (.iconst 1, 1) := by decide +kernel
theorem dX8_readLine_106 : decode cX8_readLine 106 = .ok (.invokevirtual 88, 3) := by decide +kernel
theorem dX8_readLine_109 : decode cX8_readLine 109 = .ok (.ireturn, 1) := by decide +kernel
theorem dX8_readLine_110 : decode cX8_readLine 110 = .ok (.aload_n 0, 1) := by decide +kernel
theorem dX8_readLine_111 : decode cX8_readLine 111 = .ok (.getfield 67, 3) := by decide +kernel
theorem dX8_readLine_114 : decode cX8_readLine 114 = .ok (.bipush 6, 2) := by decide +kernel
theorem dX8_readLine_116 : decode cX8_readLine 116 = .ok (.iaload, 1) := by decide +kernel
theorem dX8_readLine_117 : decode cX8_readLine 117 = .ok (.ifCond .le 9, 3) := by decide +kernel
theorem dX8_readLine_120 : decode cX8_readLine 120 = .ok (.aload_n 0, 1) := by decide +kernel
theorem dX8_readLine_121 : decode cX8_readLine 121 = .ok (.iconst 3, 1) := by decide +kernel
theorem dX8_readLine_122 : decode cX8_readLine 122 = .ok (.invokevirtual 88, 3) := by decide +kernel
theorem dX8_readLine_125 : decode cX8_readLine 125 = .ok (.ireturn, 1) := by decide +kernel
theorem dX8_readLine_126 : decode cX8_readLine 126 = .ok (.aload_n 0, 1) := by decide +kernel
theorem dX8_readLine_127 : decode cX8_readLine 127 = .ok (.invokevirtual 95, 3) := by decide +kernel
theorem dX8_readLine_130 : decode cX8_readLine 130 = .ok (.aload_n 0, 1) := by decide +kernel
theorem dX8_readLine_131 : decode cX8_readLine 131 = .ok (.bipush 6, 2) := by decide +kernel
theorem dX8_readLine_133 : decode cX8_readLine 133 = .ok (.iconst 1, 1) := by decide +kernel
theorem dX8_readLine_134 : decode cX8_readLine 134 = .ok (.bipush 99, 2) := by decide +kernel
theorem dX8_readLine_136 : decode cX8_readLine 136 = .ok (.invokevirtual 98, 3) := by decide +kernel
theorem dX8_readLine_139 : decode cX8_readLine 139 = .ok (.ireturn, 1) := by decide +kernel
theorem dX8_readEnd_0 : decode cX8_readEnd 0 = .ok (.aload_n 0, 1) := by decide +kernel
theorem dX8_readEnd_1 : decode cX8_readEnd 1 = .ok (.getfield 27, 3) := by decide +kernel
theorem dX8_readEnd_4 : decode cX8_readEnd 4 = .ok (.iconst 4, 1) := by decide +kernel
theorem dX8_readEnd_5 : decode cX8_readEnd 5 = .ok (.if_icmp .eq 9, 3) := by decide +kernel
theorem dX8_readEnd_8 : decode cX8_readEnd 8 = .ok (.aload_n 0, 1) := by decide +kernel
theorem dX8_readEnd_9 : decode cX8_readEnd 9 = .ok (.iconst 1, 1) := by decide +kernel
theorem dX8_readEnd_10 : decode cX8_readEnd 10 = .ok (.invokevirtual 88, 3) := by decide +kernel
theorem dX8_readEnd_13 : decode cX8_readEnd 13 = .ok (.ireturn, 1) := by decide +kernel
theorem dX8_readEnd_14 : decode cX8_readEnd 14 = .ok (.aload_n 0, 1) := by decide +kernel
theorem dX8_readEnd_15 : decode cX8_readEnd 15 = .ok (.invokevirtual 95, 3) := by decide +kernel
theorem dX8_readEnd_18 : decode cX8_readEnd 18 = .ok (.iconst 1, 1) := by decide +kernel
theorem dX8_readEnd_19 : decode cX8_readEnd 19 = .ok (.ireturn, 1) := by decide +kernel
theorem dX8_text_0 : decode cX8_text 0 = .ok (.aload_n 0, 1) := by decide +kernel
theorem dX8_text_1 : decode cX8_text 1 = .ok (.iconst 0, 1) := by decide +kernel
theorem dX8_text_2 : decode cX8_text 2 = .ok (.putfield 1, 3) := by decide +kernel
theorem dX8_text_5 : decode cX8_text 5 = .ok (.aload_n 0, 1) := by decide +kernel
theorem dX8_text_6 : decode cX8_text 6 = .ok (.aload_n 0, 1) := by decide +kernel
theorem dX8_text_7 : decode cX8_text 7 = .ok (.getfield 11, 3) := by decide +kernel
theorem dX8_text_10 : decode cX8_text 10 = .ok (.putfield 18, 3) := by decide +kernel
theorem dX8_text_13 : decode cX8_text 13 = .ok (.aload_n 0, 1) := by decide +kernel
theorem dX8_text_14 : decode cX8_text 14 = .ok (.iconst 0, 1) := by decide +kernel
theorem dX8_text_15 : decode cX8_text 15 = .ok (.putfield 11, 3) := by decide +kernel
theorem dX8_text_18 : decode cX8_text 18 = .ok (.aload_n 0, 1) := by decide +kernel
theorem dX8_text_19 : decode cX8_text 19 = .ok (.iconst 0, 1) := by decide +kernel
theorem dX8_text_20 : decode cX8_text 20 = .ok (.putfield 52, 3) := by decide +kernel
theorem dX8_text_23 : decode cX8_text 23 = .ok (.aload_n 0, 1) := by decide +kernel
theorem dX8_text_24 : decode cX8_text 24 = .ok (.iconst 0, 1) := by decide +kernel
theorem dX8_text_25 : decode cX8_text 25 = .ok (.putfield 21, 3) := by decide +kernel
theorem dX8_text_28 : decode cX8_text 28 = .ok (.iconst 0, 1) := by decide +kernel
theorem dX8_text_29 : decode cX8_text 29 = .ok (.istore_n 1, 1) := by decide +kernel
theorem dX8_text_30 : decode cX8_text 30 = .ok (.iconst 0, 1) := by decide +kernel
theorem dX8_text_31 : decode cX8_text 31 = .ok (.istore_n 2, 1) := by decide +kernel
theorem dX8_text_32 : decode cX8_text 32 = .ok (.iload_n 2, 1) := by decide +kernel
theorem dX8_text_33 : decode cX8_text 33 = .ok (.bipush 89, 2) := by decide +kernel
theorem dX8_text_35 : decode cX8_text 35 = .ok (.if_icmp .ge 16, 3) := by decide +kernel
theorem dX8_text_38 : decode cX8_text 38 = .ok (.aload_n 0, 1) := by decide +kernel
theorem dX8_text_39 : decode cX8_text 39 = .ok (.getfield 67, 3) := by decide +kernel
theorem dX8_text_42 : decode cX8_text 42 = .ok (.iload_n 2, 1) := by decide +kernel
theorem dX8_text_43 : decode cX8_text 43 = .ok (.iconst 0, 1) := by decide +kernel
theorem dX8_text_44 : decode cX8_text 44 = .ok (.iastore, 1) := by decide +kernel
theorem dX8_text_45 : decode cX8_text 45 = .ok (.iinc 2 1, 3) := by decide +kernel
theorem dX8_text_48 : decode cX8_text 48 = .ok (.goto (-16), 3) := by decide +kernel
theorem dX8_text_51 : decode cX8_text 51 = .ok (.aload_n 0, 1) := by decide +kernel
theorem dX8_text_52 : decode cX8_text 52 = .ok (.invokevirtual 95, 3) := by decide +kernel
theorem dX8_text_55 : decode cX8_text 55 = .ok (.aload_n 0, 1) := by decide +kernel
theorem dX8_text_56 : decode cX8_text 56 = .ok (.getfield 27, 3) := by decide +kernel
theorem dX8_text_59 : decode cX8_text 59 = .ok (.ifCond .eq 30, 3) := by decide +kernel
theorem dX8_text_62 : decode cX8_text 62 = .ok (.aload_n 0, 1) := by decide +kernel
theorem dX8_text_63 : decode cX8_text 63 = .ok (.invokevirtual 119, 3) := by decide +kernel
theorem dX8_text_66 : decode cX8_text 66 = .ok (.ifCond .eq 10, 3) := by decide +kernel
theorem dX8_text_69 : decode cX8_text 69 = .ok (.aload_n 0, 1) := by decide +kernel
theorem dX8_text_70 : decode cX8_text 70 = .ok (.invokevirtual 122, 3) := by decide +kernel
theorem dX8_text_73 : decode cX8_text 73 = .ok (.ifCond .ne 10, 3) := by decide +kernel
theorem dX8_text_76 : decode cX8_text 76 = .ok (.iconst (-1), 1) := by decide +kernel
theorem dX8_text_77 : decode cX8_text 77 = .ok (.aload_n 0, 1) := by decide +kernel
theorem dX8_text_78 : decode cX8_text 78 = .ok (.getfield 55, 3) := by decide +kernel
theorem dX8_text_81 : decode cX8_text 81 = .ok (.isub, 1) := by decide +kernel
theorem dX8_text_82 : decode cX8_text 82 = .ok (.ireturn, 1) := by decide +kernel
theorem dX8_text_83 : decode cX8_text 83 = .ok (.iinc 1 1, 3) := by decide +kernel
theorem dX8_text_86 : decode cX8_text 86 = .ok (.goto (-31), 3) := by decide +kernel
theorem dX8_text_89 : decode cX8_text 89 = .ok (.aload_n 0, 1) := by decide +kernel
theorem dX8_text_90 : decode cX8_text 90 = .ok (.getfield 67, 3) := by decide +kernel
theorem dX8_text_93 : decode cX8_text 93 = .ok (.iconst 0, 1) := by decide +kernel
theorem dX8_text_94 : decode cX8_text 94 = .ok (.aload_n 0, 1) := by decide +kernel
theorem dX8_text_95 : decode cX8_text 95 = .ok (.getfield 64, 3) := by decide +kernel
theorem dX8_text_98 : decode cX8_text 98 = .ok (.iconst 0, 1) := by decide +kernel
theorem dX8_text_99 : decode cX8_text 99 = .ok (.invokestatic 125, 3) := by decide +kernel
theorem dX8_text_102 : decode cX8_text 102 = .ok (.aload_n 0, 1) := by decide +kernel
theorem dX8_text_103 : decode cX8_text 103 = .ok (.iconst 0, 1) := by decide +kernel
theorem dX8_text_104 : decode cX8_text 104 = .ok (.putfield 129, 3) := by decide +kernel
theorem dX8_text_107 : decode cX8_text 107 = .ok (.iload_n 1, 1) := by decide +kernel
theorem dX8_text_108 : decode cX8_text 108 = .ok (.ireturn, 1) := by decide +kernel
theorem dX8_fault_0 : decode cX8_fault 0 = .ok (.aload_n 0, 1) := by decide +kernel
theorem dX8_fault_1 : decode cX8_fault 1 = .ok (.iconst 0, 1) := by decide +kernel
theorem dX8_fault_2 : decode cX8_fault 2 = .ok (.putfield 1, 3) := by decide +kernel
theorem dX8_fault_5 : decode cX8_fault 5 = .ok (.aload_n 0, 1) := by decide +kernel
theorem dX8_fault_6 : decode cX8_fault 6 = .ok (.getfield 52, 3) := by decide +kernel
theorem dX8_fault_9 : decode cX8_fault 9 = .ok (.ireturn, 1) := by decide +kernel
theorem dX8_judges_0 : decode cX8_judges 0 = .ok (.aload_n 0, 1) := by decide +kernel
theorem dX8_judges_1 : decode cX8_judges 1 = .ok (.getfield 64, 3) := by decide +kernel
theorem dX8_judges_4 : decode cX8_judges 4 = .ok (.bipush 7, 2) := by decide +kernel
theorem dX8_judges_6 : decode cX8_judges 6 = .ok (.iaload, 1) := by decide +kernel
theorem dX8_judges_7 : decode cX8_judges 7 = .ok (.ireturn, 1) := by decide +kernel
theorem dX8_cases_0 : decode cX8_cases 0 = .ok (.aload_n 0, 1) := by decide +kernel
theorem dX8_cases_1 : decode cX8_cases 1 = .ok (.getfield 64, 3) := by decide +kernel
theorem dX8_cases_4 : decode cX8_cases 4 = .ok (.bipush 18, 2) := by decide +kernel
theorem dX8_cases_6 : decode cX8_cases 6 = .ok (.iaload, 1) := by decide +kernel
theorem dX8_cases_7 : decode cX8_cases 7 = .ok (.ireturn, 1) := by decide +kernel
theorem dX8_isJudge_0 : decode cX8_isJudge 0 = .ok (.iload_n 1, 1) := by decide +kernel
theorem dX8_isJudge_1 : decode cX8_isJudge 1 = .ok (.iconst 0, 1) := by decide +kernel
theorem dX8_isJudge_2 : decode cX8_isJudge 2 = .ok (.aload_n 0, 1) := by decide +kernel
theorem dX8_isJudge_3 : decode cX8_isJudge 3 = .ok (.invokevirtual 132, 3) := by decide +kernel
theorem dX8_isJudge_6 : decode cX8_isJudge 6 = .ok (.iconst 1, 1) := by decide +kernel
theorem dX8_isJudge_7 : decode cX8_isJudge 7 = .ok (.isub, 1) := by decide +kernel
theorem dX8_isJudge_8 : decode cX8_isJudge 8 = .ok (.invokestatic 91, 3) := by decide +kernel
theorem dX8_isJudge_11 : decode cX8_isJudge 11 = .ok (.ireturn, 1) := by decide +kernel
theorem dX8_isCase_0 : decode cX8_isCase 0 = .ok (.iload_n 1, 1) := by decide +kernel
theorem dX8_isCase_1 : decode cX8_isCase 1 = .ok (.iconst 0, 1) := by decide +kernel
theorem dX8_isCase_2 : decode cX8_isCase 2 = .ok (.aload_n 0, 1) := by decide +kernel
theorem dX8_isCase_3 : decode cX8_isCase 3 = .ok (.invokevirtual 136, 3) := by decide +kernel
theorem dX8_isCase_6 : decode cX8_isCase 6 = .ok (.iconst 1, 1) := by decide +kernel
theorem dX8_isCase_7 : decode cX8_isCase 7 = .ok (.isub, 1) := by decide +kernel
theorem dX8_isCase_8 : decode cX8_isCase 8 = .ok (.invokestatic 91, 3) := by decide +kernel
theorem dX8_isCase_11 : decode cX8_isCase 11 = .ok (.ireturn, 1) := by decide +kernel
theorem dX8_presides_0 : decode cX8_presides 0 = .ok (.iconst (-1), 1) := by decide +kernel
theorem dX8_presides_1 : decode cX8_presides 1 = .ok (.istore_n 2, 1) := by decide +kernel
theorem dX8_presides_2 : decode cX8_presides 2 = .ok (.iconst 0, 1) := by decide +kernel
theorem dX8_presides_3 : decode cX8_presides 3 = .ok (.istore_n 3, 1) := by decide +kernel
theorem dX8_presides_4 : decode cX8_presides 4 = .ok (.iload_n 3, 1) := by decide +kernel
theorem dX8_presides_5 : decode cX8_presides 5 = .ok (.aload_n 0, 1) := by decide +kernel
theorem dX8_presides_6 : decode cX8_presides 6 = .ok (.bipush 7, 2) := by decide +kernel
theorem dX8_presides_8 : decode cX8_presides 8 = .ok (.iaload, 1) := by decide +kernel
theorem dX8_presides_9 : decode cX8_presides 9 = .ok (.if_icmp .ge 39, 3) := by decide +kernel
theorem dX8_presides_12 : decode cX8_presides 12 = .ok (.iload_n 1, 1) := by decide +kernel
theorem dX8_presides_13 : decode cX8_presides 13 = .ok (.iload_n 3, 1) := by decide +kernel
theorem dX8_presides_14 : decode cX8_presides 14 = .ok (.invokestatic 105, 3) := by decide +kernel
theorem dX8_presides_17 : decode cX8_presides 17 = .ok (.ifCond .eq 25, 3) := by decide +kernel
theorem dX8_presides_20 : decode cX8_presides 20 = .ok (.iload_n 2, 1) := by decide +kernel
theorem dX8_presides_21 : decode cX8_presides 21 = .ok (.iconst (-1), 1) := by decide +kernel
theorem dX8_presides_22 : decode cX8_presides 22 = .ok (.if_icmp .eq 18, 3) := by decide +kernel
theorem dX8_presides_25 : decode cX8_presides 25 = .ok (.aload_n 0, 1) := by decide +kernel
theorem dX8_presides_26 : decode cX8_presides 26 = .ok (.bipush 8, 2) := by decide +kernel
theorem dX8_presides_28 : decode cX8_presides 28 = .ok (.iload_n 3, 1) := by decide +kernel
theorem dX8_presides_29 : decode cX8_presides 29 = .ok (.iadd, 1) := by decide +kernel
theorem dX8_presides_30 : decode cX8_presides 30 = .ok (.iaload, 1) := by decide +kernel
theorem dX8_presides_31 : decode cX8_presides 31 = .ok (.aload_n 0, 1) := by decide +kernel
theorem dX8_presides_32 : decode cX8_presides 32 = .ok (.bipush 8, 2) := by decide +kernel
theorem dX8_presides_34 : decode cX8_presides 34 = .ok (.iload_n 2, 1) := by decide +kernel
theorem dX8_presides_35 : decode cX8_presides 35 = .ok (.iadd, 1) := by decide +kernel
theorem dX8_presides_36 : decode cX8_presides 36 = .ok (.iaload, 1) := by decide +kernel
theorem dX8_presides_37 : decode cX8_presides 37 = .ok (.if_icmp .le 5, 3) := by decide +kernel
theorem dX8_presides_40 : decode cX8_presides 40 = .ok (.iload_n 3, 1) := by decide +kernel
theorem dX8_presides_41 : decode cX8_presides 41 = .ok (.istore_n 2, 1) := by decide +kernel
theorem dX8_presides_42 : decode cX8_presides 42 = .ok (.iinc 3 1, 3) := by decide +kernel
theorem dX8_presides_45 : decode cX8_presides 45 = .ok (.goto (-41), 3) := by decide +kernel
theorem dX8_presides_48 : decode cX8_presides 48 = .ok (.iload_n 2, 1) := by decide +kernel
theorem dX8_presides_49 : decode cX8_presides 49 = .ok (.ireturn, 1) := by decide +kernel
theorem dX8_pairOf_0 : decode cX8_pairOf 0 = .ok (.iconst 0, 1) := by decide +kernel
theorem dX8_pairOf_1 : decode cX8_pairOf 1 = .ok (.istore 4, 2) := by decide +kernel
theorem dX8_pairOf_3 : decode cX8_pairOf 3 = .ok (.iconst 0, 1) := by decide +kernel
theorem dX8_pairOf_4 : decode cX8_pairOf 4 = .ok (.istore 5, 2) := by decide +kernel
theorem dX8_pairOf_6 : decode cX8_pairOf 6 = .ok (.iload 5, 2) := by decide +kernel
theorem dX8_pairOf_8 : decode cX8_pairOf 8 = .ok (.aload_n 0, 1) := by decide +kernel
theorem dX8_pairOf_9 : decode cX8_pairOf 9 = .ok (.bipush 18, 2) := by decide +kernel
theorem dX8_pairOf_11 : decode cX8_pairOf 11 = .ok (.iaload, 1) := by decide +kernel
theorem dX8_pairOf_12 : decode cX8_pairOf 12 = .ok (.if_icmp .ge 46, 3) := by decide +kernel
theorem dX8_pairOf_15 : decode cX8_pairOf 15 = .ok (.iload 5, 2) := by decide +kernel
theorem dX8_pairOf_17 : decode cX8_pairOf 17 = .ok (.iload_n 3, 1) := by decide +kernel
theorem dX8_pairOf_18 : decode cX8_pairOf 18 = .ok (.if_icmp .eq 34, 3) := by decide +kernel
theorem dX8_pairOf_21 : decode cX8_pairOf 21 = .ok (.aload_n 0, 1) := by decide +kernel
theorem dX8_pairOf_22 : decode cX8_pairOf 22 = .ok (.bipush 61, 2) := by decide +kernel
theorem dX8_pairOf_24 : decode cX8_pairOf 24 = .ok (.iload 5, 2) := by decide +kernel
theorem dX8_pairOf_26 : decode cX8_pairOf 26 = .ok (.iadd, 1) := by decide +kernel
theorem dX8_pairOf_27 : decode cX8_pairOf 27 = .ok (.iaload, 1) := by decide +kernel
theorem dX8_pairOf_28 : decode cX8_pairOf 28 = .ok (.iload_n 1, 1) := by decide +kernel
theorem dX8_pairOf_29 : decode cX8_pairOf 29 = .ok (.invokestatic 105, 3) := by decide +kernel
theorem dX8_pairOf_32 : decode cX8_pairOf 32 = .ok (.ifCond .eq 20, 3) := by decide +kernel
theorem dX8_pairOf_35 : decode cX8_pairOf 35 = .ok (.aload_n 0, 1) := by decide +kernel
theorem dX8_pairOf_36 : decode cX8_pairOf 36 = .ok (.bipush 61, 2) := by decide +kernel
theorem dX8_pairOf_38 : decode cX8_pairOf 38 = .ok (.iload 5, 2) := by decide +kernel
theorem dX8_pairOf_40 : decode cX8_pairOf 40 = .ok (.iadd, 1) := by decide +kernel
theorem dX8_pairOf_41 : decode cX8_pairOf 41 = .ok (.iaload, 1) := by decide +kernel
theorem dX8_pairOf_42 : decode cX8_pairOf 42 = .ok (.iload_n 2, 1) := by decide +kernel
theorem dX8_pairOf_43 : decode cX8_pairOf 43 = .ok (.invokestatic 105, 3) := by decide +kernel
theorem dX8_pairOf_46 : decode cX8_pairOf 46 = .ok (.ifCond .eq 6, 3) := by decide +kernel
theorem dX8_pairOf_49 : decode cX8_pairOf 49 = .ok (.iinc 4 1, 3) := by decide +kernel
theorem dX8_pairOf_52 : decode cX8_pairOf 52 = .ok (.iinc 5 1, 3) := by decide +kernel
theorem dX8_pairOf_55 : decode cX8_pairOf 55 = .ok (.goto (-49), 3) := by decide +kernel
theorem dX8_pairOf_58 : decode cX8_pairOf 58 = .ok (.iload 4, 2) := by decide +kernel
theorem dX8_pairOf_60 : decode cX8_pairOf 60 = .ok (.ireturn, 1) := by decide +kernel
theorem dX8_loadOf_0 : decode cX8_loadOf 0 = .ok (.iconst 0, 1) := by decide +kernel
theorem dX8_loadOf_1 : decode cX8_loadOf 1 = .ok (.istore_n 3, 1) := by decide +kernel
theorem dX8_loadOf_2 : decode cX8_loadOf 2 = .ok (.iconst 0, 1) := by decide +kernel
theorem dX8_loadOf_3 : decode cX8_loadOf 3 = .ok (.istore 4, 2) := by decide +kernel
theorem dX8_loadOf_5 : decode cX8_loadOf 5 = .ok (.iload 4, 2) := by decide +kernel
theorem dX8_loadOf_7 : decode cX8_loadOf 7 = .ok (.aload_n 0, 1) := by decide +kernel
theorem dX8_loadOf_8 : decode cX8_loadOf 8 = .ok (.bipush 18, 2) := by decide +kernel
theorem dX8_loadOf_10 : decode cX8_loadOf 10 = .ok (.iaload, 1) := by decide +kernel
theorem dX8_loadOf_11 : decode cX8_loadOf 11 = .ok (.if_icmp .ge 62, 3) := by decide +kernel
theorem dX8_loadOf_14 : decode cX8_loadOf 14 = .ok (.iload 4, 2) := by decide +kernel
theorem dX8_loadOf_16 : decode cX8_loadOf 16 = .ok (.iload_n 2, 1) := by decide +kernel
theorem dX8_loadOf_17 : decode cX8_loadOf 17 = .ok (.if_icmp .eq 50, 3) := by decide +kernel
theorem dX8_loadOf_20 : decode cX8_loadOf 20 = .ok (.aload_n 0, 1) := by decide +kernel
theorem dX8_loadOf_21 : decode cX8_loadOf 21 = .ok (.bipush 61, 2) := by decide +kernel
theorem dX8_loadOf_23 : decode cX8_loadOf 23 = .ok (.iload 4, 2) := by decide +kernel
theorem dX8_loadOf_25 : decode cX8_loadOf 25 = .ok (.iadd, 1) := by decide +kernel
theorem dX8_loadOf_26 : decode cX8_loadOf 26 = .ok (.iaload, 1) := by decide +kernel
theorem dX8_loadOf_27 : decode cX8_loadOf 27 = .ok (.iload_n 1, 1) := by decide +kernel
theorem dX8_loadOf_28 : decode cX8_loadOf 28 = .ok (.invokestatic 105, 3) := by decide +kernel
theorem dX8_loadOf_31 : decode cX8_loadOf 31 = .ok (.ifCond .eq 36, 3) := by decide +kernel
theorem dX8_loadOf_34 : decode cX8_loadOf 34 = .ok (.iload_n 3, 1) := by decide +kernel
theorem dX8_loadOf_35 : decode cX8_loadOf 35 = .ok (.aload_n 0, 1) := by decide +kernel
theorem dX8_loadOf_36 : decode cX8_loadOf 36 = .ok (.bipush 19, 2) := by decide +kernel
theorem dX8_loadOf_38 : decode cX8_loadOf 38 = .ok (.iload 4, 2) := by decide +kernel
theorem dX8_loadOf_40 : decode cX8_loadOf 40 = .ok (.iadd, 1) := by decide +kernel
theorem dX8_loadOf_41 : decode cX8_loadOf 41 = .ok (.iaload, 1) := by decide +kernel
theorem dX8_loadOf_42 : decode cX8_loadOf 42 = .ok (.aload_n 0, 1) := by decide +kernel
theorem dX8_loadOf_43 : decode cX8_loadOf 43 = .ok (.aload_n 0, 1) := by decide +kernel
theorem dX8_loadOf_44 : decode cX8_loadOf 44 = .ok (.bipush 61, 2) := by decide +kernel
theorem dX8_loadOf_46 : decode cX8_loadOf 46 = .ok (.iload 4, 2) := by decide +kernel
theorem dX8_loadOf_48 : decode cX8_loadOf 48 = .ok (.iadd, 1) := by decide +kernel
theorem dX8_loadOf_49 : decode cX8_loadOf 49 = .ok (.iaload, 1) := by decide +kernel
theorem dX8_loadOf_50 : decode cX8_loadOf 50 = .ok (.invokestatic 139, 3) := by decide +kernel
theorem dX8_loadOf_53 : decode cX8_loadOf 53 = .ok (.iload_n 1, 1) := by decide +kernel
theorem dX8_loadOf_54 : decode cX8_loadOf 54 = .ok (.if_icmp .ne 9, 3) := by decide +kernel
theorem dX8_loadOf_57 : decode cX8_loadOf 57 = .ok (.aload_n 0, 1) := by decide +kernel
theorem dX8_loadOf_58 : decode cX8_loadOf 58 = .ok (.iconst 3, 1) := by decide +kernel
theorem dX8_loadOf_59 : decode cX8_loadOf 59 = .ok (.iaload, 1) := by decide +kernel
theorem dX8_loadOf_60 : decode cX8_loadOf 60 = .ok (.goto 4, 3) := by decide +kernel
theorem dX8_loadOf_63 : decode cX8_loadOf 63 = .ok (.iconst 0, 1) := by decide +kernel
theorem dX8_loadOf_64 : decode cX8_loadOf 64 = .ok (.iadd, 1) := by decide +kernel
theorem dX8_loadOf_65 : decode cX8_loadOf 65 = .ok (.iadd, 1) := by decide +kernel
theorem dX8_loadOf_66 : decode cX8_loadOf 66 = .ok (.istore_n 3, 1) := by decide +kernel
theorem dX8_loadOf_67 : decode cX8_loadOf 67 = .ok (.iinc 4 1, 3) := by decide +kernel
theorem dX8_loadOf_70 : decode cX8_loadOf 70 = .ok (.goto (-65), 3) := by decide +kernel
theorem dX8_loadOf_73 : decode cX8_loadOf 73 = .ok (.iload_n 3, 1) := by decide +kernel
theorem dX8_loadOf_74 : decode cX8_loadOf 74 = .ok (.ireturn, 1) := by decide +kernel
theorem dX8_tensionOf_0 : decode cX8_tensionOf 0 = .ok (.iconst 0, 1) := by decide +kernel
theorem dX8_tensionOf_1 : decode cX8_tensionOf 1 = .ok (.istore_n 3, 1) := by decide +kernel
theorem dX8_tensionOf_2 : decode cX8_tensionOf 2 = .ok (.iconst 0, 1) := by decide +kernel
theorem dX8_tensionOf_3 : decode cX8_tensionOf 3 = .ok (.istore 4, 2) := by decide +kernel
theorem dX8_tensionOf_5 : decode cX8_tensionOf 5 = .ok (.iconst 0, 1) := by decide +kernel
theorem dX8_tensionOf_6 : decode cX8_tensionOf 6 = .ok (.istore 5, 2) := by decide +kernel
theorem dX8_tensionOf_8 : decode cX8_tensionOf 8 = .ok (.iload 5, 2) := by decide +kernel
theorem dX8_tensionOf_10 : decode cX8_tensionOf 10 = .ok (.aload_n 0, 1) := by decide +kernel
theorem dX8_tensionOf_11 : decode cX8_tensionOf 11 = .ok (.bipush 7, 2) := by decide +kernel
theorem dX8_tensionOf_13 : decode cX8_tensionOf 13 = .ok (.iaload, 1) := by decide +kernel
theorem dX8_tensionOf_14 : decode cX8_tensionOf 14 = .ok (.if_icmp .ge 70, 3) := by decide +kernel
theorem dX8_tensionOf_17 : decode cX8_tensionOf 17 = .ok (.iload_n 2, 1) := by decide +kernel
theorem dX8_tensionOf_18 : decode cX8_tensionOf 18 = .ok (.iload 5, 2) := by decide +kernel
theorem dX8_tensionOf_20 : decode cX8_tensionOf 20 = .ok (.invokestatic 105, 3) := by decide +kernel
theorem dX8_tensionOf_23 : decode cX8_tensionOf 23 = .ok (.ifCond .ne 6, 3) := by decide +kernel
theorem dX8_tensionOf_26 : decode cX8_tensionOf 26 = .ok (.goto 52, 3) := by decide +kernel
theorem dX8_tensionOf_29 : decode cX8_tensionOf 29 = .ok (.iload 4, 2) := by decide +kernel
theorem dX8_tensionOf_31 : decode cX8_tensionOf 31 = .ok (.aload_n 0, 1) := by decide +kernel
theorem dX8_tensionOf_32 : decode cX8_tensionOf 32 = .ok (.iload 5, 2) := by decide +kernel
theorem dX8_tensionOf_34 : decode cX8_tensionOf 34 = .ok (.iload_n 1, 1) := by decide +kernel
theorem dX8_tensionOf_35 : decode cX8_tensionOf 35 = .ok (.invokestatic 143, 3) := by decide +kernel
theorem dX8_tensionOf_38 : decode cX8_tensionOf 38 = .ok (.iadd, 1) := by decide +kernel
theorem dX8_tensionOf_39 : decode cX8_tensionOf 39 = .ok (.istore 4, 2) := by decide +kernel
theorem dX8_tensionOf_41 : decode cX8_tensionOf 41 = .ok (.iconst 0, 1) := by decide +kernel
theorem dX8_tensionOf_42 : decode cX8_tensionOf 42 = .ok (.istore 6, 2) := by decide +kernel
theorem dX8_tensionOf_44 : decode cX8_tensionOf 44 = .ok (.iload 6, 2) := by decide +kernel
theorem dX8_tensionOf_46 : decode cX8_tensionOf 46 = .ok (.iload 5, 2) := by decide +kernel
theorem dX8_tensionOf_48 : decode cX8_tensionOf 48 = .ok (.if_icmp .ge 30, 3) := by decide +kernel
theorem dX8_tensionOf_51 : decode cX8_tensionOf 51 = .ok (.iload_n 2, 1) := by decide +kernel
theorem dX8_tensionOf_52 : decode cX8_tensionOf 52 = .ok (.iload 6, 2) := by decide +kernel
theorem dX8_tensionOf_54 : decode cX8_tensionOf 54 = .ok (.invokestatic 105, 3) := by decide +kernel
theorem dX8_tensionOf_57 : decode cX8_tensionOf 57 = .ok (.ifCond .eq 15, 3) := by decide +kernel
theorem dX8_tensionOf_60 : decode cX8_tensionOf 60 = .ok (.iload_n 3, 1) := by decide +kernel
theorem dX8_tensionOf_61 : decode cX8_tensionOf 61 = .ok (.aload_n 0, 1) := by decide +kernel
theorem dX8_tensionOf_62 : decode cX8_tensionOf 62 = .ok (.iload 5, 2) := by decide +kernel
theorem dX8_tensionOf_64 : decode cX8_tensionOf 64 = .ok (.iload 6, 2) := by decide +kernel
theorem dX8_tensionOf_66 : decode cX8_tensionOf 66 = .ok (.iload_n 1, 1) := by decide +kernel
theorem dX8_tensionOf_67 : decode cX8_tensionOf 67 = .ok (.invokestatic 147, 3) := by decide +kernel
theorem dX8_tensionOf_70 : decode cX8_tensionOf 70 = .ok (.iadd, 1) := by decide +kernel
theorem dX8_tensionOf_71 : decode cX8_tensionOf 71 = .ok (.istore_n 3, 1) := by decide +kernel
theorem dX8_tensionOf_72 : decode cX8_tensionOf 72 = .ok (.iinc 6 1, 3) := by decide +kernel
theorem dX8_tensionOf_75 : decode cX8_tensionOf 75 = .ok (.goto (-31), 3) := by decide +kernel
theorem dX8_tensionOf_78 : decode cX8_tensionOf 78 = .ok (.iinc 5 1, 3) := by decide +kernel
theorem dX8_tensionOf_81 : decode cX8_tensionOf 81 = .ok (.goto (-73), 3) := by decide +kernel
theorem dX8_tensionOf_84 : decode cX8_tensionOf 84 = .ok (.aload_n 0, 1) := by decide +kernel
theorem dX8_tensionOf_85 : decode cX8_tensionOf 85 = .ok (.iconst 1, 1) := by decide +kernel
theorem dX8_tensionOf_86 : decode cX8_tensionOf 86 = .ok (.iaload, 1) := by decide +kernel
theorem dX8_tensionOf_87 : decode cX8_tensionOf 87 = .ok (.iload_n 3, 1) := by decide +kernel
theorem dX8_tensionOf_88 : decode cX8_tensionOf 88 = .ok (.imul, 1) := by decide +kernel
theorem dX8_tensionOf_89 : decode cX8_tensionOf 89 = .ok (.aload_n 0, 1) := by decide +kernel
theorem dX8_tensionOf_90 : decode cX8_tensionOf 90 = .ok (.iconst 2, 1) := by decide +kernel
theorem dX8_tensionOf_91 : decode cX8_tensionOf 91 = .ok (.iaload, 1) := by decide +kernel
theorem dX8_tensionOf_92 : decode cX8_tensionOf 92 = .ok (.iload 4, 2) := by decide +kernel
theorem dX8_tensionOf_94 : decode cX8_tensionOf 94 = .ok (.imul, 1) := by decide +kernel
theorem dX8_tensionOf_95 : decode cX8_tensionOf 95 = .ok (.iadd, 1) := by decide +kernel
theorem dX8_tensionOf_96 : decode cX8_tensionOf 96 = .ok (.ireturn, 1) := by decide +kernel
theorem dX8_having_0 : decode cX8_having 0 = .ok (.iconst 0, 1) := by decide +kernel
theorem dX8_having_1 : decode cX8_having 1 = .ok (.istore_n 2, 1) := by decide +kernel
theorem dX8_having_2 : decode cX8_having 2 = .ok (.iconst 0, 1) := by decide +kernel
theorem dX8_having_3 : decode cX8_having 3 = .ok (.istore_n 3, 1) := by decide +kernel
theorem dX8_having_4 : decode cX8_having 4 = .ok (.iload_n 3, 1) := by decide +kernel
theorem dX8_having_5 : decode cX8_having 5 = .ok (.aload_n 0, 1) := by decide +kernel
theorem dX8_having_6 : decode cX8_having 6 = .ok (.invokevirtual 136, 3) := by decide +kernel
theorem dX8_having_9 : decode cX8_having 9 = .ok (.if_icmp .ge 25, 3) := by decide +kernel
theorem dX8_having_12 : decode cX8_having 12 = .ok (.aload_n 0, 1) := by decide +kernel
theorem dX8_having_13 : decode cX8_having 13 = .ok (.getfield 64, 3) := by decide +kernel
theorem dX8_having_16 : decode cX8_having 16 = .ok (.bipush 75, 2) := by decide +kernel
theorem dX8_having_18 : decode cX8_having 18 = .ok (.iload_n 3, 1) := by decide +kernel
theorem dX8_having_19 : decode cX8_having 19 = .ok (.iadd, 1) := by decide +kernel
theorem dX8_having_20 : decode cX8_having 20 = .ok (.iaload, 1) := by decide +kernel
theorem dX8_having_21 : decode cX8_having 21 = .ok (.iload_n 1, 1) := by decide +kernel
theorem dX8_having_22 : decode cX8_having 22 = .ok (.if_icmp .ne 6, 3) := by decide +kernel
theorem dX8_having_25 : decode cX8_having 25 = .ok (.iinc 2 1, 3) := by decide +kernel
theorem dX8_having_28 : decode cX8_having 28 = .ok (.iinc 3 1, 3) := by decide +kernel
theorem dX8_having_31 : decode cX8_having 31 = .ok (.goto (-27), 3) := by decide +kernel
theorem dX8_having_34 : decode cX8_having 34 = .ok (.iload_n 2, 1) := by decide +kernel
theorem dX8_having_35 : decode cX8_having 35 = .ok (.ireturn, 1) := by decide +kernel
theorem dX8_now_0 : decode cX8_now 0 = .ok (.aload_n 0, 1) := by decide +kernel
theorem dX8_now_1 : decode cX8_now 1 = .ok (.iconst 0, 1) := by decide +kernel
theorem dX8_now_2 : decode cX8_now 2 = .ok (.putfield 1, 3) := by decide +kernel
theorem dX8_now_5 : decode cX8_now 5 = .ok (.iload_n 1, 1) := by decide +kernel
theorem dX8_now_6 : decode cX8_now 6 = .ok (.tableswitch 81 0 6 #[42, 47, 52, 59, 65, 71, 76], 42) := by decide +kernel
theorem dX8_now_48 : decode cX8_now 48 = .ok (.aload_n 0, 1) := by decide +kernel
theorem dX8_now_49 : decode cX8_now 49 = .ok (.invokevirtual 132, 3) := by decide +kernel
theorem dX8_now_52 : decode cX8_now 52 = .ok (.ireturn, 1) := by decide +kernel
theorem dX8_now_53 : decode cX8_now 53 = .ok (.aload_n 0, 1) := by decide +kernel
theorem dX8_now_54 : decode cX8_now 54 = .ok (.invokevirtual 136, 3) := by decide +kernel
theorem dX8_now_57 : decode cX8_now 57 = .ok (.ireturn, 1) := by decide +kernel
theorem dX8_now_58 : decode cX8_now 58 = .ok (.aload_n 0, 1) := by decide +kernel
theorem dX8_now_59 : decode cX8_now 59 = .ok (.getfield 64, 3) := by decide +kernel
theorem dX8_now_62 : decode cX8_now 62 = .ok (.iconst 5, 1) := by decide +kernel
theorem dX8_now_63 : decode cX8_now 63 = .ok (.iaload, 1) := by decide +kernel
theorem dX8_now_64 : decode cX8_now 64 = .ok (.ireturn, 1) := by decide +kernel
theorem dX8_now_65 : decode cX8_now 65 = .ok (.aload_n 0, 1) := by decide +kernel
theorem dX8_now_66 : decode cX8_now 66 = .ok (.iconst 1, 1) := by decide +kernel
theorem dX8_now_67 : decode cX8_now 67 = .ok (.invokevirtual 151, 3) := by decide +kernel
theorem dX8_now_70 : decode cX8_now 70 = .ok (.ireturn, 1) := by decide +kernel
theorem dX8_now_71 : decode cX8_now 71 = .ok (.aload_n 0, 1) := by decide +kernel
theorem dX8_now_72 : decode cX8_now 72 = .ok (.iconst 2, 1) := by decide +kernel
theorem dX8_now_73 : decode cX8_now 73 = .ok (.invokevirtual 151, 3) := by decide +kernel
theorem dX8_now_76 : decode cX8_now 76 = .ok (.ireturn, 1) := by decide +kernel
theorem dX8_now_77 : decode cX8_now 77 = .ok (.aload_n 0, 1) := by decide +kernel
theorem dX8_now_78 : decode cX8_now 78 = .ok (.getfield 129, 3) := by decide +kernel
theorem dX8_now_81 : decode cX8_now 81 = .ok (.ireturn, 1) := by decide +kernel
theorem dX8_now_82 : decode cX8_now 82 = .ok (.aload_n 0, 1) := by decide +kernel
theorem dX8_now_83 : decode cX8_now 83 = .ok (.getfield 11, 3) := by decide +kernel
theorem dX8_now_86 : decode cX8_now 86 = .ok (.ireturn, 1) := by decide +kernel
theorem dX8_now_87 : decode cX8_now 87 = .ok (.iconst (-1), 1) := by decide +kernel
theorem dX8_now_88 : decode cX8_now 88 = .ok (.ireturn, 1) := by decide +kernel
theorem dX8_countsOf_0 : decode cX8_countsOf 0 = .ok (.iconst 0, 1) := by decide +kernel
theorem dX8_countsOf_1 : decode cX8_countsOf 1 = .ok (.istore_n 3, 1) := by decide +kernel
theorem dX8_countsOf_2 : decode cX8_countsOf 2 = .ok (.iconst 0, 1) := by decide +kernel
theorem dX8_countsOf_3 : decode cX8_countsOf 3 = .ok (.istore 4, 2) := by decide +kernel
theorem dX8_countsOf_5 : decode cX8_countsOf 5 = .ok (.iload 4, 2) := by decide +kernel
theorem dX8_countsOf_7 : decode cX8_countsOf 7 = .ok (.aload_n 0, 1) := by decide +kernel
theorem dX8_countsOf_8 : decode cX8_countsOf 8 = .ok (.invokevirtual 136, 3) := by decide +kernel
theorem dX8_countsOf_11 : decode cX8_countsOf 11 = .ok (.if_icmp .ge 83, 3) := by decide +kernel
theorem dX8_countsOf_14 : decode cX8_countsOf 14 = .ok (.iload_n 2, 1) := by decide +kernel
theorem dX8_countsOf_15 : decode cX8_countsOf 15 = .ok (.iconst 3, 1) := by decide +kernel
theorem dX8_countsOf_16 : decode cX8_countsOf 16 = .ok (.if_icmp .ne 23, 3) := by decide +kernel
theorem dX8_countsOf_19 : decode cX8_countsOf 19 = .ok (.aload_n 0, 1) := by decide +kernel
theorem dX8_countsOf_20 : decode cX8_countsOf 20 = .ok (.getfield 64, 3) := by decide +kernel
theorem dX8_countsOf_23 : decode cX8_countsOf 23 = .ok (.bipush 61, 2) := by decide +kernel
theorem dX8_countsOf_25 : decode cX8_countsOf 25 = .ok (.iload 4, 2) := by decide +kernel
theorem dX8_countsOf_27 : decode cX8_countsOf 27 = .ok (.iadd, 1) := by decide +kernel
theorem dX8_countsOf_28 : decode cX8_countsOf 28 = .ok (.iaload, 1) := by decide +kernel
theorem dX8_countsOf_29 : decode cX8_countsOf 29 = .ok (.iload_n 1, 1) := by decide +kernel
theorem dX8_countsOf_30 : decode cX8_countsOf 30 = .ok (.invokestatic 105, 3) := by decide +kernel
theorem dX8_countsOf_33 : decode cX8_countsOf 33 = .ok (.ifCond .eq 55, 3) := by decide +kernel
theorem dX8_countsOf_36 : decode cX8_countsOf 36 = .ok (.goto 49, 3) := by decide +kernel
theorem dX8_countsOf_39 : decode cX8_countsOf 39 = .ok (.iload_n 2, 1) := by decide +kernel
theorem dX8_countsOf_40 : decode cX8_countsOf 40 = .ok (.iconst 4, 1) := by decide +kernel
theorem dX8_countsOf_41 : decode cX8_countsOf 41 = .ok (.if_icmp .ne 27, 3) := by decide +kernel
theorem dX8_countsOf_44 : decode cX8_countsOf 44 = .ok (.aload_n 0, 1) := by decide +kernel
theorem dX8_countsOf_45 : decode cX8_countsOf 45 = .ok (.getfield 64, 3) := by decide +kernel
theorem dX8_countsOf_48 : decode cX8_countsOf 48 = .ok (.aload_n 0, 1) := by decide +kernel
theorem dX8_countsOf_49 : decode cX8_countsOf 49 = .ok (.getfield 64, 3) := by decide +kernel
theorem dX8_countsOf_52 : decode cX8_countsOf 52 = .ok (.bipush 61, 2) := by decide +kernel
theorem dX8_countsOf_54 : decode cX8_countsOf 54 = .ok (.iload 4, 2) := by decide +kernel
theorem dX8_countsOf_56 : decode cX8_countsOf 56 = .ok (.iadd, 1) := by decide +kernel
theorem dX8_countsOf_57 : decode cX8_countsOf 57 = .ok (.iaload, 1) := by decide +kernel
theorem dX8_countsOf_58 : decode cX8_countsOf 58 = .ok (.invokestatic 139, 3) := by decide +kernel
theorem dX8_countsOf_61 : decode cX8_countsOf 61 = .ok (.iload_n 1, 1) := by decide +kernel
theorem dX8_countsOf_62 : decode cX8_countsOf 62 = .ok (.if_icmp .ne 26, 3) := by decide +kernel
theorem dX8_countsOf_65 : decode cX8_countsOf 65 = .ok (.goto 20, 3) := by decide +kernel
theorem dX8_countsOf_68 : decode cX8_countsOf 68 = .ok (.aload_n 0, 1) := by decide +kernel
theorem dX8_countsOf_69 : decode cX8_countsOf 69 = .ok (.getfield 64, 3) := by decide +kernel
theorem dX8_countsOf_72 : decode cX8_countsOf 72 = .ok (.bipush 47, 2) := by decide +kernel
theorem dX8_countsOf_74 : decode cX8_countsOf 74 = .ok (.iload 4, 2) := by decide +kernel
theorem dX8_countsOf_76 : decode cX8_countsOf 76 = .ok (.iadd, 1) := by decide +kernel
theorem dX8_countsOf_77 : decode cX8_countsOf 77 = .ok (.iaload, 1) := by decide +kernel
theorem dX8_countsOf_78 : decode cX8_countsOf 78 = .ok (.iload_n 1, 1) := by decide +kernel
theorem dX8_countsOf_79 : decode cX8_countsOf 79 = .ok (.invokestatic 105, 3) := by decide +kernel
theorem dX8_countsOf_82 : decode cX8_countsOf 82 = .ok (.ifCond .eq 6, 3) := by decide +kernel
theorem dX8_countsOf_85 : decode cX8_countsOf 85 = .ok (.iinc 3 1, 3) := by decide +kernel
theorem dX8_countsOf_88 : decode cX8_countsOf 88 = .ok (.iinc 4 1, 3) := by decide +kernel
theorem dX8_countsOf_91 : decode cX8_countsOf 91 = .ok (.goto (-86), 3) := by decide +kernel
theorem dX8_countsOf_94 : decode cX8_countsOf 94 = .ok (.iload_n 3, 1) := by decide +kernel
theorem dX8_countsOf_95 : decode cX8_countsOf 95 = .ok (.ireturn, 1) := by decide +kernel
theorem dX8_judge_0 : decode cX8_judge 0 = .ok (.aload_n 0, 1) := by decide +kernel
theorem dX8_judge_1 : decode cX8_judge 1 = .ok (.iconst 0, 1) := by decide +kernel
theorem dX8_judge_2 : decode cX8_judge 2 = .ok (.putfield 1, 3) := by decide +kernel
theorem dX8_judge_5 : decode cX8_judge 5 = .ok (.aload_n 0, 1) := by decide +kernel
theorem dX8_judge_6 : decode cX8_judge 6 = .ok (.iload_n 1, 1) := by decide +kernel
theorem dX8_judge_7 : decode cX8_judge 7 = .ok (.invokevirtual 154, 3) := by decide +kernel
theorem dX8_judge_10 : decode cX8_judge 10 = .ok (.ifCond .eq 12, 3) := by decide +kernel
theorem dX8_judge_13 : decode cX8_judge 13 = .ok (.iload_n 2, 1) := by decide +kernel
theorem dX8_judge_14 : decode cX8_judge 14 = .ok (.iconst 0, 1) := by decide +kernel
theorem dX8_judge_15 : decode cX8_judge 15 = .ok (.iconst 5, 1) := by decide +kernel
theorem dX8_judge_16 : decode cX8_judge 16 = .ok (.invokestatic 91, 3) := by decide +kernel
theorem dX8_judge_19 : decode cX8_judge 19 = .ok (.ifCond .ne 8, 3) := by decide +kernel
theorem dX8_judge_22 : decode cX8_judge 22 = .ok (.aload_n 0, 1) := by decide +kernel
theorem dX8_judge_23 : decode cX8_judge 23 = .ok (.invokevirtual 157, 3) := by decide +kernel
theorem dX8_judge_26 : decode cX8_judge 26 = .ok (.ireturn, 1) := by decide +kernel
theorem dX8_judge_27 : decode cX8_judge 27 = .ok (.iload_n 2, 1) := by decide +kernel
theorem dX8_judge_28 : decode cX8_judge 28 = .ok (.tableswitch 68 0 2 #[28, 38, 58], 28) := by decide +kernel
theorem dX8_judge_56 : decode cX8_judge 56 = .ok (.aload_n 0, 1) := by decide +kernel
theorem dX8_judge_57 : decode cX8_judge 57 = .ok (.getfield 64, 3) := by decide +kernel
theorem dX8_judge_60 : decode cX8_judge 60 = .ok (.bipush 8, 2) := by decide +kernel
theorem dX8_judge_62 : decode cX8_judge 62 = .ok (.iload_n 1, 1) := by decide +kernel
theorem dX8_judge_63 : decode cX8_judge 63 = .ok (.iadd, 1) := by decide +kernel
theorem dX8_judge_64 : decode cX8_judge 64 = .ok (.iaload, 1) := by decide +kernel
theorem dX8_judge_65 : decode cX8_judge 65 = .ok (.ireturn, 1) := by decide +kernel
theorem dX8_judge_66 : decode cX8_judge 66 = .ok (.aload_n 0, 1) := by decide +kernel
theorem dX8_judge_67 : decode cX8_judge 67 = .ok (.getfield 64, 3) := by decide +kernel
theorem dX8_judge_70 : decode cX8_judge 70 = .ok (.bipush 17, 2) := by decide +kernel
theorem dX8_judge_72 : decode cX8_judge 72 = .ok (.iaload, 1) := by decide +kernel
theorem dX8_judge_73 : decode cX8_judge 73 = .ok (.iload_n 1, 1) := by decide +kernel
theorem dX8_judge_74 : decode cX8_judge 74 = .ok (.invokestatic 105, 3) := by decide +kernel
theorem dX8_judge_77 : decode cX8_judge 77 = .ok (.ifCond .eq 7, 3) := by decide +kernel
theorem dX8_judge_80 : decode cX8_judge 80 = .ok (.iconst 1, 1) := by decide +kernel
theorem dX8_judge_81 : decode cX8_judge 81 = .ok (.goto 4, 3) := by decide +kernel
theorem dX8_judge_84 : decode cX8_judge 84 = .ok (.iconst 0, 1) := by decide +kernel
theorem dX8_judge_85 : decode cX8_judge 85 = .ok (.ireturn, 1) := by decide +kernel
theorem dX8_judge_86 : decode cX8_judge 86 = .ok (.aload_n 0, 1) := by decide +kernel
theorem dX8_judge_87 : decode cX8_judge 87 = .ok (.getfield 64, 3) := by decide +kernel
theorem dX8_judge_90 : decode cX8_judge 90 = .ok (.iload_n 1, 1) := by decide +kernel
theorem dX8_judge_91 : decode cX8_judge 91 = .ok (.iconst (-1), 1) := by decide +kernel
theorem dX8_judge_92 : decode cX8_judge 92 = .ok (.invokestatic 143, 3) := by decide +kernel
theorem dX8_judge_95 : decode cX8_judge 95 = .ok (.ireturn, 1) := by decide +kernel
theorem dX8_judge_96 : decode cX8_judge 96 = .ok (.aload_n 0, 1) := by decide +kernel
theorem dX8_judge_97 : decode cX8_judge 97 = .ok (.iload_n 1, 1) := by decide +kernel
theorem dX8_judge_98 : decode cX8_judge 98 = .ok (.iload_n 2, 1) := by decide +kernel
theorem dX8_judge_99 : decode cX8_judge 99 = .ok (.invokevirtual 160, 3) := by decide +kernel
theorem dX8_judge_102 : decode cX8_judge 102 = .ok (.ireturn, 1) := by decide +kernel
theorem dX8_of_0 : decode cX8_of 0 = .ok (.aload_n 0, 1) := by decide +kernel
theorem dX8_of_1 : decode cX8_of 1 = .ok (.iconst 0, 1) := by decide +kernel
theorem dX8_of_2 : decode cX8_of 2 = .ok (.putfield 1, 3) := by decide +kernel
theorem dX8_of_5 : decode cX8_of 5 = .ok (.aload_n 0, 1) := by decide +kernel
theorem dX8_of_6 : decode cX8_of 6 = .ok (.iload_n 1, 1) := by decide +kernel
theorem dX8_of_7 : decode cX8_of 7 = .ok (.invokevirtual 164, 3) := by decide +kernel
theorem dX8_of_10 : decode cX8_of 10 = .ok (.ifCond .ne 8, 3) := by decide +kernel
theorem dX8_of_13 : decode cX8_of 13 = .ok (.aload_n 0, 1) := by decide +kernel
theorem dX8_of_14 : decode cX8_of 14 = .ok (.invokevirtual 157, 3) := by decide +kernel
theorem dX8_of_17 : decode cX8_of 17 = .ok (.ireturn, 1) := by decide +kernel
theorem dX8_of_18 : decode cX8_of 18 = .ok (.iload_n 2, 1) := by decide +kernel
theorem dX8_of_19 : decode cX8_of 19 = .ok (.tableswitch 90 0 4 #[33, 43, 53, 63, 73], 33) := by decide +kernel
theorem dX8_of_52 : decode cX8_of 52 = .ok (.aload_n 0, 1) := by decide +kernel
theorem dX8_of_53 : decode cX8_of 53 = .ok (.getfield 64, 3) := by decide +kernel
theorem dX8_of_56 : decode cX8_of 56 = .ok (.bipush 19, 2) := by decide +kernel
theorem dX8_of_58 : decode cX8_of 58 = .ok (.iload_n 1, 1) := by decide +kernel
theorem dX8_of_59 : decode cX8_of 59 = .ok (.iadd, 1) := by decide +kernel
theorem dX8_of_60 : decode cX8_of 60 = .ok (.iaload, 1) := by decide +kernel
theorem dX8_of_61 : decode cX8_of 61 = .ok (.ireturn, 1) := by decide +kernel
theorem dX8_of_62 : decode cX8_of 62 = .ok (.aload_n 0, 1) := by decide +kernel
theorem dX8_of_63 : decode cX8_of 63 = .ok (.getfield 64, 3) := by decide +kernel
theorem dX8_of_66 : decode cX8_of 66 = .ok (.bipush 47, 2) := by decide +kernel
theorem dX8_of_68 : decode cX8_of 68 = .ok (.iload_n 1, 1) := by decide +kernel
theorem dX8_of_69 : decode cX8_of 69 = .ok (.iadd, 1) := by decide +kernel
theorem dX8_of_70 : decode cX8_of 70 = .ok (.iaload, 1) := by decide +kernel
theorem dX8_of_71 : decode cX8_of 71 = .ok (.ireturn, 1) := by decide +kernel
theorem dX8_of_72 : decode cX8_of 72 = .ok (.aload_n 0, 1) := by decide +kernel
theorem dX8_of_73 : decode cX8_of 73 = .ok (.getfield 64, 3) := by decide +kernel
theorem dX8_of_76 : decode cX8_of 76 = .ok (.bipush 75, 2) := by decide +kernel
theorem dX8_of_78 : decode cX8_of 78 = .ok (.iload_n 1, 1) := by decide +kernel
theorem dX8_of_79 : decode cX8_of 79 = .ok (.iadd, 1) := by decide +kernel
theorem dX8_of_80 : decode cX8_of 80 = .ok (.iaload, 1) := by decide +kernel
theorem dX8_of_81 : decode cX8_of 81 = .ok (.ireturn, 1) := by decide +kernel
theorem dX8_of_82 : decode cX8_of 82 = .ok (.aload_n 0, 1) := by decide +kernel
theorem dX8_of_83 : decode cX8_of 83 = .ok (.getfield 64, 3) := by decide +kernel
theorem dX8_of_86 : decode cX8_of 86 = .ok (.bipush 61, 2) := by decide +kernel
theorem dX8_of_88 : decode cX8_of 88 = .ok (.iload_n 1, 1) := by decide +kernel
theorem dX8_of_89 : decode cX8_of 89 = .ok (.iadd, 1) := by decide +kernel
theorem dX8_of_90 : decode cX8_of 90 = .ok (.iaload, 1) := by decide +kernel
theorem dX8_of_91 : decode cX8_of 91 = .ok (.ireturn, 1) := by decide +kernel
theorem dX8_of_92 : decode cX8_of 92 = .ok (.aload_n 0, 1) := by decide +kernel
theorem dX8_of_93 : decode cX8_of 93 = .ok (.getfield 64, 3) := by decide +kernel
theorem dX8_of_96 : decode cX8_of 96 = .ok (.aload_n 0, 1) := by decide +kernel
theorem dX8_of_97 : decode cX8_of 97 = .ok (.getfield 64, 3) := by decide +kernel
theorem dX8_of_100 : decode cX8_of 100 = .ok (.bipush 61, 2) := by decide +kernel
theorem dX8_of_102 : decode cX8_of 102 = .ok (.iload_n 1, 1) := by decide +kernel
theorem dX8_of_103 : decode cX8_of 103 = .ok (.iadd, 1) := by decide +kernel
theorem dX8_of_104 : decode cX8_of 104 = .ok (.iaload, 1) := by decide +kernel
theorem dX8_of_105 : decode cX8_of 105 = .ok (.invokestatic 139, 3) := by decide +kernel
theorem dX8_of_108 : decode cX8_of 108 = .ok (.ireturn, 1) := by decide +kernel
theorem dX8_of_109 : decode cX8_of 109 = .ok (.aload_n 0, 1) := by decide +kernel
theorem dX8_of_110 : decode cX8_of 110 = .ok (.invokevirtual 157, 3) := by decide +kernel
theorem dX8_of_113 : decode cX8_of 113 = .ok (.ireturn, 1) := by decide +kernel
theorem dX8_pair_0 : decode cX8_pair 0 = .ok (.aload_n 0, 1) := by decide +kernel
theorem dX8_pair_1 : decode cX8_pair 1 = .ok (.iconst 0, 1) := by decide +kernel
theorem dX8_pair_2 : decode cX8_pair 2 = .ok (.putfield 1, 3) := by decide +kernel
theorem dX8_pair_5 : decode cX8_pair 5 = .ok (.aload_n 0, 1) := by decide +kernel
theorem dX8_pair_6 : decode cX8_pair 6 = .ok (.iload_n 1, 1) := by decide +kernel
theorem dX8_pair_7 : decode cX8_pair 7 = .ok (.invokevirtual 154, 3) := by decide +kernel
theorem dX8_pair_10 : decode cX8_pair 10 = .ok (.ifCond .eq 29, 3) := by decide +kernel
theorem dX8_pair_13 : decode cX8_pair 13 = .ok (.aload_n 0, 1) := by decide +kernel
theorem dX8_pair_14 : decode cX8_pair 14 = .ok (.iload_n 2, 1) := by decide +kernel
theorem dX8_pair_15 : decode cX8_pair 15 = .ok (.invokevirtual 154, 3) := by decide +kernel
theorem dX8_pair_18 : decode cX8_pair 18 = .ok (.ifCond .eq 21, 3) := by decide +kernel
theorem dX8_pair_21 : decode cX8_pair 21 = .ok (.iload_n 1, 1) := by decide +kernel
theorem dX8_pair_22 : decode cX8_pair 22 = .ok (.iload_n 2, 1) := by decide +kernel
theorem dX8_pair_23 : decode cX8_pair 23 = .ok (.if_icmp .eq 16, 3) := by decide +kernel
theorem dX8_pair_26 : decode cX8_pair 26 = .ok (.aload_n 0, 1) := by decide +kernel
theorem dX8_pair_27 : decode cX8_pair 27 = .ok (.getfield 64, 3) := by decide +kernel
theorem dX8_pair_30 : decode cX8_pair 30 = .ok (.iload_n 1, 1) := by decide +kernel
theorem dX8_pair_31 : decode cX8_pair 31 = .ok (.iload_n 2, 1) := by decide +kernel
theorem dX8_pair_32 : decode cX8_pair 32 = .ok (.iconst (-1), 1) := by decide +kernel
theorem dX8_pair_33 : decode cX8_pair 33 = .ok (.invokestatic 147, 3) := by decide +kernel
theorem dX8_pair_36 : decode cX8_pair 36 = .ok (.goto 4, 3) := by decide +kernel
theorem dX8_pair_39 : decode cX8_pair 39 = .ok (.iconst (-1), 1) := by decide +kernel
theorem dX8_pair_40 : decode cX8_pair 40 = .ok (.ireturn, 1) := by decide +kernel
theorem dX8_spread_0 : decode cX8_spread 0 = .ok (.aload_n 0, 1) := by decide +kernel
theorem dX8_spread_1 : decode cX8_spread 1 = .ok (.iconst 0, 1) := by decide +kernel
theorem dX8_spread_2 : decode cX8_spread 2 = .ok (.putfield 1, 3) := by decide +kernel
theorem dX8_spread_5 : decode cX8_spread 5 = .ok (.iload_n 1, 1) := by decide +kernel
theorem dX8_spread_6 : decode cX8_spread 6 = .ok (.iconst 0, 1) := by decide +kernel
theorem dX8_spread_7 : decode cX8_spread 7 = .ok (.iconst 1, 1) := by decide +kernel
theorem dX8_spread_8 : decode cX8_spread 8 = .ok (.invokestatic 91, 3) := by decide +kernel
theorem dX8_spread_11 : decode cX8_spread 11 = .ok (.ifCond .eq 11, 3) := by decide +kernel
theorem dX8_spread_14 : decode cX8_spread 14 = .ok (.aload_n 0, 1) := by decide +kernel
theorem dX8_spread_15 : decode cX8_spread 15 = .ok (.invokevirtual 132, 3) := by decide +kernel
theorem dX8_spread_18 : decode cX8_spread 18 = .ok (.iconst 2, 1) := by decide +kernel
theorem dX8_spread_19 : decode cX8_spread 19 = .ok (.if_icmp .ge 5, 3) := by decide +kernel
theorem dX8_spread_22 : decode cX8_spread 22 = .ok (.iconst (-1), 1) := by decide +kernel
theorem dX8_spread_23 : decode cX8_spread 23 = .ok (.ireturn, 1) := by decide +kernel
theorem dX8_spread_24 : decode cX8_spread 24 = .ok (.iload_n 1, 1) := by decide +kernel
theorem dX8_spread_25 : decode cX8_spread 25 = .ok (.ifCond .ne 16, 3) := by decide +kernel
theorem dX8_spread_28 : decode cX8_spread 28 = .ok (.aload_n 0, 1) := by decide +kernel
theorem dX8_spread_29 : decode cX8_spread 29 = .ok (.getfield 64, 3) := by decide +kernel
theorem dX8_spread_32 : decode cX8_spread 32 = .ok (.iconst 0, 1) := by decide +kernel
theorem dX8_spread_33 : decode cX8_spread 33 = .ok (.iconst 1, 1) := by decide +kernel
theorem dX8_spread_34 : decode cX8_spread 34 = .ok (.iconst (-1), 1) := by decide +kernel
theorem dX8_spread_35 : decode cX8_spread 35 = .ok (.invokestatic 147, 3) := by decide +kernel
theorem dX8_spread_38 : decode cX8_spread 38 = .ok (.goto 12, 3) := by decide +kernel
theorem dX8_spread_41 : decode cX8_spread 41 = .ok (.aload_n 0, 1) := by decide +kernel
theorem dX8_spread_42 : decode cX8_spread 42 = .ok (.getfield 64, 3) := by decide +kernel
theorem dX8_spread_45 : decode cX8_spread 45 = .ok (.iconst 0, 1) := by decide +kernel
theorem dX8_spread_46 : decode cX8_spread 46 = .ok (.iconst (-1), 1) := by decide +kernel
theorem dX8_spread_47 : decode cX8_spread 47 = .ok (.invokestatic 143, 3) := by decide +kernel
theorem dX8_spread_50 : decode cX8_spread 50 = .ok (.istore_n 2, 1) := by decide +kernel
theorem dX8_spread_51 : decode cX8_spread 51 = .ok (.iload_n 2, 1) := by decide +kernel
theorem dX8_spread_52 : decode cX8_spread 52 = .ok (.istore_n 3, 1) := by decide +kernel
theorem dX8_spread_53 : decode cX8_spread 53 = .ok (.iconst 0, 1) := by decide +kernel
theorem dX8_spread_54 : decode cX8_spread 54 = .ok (.istore 4, 2) := by decide +kernel
theorem dX8_spread_56 : decode cX8_spread 56 = .ok (.iload 4, 2) := by decide +kernel
theorem dX8_spread_58 : decode cX8_spread 58 = .ok (.aload_n 0, 1) := by decide +kernel
theorem dX8_spread_59 : decode cX8_spread 59 = .ok (.invokevirtual 132, 3) := by decide +kernel
theorem dX8_spread_62 : decode cX8_spread 62 = .ok (.if_icmp .ge 108, 3) := by decide +kernel
theorem dX8_spread_65 : decode cX8_spread 65 = .ok (.iconst 0, 1) := by decide +kernel
theorem dX8_spread_66 : decode cX8_spread 66 = .ok (.istore 5, 2) := by decide +kernel
theorem dX8_spread_68 : decode cX8_spread 68 = .ok (.iload 5, 2) := by decide +kernel
theorem dX8_spread_70 : decode cX8_spread 70 = .ok (.iload 4, 2) := by decide +kernel
theorem dX8_spread_72 : decode cX8_spread 72 = .ok (.if_icmp .gt 92, 3) := by decide +kernel
theorem dX8_spread_75 : decode cX8_spread 75 = .ok (.iload 4, 2) := by decide +kernel
theorem dX8_spread_77 : decode cX8_spread 77 = .ok (.iload 5, 2) := by decide +kernel
theorem dX8_spread_79 : decode cX8_spread 79 = .ok (.if_icmp .ne 7, 3) := by decide +kernel
theorem dX8_spread_82 : decode cX8_spread 82 = .ok (.iload_n 1, 1) := by decide +kernel
theorem dX8_spread_83 : decode cX8_spread 83 = .ok (.ifCond .eq 75, 3) := by decide +kernel
theorem dX8_spread_86 : decode cX8_spread 86 = .ok (.iload 4, 2) := by decide +kernel
theorem dX8_spread_88 : decode cX8_spread 88 = .ok (.iload 5, 2) := by decide +kernel
theorem dX8_spread_90 : decode cX8_spread 90 = .ok (.if_icmp .eq 11, 3) := by decide +kernel
theorem dX8_spread_93 : decode cX8_spread 93 = .ok (.iload_n 1, 1) := by decide +kernel
theorem dX8_spread_94 : decode cX8_spread 94 = .ok (.iconst 1, 1) := by decide +kernel
theorem dX8_spread_95 : decode cX8_spread 95 = .ok (.if_icmp .ne 6, 3) := by decide +kernel
theorem dX8_spread_98 : decode cX8_spread 98 = .ok (.goto 60, 3) := by decide +kernel
theorem dX8_spread_101 : decode cX8_spread 101 = .ok (.iload_n 1, 1) := by decide +kernel
theorem dX8_spread_102 : decode cX8_spread 102 = .ok (.ifCond .ne 18, 3) := by decide +kernel
theorem dX8_spread_105 : decode cX8_spread 105 = .ok (.aload_n 0, 1) := by decide +kernel
theorem dX8_spread_106 : decode cX8_spread 106 = .ok (.getfield 64, 3) := by decide +kernel
theorem dX8_spread_109 : decode cX8_spread 109 = .ok (.iload 4, 2) := by decide +kernel
theorem dX8_spread_111 : decode cX8_spread 111 = .ok (.iload 5, 2) := by decide +kernel
theorem dX8_spread_113 : decode cX8_spread 113 = .ok (.iconst (-1), 1) := by decide +kernel
theorem dX8_spread_114 : decode cX8_spread 114 = .ok (.invokestatic 147, 3) := by decide +kernel
theorem dX8_spread_117 : decode cX8_spread 117 = .ok (.goto 13, 3) := by decide +kernel
theorem dX8_spread_120 : decode cX8_spread 120 = .ok (.aload_n 0, 1) := by decide +kernel
theorem dX8_spread_121 : decode cX8_spread 121 = .ok (.getfield 64, 3) := by decide +kernel
theorem dX8_spread_124 : decode cX8_spread 124 = .ok (.iload 4, 2) := by decide +kernel
theorem dX8_spread_126 : decode cX8_spread 126 = .ok (.iconst (-1), 1) := by decide +kernel
theorem dX8_spread_127 : decode cX8_spread 127 = .ok (.invokestatic 143, 3) := by decide +kernel
theorem dX8_spread_130 : decode cX8_spread 130 = .ok (.istore 6, 2) := by decide +kernel
theorem dX8_spread_132 : decode cX8_spread 132 = .ok (.iload 6, 2) := by decide +kernel
theorem dX8_spread_134 : decode cX8_spread 134 = .ok (.iload_n 2, 1) := by decide +kernel
theorem dX8_spread_135 : decode cX8_spread 135 = .ok (.if_icmp .ge 8, 3) := by decide +kernel
theorem dX8_spread_138 : decode cX8_spread 138 = .ok (.iload 6, 2) := by decide +kernel
theorem dX8_spread_140 : decode cX8_spread 140 = .ok (.goto 4, 3) := by decide +kernel
theorem dX8_spread_143 : decode cX8_spread 143 = .ok (.iload_n 2, 1) := by decide +kernel
theorem dX8_spread_144 : decode cX8_spread 144 = .ok (.istore_n 2, 1) := by decide +kernel
theorem dX8_spread_145 : decode cX8_spread 145 = .ok (.iload 6, 2) := by decide +kernel
theorem dX8_spread_147 : decode cX8_spread 147 = .ok (.iload_n 3, 1) := by decide +kernel
theorem dX8_spread_148 : decode cX8_spread 148 = .ok (.if_icmp .le 8, 3) := by decide +kernel
theorem dX8_spread_151 : decode cX8_spread 151 = .ok (.iload 6, 2) := by decide +kernel
theorem dX8_spread_153 : decode cX8_spread 153 = .ok (.goto 4, 3) := by decide +kernel
theorem dX8_spread_156 : decode cX8_spread 156 = .ok (.iload_n 3, 1) := by decide +kernel
theorem dX8_spread_157 : decode cX8_spread 157 = .ok (.istore_n 3, 1) := by decide +kernel
theorem dX8_spread_158 : decode cX8_spread 158 = .ok (.iinc 5 1, 3) := by decide +kernel
theorem dX8_spread_161 : decode cX8_spread 161 = .ok (.goto (-93), 3) := by decide +kernel
theorem dX8_spread_164 : decode cX8_spread 164 = .ok (.iinc 4 1, 3) := by decide +kernel
theorem dX8_spread_167 : decode cX8_spread 167 = .ok (.goto (-111), 3) := by decide +kernel
theorem dX8_spread_170 : decode cX8_spread 170 = .ok (.iload_n 3, 1) := by decide +kernel
theorem dX8_spread_171 : decode cX8_spread 171 = .ok (.iload_n 2, 1) := by decide +kernel
theorem dX8_spread_172 : decode cX8_spread 172 = .ok (.isub, 1) := by decide +kernel
theorem dX8_spread_173 : decode cX8_spread 173 = .ok (.ireturn, 1) := by decide +kernel
theorem dX8_isLawful_0 : decode cX8_isLawful 0 = .ok (.iload_n 2, 1) := by decide +kernel
theorem dX8_isLawful_1 : decode cX8_isLawful 1 = .ok (.aload_n 0, 1) := by decide +kernel
theorem dX8_isLawful_2 : decode cX8_isLawful 2 = .ok (.bipush 47, 2) := by decide +kernel
theorem dX8_isLawful_4 : decode cX8_isLawful 4 = .ok (.iload_n 1, 1) := by decide +kernel
theorem dX8_isLawful_5 : decode cX8_isLawful 5 = .ok (.iadd, 1) := by decide +kernel
theorem dX8_isLawful_6 : decode cX8_isLawful 6 = .ok (.iaload, 1) := by decide +kernel
theorem dX8_isLawful_7 : decode cX8_isLawful 7 = .ok (.aload_n 0, 1) := by decide +kernel
theorem dX8_isLawful_8 : decode cX8_isLawful 8 = .ok (.bipush 17, 2) := by decide +kernel
theorem dX8_isLawful_10 : decode cX8_isLawful 10 = .ok (.iaload, 1) := by decide +kernel
theorem dX8_isLawful_11 : decode cX8_isLawful 11 = .ok (.ior, 1) := by decide +kernel
theorem dX8_isLawful_12 : decode cX8_isLawful 12 = .ok (.iand, 1) := by decide +kernel
theorem dX8_isLawful_13 : decode cX8_isLawful 13 = .ok (.ifCond .eq 5, 3) := by decide +kernel
theorem dX8_isLawful_16 : decode cX8_isLawful 16 = .ok (.iconst 0, 1) := by decide +kernel
theorem dX8_isLawful_17 : decode cX8_isLawful 17 = .ok (.ireturn, 1) := by decide +kernel
theorem dX8_isLawful_18 : decode cX8_isLawful 18 = .ok (.iconst 0, 1) := by decide +kernel
theorem dX8_isLawful_19 : decode cX8_isLawful 19 = .ok (.istore_n 3, 1) := by decide +kernel
theorem dX8_isLawful_20 : decode cX8_isLawful 20 = .ok (.iload_n 3, 1) := by decide +kernel
theorem dX8_isLawful_21 : decode cX8_isLawful 21 = .ok (.aload_n 0, 1) := by decide +kernel
theorem dX8_isLawful_22 : decode cX8_isLawful 22 = .ok (.bipush 7, 2) := by decide +kernel
theorem dX8_isLawful_24 : decode cX8_isLawful 24 = .ok (.iaload, 1) := by decide +kernel
theorem dX8_isLawful_25 : decode cX8_isLawful 25 = .ok (.if_icmp .ge 32, 3) := by decide +kernel
theorem dX8_isLawful_28 : decode cX8_isLawful 28 = .ok (.iload_n 2, 1) := by decide +kernel
theorem dX8_isLawful_29 : decode cX8_isLawful 29 = .ok (.iload_n 3, 1) := by decide +kernel
theorem dX8_isLawful_30 : decode cX8_isLawful 30 = .ok (.invokestatic 105, 3) := by decide +kernel
theorem dX8_isLawful_33 : decode cX8_isLawful 33 = .ok (.ifCond .eq 18, 3) := by decide +kernel
theorem dX8_isLawful_36 : decode cX8_isLawful 36 = .ok (.aload_n 0, 1) := by decide +kernel
theorem dX8_isLawful_37 : decode cX8_isLawful 37 = .ok (.bipush 8, 2) := by decide +kernel
theorem dX8_isLawful_39 : decode cX8_isLawful 39 = .ok (.iload_n 3, 1) := by decide +kernel
theorem dX8_isLawful_40 : decode cX8_isLawful 40 = .ok (.iadd, 1) := by decide +kernel
theorem dX8_isLawful_41 : decode cX8_isLawful 41 = .ok (.iaload, 1) := by decide +kernel
theorem dX8_isLawful_42 : decode cX8_isLawful 42 = .ok (.aload_n 0, 1) := by decide +kernel
theorem dX8_isLawful_43 : decode cX8_isLawful 43 = .ok (.bipush 6, 2) := by decide +kernel
theorem dX8_isLawful_45 : decode cX8_isLawful 45 = .ok (.iaload, 1) := by decide +kernel
theorem dX8_isLawful_46 : decode cX8_isLawful 46 = .ok (.if_icmp .lt 5, 3) := by decide +kernel
theorem dX8_isLawful_49 : decode cX8_isLawful 49 = .ok (.iconst 1, 1) := by decide +kernel
theorem dX8_isLawful_50 : decode cX8_isLawful 50 = .ok (.ireturn, 1) := by decide +kernel
theorem dX8_isLawful_51 : decode cX8_isLawful 51 = .ok (.iinc 3 1, 3) := by decide +kernel
theorem dX8_isLawful_54 : decode cX8_isLawful 54 = .ok (.goto (-34), 3) := by decide +kernel
theorem dX8_isLawful_57 : decode cX8_isLawful 57 = .ok (.iconst 0, 1) := by decide +kernel
theorem dX8_isLawful_58 : decode cX8_isLawful 58 = .ok (.ireturn, 1) := by decide +kernel
theorem dX8_laysBenches_0 : decode cX8_laysBenches 0 = .ok (.aload_n 0, 1) := by decide +kernel
theorem dX8_laysBenches_1 : decode cX8_laysBenches 1 = .ok (.iconst 0, 1) := by decide +kernel
theorem dX8_laysBenches_2 : decode cX8_laysBenches 2 = .ok (.putfield 167, 3) := by decide +kernel
theorem dX8_laysBenches_5 : decode cX8_laysBenches 5 = .ok (.iconst 0, 1) := by decide +kernel
theorem dX8_laysBenches_6 : decode cX8_laysBenches 6 = .ok (.istore_n 3, 1) := by decide +kernel
theorem dX8_laysBenches_7 : decode cX8_laysBenches 7 = .ok (.iload_n 3, 1) := by decide +kernel
theorem dX8_laysBenches_8 : decode cX8_laysBenches 8 = .ok (.aload_n 1, 1) := by decide +kernel
theorem dX8_laysBenches_9 : decode cX8_laysBenches 9 = .ok (.bipush 7, 2) := by decide +kernel
theorem dX8_laysBenches_11 : decode cX8_laysBenches 11 = .ok (.iaload, 1) := by decide +kernel
theorem dX8_laysBenches_12 : decode cX8_laysBenches 12 = .ok (.if_icmp .ge 99, 3) := by decide +kernel
theorem dX8_laysBenches_15 : decode cX8_laysBenches 15 = .ok (.iload_n 3, 1) := by decide +kernel
theorem dX8_laysBenches_16 : decode cX8_laysBenches 16 = .ok (.iconst 1, 1) := by decide +kernel
theorem dX8_laysBenches_17 : decode cX8_laysBenches 17 = .ok (.iadd, 1) := by decide +kernel
theorem dX8_laysBenches_18 : decode cX8_laysBenches 18 = .ok (.istore 4, 2) := by decide +kernel
theorem dX8_laysBenches_20 : decode cX8_laysBenches 20 = .ok (.iload 4, 2) := by decide +kernel
theorem dX8_laysBenches_22 : decode cX8_laysBenches 22 = .ok (.aload_n 1, 1) := by decide +kernel
theorem dX8_laysBenches_23 : decode cX8_laysBenches 23 = .ok (.bipush 7, 2) := by decide +kernel
theorem dX8_laysBenches_25 : decode cX8_laysBenches 25 = .ok (.iaload, 1) := by decide +kernel
theorem dX8_laysBenches_26 : decode cX8_laysBenches 26 = .ok (.if_icmp .ge 79, 3) := by decide +kernel
theorem dX8_laysBenches_29 : decode cX8_laysBenches 29 = .ok (.iload 4, 2) := by decide +kernel
theorem dX8_laysBenches_31 : decode cX8_laysBenches 31 = .ok (.iconst 1, 1) := by decide +kernel
theorem dX8_laysBenches_32 : decode cX8_laysBenches 32 = .ok (.iadd, 1) := by decide +kernel
theorem dX8_laysBenches_33 : decode cX8_laysBenches 33 = .ok (.istore 5, 2) := by decide +kernel
theorem dX8_laysBenches_35 : decode cX8_laysBenches 35 = .ok (.iload 5, 2) := by decide +kernel
theorem dX8_laysBenches_37 : decode cX8_laysBenches 37 = .ok (.aload_n 1, 1) := by decide +kernel
theorem dX8_laysBenches_38 : decode cX8_laysBenches 38 = .ok (.bipush 7, 2) := by decide +kernel
theorem dX8_laysBenches_40 : decode cX8_laysBenches 40 = .ok (.iaload, 1) := by decide +kernel
theorem dX8_laysBenches_41 : decode cX8_laysBenches 41 = .ok (.if_icmp .ge 58, 3) := by decide +kernel
theorem dX8_laysBenches_44 : decode cX8_laysBenches 44 = .ok (.iconst 1, 1) := by decide +kernel
theorem dX8_laysBenches_45 : decode cX8_laysBenches 45 = .ok (.iload_n 3, 1) := by decide +kernel
theorem dX8_laysBenches_46 : decode cX8_laysBenches 46 = .ok (.ishl, 1) := by decide +kernel
theorem dX8_laysBenches_47 : decode cX8_laysBenches 47 = .ok (.iconst 1, 1) := by decide +kernel
theorem dX8_laysBenches_48 : decode cX8_laysBenches 48 = .ok (.iload 4, 2) := by decide +kernel
theorem dX8_laysBenches_50 : decode cX8_laysBenches 50 = .ok (.ishl, 1) := by decide +kernel
theorem dX8_laysBenches_51 : decode cX8_laysBenches 51 = .ok (.ior, 1) := by decide +kernel
theorem dX8_laysBenches_52 : decode cX8_laysBenches 52 = .ok (.iconst 1, 1) := by decide +kernel
theorem dX8_laysBenches_53 : decode cX8_laysBenches 53 = .ok (.iload 5, 2) := by decide +kernel
theorem dX8_laysBenches_55 : decode cX8_laysBenches 55 = .ok (.ishl, 1) := by decide +kernel
theorem dX8_laysBenches_56 : decode cX8_laysBenches 56 = .ok (.ior, 1) := by decide +kernel
theorem dX8_laysBenches_57 : decode cX8_laysBenches 57 = .ok (.istore 6, 2) := by decide +kernel
theorem dX8_laysBenches_59 : decode cX8_laysBenches 59 = .ok (.aload_n 1, 1) := by decide +kernel
theorem dX8_laysBenches_60 : decode cX8_laysBenches 60 = .ok (.iload_n 2, 1) := by decide +kernel
theorem dX8_laysBenches_61 : decode cX8_laysBenches 61 = .ok (.iload 6, 2) := by decide +kernel
theorem dX8_laysBenches_63 : decode cX8_laysBenches 63 = .ok (.invokestatic 170, 3) := by decide +kernel
theorem dX8_laysBenches_66 : decode cX8_laysBenches 66 = .ok (.ifCond .ne 6, 3) := by decide +kernel
theorem dX8_laysBenches_69 : decode cX8_laysBenches 69 = .ok (.goto 24, 3) := by decide +kernel
theorem dX8_laysBenches_72 : decode cX8_laysBenches 72 = .ok (.aload_n 0, 1) := by decide +kernel
theorem dX8_laysBenches_73 : decode cX8_laysBenches 73 = .ok (.getfield 82, 3) := by decide +kernel
theorem dX8_laysBenches_76 : decode cX8_laysBenches 76 = .ok (.aload_n 0, 1) := by decide +kernel
theorem dX8_laysBenches_77 : decode cX8_laysBenches 77 = .ok (.getfield 167, 3) := by decide +kernel
theorem dX8_laysBenches_80 : decode cX8_laysBenches 80 = .ok (.iload 6, 2) := by decide +kernel
theorem dX8_laysBenches_82 : decode cX8_laysBenches 82 = .ok (.iastore, 1) := by decide +kernel
theorem dX8_laysBenches_83 : decode cX8_laysBenches 83 = .ok (.aload_n 0, 1) := by decide +kernel
theorem dX8_laysBenches_84 : decode cX8_laysBenches 84 = .ok (.dup, 1) := by decide +kernel
theorem dX8_laysBenches_85 : decode cX8_laysBenches 85 = .ok (.getfield 167, 3) := by decide +kernel
theorem dX8_laysBenches_88 : decode cX8_laysBenches 88 = .ok (.iconst 1, 1) := by decide +kernel
theorem dX8_laysBenches_89 : decode cX8_laysBenches 89 = .ok (.iadd, 1) := by decide +kernel
theorem dX8_laysBenches_90 : decode cX8_laysBenches 90 = .ok (.putfield 167, 3) := by decide +kernel
theorem dX8_laysBenches_93 : decode cX8_laysBenches 93 = .ok (.iinc 5 1, 3) := by decide +kernel
theorem dX8_laysBenches_96 : decode cX8_laysBenches 96 = .ok (.goto (-61), 3) := by decide +kernel
theorem dX8_laysBenches_99 : decode cX8_laysBenches 99 = .ok (.iinc 4 1, 3) := by decide +kernel
theorem dX8_laysBenches_102 : decode cX8_laysBenches 102 = .ok (.goto (-82), 3) := by decide +kernel
theorem dX8_laysBenches_105 : decode cX8_laysBenches 105 = .ok (.iinc 3 1, 3) := by decide +kernel
theorem dX8_laysBenches_108 : decode cX8_laysBenches 108 = .ok (.goto (-101), 3) := by decide +kernel
theorem dX8_laysBenches_111 : decode cX8_laysBenches 111 = .ok (.return_, 1) := by decide +kernel
theorem dX8_laysPool_0 : decode cX8_laysPool 0 = .ok (.aload_n 0, 1) := by decide +kernel
theorem dX8_laysPool_1 : decode cX8_laysPool 1 = .ok (.aload_n 1, 1) := by decide +kernel
theorem dX8_laysPool_2 : decode cX8_laysPool 2 = .ok (.iload_n 2, 1) := by decide +kernel
theorem dX8_laysPool_3 : decode cX8_laysPool 3 = .ok (.invokevirtual 174, 3) := by decide +kernel
theorem dX8_laysPool_6 : decode cX8_laysPool 6 = .ok (.aload_n 0, 1) := by decide +kernel
theorem dX8_laysPool_7 : decode cX8_laysPool 7 = .ok (.iconst 0, 1) := by decide +kernel
theorem dX8_laysPool_8 : decode cX8_laysPool 8 = .ok (.putfield 178, 3) := by decide +kernel
theorem dX8_laysPool_11 : decode cX8_laysPool 11 = .ok (.aload_n 0, 1) := by decide +kernel
theorem dX8_laysPool_12 : decode cX8_laysPool 12 = .ok (.iconst (-1), 1) := by decide +kernel
theorem dX8_laysPool_13 : decode cX8_laysPool 13 = .ok (.putfield 181, 3) := by decide +kernel
theorem dX8_laysPool_16 : decode cX8_laysPool 16 = .ok (.aload_n 0, 1) := by decide +kernel
theorem dX8_laysPool_17 : decode cX8_laysPool 17 = .ok (.getfield 178, 3) := by decide +kernel
theorem dX8_laysPool_20 : decode cX8_laysPool 20 = .ok (.aload_n 1, 1) := by decide +kernel
theorem dX8_laysPool_21 : decode cX8_laysPool 21 = .ok (.iconst 0, 1) := by decide +kernel
theorem dX8_laysPool_22 : decode cX8_laysPool 22 = .ok (.iaload, 1) := by decide +kernel
theorem dX8_laysPool_23 : decode cX8_laysPool 23 = .ok (.if_icmp .ge 150, 3) := by decide +kernel
theorem dX8_laysPool_26 : decode cX8_laysPool 26 = .ok (.aload_n 0, 1) := by decide +kernel
theorem dX8_laysPool_27 : decode cX8_laysPool 27 = .ok (.getfield 178, 3) := by decide +kernel
theorem dX8_laysPool_30 : decode cX8_laysPool 30 = .ok (.aload_n 0, 1) := by decide +kernel
theorem dX8_laysPool_31 : decode cX8_laysPool 31 = .ok (.getfield 167, 3) := by decide +kernel
theorem dX8_laysPool_34 : decode cX8_laysPool 34 = .ok (.if_icmp .ge 139, 3) := by decide +kernel
theorem dX8_laysPool_37 : decode cX8_laysPool 37 = .ok (.iconst (-1), 1) := by decide +kernel
theorem dX8_laysPool_38 : decode cX8_laysPool 38 = .ok (.istore_n 3, 1) := by decide +kernel
theorem dX8_laysPool_39 : decode cX8_laysPool 39 = .ok (.iconst 0, 1) := by decide +kernel
theorem dX8_laysPool_40 : decode cX8_laysPool 40 = .ok (.istore 4, 2) := by decide +kernel
theorem dX8_laysPool_42 : decode cX8_laysPool 42 = .ok (.iload 4, 2) := by decide +kernel
theorem dX8_laysPool_44 : decode cX8_laysPool 44 = .ok (.aload_n 0, 1) := by decide +kernel
theorem dX8_laysPool_45 : decode cX8_laysPool 45 = .ok (.getfield 167, 3) := by decide +kernel
theorem dX8_laysPool_48 : decode cX8_laysPool 48 = .ok (.if_icmp .ge 46, 3) := by decide +kernel
theorem dX8_laysPool_51 : decode cX8_laysPool 51 = .ok (.aload_n 1, 1) := by decide +kernel
theorem dX8_laysPool_52 : decode cX8_laysPool 52 = .ok (.iload_n 2, 1) := by decide +kernel
theorem dX8_laysPool_53 : decode cX8_laysPool 53 = .ok (.aload_n 0, 1) := by decide +kernel
theorem dX8_laysPool_54 : decode cX8_laysPool 54 = .ok (.getfield 82, 3) := by decide +kernel
theorem dX8_laysPool_57 : decode cX8_laysPool 57 = .ok (.iload 4, 2) := by decide +kernel
theorem dX8_laysPool_59 : decode cX8_laysPool 59 = .ok (.iaload, 1) := by decide +kernel
theorem dX8_laysPool_60 : decode cX8_laysPool 60 = .ok (.invokestatic 184, 3) := by decide +kernel
theorem dX8_laysPool_63 : decode cX8_laysPool 63 = .ok (.istore 5, 2) := by decide +kernel
theorem dX8_laysPool_65 : decode cX8_laysPool 65 = .ok (.iload 5, 2) := by decide +kernel
theorem dX8_laysPool_67 : decode cX8_laysPool 67 = .ok (.aload_n 0, 1) := by decide +kernel
theorem dX8_laysPool_68 : decode cX8_laysPool 68 = .ok (.getfield 181, 3) := by decide +kernel
theorem dX8_laysPool_71 : decode cX8_laysPool 71 = .ok (.if_icmp .le 17, 3) := by decide +kernel
theorem dX8_laysPool_74 : decode cX8_laysPool 74 = .ok (.iload_n 3, 1) := by decide +kernel
theorem dX8_laysPool_75 : decode cX8_laysPool 75 = .ok (.iconst (-1), 1) := by decide +kernel
theorem dX8_laysPool_76 : decode cX8_laysPool 76 = .ok (.if_icmp .eq 9, 3) := by decide +kernel
theorem dX8_laysPool_79 : decode cX8_laysPool 79 = .ok (.iload 5, 2) := by decide +kernel
theorem dX8_laysPool_81 : decode cX8_laysPool 81 = .ok (.iload_n 3, 1) := by decide +kernel
theorem dX8_laysPool_82 : decode cX8_laysPool 82 = .ok (.if_icmp .ge 6, 3) := by decide +kernel
theorem dX8_laysPool_85 : decode cX8_laysPool 85 = .ok (.iload 5, 2) := by decide +kernel
theorem dX8_laysPool_87 : decode cX8_laysPool 87 = .ok (.istore_n 3, 1) := by decide +kernel
theorem dX8_laysPool_88 : decode cX8_laysPool 88 = .ok (.iinc 4 1, 3) := by decide +kernel
theorem dX8_laysPool_91 : decode cX8_laysPool 91 = .ok (.goto (-49), 3) := by decide +kernel
theorem dX8_laysPool_94 : decode cX8_laysPool 94 = .ok (.aload_n 0, 1) := by decide +kernel
theorem dX8_laysPool_95 : decode cX8_laysPool 95 = .ok (.iload_n 3, 1) := by decide +kernel
theorem dX8_laysPool_96 : decode cX8_laysPool 96 = .ok (.putfield 181, 3) := by decide +kernel
theorem dX8_laysPool_99 : decode cX8_laysPool 99 = .ok (.aload_n 0, 1) := by decide +kernel
theorem dX8_laysPool_100 : decode cX8_laysPool 100 = .ok (.iconst 0, 1) := by decide +kernel
theorem dX8_laysPool_101 : decode cX8_laysPool 101 = .ok (.putfield 178, 3) := by decide +kernel
theorem dX8_laysPool_104 : decode cX8_laysPool 104 = .ok (.iconst 0, 1) := by decide +kernel
theorem dX8_laysPool_105 : decode cX8_laysPool 105 = .ok (.istore 4, 2) := by decide +kernel
theorem dX8_laysPool_107 : decode cX8_laysPool 107 = .ok (.iload 4, 2) := by decide +kernel
theorem dX8_laysPool_109 : decode cX8_laysPool 109 = .ok (.aload_n 0, 1) := by decide +kernel
theorem dX8_laysPool_110 : decode cX8_laysPool 110 = .ok (.getfield 167, 3) := by decide +kernel
theorem dX8_laysPool_113 : decode cX8_laysPool 113 = .ok (.if_icmp .ge 57, 3) := by decide +kernel
theorem dX8_laysPool_116 : decode cX8_laysPool 116 = .ok (.aload_n 1, 1) := by decide +kernel
theorem dX8_laysPool_117 : decode cX8_laysPool 117 = .ok (.iload_n 2, 1) := by decide +kernel
theorem dX8_laysPool_118 : decode cX8_laysPool 118 = .ok (.aload_n 0, 1) := by decide +kernel
theorem dX8_laysPool_119 : decode cX8_laysPool 119 = .ok (.getfield 82, 3) := by decide +kernel
theorem dX8_laysPool_122 : decode cX8_laysPool 122 = .ok (.iload 4, 2) := by decide +kernel
theorem dX8_laysPool_124 : decode cX8_laysPool 124 = .ok (.iaload, 1) := by decide +kernel
theorem dX8_laysPool_125 : decode cX8_laysPool 125 = .ok (.invokestatic 184, 3) := by decide +kernel
theorem dX8_laysPool_128 : decode cX8_laysPool 128 = .ok (.aload_n 0, 1) := by decide +kernel
theorem dX8_laysPool_129 : decode cX8_laysPool 129 = .ok (.getfield 181, 3) := by decide +kernel
theorem dX8_laysPool_132 : decode cX8_laysPool 132 = .ok (.if_icmp .le 6, 3) := by decide +kernel
theorem dX8_laysPool_135 : decode cX8_laysPool 135 = .ok (.goto 29, 3) := by decide +kernel
theorem dX8_laysPool_138 : decode cX8_laysPool 138 = .ok (.aload_n 0, 1) := by decide +kernel
theorem dX8_laysPool_139 : decode cX8_laysPool 139 = .ok (.getfield 85, 3) := by decide +kernel
theorem dX8_laysPool_142 : decode cX8_laysPool 142 = .ok (.aload_n 0, 1) := by decide +kernel
theorem dX8_laysPool_143 : decode cX8_laysPool 143 = .ok (.getfield 178, 3) := by decide +kernel
theorem dX8_laysPool_146 : decode cX8_laysPool 146 = .ok (.aload_n 0, 1) := by decide +kernel
theorem dX8_laysPool_147 : decode cX8_laysPool 147 = .ok (.getfield 82, 3) := by decide +kernel
theorem dX8_laysPool_150 : decode cX8_laysPool 150 = .ok (.iload 4, 2) := by decide +kernel
theorem dX8_laysPool_152 : decode cX8_laysPool 152 = .ok (.iaload, 1) := by decide +kernel
theorem dX8_laysPool_153 : decode cX8_laysPool 153 = .ok (.iastore, 1) := by decide +kernel
theorem dX8_laysPool_154 : decode cX8_laysPool 154 = .ok (.aload_n 0, 1) := by decide +kernel
theorem dX8_laysPool_155 : decode cX8_laysPool 155 = .ok (.dup, 1) := by decide +kernel
theorem dX8_laysPool_156 : decode cX8_laysPool 156 = .ok (.getfield 178, 3) := by decide +kernel
theorem dX8_laysPool_159 : decode cX8_laysPool 159 = .ok (.iconst 1, 1) := by decide +kernel
theorem dX8_laysPool_160 : decode cX8_laysPool 160 = .ok (.iadd, 1) := by decide +kernel
theorem dX8_laysPool_161 : decode cX8_laysPool 161 = .ok (.putfield 178, 3) := by decide +kernel
theorem dX8_laysPool_164 : decode cX8_laysPool 164 = .ok (.iinc 4 1, 3) := by decide +kernel
theorem dX8_laysPool_167 : decode cX8_laysPool 167 = .ok (.goto (-60), 3) := by decide +kernel
theorem dX8_laysPool_170 : decode cX8_laysPool 170 = .ok (.goto (-154), 3) := by decide +kernel
theorem dX8_laysPool_173 : decode cX8_laysPool 173 = .ok (.return_, 1) := by decide +kernel
theorem dX8_lawful_0 : decode cX8_lawful 0 = .ok (.aload_n 0, 1) := by decide +kernel
theorem dX8_lawful_1 : decode cX8_lawful 1 = .ok (.iconst 0, 1) := by decide +kernel
theorem dX8_lawful_2 : decode cX8_lawful 2 = .ok (.putfield 1, 3) := by decide +kernel
theorem dX8_lawful_5 : decode cX8_lawful 5 = .ok (.aload_n 0, 1) := by decide +kernel
theorem dX8_lawful_6 : decode cX8_lawful 6 = .ok (.iload_n 1, 1) := by decide +kernel
theorem dX8_lawful_7 : decode cX8_lawful 7 = .ok (.invokevirtual 164, 3) := by decide +kernel
theorem dX8_lawful_10 : decode cX8_lawful 10 = .ok (.ifCond .ne 5, 3) := by decide +kernel
theorem dX8_lawful_13 : decode cX8_lawful 13 = .ok (.iconst (-1), 1) := by decide +kernel
theorem dX8_lawful_14 : decode cX8_lawful 14 = .ok (.ireturn, 1) := by decide +kernel
theorem dX8_lawful_15 : decode cX8_lawful 15 = .ok (.aload_n 0, 1) := by decide +kernel
theorem dX8_lawful_16 : decode cX8_lawful 16 = .ok (.aload_n 0, 1) := by decide +kernel
theorem dX8_lawful_17 : decode cX8_lawful 17 = .ok (.getfield 64, 3) := by decide +kernel
theorem dX8_lawful_20 : decode cX8_lawful 20 = .ok (.iload_n 1, 1) := by decide +kernel
theorem dX8_lawful_21 : decode cX8_lawful 21 = .ok (.invokevirtual 174, 3) := by decide +kernel
theorem dX8_lawful_24 : decode cX8_lawful 24 = .ok (.aload_n 0, 1) := by decide +kernel
theorem dX8_lawful_25 : decode cX8_lawful 25 = .ok (.getfield 167, 3) := by decide +kernel
theorem dX8_lawful_28 : decode cX8_lawful 28 = .ok (.ireturn, 1) := by decide +kernel
theorem dX8_bench_0 : decode cX8_bench 0 = .ok (.aload_n 0, 1) := by decide +kernel
theorem dX8_bench_1 : decode cX8_bench 1 = .ok (.iconst 0, 1) := by decide +kernel
theorem dX8_bench_2 : decode cX8_bench 2 = .ok (.putfield 1, 3) := by decide +kernel
theorem dX8_bench_5 : decode cX8_bench 5 = .ok (.aload_n 0, 1) := by decide +kernel
theorem dX8_bench_6 : decode cX8_bench 6 = .ok (.iload_n 1, 1) := by decide +kernel
theorem dX8_bench_7 : decode cX8_bench 7 = .ok (.invokevirtual 164, 3) := by decide +kernel
theorem dX8_bench_10 : decode cX8_bench 10 = .ok (.ifCond .ne 5, 3) := by decide +kernel
theorem dX8_bench_13 : decode cX8_bench 13 = .ok (.iconst (-1), 1) := by decide +kernel
theorem dX8_bench_14 : decode cX8_bench 14 = .ok (.ireturn, 1) := by decide +kernel
theorem dX8_bench_15 : decode cX8_bench 15 = .ok (.aload_n 0, 1) := by decide +kernel
theorem dX8_bench_16 : decode cX8_bench 16 = .ok (.aload_n 0, 1) := by decide +kernel
theorem dX8_bench_17 : decode cX8_bench 17 = .ok (.getfield 64, 3) := by decide +kernel
theorem dX8_bench_20 : decode cX8_bench 20 = .ok (.iload_n 1, 1) := by decide +kernel
theorem dX8_bench_21 : decode cX8_bench 21 = .ok (.invokevirtual 174, 3) := by decide +kernel
theorem dX8_bench_24 : decode cX8_bench 24 = .ok (.iload_n 2, 1) := by decide +kernel
theorem dX8_bench_25 : decode cX8_bench 25 = .ok (.iconst 0, 1) := by decide +kernel
theorem dX8_bench_26 : decode cX8_bench 26 = .ok (.aload_n 0, 1) := by decide +kernel
theorem dX8_bench_27 : decode cX8_bench 27 = .ok (.getfield 167, 3) := by decide +kernel
theorem dX8_bench_30 : decode cX8_bench 30 = .ok (.iconst 1, 1) := by decide +kernel
theorem dX8_bench_31 : decode cX8_bench 31 = .ok (.isub, 1) := by decide +kernel
theorem dX8_bench_32 : decode cX8_bench 32 = .ok (.invokestatic 91, 3) := by decide +kernel
theorem dX8_bench_35 : decode cX8_bench 35 = .ok (.ifCond .eq 12, 3) := by decide +kernel
theorem dX8_bench_38 : decode cX8_bench 38 = .ok (.aload_n 0, 1) := by decide +kernel
theorem dX8_bench_39 : decode cX8_bench 39 = .ok (.getfield 82, 3) := by decide +kernel
theorem dX8_bench_42 : decode cX8_bench 42 = .ok (.iload_n 2, 1) := by decide +kernel
theorem dX8_bench_43 : decode cX8_bench 43 = .ok (.iaload, 1) := by decide +kernel
theorem dX8_bench_44 : decode cX8_bench 44 = .ok (.goto 4, 3) := by decide +kernel
theorem dX8_bench_47 : decode cX8_bench 47 = .ok (.iconst (-1), 1) := by decide +kernel
theorem dX8_bench_48 : decode cX8_bench 48 = .ok (.ireturn, 1) := by decide +kernel
theorem dX8_rank_0 : decode cX8_rank 0 = .ok (.aload_n 0, 1) := by decide +kernel
theorem dX8_rank_1 : decode cX8_rank 1 = .ok (.iconst 0, 1) := by decide +kernel
theorem dX8_rank_2 : decode cX8_rank 2 = .ok (.putfield 1, 3) := by decide +kernel
theorem dX8_rank_5 : decode cX8_rank 5 = .ok (.aload_n 0, 1) := by decide +kernel
theorem dX8_rank_6 : decode cX8_rank 6 = .ok (.iload_n 1, 1) := by decide +kernel
theorem dX8_rank_7 : decode cX8_rank 7 = .ok (.invokevirtual 164, 3) := by decide +kernel
theorem dX8_rank_10 : decode cX8_rank 10 = .ok (.ifCond .ne 5, 3) := by decide +kernel
theorem dX8_rank_13 : decode cX8_rank 13 = .ok (.iconst (-1), 1) := by decide +kernel
theorem dX8_rank_14 : decode cX8_rank 14 = .ok (.ireturn, 1) := by decide +kernel
theorem dX8_rank_15 : decode cX8_rank 15 = .ok (.aload_n 0, 1) := by decide +kernel
theorem dX8_rank_16 : decode cX8_rank 16 = .ok (.aload_n 0, 1) := by decide +kernel
theorem dX8_rank_17 : decode cX8_rank 17 = .ok (.getfield 64, 3) := by decide +kernel
theorem dX8_rank_20 : decode cX8_rank 20 = .ok (.iload_n 1, 1) := by decide +kernel
theorem dX8_rank_21 : decode cX8_rank 21 = .ok (.invokevirtual 174, 3) := by decide +kernel
theorem dX8_rank_24 : decode cX8_rank 24 = .ok (.iconst 0, 1) := by decide +kernel
theorem dX8_rank_25 : decode cX8_rank 25 = .ok (.istore_n 3, 1) := by decide +kernel
theorem dX8_rank_26 : decode cX8_rank 26 = .ok (.iload_n 3, 1) := by decide +kernel
theorem dX8_rank_27 : decode cX8_rank 27 = .ok (.aload_n 0, 1) := by decide +kernel
theorem dX8_rank_28 : decode cX8_rank 28 = .ok (.getfield 167, 3) := by decide +kernel
theorem dX8_rank_31 : decode cX8_rank 31 = .ok (.if_icmp .ge 21, 3) := by decide +kernel
theorem dX8_rank_34 : decode cX8_rank 34 = .ok (.aload_n 0, 1) := by decide +kernel
theorem dX8_rank_35 : decode cX8_rank 35 = .ok (.getfield 82, 3) := by decide +kernel
theorem dX8_rank_38 : decode cX8_rank 38 = .ok (.iload_n 3, 1) := by decide +kernel
theorem dX8_rank_39 : decode cX8_rank 39 = .ok (.iaload, 1) := by decide +kernel
theorem dX8_rank_40 : decode cX8_rank 40 = .ok (.iload_n 2, 1) := by decide +kernel
theorem dX8_rank_41 : decode cX8_rank 41 = .ok (.if_icmp .ne 5, 3) := by decide +kernel
theorem dX8_rank_44 : decode cX8_rank 44 = .ok (.iload_n 3, 1) := by decide +kernel
theorem dX8_rank_45 : decode cX8_rank 45 = .ok (.ireturn, 1) := by decide +kernel
theorem dX8_rank_46 : decode cX8_rank 46 = .ok (.iinc 3 1, 3) := by decide +kernel
theorem dX8_rank_49 : decode cX8_rank 49 = .ok (.goto (-23), 3) := by decide +kernel
theorem dX8_rank_52 : decode cX8_rank 52 = .ok (.iconst (-1), 1) := by decide +kernel
theorem dX8_rank_53 : decode cX8_rank 53 = .ok (.ireturn, 1) := by decide +kernel
theorem dX8_tension_0 : decode cX8_tension 0 = .ok (.aload_n 0, 1) := by decide +kernel
theorem dX8_tension_1 : decode cX8_tension 1 = .ok (.iconst 0, 1) := by decide +kernel
theorem dX8_tension_2 : decode cX8_tension 2 = .ok (.putfield 1, 3) := by decide +kernel
theorem dX8_tension_5 : decode cX8_tension 5 = .ok (.aload_n 0, 1) := by decide +kernel
theorem dX8_tension_6 : decode cX8_tension 6 = .ok (.iload_n 1, 1) := by decide +kernel
theorem dX8_tension_7 : decode cX8_tension 7 = .ok (.invokevirtual 164, 3) := by decide +kernel
theorem dX8_tension_10 : decode cX8_tension 10 = .ok (.ifCond .eq 25, 3) := by decide +kernel
theorem dX8_tension_13 : decode cX8_tension 13 = .ok (.iload_n 2, 1) := by decide +kernel
theorem dX8_tension_14 : decode cX8_tension 14 = .ok (.ifCond .lt 21, 3) := by decide +kernel
theorem dX8_tension_17 : decode cX8_tension 17 = .ok (.iload_n 2, 1) := by decide +kernel
theorem dX8_tension_18 : decode cX8_tension 18 = .ok (.iconst 1, 1) := by decide +kernel
theorem dX8_tension_19 : decode cX8_tension 19 = .ok (.aload_n 0, 1) := by decide +kernel
theorem dX8_tension_20 : decode cX8_tension 20 = .ok (.invokevirtual 132, 3) := by decide +kernel
theorem dX8_tension_23 : decode cX8_tension 23 = .ok (.ishl, 1) := by decide +kernel
theorem dX8_tension_24 : decode cX8_tension 24 = .ok (.if_icmp .ge 11, 3) := by decide +kernel
theorem dX8_tension_27 : decode cX8_tension 27 = .ok (.iload_n 2, 1) := by decide +kernel
theorem dX8_tension_28 : decode cX8_tension 28 = .ok (.invokestatic 187, 3) := by decide +kernel
theorem dX8_tension_31 : decode cX8_tension 31 = .ok (.iconst 3, 1) := by decide +kernel
theorem dX8_tension_32 : decode cX8_tension 32 = .ok (.if_icmp .eq 5, 3) := by decide +kernel
theorem dX8_tension_35 : decode cX8_tension 35 = .ok (.iconst (-1), 1) := by decide +kernel
theorem dX8_tension_36 : decode cX8_tension 36 = .ok (.ireturn, 1) := by decide +kernel
theorem dX8_tension_37 : decode cX8_tension 37 = .ok (.aload_n 0, 1) := by decide +kernel
theorem dX8_tension_38 : decode cX8_tension 38 = .ok (.getfield 64, 3) := by decide +kernel
theorem dX8_tension_41 : decode cX8_tension 41 = .ok (.iload_n 1, 1) := by decide +kernel
theorem dX8_tension_42 : decode cX8_tension 42 = .ok (.iload_n 2, 1) := by decide +kernel
theorem dX8_tension_43 : decode cX8_tension 43 = .ok (.invokestatic 184, 3) := by decide +kernel
theorem dX8_tension_46 : decode cX8_tension 46 = .ok (.ireturn, 1) := by decide +kernel
theorem dX8_pool_0 : decode cX8_pool 0 = .ok (.aload_n 0, 1) := by decide +kernel
theorem dX8_pool_1 : decode cX8_pool 1 = .ok (.iconst 0, 1) := by decide +kernel
theorem dX8_pool_2 : decode cX8_pool 2 = .ok (.putfield 1, 3) := by decide +kernel
theorem dX8_pool_5 : decode cX8_pool 5 = .ok (.aload_n 0, 1) := by decide +kernel
theorem dX8_pool_6 : decode cX8_pool 6 = .ok (.iload_n 1, 1) := by decide +kernel
theorem dX8_pool_7 : decode cX8_pool 7 = .ok (.invokevirtual 164, 3) := by decide +kernel
theorem dX8_pool_10 : decode cX8_pool 10 = .ok (.ifCond .ne 5, 3) := by decide +kernel
theorem dX8_pool_13 : decode cX8_pool 13 = .ok (.iconst (-1), 1) := by decide +kernel
theorem dX8_pool_14 : decode cX8_pool 14 = .ok (.ireturn, 1) := by decide +kernel
theorem dX8_pool_15 : decode cX8_pool 15 = .ok (.aload_n 0, 1) := by decide +kernel
theorem dX8_pool_16 : decode cX8_pool 16 = .ok (.aload_n 0, 1) := by decide +kernel
theorem dX8_pool_17 : decode cX8_pool 17 = .ok (.getfield 64, 3) := by decide +kernel
theorem dX8_pool_20 : decode cX8_pool 20 = .ok (.iload_n 1, 1) := by decide +kernel
theorem dX8_pool_21 : decode cX8_pool 21 = .ok (.invokevirtual 190, 3) := by decide +kernel
theorem dX8_pool_24 : decode cX8_pool 24 = .ok (.aload_n 0, 1) := by decide +kernel
theorem dX8_pool_25 : decode cX8_pool 25 = .ok (.getfield 178, 3) := by decide +kernel
theorem dX8_pool_28 : decode cX8_pool 28 = .ok (.ireturn, 1) := by decide +kernel
theorem dX8_chances_0 : decode cX8_chances 0 = .ok (.aload_n 0, 1) := by decide +kernel
theorem dX8_chances_1 : decode cX8_chances 1 = .ok (.iconst 0, 1) := by decide +kernel
theorem dX8_chances_2 : decode cX8_chances 2 = .ok (.putfield 1, 3) := by decide +kernel
theorem dX8_chances_5 : decode cX8_chances 5 = .ok (.aload_n 0, 1) := by decide +kernel
theorem dX8_chances_6 : decode cX8_chances 6 = .ok (.iload_n 1, 1) := by decide +kernel
theorem dX8_chances_7 : decode cX8_chances 7 = .ok (.invokevirtual 164, 3) := by decide +kernel
theorem dX8_chances_10 : decode cX8_chances 10 = .ok (.ifCond .eq 11, 3) := by decide +kernel
theorem dX8_chances_13 : decode cX8_chances 13 = .ok (.aload_n 0, 1) := by decide +kernel
theorem dX8_chances_14 : decode cX8_chances 14 = .ok (.iload_n 2, 1) := by decide +kernel
theorem dX8_chances_15 : decode cX8_chances 15 = .ok (.invokevirtual 154, 3) := by decide +kernel
theorem dX8_chances_18 : decode cX8_chances 18 = .ok (.ifCond .ne 5, 3) := by decide +kernel
theorem dX8_chances_21 : decode cX8_chances 21 = .ok (.iconst (-1), 1) := by decide +kernel
theorem dX8_chances_22 : decode cX8_chances 22 = .ok (.ireturn, 1) := by decide +kernel
theorem dX8_chances_23 : decode cX8_chances 23 = .ok (.aload_n 0, 1) := by decide +kernel
theorem dX8_chances_24 : decode cX8_chances 24 = .ok (.aload_n 0, 1) := by decide +kernel
theorem dX8_chances_25 : decode cX8_chances 25 = .ok (.getfield 64, 3) := by decide +kernel
theorem dX8_chances_28 : decode cX8_chances 28 = .ok (.iload_n 1, 1) := by decide +kernel
theorem dX8_chances_29 : decode cX8_chances 29 = .ok (.invokevirtual 190, 3) := by decide +kernel
theorem dX8_chances_32 : decode cX8_chances 32 = .ok (.iconst 0, 1) := by decide +kernel
theorem dX8_chances_33 : decode cX8_chances 33 = .ok (.istore_n 3, 1) := by decide +kernel
theorem dX8_chances_34 : decode cX8_chances 34 = .ok (.iconst 0, 1) := by decide +kernel
theorem dX8_chances_35 : decode cX8_chances 35 = .ok (.istore 4, 2) := by decide +kernel
theorem dX8_chances_37 : decode cX8_chances 37 = .ok (.iload 4, 2) := by decide +kernel
theorem dX8_chances_39 : decode cX8_chances 39 = .ok (.aload_n 0, 1) := by decide +kernel
theorem dX8_chances_40 : decode cX8_chances 40 = .ok (.getfield 178, 3) := by decide +kernel
theorem dX8_chances_43 : decode cX8_chances 43 = .ok (.if_icmp .ge 26, 3) := by decide +kernel
theorem dX8_chances_46 : decode cX8_chances 46 = .ok (.aload_n 0, 1) := by decide +kernel
theorem dX8_chances_47 : decode cX8_chances 47 = .ok (.getfield 85, 3) := by decide +kernel
theorem dX8_chances_50 : decode cX8_chances 50 = .ok (.iload 4, 2) := by decide +kernel
theorem dX8_chances_52 : decode cX8_chances 52 = .ok (.iaload, 1) := by decide +kernel
theorem dX8_chances_53 : decode cX8_chances 53 = .ok (.iload_n 2, 1) := by decide +kernel
theorem dX8_chances_54 : decode cX8_chances 54 = .ok (.invokestatic 105, 3) := by decide +kernel
theorem dX8_chances_57 : decode cX8_chances 57 = .ok (.ifCond .eq 6, 3) := by decide +kernel
theorem dX8_chances_60 : decode cX8_chances 60 = .ok (.iinc 3 1, 3) := by decide +kernel
theorem dX8_chances_63 : decode cX8_chances 63 = .ok (.iinc 4 1, 3) := by decide +kernel
theorem dX8_chances_66 : decode cX8_chances 66 = .ok (.goto (-29), 3) := by decide +kernel
theorem dX8_chances_69 : decode cX8_chances 69 = .ok (.iload_n 3, 1) := by decide +kernel
theorem dX8_chances_70 : decode cX8_chances 70 = .ok (.ireturn, 1) := by decide +kernel
theorem dX8_worst_0 : decode cX8_worst 0 = .ok (.aload_n 0, 1) := by decide +kernel
theorem dX8_worst_1 : decode cX8_worst 1 = .ok (.iconst 0, 1) := by decide +kernel
theorem dX8_worst_2 : decode cX8_worst 2 = .ok (.putfield 1, 3) := by decide +kernel
theorem dX8_worst_5 : decode cX8_worst 5 = .ok (.aload_n 0, 1) := by decide +kernel
theorem dX8_worst_6 : decode cX8_worst 6 = .ok (.iload_n 1, 1) := by decide +kernel
theorem dX8_worst_7 : decode cX8_worst 7 = .ok (.invokevirtual 164, 3) := by decide +kernel
theorem dX8_worst_10 : decode cX8_worst 10 = .ok (.ifCond .ne 5, 3) := by decide +kernel
theorem dX8_worst_13 : decode cX8_worst 13 = .ok (.iconst (-1), 1) := by decide +kernel
theorem dX8_worst_14 : decode cX8_worst 14 = .ok (.ireturn, 1) := by decide +kernel
theorem dX8_worst_15 : decode cX8_worst 15 = .ok (.aload_n 0, 1) := by decide +kernel
theorem dX8_worst_16 : decode cX8_worst 16 = .ok (.aload_n 0, 1) := by decide +kernel
theorem dX8_worst_17 : decode cX8_worst 17 = .ok (.getfield 64, 3) := by decide +kernel
theorem dX8_worst_20 : decode cX8_worst 20 = .ok (.iload_n 1, 1) := by decide +kernel
theorem dX8_worst_21 : decode cX8_worst 21 = .ok (.invokevirtual 190, 3) := by decide +kernel
theorem dX8_worst_24 : decode cX8_worst 24 = .ok (.aload_n 0, 1) := by decide +kernel
theorem dX8_worst_25 : decode cX8_worst 25 = .ok (.getfield 181, 3) := by decide +kernel
theorem dX8_worst_28 : decode cX8_worst 28 = .ok (.ireturn, 1) := by decide +kernel
theorem dX8_snap_0 : decode cX8_snap 0 = .ok (.aload_n 0, 1) := by decide +kernel
theorem dX8_snap_1 : decode cX8_snap 1 = .ok (.getfield 129, 3) := by decide +kernel
theorem dX8_snap_4 : decode cX8_snap 4 = .ok (.bipush 10, 2) := by decide +kernel
theorem dX8_snap_6 : decode cX8_snap 6 = .ok (.if_icmp .ne 43, 3) := by decide +kernel
theorem dX8_snap_9 : decode cX8_snap 9 = .ok (.iconst 0, 1) := by decide +kernel
theorem dX8_snap_10 : decode cX8_snap 10 = .ok (.istore_n 1, 1) := by decide +kernel
theorem dX8_snap_11 : decode cX8_snap 11 = .ok (.iload_n 1, 1) := by decide +kernel
theorem dX8_snap_12 : decode cX8_snap 12 = .ok (.sipush 801, 3) := by decide +kernel
theorem dX8_snap_15 : decode cX8_snap 15 = .ok (.if_icmp .ge 24, 3) := by decide +kernel
theorem dX8_snap_18 : decode cX8_snap 18 = .ok (.aload_n 0, 1) := by decide +kernel
theorem dX8_snap_19 : decode cX8_snap 19 = .ok (.getfield 73, 3) := by decide +kernel
theorem dX8_snap_22 : decode cX8_snap 22 = .ok (.iload_n 1, 1) := by decide +kernel
theorem dX8_snap_23 : decode cX8_snap 23 = .ok (.aload_n 0, 1) := by decide +kernel
theorem dX8_snap_24 : decode cX8_snap 24 = .ok (.getfield 73, 3) := by decide +kernel
theorem dX8_snap_27 : decode cX8_snap 27 = .ok (.iload_n 1, 1) := by decide +kernel
theorem dX8_snap_28 : decode cX8_snap 28 = .ok (.bipush 89, 2) := by decide +kernel
theorem dX8_snap_30 : decode cX8_snap 30 = .ok (.iadd, 1) := by decide +kernel
theorem dX8_snap_31 : decode cX8_snap 31 = .ok (.iaload, 1) := by decide +kernel
theorem dX8_snap_32 : decode cX8_snap 32 = .ok (.iastore, 1) := by decide +kernel
theorem dX8_snap_33 : decode cX8_snap 33 = .ok (.iinc 1 1, 3) := by decide +kernel
theorem dX8_snap_36 : decode cX8_snap 36 = .ok (.goto (-25), 3) := by decide +kernel
theorem dX8_snap_39 : decode cX8_snap 39 = .ok (.aload_n 0, 1) := by decide +kernel
theorem dX8_snap_40 : decode cX8_snap 40 = .ok (.dup, 1) := by decide +kernel
theorem dX8_snap_41 : decode cX8_snap 41 = .ok (.getfield 129, 3) := by decide +kernel
theorem dX8_snap_44 : decode cX8_snap 44 = .ok (.iconst 1, 1) := by decide +kernel
theorem dX8_snap_45 : decode cX8_snap 45 = .ok (.isub, 1) := by decide +kernel
theorem dX8_snap_46 : decode cX8_snap 46 = .ok (.putfield 129, 3) := by decide +kernel
theorem dX8_snap_49 : decode cX8_snap 49 = .ok (.aload_n 0, 1) := by decide +kernel
theorem dX8_snap_50 : decode cX8_snap 50 = .ok (.getfield 64, 3) := by decide +kernel
theorem dX8_snap_53 : decode cX8_snap 53 = .ok (.iconst 0, 1) := by decide +kernel
theorem dX8_snap_54 : decode cX8_snap 54 = .ok (.aload_n 0, 1) := by decide +kernel
theorem dX8_snap_55 : decode cX8_snap 55 = .ok (.getfield 73, 3) := by decide +kernel
theorem dX8_snap_58 : decode cX8_snap 58 = .ok (.bipush 89, 2) := by decide +kernel
theorem dX8_snap_60 : decode cX8_snap 60 = .ok (.aload_n 0, 1) := by decide +kernel
theorem dX8_snap_61 : decode cX8_snap 61 = .ok (.getfield 129, 3) := by decide +kernel
theorem dX8_snap_64 : decode cX8_snap 64 = .ok (.imul, 1) := by decide +kernel
theorem dX8_snap_65 : decode cX8_snap 65 = .ok (.invokestatic 125, 3) := by decide +kernel
theorem dX8_snap_68 : decode cX8_snap 68 = .ok (.aload_n 0, 1) := by decide +kernel
theorem dX8_snap_69 : decode cX8_snap 69 = .ok (.dup, 1) := by decide +kernel
theorem dX8_snap_70 : decode cX8_snap 70 = .ok (.getfield 129, 3) := by decide +kernel
theorem dX8_snap_73 : decode cX8_snap 73 = .ok (.iconst 1, 1) := by decide +kernel
theorem dX8_snap_74 : decode cX8_snap 74 = .ok (.iadd, 1) := by decide +kernel
theorem dX8_snap_75 : decode cX8_snap 75 = .ok (.putfield 129, 3) := by decide +kernel
theorem dX8_snap_78 : decode cX8_snap 78 = .ok (.return_, 1) := by decide +kernel
theorem dX8_stay_0 : decode cX8_stay 0 = .ok (.aload_n 0, 1) := by decide +kernel
theorem dX8_stay_1 : decode cX8_stay 1 = .ok (.getfield 64, 3) := by decide +kernel
theorem dX8_stay_4 : decode cX8_stay 4 = .ok (.iconst 0, 1) := by decide +kernel
theorem dX8_stay_5 : decode cX8_stay 5 = .ok (.aload_n 0, 1) := by decide +kernel
theorem dX8_stay_6 : decode cX8_stay 6 = .ok (.getfield 79, 3) := by decide +kernel
theorem dX8_stay_9 : decode cX8_stay 9 = .ok (.iconst 0, 1) := by decide +kernel
theorem dX8_stay_10 : decode cX8_stay 10 = .ok (.invokestatic 125, 3) := by decide +kernel
theorem dX8_stay_13 : decode cX8_stay 13 = .ok (.aload_n 0, 1) := by decide +kernel
theorem dX8_stay_14 : decode cX8_stay 14 = .ok (.getfield 76, 3) := by decide +kernel
theorem dX8_stay_17 : decode cX8_stay 17 = .ok (.iconst 0, 1) := by decide +kernel
theorem dX8_stay_18 : decode cX8_stay 18 = .ok (.aload_n 0, 1) := by decide +kernel
theorem dX8_stay_19 : decode cX8_stay 19 = .ok (.getfield 64, 3) := by decide +kernel
theorem dX8_stay_22 : decode cX8_stay 22 = .ok (.iconst 0, 1) := by decide +kernel
theorem dX8_stay_23 : decode cX8_stay 23 = .ok (.invokestatic 125, 3) := by decide +kernel
theorem dX8_stay_26 : decode cX8_stay 26 = .ok (.aload_n 0, 1) := by decide +kernel
theorem dX8_stay_27 : decode cX8_stay 27 = .ok (.invokevirtual 193, 3) := by decide +kernel
theorem dX8_stay_30 : decode cX8_stay 30 = .ok (.aload_n 0, 1) := by decide +kernel
theorem dX8_stay_31 : decode cX8_stay 31 = .ok (.getfield 79, 3) := by decide +kernel
theorem dX8_stay_34 : decode cX8_stay 34 = .ok (.iconst 0, 1) := by decide +kernel
theorem dX8_stay_35 : decode cX8_stay 35 = .ok (.aload_n 0, 1) := by decide +kernel
theorem dX8_stay_36 : decode cX8_stay 36 = .ok (.getfield 64, 3) := by decide +kernel
theorem dX8_stay_39 : decode cX8_stay 39 = .ok (.iconst 0, 1) := by decide +kernel
theorem dX8_stay_40 : decode cX8_stay 40 = .ok (.invokestatic 125, 3) := by decide +kernel
theorem dX8_stay_43 : decode cX8_stay 43 = .ok (.return_, 1) := by decide +kernel
theorem dX8_draws_0 : decode cX8_draws 0 = .ok (.aload_n 0, 1) := by decide +kernel
theorem dX8_draws_1 : decode cX8_draws 1 = .ok (.aload_n 1, 1) := by decide +kernel
theorem dX8_draws_2 : decode cX8_draws 2 = .ok (.iload_n 2, 1) := by decide +kernel
theorem dX8_draws_3 : decode cX8_draws 3 = .ok (.invokevirtual 190, 3) := by decide +kernel
theorem dX8_draws_6 : decode cX8_draws 6 = .ok (.aload_n 0, 1) := by decide +kernel
theorem dX8_draws_7 : decode cX8_draws 7 = .ok (.getfield 178, 3) := by decide +kernel
theorem dX8_draws_10 : decode cX8_draws 10 = .ok (.ifCond .ne 5, 3) := by decide +kernel
theorem dX8_draws_13 : decode cX8_draws 13 = .ok (.iconst 0, 1) := by decide +kernel
theorem dX8_draws_14 : decode cX8_draws 14 = .ok (.ireturn, 1) := by decide +kernel
theorem dX8_draws_15 : decode cX8_draws 15 = .ok (.aload_n 1, 1) := by decide +kernel
theorem dX8_draws_16 : decode cX8_draws 16 = .ok (.iconst 5, 1) := by decide +kernel
theorem dX8_draws_17 : decode cX8_draws 17 = .ok (.aload_n 1, 1) := by decide +kernel
theorem dX8_draws_18 : decode cX8_draws 18 = .ok (.iconst 5, 1) := by decide +kernel
theorem dX8_draws_19 : decode cX8_draws 19 = .ok (.iaload, 1) := by decide +kernel
theorem dX8_draws_20 : decode cX8_draws 20 = .ok (.ldc 196, 2) := by decide +kernel
theorem dX8_draws_22 : decode cX8_draws 22 = .ok (.imul, 1) := by decide +kernel
theorem dX8_draws_23 : decode cX8_draws 23 = .ok (.sipush 12345, 3) := by decide +kernel
theorem dX8_draws_26 : decode cX8_draws 26 = .ok (.iadd, 1) := by decide +kernel
theorem dX8_draws_27 : decode cX8_draws 27 = .ok (.iastore, 1) := by decide +kernel
theorem dX8_draws_28 : decode cX8_draws 28 = .ok (.aload_n 1, 1) := by decide +kernel
theorem dX8_draws_29 : decode cX8_draws 29 = .ok (.bipush 61, 2) := by decide +kernel
theorem dX8_draws_31 : decode cX8_draws 31 = .ok (.iload_n 2, 1) := by decide +kernel
theorem dX8_draws_32 : decode cX8_draws 32 = .ok (.iadd, 1) := by decide +kernel
theorem dX8_draws_33 : decode cX8_draws 33 = .ok (.aload_n 0, 1) := by decide +kernel
theorem dX8_draws_34 : decode cX8_draws 34 = .ok (.getfield 85, 3) := by decide +kernel
theorem dX8_draws_37 : decode cX8_draws 37 = .ok (.aload_n 1, 1) := by decide +kernel
theorem dX8_draws_38 : decode cX8_draws 38 = .ok (.iconst 5, 1) := by decide +kernel
theorem dX8_draws_39 : decode cX8_draws 39 = .ok (.iaload, 1) := by decide +kernel
theorem dX8_draws_40 : decode cX8_draws 40 = .ok (.bipush 8, 2) := by decide +kernel
theorem dX8_draws_42 : decode cX8_draws 42 = .ok (.iushr, 1) := by decide +kernel
theorem dX8_draws_43 : decode cX8_draws 43 = .ok (.aload_n 0, 1) := by decide +kernel
theorem dX8_draws_44 : decode cX8_draws 44 = .ok (.getfield 178, 3) := by decide +kernel
theorem dX8_draws_47 : decode cX8_draws 47 = .ok (.irem, 1) := by decide +kernel
theorem dX8_draws_48 : decode cX8_draws 48 = .ok (.iaload, 1) := by decide +kernel
theorem dX8_draws_49 : decode cX8_draws 49 = .ok (.iastore, 1) := by decide +kernel
theorem dX8_draws_50 : decode cX8_draws 50 = .ok (.aload_n 1, 1) := by decide +kernel
theorem dX8_draws_51 : decode cX8_draws 51 = .ok (.bipush 75, 2) := by decide +kernel
theorem dX8_draws_53 : decode cX8_draws 53 = .ok (.iload_n 2, 1) := by decide +kernel
theorem dX8_draws_54 : decode cX8_draws 54 = .ok (.iadd, 1) := by decide +kernel
theorem dX8_draws_55 : decode cX8_draws 55 = .ok (.iconst 1, 1) := by decide +kernel
theorem dX8_draws_56 : decode cX8_draws 56 = .ok (.iastore, 1) := by decide +kernel
theorem dX8_draws_57 : decode cX8_draws 57 = .ok (.iconst 1, 1) := by decide +kernel
theorem dX8_draws_58 : decode cX8_draws 58 = .ok (.ireturn, 1) := by decide +kernel
theorem dX8_draw_0 : decode cX8_draw 0 = .ok (.aload_n 0, 1) := by decide +kernel
theorem dX8_draw_1 : decode cX8_draw 1 = .ok (.iconst 0, 1) := by decide +kernel
theorem dX8_draw_2 : decode cX8_draw 2 = .ok (.putfield 1, 3) := by decide +kernel
theorem dX8_draw_5 : decode cX8_draw 5 = .ok (.aload_n 0, 1) := by decide +kernel
theorem dX8_draw_6 : decode cX8_draw 6 = .ok (.iload_n 1, 1) := by decide +kernel
theorem dX8_draw_7 : decode cX8_draw 7 = .ok (.invokevirtual 164, 3) := by decide +kernel
theorem dX8_draw_10 : decode cX8_draw 10 = .ok (.ifCond .eq 15, 3) := by decide +kernel
theorem dX8_draw_13 : decode cX8_draw 13 = .ok (.aload_n 0, 1) := by decide +kernel
theorem dX8_draw_14 : decode cX8_draw 14 = .ok (.getfield 64, 3) := by decide +kernel
theorem dX8_draw_17 : decode cX8_draw 17 = .ok (.bipush 75, 2) := by decide +kernel
theorem dX8_draw_19 : decode cX8_draw 19 = .ok (.iload_n 1, 1) := by decide +kernel
theorem dX8_draw_20 : decode cX8_draw 20 = .ok (.iadd, 1) := by decide +kernel
theorem dX8_draw_21 : decode cX8_draw 21 = .ok (.iaload, 1) := by decide +kernel
theorem dX8_draw_22 : decode cX8_draw 22 = .ok (.ifCond .eq 5, 3) := by decide +kernel
theorem dX8_draw_25 : decode cX8_draw 25 = .ok (.iconst (-1), 1) := by decide +kernel
theorem dX8_draw_26 : decode cX8_draw 26 = .ok (.ireturn, 1) := by decide +kernel
theorem dX8_draw_27 : decode cX8_draw 27 = .ok (.aload_n 0, 1) := by decide +kernel
theorem dX8_draw_28 : decode cX8_draw 28 = .ok (.getfield 64, 3) := by decide +kernel
theorem dX8_draw_31 : decode cX8_draw 31 = .ok (.iconst 0, 1) := by decide +kernel
theorem dX8_draw_32 : decode cX8_draw 32 = .ok (.aload_n 0, 1) := by decide +kernel
theorem dX8_draw_33 : decode cX8_draw 33 = .ok (.getfield 76, 3) := by decide +kernel
theorem dX8_draw_36 : decode cX8_draw 36 = .ok (.iconst 0, 1) := by decide +kernel
theorem dX8_draw_37 : decode cX8_draw 37 = .ok (.invokestatic 125, 3) := by decide +kernel
theorem dX8_draw_40 : decode cX8_draw 40 = .ok (.aload_n 0, 1) := by decide +kernel
theorem dX8_draw_41 : decode cX8_draw 41 = .ok (.aload_n 0, 1) := by decide +kernel
theorem dX8_draw_42 : decode cX8_draw 42 = .ok (.getfield 64, 3) := by decide +kernel
theorem dX8_draw_45 : decode cX8_draw 45 = .ok (.iload_n 1, 1) := by decide +kernel
theorem dX8_draw_46 : decode cX8_draw 46 = .ok (.invokevirtual 197, 3) := by decide +kernel
theorem dX8_draw_49 : decode cX8_draw 49 = .ok (.ifCond .ne 5, 3) := by decide +kernel
theorem dX8_draw_52 : decode cX8_draw 52 = .ok (.iconst (-1), 1) := by decide +kernel
theorem dX8_draw_53 : decode cX8_draw 53 = .ok (.ireturn, 1) := by decide +kernel
theorem dX8_draw_54 : decode cX8_draw 54 = .ok (.aload_n 0, 1) := by decide +kernel
theorem dX8_draw_55 : decode cX8_draw 55 = .ok (.invokevirtual 201, 3) := by decide +kernel
theorem dX8_draw_58 : decode cX8_draw 58 = .ok (.aload_n 0, 1) := by decide +kernel
theorem dX8_draw_59 : decode cX8_draw 59 = .ok (.getfield 64, 3) := by decide +kernel
theorem dX8_draw_62 : decode cX8_draw 62 = .ok (.bipush 61, 2) := by decide +kernel
theorem dX8_draw_64 : decode cX8_draw 64 = .ok (.iload_n 1, 1) := by decide +kernel
theorem dX8_draw_65 : decode cX8_draw 65 = .ok (.iadd, 1) := by decide +kernel
theorem dX8_draw_66 : decode cX8_draw 66 = .ok (.iaload, 1) := by decide +kernel
theorem dX8_draw_67 : decode cX8_draw 67 = .ok (.ireturn, 1) := by decide +kernel
theorem dX8_drawsAll_0 : decode cX8_drawsAll 0 = .ok (.iconst 0, 1) := by decide +kernel
theorem dX8_drawsAll_1 : decode cX8_drawsAll 1 = .ok (.istore_n 2, 1) := by decide +kernel
theorem dX8_drawsAll_2 : decode cX8_drawsAll 2 = .ok (.iconst 0, 1) := by decide +kernel
theorem dX8_drawsAll_3 : decode cX8_drawsAll 3 = .ok (.istore_n 3, 1) := by decide +kernel
theorem dX8_drawsAll_4 : decode cX8_drawsAll 4 = .ok (.iload_n 3, 1) := by decide +kernel
theorem dX8_drawsAll_5 : decode cX8_drawsAll 5 = .ok (.aload_n 1, 1) := by decide +kernel
theorem dX8_drawsAll_6 : decode cX8_drawsAll 6 = .ok (.bipush 18, 2) := by decide +kernel
theorem dX8_drawsAll_8 : decode cX8_drawsAll 8 = .ok (.iaload, 1) := by decide +kernel
theorem dX8_drawsAll_9 : decode cX8_drawsAll 9 = .ok (.if_icmp .ge 30, 3) := by decide +kernel
theorem dX8_drawsAll_12 : decode cX8_drawsAll 12 = .ok (.aload_n 1, 1) := by decide +kernel
theorem dX8_drawsAll_13 : decode cX8_drawsAll 13 = .ok (.bipush 75, 2) := by decide +kernel
theorem dX8_drawsAll_15 : decode cX8_drawsAll 15 = .ok (.iload_n 3, 1) := by decide +kernel
theorem dX8_drawsAll_16 : decode cX8_drawsAll 16 = .ok (.iadd, 1) := by decide +kernel
theorem dX8_drawsAll_17 : decode cX8_drawsAll 17 = .ok (.iaload, 1) := by decide +kernel
theorem dX8_drawsAll_18 : decode cX8_drawsAll 18 = .ok (.ifCond .ne 15, 3) := by decide +kernel
theorem dX8_drawsAll_21 : decode cX8_drawsAll 21 = .ok (.aload_n 0, 1) := by decide +kernel
theorem dX8_drawsAll_22 : decode cX8_drawsAll 22 = .ok (.aload_n 1, 1) := by decide +kernel
theorem dX8_drawsAll_23 : decode cX8_drawsAll 23 = .ok (.iload_n 3, 1) := by decide +kernel
theorem dX8_drawsAll_24 : decode cX8_drawsAll 24 = .ok (.invokevirtual 197, 3) := by decide +kernel
theorem dX8_drawsAll_27 : decode cX8_drawsAll 27 = .ok (.ifCond .eq 6, 3) := by decide +kernel
theorem dX8_drawsAll_30 : decode cX8_drawsAll 30 = .ok (.iinc 2 1, 3) := by decide +kernel
theorem dX8_drawsAll_33 : decode cX8_drawsAll 33 = .ok (.iinc 3 1, 3) := by decide +kernel
theorem dX8_drawsAll_36 : decode cX8_drawsAll 36 = .ok (.goto (-32), 3) := by decide +kernel
theorem dX8_drawsAll_39 : decode cX8_drawsAll 39 = .ok (.iload_n 2, 1) := by decide +kernel
theorem dX8_drawsAll_40 : decode cX8_drawsAll 40 = .ok (.ireturn, 1) := by decide +kernel
theorem dX8_drawAll_0 : decode cX8_drawAll 0 = .ok (.aload_n 0, 1) := by decide +kernel
theorem dX8_drawAll_1 : decode cX8_drawAll 1 = .ok (.iconst 0, 1) := by decide +kernel
theorem dX8_drawAll_2 : decode cX8_drawAll 2 = .ok (.putfield 1, 3) := by decide +kernel
theorem dX8_drawAll_5 : decode cX8_drawAll 5 = .ok (.aload_n 0, 1) := by decide +kernel
theorem dX8_drawAll_6 : decode cX8_drawAll 6 = .ok (.getfield 64, 3) := by decide +kernel
theorem dX8_drawAll_9 : decode cX8_drawAll 9 = .ok (.iconst 0, 1) := by decide +kernel
theorem dX8_drawAll_10 : decode cX8_drawAll 10 = .ok (.aload_n 0, 1) := by decide +kernel
theorem dX8_drawAll_11 : decode cX8_drawAll 11 = .ok (.getfield 76, 3) := by decide +kernel
theorem dX8_drawAll_14 : decode cX8_drawAll 14 = .ok (.iconst 0, 1) := by decide +kernel
theorem dX8_drawAll_15 : decode cX8_drawAll 15 = .ok (.invokestatic 125, 3) := by decide +kernel
theorem dX8_drawAll_18 : decode cX8_drawAll 18 = .ok (.aload_n 0, 1) := by decide +kernel
theorem dX8_drawAll_19 : decode cX8_drawAll 19 = .ok (.aload_n 0, 1) := by decide +kernel
theorem dX8_drawAll_20 : decode cX8_drawAll 20 = .ok (.getfield 64, 3) := by decide +kernel
theorem dX8_drawAll_23 : decode cX8_drawAll 23 = .ok (.invokevirtual 204, 3) := by decide +kernel
theorem dX8_drawAll_26 : decode cX8_drawAll 26 = .ok (.istore_n 1, 1) := by decide +kernel
theorem dX8_drawAll_27 : decode cX8_drawAll 27 = .ok (.iload_n 1, 1) := by decide +kernel
theorem dX8_drawAll_28 : decode cX8_drawAll 28 = .ok (.ifCond .le 7, 3) := by decide +kernel
theorem dX8_drawAll_31 : decode cX8_drawAll 31 = .ok (.aload_n 0, 1) := by decide +kernel
theorem dX8_drawAll_32 : decode cX8_drawAll 32 = .ok (.invokevirtual 201, 3) := by decide +kernel
theorem dX8_drawAll_35 : decode cX8_drawAll 35 = .ok (.iload_n 1, 1) := by decide +kernel
theorem dX8_drawAll_36 : decode cX8_drawAll 36 = .ok (.ireturn, 1) := by decide +kernel
theorem dX8_repairs_0 : decode cX8_repairs 0 = .ok (.aload_n 0, 1) := by decide +kernel
theorem dX8_repairs_1 : decode cX8_repairs 1 = .ok (.getfield 64, 3) := by decide +kernel
theorem dX8_repairs_4 : decode cX8_repairs 4 = .ok (.bipush 61, 2) := by decide +kernel
theorem dX8_repairs_6 : decode cX8_repairs 6 = .ok (.iload_n 1, 1) := by decide +kernel
theorem dX8_repairs_7 : decode cX8_repairs 7 = .ok (.iadd, 1) := by decide +kernel
theorem dX8_repairs_8 : decode cX8_repairs 8 = .ok (.iaload, 1) := by decide +kernel
theorem dX8_repairs_9 : decode cX8_repairs 9 = .ok (.iconst 1, 1) := by decide +kernel
theorem dX8_repairs_10 : decode cX8_repairs 10 = .ok (.iload_n 2, 1) := by decide +kernel
theorem dX8_repairs_11 : decode cX8_repairs 11 = .ok (.ishl, 1) := by decide +kernel
theorem dX8_repairs_12 : decode cX8_repairs 12 = .ok (.iconst (-1), 1) := by decide +kernel
theorem dX8_repairs_13 : decode cX8_repairs 13 = .ok (.ixor, 1) := by decide +kernel
theorem dX8_repairs_14 : decode cX8_repairs 14 = .ok (.iand, 1) := by decide +kernel
theorem dX8_repairs_15 : decode cX8_repairs 15 = .ok (.istore_n 3, 1) := by decide +kernel
theorem dX8_repairs_16 : decode cX8_repairs 16 = .ok (.iconst (-1), 1) := by decide +kernel
theorem dX8_repairs_17 : decode cX8_repairs 17 = .ok (.istore 4, 2) := by decide +kernel
theorem dX8_repairs_19 : decode cX8_repairs 19 = .ok (.iconst 0, 1) := by decide +kernel
theorem dX8_repairs_20 : decode cX8_repairs 20 = .ok (.istore 5, 2) := by decide +kernel
theorem dX8_repairs_22 : decode cX8_repairs 22 = .ok (.iconst 0, 1) := by decide +kernel
theorem dX8_repairs_23 : decode cX8_repairs 23 = .ok (.istore 6, 2) := by decide +kernel
theorem dX8_repairs_25 : decode cX8_repairs 25 = .ok (.iload 6, 2) := by decide +kernel
theorem dX8_repairs_27 : decode cX8_repairs 27 = .ok (.aload_n 0, 1) := by decide +kernel
theorem dX8_repairs_28 : decode cX8_repairs 28 = .ok (.invokevirtual 132, 3) := by decide +kernel
theorem dX8_repairs_31 : decode cX8_repairs 31 = .ok (.if_icmp .ge 86, 3) := by decide +kernel
theorem dX8_repairs_34 : decode cX8_repairs 34 = .ok (.iload_n 3, 1) := by decide +kernel
theorem dX8_repairs_35 : decode cX8_repairs 35 = .ok (.iconst 1, 1) := by decide +kernel
theorem dX8_repairs_36 : decode cX8_repairs 36 = .ok (.iload 6, 2) := by decide +kernel
theorem dX8_repairs_38 : decode cX8_repairs 38 = .ok (.ishl, 1) := by decide +kernel
theorem dX8_repairs_39 : decode cX8_repairs 39 = .ok (.ior, 1) := by decide +kernel
theorem dX8_repairs_40 : decode cX8_repairs 40 = .ok (.istore 7, 2) := by decide +kernel
theorem dX8_repairs_42 : decode cX8_repairs 42 = .ok (.aload_n 0, 1) := by decide +kernel
theorem dX8_repairs_43 : decode cX8_repairs 43 = .ok (.getfield 64, 3) := by decide +kernel
theorem dX8_repairs_46 : decode cX8_repairs 46 = .ok (.bipush 61, 2) := by decide +kernel
theorem dX8_repairs_48 : decode cX8_repairs 48 = .ok (.iload_n 1, 1) := by decide +kernel
theorem dX8_repairs_49 : decode cX8_repairs 49 = .ok (.iadd, 1) := by decide +kernel
theorem dX8_repairs_50 : decode cX8_repairs 50 = .ok (.iaload, 1) := by decide +kernel
theorem dX8_repairs_51 : decode cX8_repairs 51 = .ok (.iload 6, 2) := by decide +kernel
theorem dX8_repairs_53 : decode cX8_repairs 53 = .ok (.invokestatic 105, 3) := by decide +kernel
theorem dX8_repairs_56 : decode cX8_repairs 56 = .ok (.ifCond .ne 55, 3) := by decide +kernel
theorem dX8_repairs_59 : decode cX8_repairs 59 = .ok (.aload_n 0, 1) := by decide +kernel
theorem dX8_repairs_60 : decode cX8_repairs 60 = .ok (.getfield 64, 3) := by decide +kernel
theorem dX8_repairs_63 : decode cX8_repairs 63 = .ok (.iload_n 1, 1) := by decide +kernel
theorem dX8_repairs_64 : decode cX8_repairs 64 = .ok (.iload 7, 2) := by decide +kernel
theorem dX8_repairs_66 : decode cX8_repairs 66 = .ok (.invokestatic 170, 3) := by decide +kernel
theorem dX8_repairs_69 : decode cX8_repairs 69 = .ok (.ifCond .ne 6, 3) := by decide +kernel
theorem dX8_repairs_72 : decode cX8_repairs 72 = .ok (.goto 39, 3) := by decide +kernel
theorem dX8_repairs_75 : decode cX8_repairs 75 = .ok (.aload_n 0, 1) := by decide +kernel
theorem dX8_repairs_76 : decode cX8_repairs 76 = .ok (.getfield 64, 3) := by decide +kernel
theorem dX8_repairs_79 : decode cX8_repairs 79 = .ok (.iload_n 1, 1) := by decide +kernel
theorem dX8_repairs_80 : decode cX8_repairs 80 = .ok (.iload 7, 2) := by decide +kernel
theorem dX8_repairs_82 : decode cX8_repairs 82 = .ok (.invokestatic 184, 3) := by decide +kernel
theorem dX8_repairs_85 : decode cX8_repairs 85 = .ok (.istore 8, 2) := by decide +kernel
theorem dX8_repairs_87 : decode cX8_repairs 87 = .ok (.iload 4, 2) := by decide +kernel
theorem dX8_repairs_89 : decode cX8_repairs 89 = .ok (.iconst (-1), 1) := by decide +kernel
theorem dX8_repairs_90 : decode cX8_repairs 90 = .ok (.if_icmp .eq 13, 3) := by decide +kernel
theorem dX8_repairs_93 : decode cX8_repairs 93 = .ok (.iload 8, 2) := by decide +kernel
theorem dX8_repairs_95 : decode cX8_repairs 95 = .ok (.iload 5, 2) := by decide +kernel
theorem dX8_repairs_97 : decode cX8_repairs 97 = .ok (.if_icmp .lt 6, 3) := by decide +kernel
theorem dX8_repairs_100 : decode cX8_repairs 100 = .ok (.goto 11, 3) := by decide +kernel
theorem dX8_repairs_103 : decode cX8_repairs 103 = .ok (.iload 6, 2) := by decide +kernel
theorem dX8_repairs_105 : decode cX8_repairs 105 = .ok (.istore 4, 2) := by decide +kernel
theorem dX8_repairs_107 : decode cX8_repairs 107 = .ok (.iload 8, 2) := by decide +kernel
theorem dX8_repairs_109 : decode cX8_repairs 109 = .ok (.istore 5, 2) := by decide +kernel
theorem dX8_repairs_111 : decode cX8_repairs 111 = .ok (.iinc 6 1, 3) := by decide +kernel
theorem dX8_repairs_114 : decode cX8_repairs 114 = .ok (.goto (-89), 3) := by decide +kernel
theorem dX8_repairs_117 : decode cX8_repairs 117 = .ok (.aload_n 0, 1) := by decide +kernel
theorem dX8_repairs_118 : decode cX8_repairs 118 = .ok (.getfield 64, 3) := by decide +kernel
theorem dX8_repairs_121 : decode cX8_repairs 121 = .ok (.bipush 61, 2) := by decide +kernel
theorem dX8_repairs_123 : decode cX8_repairs 123 = .ok (.iload_n 1, 1) := by decide +kernel
theorem dX8_repairs_124 : decode cX8_repairs 124 = .ok (.iadd, 1) := by decide +kernel
theorem dX8_repairs_125 : decode cX8_repairs 125 = .ok (.iload 4, 2) := by decide +kernel
theorem dX8_repairs_127 : decode cX8_repairs 127 = .ok (.iconst (-1), 1) := by decide +kernel
theorem dX8_repairs_128 : decode cX8_repairs 128 = .ok (.if_icmp .ne 7, 3) := by decide +kernel
theorem dX8_repairs_131 : decode cX8_repairs 131 = .ok (.iconst 0, 1) := by decide +kernel
theorem dX8_repairs_132 : decode cX8_repairs 132 = .ok (.goto 9, 3) := by decide +kernel
theorem dX8_repairs_135 : decode cX8_repairs 135 = .ok (.iload_n 3, 1) := by decide +kernel
theorem dX8_repairs_136 : decode cX8_repairs 136 = .ok (.iconst 1, 1) := by decide +kernel
theorem dX8_repairs_137 : decode cX8_repairs 137 = .ok (.iload 4, 2) := by decide +kernel
theorem dX8_repairs_139 : decode cX8_repairs 139 = .ok (.ishl, 1) := by decide +kernel
theorem dX8_repairs_140 : decode cX8_repairs 140 = .ok (.ior, 1) := by decide +kernel
theorem dX8_repairs_141 : decode cX8_repairs 141 = .ok (.iastore, 1) := by decide +kernel
theorem dX8_repairs_142 : decode cX8_repairs 142 = .ok (.iload 4, 2) := by decide +kernel
theorem dX8_repairs_144 : decode cX8_repairs 144 = .ok (.iconst (-1), 1) := by decide +kernel
theorem dX8_repairs_145 : decode cX8_repairs 145 = .ok (.if_icmp .eq 6, 3) := by decide +kernel
theorem dX8_repairs_148 : decode cX8_repairs 148 = .ok (.iload 4, 2) := by decide +kernel
theorem dX8_repairs_150 : decode cX8_repairs 150 = .ok (.ireturn, 1) := by decide +kernel
theorem dX8_repairs_151 : decode cX8_repairs 151 = .ok (.aload_n 0, 1) := by decide +kernel
theorem dX8_repairs_152 : decode cX8_repairs 152 = .ok (.getfield 64, 3) := by decide +kernel
theorem dX8_repairs_155 : decode cX8_repairs 155 = .ok (.bipush 75, 2) := by decide +kernel
theorem dX8_repairs_157 : decode cX8_repairs 157 = .ok (.iload_n 1, 1) := by decide +kernel
theorem dX8_repairs_158 : decode cX8_repairs 158 = .ok (.iadd, 1) := by decide +kernel
theorem dX8_repairs_159 : decode cX8_repairs 159 = .ok (.iconst 0, 1) := by decide +kernel
theorem dX8_repairs_160 : decode cX8_repairs 160 = .ok (.iastore, 1) := by decide +kernel
theorem dX8_repairs_161 : decode cX8_repairs 161 = .ok (.bipush (-2), 2) := by decide +kernel
theorem dX8_repairs_163 : decode cX8_repairs 163 = .ok (.ireturn, 1) := by decide +kernel
theorem dX8_recuse_0 : decode cX8_recuse 0 = .ok (.aload_n 0, 1) := by decide +kernel
theorem dX8_recuse_1 : decode cX8_recuse 1 = .ok (.iconst 0, 1) := by decide +kernel
theorem dX8_recuse_2 : decode cX8_recuse 2 = .ok (.putfield 1, 3) := by decide +kernel
theorem dX8_recuse_5 : decode cX8_recuse 5 = .ok (.aload_n 0, 1) := by decide +kernel
theorem dX8_recuse_6 : decode cX8_recuse 6 = .ok (.iload_n 1, 1) := by decide +kernel
theorem dX8_recuse_7 : decode cX8_recuse 7 = .ok (.invokevirtual 164, 3) := by decide +kernel
theorem dX8_recuse_10 : decode cX8_recuse 10 = .ok (.ifCond .eq 40, 3) := by decide +kernel
theorem dX8_recuse_13 : decode cX8_recuse 13 = .ok (.aload_n 0, 1) := by decide +kernel
theorem dX8_recuse_14 : decode cX8_recuse 14 = .ok (.iload_n 2, 1) := by decide +kernel
theorem dX8_recuse_15 : decode cX8_recuse 15 = .ok (.invokevirtual 154, 3) := by decide +kernel
theorem dX8_recuse_18 : decode cX8_recuse 18 = .ok (.ifCond .eq 32, 3) := by decide +kernel
theorem dX8_recuse_21 : decode cX8_recuse 21 = .ok (.aload_n 0, 1) := by decide +kernel
theorem dX8_recuse_22 : decode cX8_recuse 22 = .ok (.getfield 64, 3) := by decide +kernel
theorem dX8_recuse_25 : decode cX8_recuse 25 = .ok (.bipush 75, 2) := by decide +kernel
theorem dX8_recuse_27 : decode cX8_recuse 27 = .ok (.iload_n 1, 1) := by decide +kernel
theorem dX8_recuse_28 : decode cX8_recuse 28 = .ok (.iadd, 1) := by decide +kernel
theorem dX8_recuse_29 : decode cX8_recuse 29 = .ok (.iaload, 1) := by decide +kernel
theorem dX8_recuse_30 : decode cX8_recuse 30 = .ok (.iconst 1, 1) := by decide +kernel
theorem dX8_recuse_31 : decode cX8_recuse 31 = .ok (.if_icmp .ne 19, 3) := by decide +kernel
theorem dX8_recuse_34 : decode cX8_recuse 34 = .ok (.aload_n 0, 1) := by decide +kernel
theorem dX8_recuse_35 : decode cX8_recuse 35 = .ok (.getfield 64, 3) := by decide +kernel
theorem dX8_recuse_38 : decode cX8_recuse 38 = .ok (.bipush 61, 2) := by decide +kernel
theorem dX8_recuse_40 : decode cX8_recuse 40 = .ok (.iload_n 1, 1) := by decide +kernel
theorem dX8_recuse_41 : decode cX8_recuse 41 = .ok (.iadd, 1) := by decide +kernel
theorem dX8_recuse_42 : decode cX8_recuse 42 = .ok (.iaload, 1) := by decide +kernel
theorem dX8_recuse_43 : decode cX8_recuse 43 = .ok (.iload_n 2, 1) := by decide +kernel
theorem dX8_recuse_44 : decode cX8_recuse 44 = .ok (.invokestatic 105, 3) := by decide +kernel
theorem dX8_recuse_47 : decode cX8_recuse 47 = .ok (.ifCond .ne 5, 3) := by decide +kernel
theorem dX8_recuse_50 : decode cX8_recuse 50 = .ok (.iconst (-1), 1) := by decide +kernel
theorem dX8_recuse_51 : decode cX8_recuse 51 = .ok (.ireturn, 1) := by decide +kernel
theorem dX8_recuse_52 : decode cX8_recuse 52 = .ok (.aload_n 0, 1) := by decide +kernel
theorem dX8_recuse_53 : decode cX8_recuse 53 = .ok (.invokevirtual 193, 3) := by decide +kernel
theorem dX8_recuse_56 : decode cX8_recuse 56 = .ok (.aload_n 0, 1) := by decide +kernel
theorem dX8_recuse_57 : decode cX8_recuse 57 = .ok (.getfield 64, 3) := by decide +kernel
theorem dX8_recuse_60 : decode cX8_recuse 60 = .ok (.bipush 47, 2) := by decide +kernel
theorem dX8_recuse_62 : decode cX8_recuse 62 = .ok (.iload_n 1, 1) := by decide +kernel
theorem dX8_recuse_63 : decode cX8_recuse 63 = .ok (.iadd, 1) := by decide +kernel
theorem dX8_recuse_64 : decode cX8_recuse 64 = .ok (.dup2, 1) := by decide +kernel
theorem dX8_recuse_65 : decode cX8_recuse 65 = .ok (.iaload, 1) := by decide +kernel
theorem dX8_recuse_66 : decode cX8_recuse 66 = .ok (.iconst 1, 1) := by decide +kernel
theorem dX8_recuse_67 : decode cX8_recuse 67 = .ok (.iload_n 2, 1) := by decide +kernel
theorem dX8_recuse_68 : decode cX8_recuse 68 = .ok (.ishl, 1) := by decide +kernel
theorem dX8_recuse_69 : decode cX8_recuse 69 = .ok (.ior, 1) := by decide +kernel
theorem dX8_recuse_70 : decode cX8_recuse 70 = .ok (.iastore, 1) := by decide +kernel
theorem dX8_recuse_71 : decode cX8_recuse 71 = .ok (.aload_n 0, 1) := by decide +kernel
theorem dX8_recuse_72 : decode cX8_recuse 72 = .ok (.iload_n 1, 1) := by decide +kernel
theorem dX8_recuse_73 : decode cX8_recuse 73 = .ok (.iload_n 2, 1) := by decide +kernel
theorem dX8_recuse_74 : decode cX8_recuse 74 = .ok (.invokevirtual 208, 3) := by decide +kernel
theorem dX8_recuse_77 : decode cX8_recuse 77 = .ok (.ireturn, 1) := by decide +kernel
theorem dX8_leave_0 : decode cX8_leave 0 = .ok (.aload_n 0, 1) := by decide +kernel
theorem dX8_leave_1 : decode cX8_leave 1 = .ok (.iconst 0, 1) := by decide +kernel
theorem dX8_leave_2 : decode cX8_leave 2 = .ok (.putfield 1, 3) := by decide +kernel
theorem dX8_leave_5 : decode cX8_leave 5 = .ok (.aload_n 0, 1) := by decide +kernel
theorem dX8_leave_6 : decode cX8_leave 6 = .ok (.iload_n 1, 1) := by decide +kernel
theorem dX8_leave_7 : decode cX8_leave 7 = .ok (.invokevirtual 154, 3) := by decide +kernel
theorem dX8_leave_10 : decode cX8_leave 10 = .ok (.ifCond .eq 17, 3) := by decide +kernel
theorem dX8_leave_13 : decode cX8_leave 13 = .ok (.aload_n 0, 1) := by decide +kernel
theorem dX8_leave_14 : decode cX8_leave 14 = .ok (.getfield 64, 3) := by decide +kernel
theorem dX8_leave_17 : decode cX8_leave 17 = .ok (.bipush 17, 2) := by decide +kernel
theorem dX8_leave_19 : decode cX8_leave 19 = .ok (.iaload, 1) := by decide +kernel
theorem dX8_leave_20 : decode cX8_leave 20 = .ok (.iload_n 1, 1) := by decide +kernel
theorem dX8_leave_21 : decode cX8_leave 21 = .ok (.invokestatic 105, 3) := by decide +kernel
theorem dX8_leave_24 : decode cX8_leave 24 = .ok (.ifCond .eq 5, 3) := by decide +kernel
theorem dX8_leave_27 : decode cX8_leave 27 = .ok (.iconst (-1), 1) := by decide +kernel
theorem dX8_leave_28 : decode cX8_leave 28 = .ok (.ireturn, 1) := by decide +kernel
theorem dX8_leave_29 : decode cX8_leave 29 = .ok (.aload_n 0, 1) := by decide +kernel
theorem dX8_leave_30 : decode cX8_leave 30 = .ok (.invokevirtual 193, 3) := by decide +kernel
theorem dX8_leave_33 : decode cX8_leave 33 = .ok (.aload_n 0, 1) := by decide +kernel
theorem dX8_leave_34 : decode cX8_leave 34 = .ok (.getfield 64, 3) := by decide +kernel
theorem dX8_leave_37 : decode cX8_leave 37 = .ok (.bipush 17, 2) := by decide +kernel
theorem dX8_leave_39 : decode cX8_leave 39 = .ok (.dup2, 1) := by decide +kernel
theorem dX8_leave_40 : decode cX8_leave 40 = .ok (.iaload, 1) := by decide +kernel
theorem dX8_leave_41 : decode cX8_leave 41 = .ok (.iconst 1, 1) := by decide +kernel
theorem dX8_leave_42 : decode cX8_leave 42 = .ok (.iload_n 1, 1) := by decide +kernel
theorem dX8_leave_43 : decode cX8_leave 43 = .ok (.ishl, 1) := by decide +kernel
theorem dX8_leave_44 : decode cX8_leave 44 = .ok (.ior, 1) := by decide +kernel
theorem dX8_leave_45 : decode cX8_leave 45 = .ok (.iastore, 1) := by decide +kernel
theorem dX8_leave_46 : decode cX8_leave 46 = .ok (.iconst 0, 1) := by decide +kernel
theorem dX8_leave_47 : decode cX8_leave 47 = .ok (.istore_n 2, 1) := by decide +kernel
theorem dX8_leave_48 : decode cX8_leave 48 = .ok (.iconst 0, 1) := by decide +kernel
theorem dX8_leave_49 : decode cX8_leave 49 = .ok (.istore_n 3, 1) := by decide +kernel
theorem dX8_leave_50 : decode cX8_leave 50 = .ok (.iload_n 3, 1) := by decide +kernel
theorem dX8_leave_51 : decode cX8_leave 51 = .ok (.aload_n 0, 1) := by decide +kernel
theorem dX8_leave_52 : decode cX8_leave 52 = .ok (.invokevirtual 136, 3) := by decide +kernel
theorem dX8_leave_55 : decode cX8_leave 55 = .ok (.if_icmp .ge 52, 3) := by decide +kernel
theorem dX8_leave_58 : decode cX8_leave 58 = .ok (.aload_n 0, 1) := by decide +kernel
theorem dX8_leave_59 : decode cX8_leave 59 = .ok (.getfield 64, 3) := by decide +kernel
theorem dX8_leave_62 : decode cX8_leave 62 = .ok (.bipush 75, 2) := by decide +kernel
theorem dX8_leave_64 : decode cX8_leave 64 = .ok (.iload_n 3, 1) := by decide +kernel
theorem dX8_leave_65 : decode cX8_leave 65 = .ok (.iadd, 1) := by decide +kernel
theorem dX8_leave_66 : decode cX8_leave 66 = .ok (.iaload, 1) := by decide +kernel
theorem dX8_leave_67 : decode cX8_leave 67 = .ok (.iconst 1, 1) := by decide +kernel
theorem dX8_leave_68 : decode cX8_leave 68 = .ok (.if_icmp .ne 33, 3) := by decide +kernel
theorem dX8_leave_71 : decode cX8_leave 71 = .ok (.aload_n 0, 1) := by decide +kernel
theorem dX8_leave_72 : decode cX8_leave 72 = .ok (.getfield 64, 3) := by decide +kernel
theorem dX8_leave_75 : decode cX8_leave 75 = .ok (.bipush 61, 2) := by decide +kernel
theorem dX8_leave_77 : decode cX8_leave 77 = .ok (.iload_n 3, 1) := by decide +kernel
theorem dX8_leave_78 : decode cX8_leave 78 = .ok (.iadd, 1) := by decide +kernel
theorem dX8_leave_79 : decode cX8_leave 79 = .ok (.iaload, 1) := by decide +kernel
theorem dX8_leave_80 : decode cX8_leave 80 = .ok (.iload_n 1, 1) := by decide +kernel
theorem dX8_leave_81 : decode cX8_leave 81 = .ok (.invokestatic 105, 3) := by decide +kernel
theorem dX8_leave_84 : decode cX8_leave 84 = .ok (.ifCond .eq 17, 3) := by decide +kernel
theorem dX8_leave_87 : decode cX8_leave 87 = .ok (.aload_n 0, 1) := by decide +kernel
theorem dX8_leave_88 : decode cX8_leave 88 = .ok (.iload_n 3, 1) := by decide +kernel
theorem dX8_leave_89 : decode cX8_leave 89 = .ok (.iload_n 1, 1) := by decide +kernel
theorem dX8_leave_90 : decode cX8_leave 90 = .ok (.invokevirtual 208, 3) := by decide +kernel
theorem dX8_leave_93 : decode cX8_leave 93 = .ok (.bipush (-2), 2) := by decide +kernel
theorem dX8_leave_95 : decode cX8_leave 95 = .ok (.if_icmp .eq 6, 3) := by decide +kernel
theorem dX8_leave_98 : decode cX8_leave 98 = .ok (.iinc 2 1, 3) := by decide +kernel
theorem dX8_leave_101 : decode cX8_leave 101 = .ok (.iinc 3 1, 3) := by decide +kernel
theorem dX8_leave_104 : decode cX8_leave 104 = .ok (.goto (-54), 3) := by decide +kernel
theorem dX8_leave_107 : decode cX8_leave 107 = .ok (.iload_n 2, 1) := by decide +kernel
theorem dX8_leave_108 : decode cX8_leave 108 = .ok (.ireturn, 1) := by decide +kernel
theorem dX8_come_0 : decode cX8_come 0 = .ok (.aload_n 0, 1) := by decide +kernel
theorem dX8_come_1 : decode cX8_come 1 = .ok (.iconst 0, 1) := by decide +kernel
theorem dX8_come_2 : decode cX8_come 2 = .ok (.putfield 1, 3) := by decide +kernel
theorem dX8_come_5 : decode cX8_come 5 = .ok (.aload_n 0, 1) := by decide +kernel
theorem dX8_come_6 : decode cX8_come 6 = .ok (.iload_n 1, 1) := by decide +kernel
theorem dX8_come_7 : decode cX8_come 7 = .ok (.invokevirtual 154, 3) := by decide +kernel
theorem dX8_come_10 : decode cX8_come 10 = .ok (.ifCond .eq 17, 3) := by decide +kernel
theorem dX8_come_13 : decode cX8_come 13 = .ok (.aload_n 0, 1) := by decide +kernel
theorem dX8_come_14 : decode cX8_come 14 = .ok (.getfield 64, 3) := by decide +kernel
theorem dX8_come_17 : decode cX8_come 17 = .ok (.bipush 17, 2) := by decide +kernel
theorem dX8_come_19 : decode cX8_come 19 = .ok (.iaload, 1) := by decide +kernel
theorem dX8_come_20 : decode cX8_come 20 = .ok (.iload_n 1, 1) := by decide +kernel
theorem dX8_come_21 : decode cX8_come 21 = .ok (.invokestatic 105, 3) := by decide +kernel
theorem dX8_come_24 : decode cX8_come 24 = .ok (.ifCond .ne 5, 3) := by decide +kernel
theorem dX8_come_27 : decode cX8_come 27 = .ok (.iconst (-1), 1) := by decide +kernel
theorem dX8_come_28 : decode cX8_come 28 = .ok (.ireturn, 1) := by decide +kernel
theorem dX8_come_29 : decode cX8_come 29 = .ok (.aload_n 0, 1) := by decide +kernel
theorem dX8_come_30 : decode cX8_come 30 = .ok (.invokevirtual 193, 3) := by decide +kernel
theorem dX8_come_33 : decode cX8_come 33 = .ok (.aload_n 0, 1) := by decide +kernel
theorem dX8_come_34 : decode cX8_come 34 = .ok (.getfield 64, 3) := by decide +kernel
theorem dX8_come_37 : decode cX8_come 37 = .ok (.bipush 17, 2) := by decide +kernel
theorem dX8_come_39 : decode cX8_come 39 = .ok (.dup2, 1) := by decide +kernel
theorem dX8_come_40 : decode cX8_come 40 = .ok (.iaload, 1) := by decide +kernel
theorem dX8_come_41 : decode cX8_come 41 = .ok (.iconst 1, 1) := by decide +kernel
theorem dX8_come_42 : decode cX8_come 42 = .ok (.iload_n 1, 1) := by decide +kernel
theorem dX8_come_43 : decode cX8_come 43 = .ok (.ishl, 1) := by decide +kernel
theorem dX8_come_44 : decode cX8_come 44 = .ok (.ixor, 1) := by decide +kernel
theorem dX8_come_45 : decode cX8_come 45 = .ok (.iastore, 1) := by decide +kernel
theorem dX8_come_46 : decode cX8_come 46 = .ok (.aload_n 0, 1) := by decide +kernel
theorem dX8_come_47 : decode cX8_come 47 = .ok (.getfield 64, 3) := by decide +kernel
theorem dX8_come_50 : decode cX8_come 50 = .ok (.bipush 17, 2) := by decide +kernel
theorem dX8_come_52 : decode cX8_come 52 = .ok (.iaload, 1) := by decide +kernel
theorem dX8_come_53 : decode cX8_come 53 = .ok (.invokestatic 187, 3) := by decide +kernel
theorem dX8_come_56 : decode cX8_come 56 = .ok (.ireturn, 1) := by decide +kernel
theorem dX8_hear_0 : decode cX8_hear 0 = .ok (.aload_n 0, 1) := by decide +kernel
theorem dX8_hear_1 : decode cX8_hear 1 = .ok (.iconst 0, 1) := by decide +kernel
theorem dX8_hear_2 : decode cX8_hear 2 = .ok (.putfield 1, 3) := by decide +kernel
theorem dX8_hear_5 : decode cX8_hear 5 = .ok (.aload_n 0, 1) := by decide +kernel
theorem dX8_hear_6 : decode cX8_hear 6 = .ok (.iload_n 1, 1) := by decide +kernel
theorem dX8_hear_7 : decode cX8_hear 7 = .ok (.invokevirtual 164, 3) := by decide +kernel
theorem dX8_hear_10 : decode cX8_hear 10 = .ok (.ifCond .eq 16, 3) := by decide +kernel
theorem dX8_hear_13 : decode cX8_hear 13 = .ok (.aload_n 0, 1) := by decide +kernel
theorem dX8_hear_14 : decode cX8_hear 14 = .ok (.getfield 64, 3) := by decide +kernel
theorem dX8_hear_17 : decode cX8_hear 17 = .ok (.bipush 75, 2) := by decide +kernel
theorem dX8_hear_19 : decode cX8_hear 19 = .ok (.iload_n 1, 1) := by decide +kernel
theorem dX8_hear_20 : decode cX8_hear 20 = .ok (.iadd, 1) := by decide +kernel
theorem dX8_hear_21 : decode cX8_hear 21 = .ok (.iaload, 1) := by decide +kernel
theorem dX8_hear_22 : decode cX8_hear 22 = .ok (.iconst 1, 1) := by decide +kernel
theorem dX8_hear_23 : decode cX8_hear 23 = .ok (.if_icmp .eq 5, 3) := by decide +kernel
theorem dX8_hear_26 : decode cX8_hear 26 = .ok (.iconst (-1), 1) := by decide +kernel
theorem dX8_hear_27 : decode cX8_hear 27 = .ok (.ireturn, 1) := by decide +kernel
theorem dX8_hear_28 : decode cX8_hear 28 = .ok (.aload_n 0, 1) := by decide +kernel
theorem dX8_hear_29 : decode cX8_hear 29 = .ok (.invokevirtual 193, 3) := by decide +kernel
theorem dX8_hear_32 : decode cX8_hear 32 = .ok (.aload_n 0, 1) := by decide +kernel
theorem dX8_hear_33 : decode cX8_hear 33 = .ok (.getfield 64, 3) := by decide +kernel
theorem dX8_hear_36 : decode cX8_hear 36 = .ok (.bipush 75, 2) := by decide +kernel
theorem dX8_hear_38 : decode cX8_hear 38 = .ok (.iload_n 1, 1) := by decide +kernel
theorem dX8_hear_39 : decode cX8_hear 39 = .ok (.iadd, 1) := by decide +kernel
theorem dX8_hear_40 : decode cX8_hear 40 = .ok (.iconst 2, 1) := by decide +kernel
theorem dX8_hear_41 : decode cX8_hear 41 = .ok (.iastore, 1) := by decide +kernel
theorem dX8_hear_42 : decode cX8_hear 42 = .ok (.aload_n 0, 1) := by decide +kernel
theorem dX8_hear_43 : decode cX8_hear 43 = .ok (.iconst 2, 1) := by decide +kernel
theorem dX8_hear_44 : decode cX8_hear 44 = .ok (.invokevirtual 151, 3) := by decide +kernel
theorem dX8_hear_47 : decode cX8_hear 47 = .ok (.ireturn, 1) := by decide +kernel
theorem dX8_evennessNow_0 : decode cX8_evennessNow 0 = .ok (.iconst 0, 1) := by decide +kernel
theorem dX8_evennessNow_1 : decode cX8_evennessNow 1 = .ok (.istore_n 1, 1) := by decide +kernel
theorem dX8_evennessNow_2 : decode cX8_evennessNow 2 = .ok (.iconst 0, 1) := by decide +kernel
theorem dX8_evennessNow_3 : decode cX8_evennessNow 3 = .ok (.istore_n 2, 1) := by decide +kernel
theorem dX8_evennessNow_4 : decode cX8_evennessNow 4 = .ok (.iload_n 2, 1) := by decide +kernel
theorem dX8_evennessNow_5 : decode cX8_evennessNow 5 = .ok (.aload_n 0, 1) := by decide +kernel
theorem dX8_evennessNow_6 : decode cX8_evennessNow 6 = .ok (.invokevirtual 132, 3) := by decide +kernel
theorem dX8_evennessNow_9 : decode cX8_evennessNow 9 = .ok (.if_icmp .ge 46, 3) := by decide +kernel
theorem dX8_evennessNow_12 : decode cX8_evennessNow 12 = .ok (.iconst 0, 1) := by decide +kernel
theorem dX8_evennessNow_13 : decode cX8_evennessNow 13 = .ok (.istore_n 3, 1) := by decide +kernel
theorem dX8_evennessNow_14 : decode cX8_evennessNow 14 = .ok (.iload_n 3, 1) := by decide +kernel
theorem dX8_evennessNow_15 : decode cX8_evennessNow 15 = .ok (.iload_n 2, 1) := by decide +kernel
theorem dX8_evennessNow_16 : decode cX8_evennessNow 16 = .ok (.if_icmp .ge 33, 3) := by decide +kernel
theorem dX8_evennessNow_19 : decode cX8_evennessNow 19 = .ok (.iload_n 1, 1) := by decide +kernel
theorem dX8_evennessNow_20 : decode cX8_evennessNow 20 = .ok (.aload_n 0, 1) := by decide +kernel
theorem dX8_evennessNow_21 : decode cX8_evennessNow 21 = .ok (.getfield 64, 3) := by decide +kernel
theorem dX8_evennessNow_24 : decode cX8_evennessNow 24 = .ok (.iload_n 2, 1) := by decide +kernel
theorem dX8_evennessNow_25 : decode cX8_evennessNow 25 = .ok (.iload_n 3, 1) := by decide +kernel
theorem dX8_evennessNow_26 : decode cX8_evennessNow 26 = .ok (.iconst (-1), 1) := by decide +kernel
theorem dX8_evennessNow_27 : decode cX8_evennessNow 27 = .ok (.invokestatic 147, 3) := by decide +kernel
theorem dX8_evennessNow_30 : decode cX8_evennessNow 30 = .ok (.aload_n 0, 1) := by decide +kernel
theorem dX8_evennessNow_31 : decode cX8_evennessNow 31 = .ok (.getfield 64, 3) := by decide +kernel
theorem dX8_evennessNow_34 : decode cX8_evennessNow 34 = .ok (.iload_n 2, 1) := by decide +kernel
theorem dX8_evennessNow_35 : decode cX8_evennessNow 35 = .ok (.iload_n 3, 1) := by decide +kernel
theorem dX8_evennessNow_36 : decode cX8_evennessNow 36 = .ok (.iconst (-1), 1) := by decide +kernel
theorem dX8_evennessNow_37 : decode cX8_evennessNow 37 = .ok (.invokestatic 147, 3) := by decide +kernel
theorem dX8_evennessNow_40 : decode cX8_evennessNow 40 = .ok (.imul, 1) := by decide +kernel
theorem dX8_evennessNow_41 : decode cX8_evennessNow 41 = .ok (.iadd, 1) := by decide +kernel
theorem dX8_evennessNow_42 : decode cX8_evennessNow 42 = .ok (.istore_n 1, 1) := by decide +kernel
theorem dX8_evennessNow_43 : decode cX8_evennessNow 43 = .ok (.iinc 3 1, 3) := by decide +kernel
theorem dX8_evennessNow_46 : decode cX8_evennessNow 46 = .ok (.goto (-32), 3) := by decide +kernel
theorem dX8_evennessNow_49 : decode cX8_evennessNow 49 = .ok (.iinc 2 1, 3) := by decide +kernel
theorem dX8_evennessNow_52 : decode cX8_evennessNow 52 = .ok (.goto (-48), 3) := by decide +kernel
theorem dX8_evennessNow_55 : decode cX8_evennessNow 55 = .ok (.iload_n 1, 1) := by decide +kernel
theorem dX8_evennessNow_56 : decode cX8_evennessNow 56 = .ok (.ireturn, 1) := by decide +kernel
theorem dX8_evenness_0 : decode cX8_evenness 0 = .ok (.aload_n 0, 1) := by decide +kernel
theorem dX8_evenness_1 : decode cX8_evenness 1 = .ok (.iconst 0, 1) := by decide +kernel
theorem dX8_evenness_2 : decode cX8_evenness 2 = .ok (.putfield 1, 3) := by decide +kernel
theorem dX8_evenness_5 : decode cX8_evenness 5 = .ok (.aload_n 0, 1) := by decide +kernel
theorem dX8_evenness_6 : decode cX8_evenness 6 = .ok (.invokevirtual 211, 3) := by decide +kernel
theorem dX8_evenness_9 : decode cX8_evenness 9 = .ok (.ireturn, 1) := by decide +kernel
theorem dX8_changes_0 : decode cX8_changes 0 = .ok (.aload_n 0, 1) := by decide +kernel
theorem dX8_changes_1 : decode cX8_changes 1 = .ok (.getfield 64, 3) := by decide +kernel
theorem dX8_changes_4 : decode cX8_changes 4 = .ok (.bipush 61, 2) := by decide +kernel
theorem dX8_changes_6 : decode cX8_changes 6 = .ok (.iload_n 1, 1) := by decide +kernel
theorem dX8_changes_7 : decode cX8_changes 7 = .ok (.iadd, 1) := by decide +kernel
theorem dX8_changes_8 : decode cX8_changes 8 = .ok (.dup2, 1) := by decide +kernel
theorem dX8_changes_9 : decode cX8_changes 9 = .ok (.iaload, 1) := by decide +kernel
theorem dX8_changes_10 : decode cX8_changes 10 = .ok (.iload_n 3, 1) := by decide +kernel
theorem dX8_changes_11 : decode cX8_changes 11 = .ok (.ixor, 1) := by decide +kernel
theorem dX8_changes_12 : decode cX8_changes 12 = .ok (.iastore, 1) := by decide +kernel
theorem dX8_changes_13 : decode cX8_changes 13 = .ok (.aload_n 0, 1) := by decide +kernel
theorem dX8_changes_14 : decode cX8_changes 14 = .ok (.getfield 64, 3) := by decide +kernel
theorem dX8_changes_17 : decode cX8_changes 17 = .ok (.bipush 61, 2) := by decide +kernel
theorem dX8_changes_19 : decode cX8_changes 19 = .ok (.iload_n 2, 1) := by decide +kernel
theorem dX8_changes_20 : decode cX8_changes 20 = .ok (.iadd, 1) := by decide +kernel
theorem dX8_changes_21 : decode cX8_changes 21 = .ok (.dup2, 1) := by decide +kernel
theorem dX8_changes_22 : decode cX8_changes 22 = .ok (.iaload, 1) := by decide +kernel
theorem dX8_changes_23 : decode cX8_changes 23 = .ok (.iload_n 3, 1) := by decide +kernel
theorem dX8_changes_24 : decode cX8_changes 24 = .ok (.ixor, 1) := by decide +kernel
theorem dX8_changes_25 : decode cX8_changes 25 = .ok (.iastore, 1) := by decide +kernel
theorem dX8_changes_26 : decode cX8_changes 26 = .ok (.return_, 1) := by decide +kernel
theorem dX8_exchanges_0 : decode cX8_exchanges 0 = .ok (.iload_n 1, 1) := by decide +kernel
theorem dX8_exchanges_1 : decode cX8_exchanges 1 = .ok (.iload_n 3, 1) := by decide +kernel
theorem dX8_exchanges_2 : decode cX8_exchanges 2 = .ok (.if_icmp .eq 29, 3) := by decide +kernel
theorem dX8_exchanges_5 : decode cX8_exchanges 5 = .ok (.aload_n 0, 1) := by decide +kernel
theorem dX8_exchanges_6 : decode cX8_exchanges 6 = .ok (.getfield 64, 3) := by decide +kernel
theorem dX8_exchanges_9 : decode cX8_exchanges 9 = .ok (.bipush 75, 2) := by decide +kernel
theorem dX8_exchanges_11 : decode cX8_exchanges 11 = .ok (.iload_n 1, 1) := by decide +kernel
theorem dX8_exchanges_12 : decode cX8_exchanges 12 = .ok (.iadd, 1) := by decide +kernel
theorem dX8_exchanges_13 : decode cX8_exchanges 13 = .ok (.iaload, 1) := by decide +kernel
theorem dX8_exchanges_14 : decode cX8_exchanges 14 = .ok (.iconst 1, 1) := by decide +kernel
theorem dX8_exchanges_15 : decode cX8_exchanges 15 = .ok (.if_icmp .ne 16, 3) := by decide +kernel
theorem dX8_exchanges_18 : decode cX8_exchanges 18 = .ok (.aload_n 0, 1) := by decide +kernel
theorem dX8_exchanges_19 : decode cX8_exchanges 19 = .ok (.getfield 64, 3) := by decide +kernel
theorem dX8_exchanges_22 : decode cX8_exchanges 22 = .ok (.bipush 75, 2) := by decide +kernel
theorem dX8_exchanges_24 : decode cX8_exchanges 24 = .ok (.iload_n 3, 1) := by decide +kernel
theorem dX8_exchanges_25 : decode cX8_exchanges 25 = .ok (.iadd, 1) := by decide +kernel
theorem dX8_exchanges_26 : decode cX8_exchanges 26 = .ok (.iaload, 1) := by decide +kernel
theorem dX8_exchanges_27 : decode cX8_exchanges 27 = .ok (.iconst 1, 1) := by decide +kernel
theorem dX8_exchanges_28 : decode cX8_exchanges 28 = .ok (.if_icmp .eq 5, 3) := by decide +kernel
theorem dX8_exchanges_31 : decode cX8_exchanges 31 = .ok (.iconst 0, 1) := by decide +kernel
theorem dX8_exchanges_32 : decode cX8_exchanges 32 = .ok (.ireturn, 1) := by decide +kernel
theorem dX8_exchanges_33 : decode cX8_exchanges 33 = .ok (.aload_n 0, 1) := by decide +kernel
theorem dX8_exchanges_34 : decode cX8_exchanges 34 = .ok (.getfield 64, 3) := by decide +kernel
theorem dX8_exchanges_37 : decode cX8_exchanges 37 = .ok (.bipush 61, 2) := by decide +kernel
theorem dX8_exchanges_39 : decode cX8_exchanges 39 = .ok (.iload_n 1, 1) := by decide +kernel
theorem dX8_exchanges_40 : decode cX8_exchanges 40 = .ok (.iadd, 1) := by decide +kernel
theorem dX8_exchanges_41 : decode cX8_exchanges 41 = .ok (.iaload, 1) := by decide +kernel
theorem dX8_exchanges_42 : decode cX8_exchanges 42 = .ok (.istore 5, 2) := by decide +kernel
theorem dX8_exchanges_44 : decode cX8_exchanges 44 = .ok (.aload_n 0, 1) := by decide +kernel
theorem dX8_exchanges_45 : decode cX8_exchanges 45 = .ok (.getfield 64, 3) := by decide +kernel
theorem dX8_exchanges_48 : decode cX8_exchanges 48 = .ok (.bipush 61, 2) := by decide +kernel
theorem dX8_exchanges_50 : decode cX8_exchanges 50 = .ok (.iload_n 3, 1) := by decide +kernel
theorem dX8_exchanges_51 : decode cX8_exchanges 51 = .ok (.iadd, 1) := by decide +kernel
theorem dX8_exchanges_52 : decode cX8_exchanges 52 = .ok (.iaload, 1) := by decide +kernel
theorem dX8_exchanges_53 : decode cX8_exchanges 53 = .ok (.istore 6, 2) := by decide +kernel
theorem dX8_exchanges_55 : decode cX8_exchanges 55 = .ok (.iload 5, 2) := by decide +kernel
theorem dX8_exchanges_57 : decode cX8_exchanges 57 = .ok (.iload_n 2, 1) := by decide +kernel
theorem dX8_exchanges_58 : decode cX8_exchanges 58 = .ok (.invokestatic 105, 3) := by decide +kernel
theorem dX8_exchanges_61 : decode cX8_exchanges 61 = .ok (.ifCond .eq 32, 3) := by decide +kernel
theorem dX8_exchanges_64 : decode cX8_exchanges 64 = .ok (.iload 6, 2) := by decide +kernel
theorem dX8_exchanges_66 : decode cX8_exchanges 66 = .ok (.iload_n 2, 1) := by decide +kernel
theorem dX8_exchanges_67 : decode cX8_exchanges 67 = .ok (.invokestatic 105, 3) := by decide +kernel
theorem dX8_exchanges_70 : decode cX8_exchanges 70 = .ok (.ifCond .ne 23, 3) := by decide +kernel
theorem dX8_exchanges_73 : decode cX8_exchanges 73 = .ok (.iload 6, 2) := by decide +kernel
theorem dX8_exchanges_75 : decode cX8_exchanges 75 = .ok (.iload 4, 2) := by decide +kernel
theorem dX8_exchanges_77 : decode cX8_exchanges 77 = .ok (.invokestatic 105, 3) := by decide +kernel
theorem dX8_exchanges_80 : decode cX8_exchanges 80 = .ok (.ifCond .eq 13, 3) := by decide +kernel
theorem dX8_exchanges_83 : decode cX8_exchanges 83 = .ok (.iload 5, 2) := by decide +kernel
theorem dX8_exchanges_85 : decode cX8_exchanges 85 = .ok (.iload 4, 2) := by decide +kernel
theorem dX8_exchanges_87 : decode cX8_exchanges 87 = .ok (.invokestatic 105, 3) := by decide +kernel
theorem dX8_exchanges_90 : decode cX8_exchanges 90 = .ok (.ifCond .eq 5, 3) := by decide +kernel
theorem dX8_exchanges_93 : decode cX8_exchanges 93 = .ok (.iconst 0, 1) := by decide +kernel
theorem dX8_exchanges_94 : decode cX8_exchanges 94 = .ok (.ireturn, 1) := by decide +kernel
theorem dX8_exchanges_95 : decode cX8_exchanges 95 = .ok (.iconst 1, 1) := by decide +kernel
theorem dX8_exchanges_96 : decode cX8_exchanges 96 = .ok (.iload_n 2, 1) := by decide +kernel
theorem dX8_exchanges_97 : decode cX8_exchanges 97 = .ok (.ishl, 1) := by decide +kernel
theorem dX8_exchanges_98 : decode cX8_exchanges 98 = .ok (.iconst 1, 1) := by decide +kernel
theorem dX8_exchanges_99 : decode cX8_exchanges 99 = .ok (.iload 4, 2) := by decide +kernel
theorem dX8_exchanges_101 : decode cX8_exchanges 101 = .ok (.ishl, 1) := by decide +kernel
theorem dX8_exchanges_102 : decode cX8_exchanges 102 = .ok (.ior, 1) := by decide +kernel
theorem dX8_exchanges_103 : decode cX8_exchanges 103 = .ok (.istore 7, 2) := by decide +kernel
theorem dX8_exchanges_105 : decode cX8_exchanges 105 = .ok (.aload_n 0, 1) := by decide +kernel
theorem dX8_exchanges_106 : decode cX8_exchanges 106 = .ok (.getfield 64, 3) := by decide +kernel
theorem dX8_exchanges_109 : decode cX8_exchanges 109 = .ok (.iload_n 1, 1) := by decide +kernel
theorem dX8_exchanges_110 : decode cX8_exchanges 110 = .ok (.iload 5, 2) := by decide +kernel
theorem dX8_exchanges_112 : decode cX8_exchanges 112 = .ok (.iload 7, 2) := by decide +kernel
theorem dX8_exchanges_114 : decode cX8_exchanges 114 = .ok (.ixor, 1) := by decide +kernel
theorem dX8_exchanges_115 : decode cX8_exchanges 115 = .ok (.invokestatic 170, 3) := by decide +kernel
theorem dX8_exchanges_118 : decode cX8_exchanges 118 = .ok (.ifCond .eq 19, 3) := by decide +kernel
theorem dX8_exchanges_121 : decode cX8_exchanges 121 = .ok (.aload_n 0, 1) := by decide +kernel
theorem dX8_exchanges_122 : decode cX8_exchanges 122 = .ok (.getfield 64, 3) := by decide +kernel
theorem dX8_exchanges_125 : decode cX8_exchanges 125 = .ok (.iload_n 3, 1) := by decide +kernel
theorem dX8_exchanges_126 : decode cX8_exchanges 126 = .ok (.iload 6, 2) := by decide +kernel
theorem dX8_exchanges_128 : decode cX8_exchanges 128 = .ok (.iload 7, 2) := by decide +kernel
theorem dX8_exchanges_130 : decode cX8_exchanges 130 = .ok (.ixor, 1) := by decide +kernel
theorem dX8_exchanges_131 : decode cX8_exchanges 131 = .ok (.invokestatic 170, 3) := by decide +kernel
theorem dX8_exchanges_134 : decode cX8_exchanges 134 = .ok (.ifCond .ne 5, 3) := by decide +kernel
theorem dX8_exchanges_137 : decode cX8_exchanges 137 = .ok (.iconst 0, 1) := by decide +kernel
theorem dX8_exchanges_138 : decode cX8_exchanges 138 = .ok (.ireturn, 1) := by decide +kernel
theorem dX8_exchanges_139 : decode cX8_exchanges 139 = .ok (.aload_n 0, 1) := by decide +kernel
theorem dX8_exchanges_140 : decode cX8_exchanges 140 = .ok (.iload_n 1, 1) := by decide +kernel
theorem dX8_exchanges_141 : decode cX8_exchanges 141 = .ok (.iload_n 3, 1) := by decide +kernel
theorem dX8_exchanges_142 : decode cX8_exchanges 142 = .ok (.iload 7, 2) := by decide +kernel
theorem dX8_exchanges_144 : decode cX8_exchanges 144 = .ok (.invokevirtual 214, 3) := by decide +kernel
theorem dX8_exchanges_147 : decode cX8_exchanges 147 = .ok (.iconst 1, 1) := by decide +kernel
theorem dX8_exchanges_148 : decode cX8_exchanges 148 = .ok (.ireturn, 1) := by decide +kernel
theorem dX8_laysBetter_0 : decode cX8_laysBetter 0 = .ok (.aload_n 0, 1) := by decide +kernel
theorem dX8_laysBetter_1 : decode cX8_laysBetter 1 = .ok (.invokevirtual 211, 3) := by decide +kernel
theorem dX8_laysBetter_4 : decode cX8_laysBetter 4 = .ok (.istore_n 1, 1) := by decide +kernel
theorem dX8_laysBetter_5 : decode cX8_laysBetter 5 = .ok (.iconst 0, 1) := by decide +kernel
theorem dX8_laysBetter_6 : decode cX8_laysBetter 6 = .ok (.istore_n 2, 1) := by decide +kernel
theorem dX8_laysBetter_7 : decode cX8_laysBetter 7 = .ok (.iload_n 2, 1) := by decide +kernel
theorem dX8_laysBetter_8 : decode cX8_laysBetter 8 = .ok (.aload_n 0, 1) := by decide +kernel
theorem dX8_laysBetter_9 : decode cX8_laysBetter 9 = .ok (.invokevirtual 136, 3) := by decide +kernel
theorem dX8_laysBetter_12 : decode cX8_laysBetter 12 = .ok (.if_icmp .ge 138, 3) := by decide +kernel
theorem dX8_laysBetter_15 : decode cX8_laysBetter 15 = .ok (.iconst 0, 1) := by decide +kernel
theorem dX8_laysBetter_16 : decode cX8_laysBetter 16 = .ok (.istore_n 3, 1) := by decide +kernel
theorem dX8_laysBetter_17 : decode cX8_laysBetter 17 = .ok (.iload_n 3, 1) := by decide +kernel
theorem dX8_laysBetter_18 : decode cX8_laysBetter 18 = .ok (.aload_n 0, 1) := by decide +kernel
theorem dX8_laysBetter_19 : decode cX8_laysBetter 19 = .ok (.invokevirtual 132, 3) := by decide +kernel
theorem dX8_laysBetter_22 : decode cX8_laysBetter 22 = .ok (.if_icmp .ge 122, 3) := by decide +kernel
theorem dX8_laysBetter_25 : decode cX8_laysBetter 25 = .ok (.iload_n 2, 1) := by decide +kernel
theorem dX8_laysBetter_26 : decode cX8_laysBetter 26 = .ok (.iconst 1, 1) := by decide +kernel
theorem dX8_laysBetter_27 : decode cX8_laysBetter 27 = .ok (.iadd, 1) := by decide +kernel
theorem dX8_laysBetter_28 : decode cX8_laysBetter 28 = .ok (.istore 4, 2) := by decide +kernel
theorem dX8_laysBetter_30 : decode cX8_laysBetter 30 = .ok (.iload 4, 2) := by decide +kernel
theorem dX8_laysBetter_32 : decode cX8_laysBetter 32 = .ok (.aload_n 0, 1) := by decide +kernel
theorem dX8_laysBetter_33 : decode cX8_laysBetter 33 = .ok (.invokevirtual 136, 3) := by decide +kernel
theorem dX8_laysBetter_36 : decode cX8_laysBetter 36 = .ok (.if_icmp .ge 102, 3) := by decide +kernel
theorem dX8_laysBetter_39 : decode cX8_laysBetter 39 = .ok (.iconst 0, 1) := by decide +kernel
theorem dX8_laysBetter_40 : decode cX8_laysBetter 40 = .ok (.istore 5, 2) := by decide +kernel
theorem dX8_laysBetter_42 : decode cX8_laysBetter 42 = .ok (.iload 5, 2) := by decide +kernel
theorem dX8_laysBetter_44 : decode cX8_laysBetter 44 = .ok (.aload_n 0, 1) := by decide +kernel
theorem dX8_laysBetter_45 : decode cX8_laysBetter 45 = .ok (.invokevirtual 132, 3) := by decide +kernel
theorem dX8_laysBetter_48 : decode cX8_laysBetter 48 = .ok (.if_icmp .ge 84, 3) := by decide +kernel
theorem dX8_laysBetter_51 : decode cX8_laysBetter 51 = .ok (.aload_n 0, 1) := by decide +kernel
theorem dX8_laysBetter_52 : decode cX8_laysBetter 52 = .ok (.iload_n 2, 1) := by decide +kernel
theorem dX8_laysBetter_53 : decode cX8_laysBetter 53 = .ok (.iload_n 3, 1) := by decide +kernel
theorem dX8_laysBetter_54 : decode cX8_laysBetter 54 = .ok (.iload 4, 2) := by decide +kernel
theorem dX8_laysBetter_56 : decode cX8_laysBetter 56 = .ok (.iload 5, 2) := by decide +kernel
theorem dX8_laysBetter_58 : decode cX8_laysBetter 58 = .ok (.invokevirtual 218, 3) := by decide +kernel
theorem dX8_laysBetter_61 : decode cX8_laysBetter 61 = .ok (.ifCond .ne 6, 3) := by decide +kernel
theorem dX8_laysBetter_64 : decode cX8_laysBetter 64 = .ok (.goto 62, 3) := by decide +kernel
theorem dX8_laysBetter_67 : decode cX8_laysBetter 67 = .ok (.aload_n 0, 1) := by decide +kernel
theorem dX8_laysBetter_68 : decode cX8_laysBetter 68 = .ok (.iload_n 1, 1) := by decide +kernel
theorem dX8_laysBetter_69 : decode cX8_laysBetter 69 = .ok (.aload_n 0, 1) := by decide +kernel
theorem dX8_laysBetter_70 : decode cX8_laysBetter 70 = .ok (.invokevirtual 211, 3) := by decide +kernel
theorem dX8_laysBetter_73 : decode cX8_laysBetter 73 = .ok (.isub, 1) := by decide +kernel
theorem dX8_laysBetter_74 : decode cX8_laysBetter 74 = .ok (.putfield 222, 3) := by decide +kernel
theorem dX8_laysBetter_77 : decode cX8_laysBetter 77 = .ok (.aload_n 0, 1) := by decide +kernel
theorem dX8_laysBetter_78 : decode cX8_laysBetter 78 = .ok (.iload_n 2, 1) := by decide +kernel
theorem dX8_laysBetter_79 : decode cX8_laysBetter 79 = .ok (.iload 4, 2) := by decide +kernel
theorem dX8_laysBetter_81 : decode cX8_laysBetter 81 = .ok (.iconst 1, 1) := by decide +kernel
theorem dX8_laysBetter_82 : decode cX8_laysBetter 82 = .ok (.iload_n 3, 1) := by decide +kernel
theorem dX8_laysBetter_83 : decode cX8_laysBetter 83 = .ok (.ishl, 1) := by decide +kernel
theorem dX8_laysBetter_84 : decode cX8_laysBetter 84 = .ok (.iconst 1, 1) := by decide +kernel
theorem dX8_laysBetter_85 : decode cX8_laysBetter 85 = .ok (.iload 5, 2) := by decide +kernel
theorem dX8_laysBetter_87 : decode cX8_laysBetter 87 = .ok (.ishl, 1) := by decide +kernel
theorem dX8_laysBetter_88 : decode cX8_laysBetter 88 = .ok (.ior, 1) := by decide +kernel
theorem dX8_laysBetter_89 : decode cX8_laysBetter 89 = .ok (.invokevirtual 214, 3) := by decide +kernel
theorem dX8_laysBetter_92 : decode cX8_laysBetter 92 = .ok (.aload_n 0, 1) := by decide +kernel
theorem dX8_laysBetter_93 : decode cX8_laysBetter 93 = .ok (.getfield 222, 3) := by decide +kernel
theorem dX8_laysBetter_96 : decode cX8_laysBetter 96 = .ok (.ifCond .gt 6, 3) := by decide +kernel
theorem dX8_laysBetter_99 : decode cX8_laysBetter 99 = .ok (.goto 27, 3) := by decide +kernel
theorem dX8_laysBetter_102 : decode cX8_laysBetter 102 = .ok (.aload_n 0, 1) := by decide +kernel
theorem dX8_laysBetter_103 : decode cX8_laysBetter 103 = .ok (.iload_n 2, 1) := by decide +kernel
theorem dX8_laysBetter_104 : decode cX8_laysBetter 104 = .ok (.putfield 225, 3) := by decide +kernel
theorem dX8_laysBetter_107 : decode cX8_laysBetter 107 = .ok (.aload_n 0, 1) := by decide +kernel
theorem dX8_laysBetter_108 : decode cX8_laysBetter 108 = .ok (.iload_n 3, 1) := by decide +kernel
theorem dX8_laysBetter_109 : decode cX8_laysBetter 109 = .ok (.putfield 228, 3) := by decide +kernel
theorem dX8_laysBetter_112 : decode cX8_laysBetter 112 = .ok (.aload_n 0, 1) := by decide +kernel
theorem dX8_laysBetter_113 : decode cX8_laysBetter 113 = .ok (.iload 4, 2) := by decide +kernel
theorem dX8_laysBetter_115 : decode cX8_laysBetter 115 = .ok (.putfield 231, 3) := by decide +kernel
theorem dX8_laysBetter_118 : decode cX8_laysBetter 118 = .ok (.aload_n 0, 1) := by decide +kernel
theorem dX8_laysBetter_119 : decode cX8_laysBetter 119 = .ok (.iload 5, 2) := by decide +kernel
theorem dX8_laysBetter_121 : decode cX8_laysBetter 121 = .ok (.putfield 234, 3) := by decide +kernel
theorem dX8_laysBetter_124 : decode cX8_laysBetter 124 = .ok (.iconst 1, 1) := by decide +kernel
theorem dX8_laysBetter_125 : decode cX8_laysBetter 125 = .ok (.ireturn, 1) := by decide +kernel
theorem dX8_laysBetter_126 : decode cX8_laysBetter 126 = .ok (.iinc 5 1, 3) := by decide +kernel
theorem dX8_laysBetter_129 : decode cX8_laysBetter 129 = .ok (.goto (-87), 3) := by decide +kernel
theorem dX8_laysBetter_132 : decode cX8_laysBetter 132 = .ok (.iinc 4 1, 3) := by decide +kernel
theorem dX8_laysBetter_135 : decode cX8_laysBetter 135 = .ok (.goto (-105), 3) := by decide +kernel
theorem dX8_laysBetter_138 : decode cX8_laysBetter 138 = .ok (.iinc 3 1, 3) := by decide +kernel
theorem dX8_laysBetter_141 : decode cX8_laysBetter 141 = .ok (.goto (-124), 3) := by decide +kernel
theorem dX8_laysBetter_144 : decode cX8_laysBetter 144 = .ok (.iinc 2 1, 3) := by decide +kernel
theorem dX8_laysBetter_147 : decode cX8_laysBetter 147 = .ok (.goto (-140), 3) := by decide +kernel
theorem dX8_laysBetter_150 : decode cX8_laysBetter 150 = .ok (.iconst 0, 1) := by decide +kernel
theorem dX8_laysBetter_151 : decode cX8_laysBetter 151 = .ok (.ireturn, 1) := by decide +kernel
theorem dX8_better_0 : decode cX8_better 0 = .ok (.aload_n 0, 1) := by decide +kernel
theorem dX8_better_1 : decode cX8_better 1 = .ok (.iconst 0, 1) := by decide +kernel
theorem dX8_better_2 : decode cX8_better 2 = .ok (.putfield 1, 3) := by decide +kernel
theorem dX8_better_5 : decode cX8_better 5 = .ok (.iload_n 1, 1) := by decide +kernel
theorem dX8_better_6 : decode cX8_better 6 = .ok (.iconst 0, 1) := by decide +kernel
theorem dX8_better_7 : decode cX8_better 7 = .ok (.iconst 4, 1) := by decide +kernel
theorem dX8_better_8 : decode cX8_better 8 = .ok (.invokestatic 91, 3) := by decide +kernel
theorem dX8_better_11 : decode cX8_better 11 = .ok (.ifCond .eq 10, 3) := by decide +kernel
theorem dX8_better_14 : decode cX8_better 14 = .ok (.aload_n 0, 1) := by decide +kernel
theorem dX8_better_15 : decode cX8_better 15 = .ok (.invokevirtual 237, 3) := by decide +kernel
theorem dX8_better_18 : decode cX8_better 18 = .ok (.ifCond .ne 5, 3) := by decide +kernel
theorem dX8_better_21 : decode cX8_better 21 = .ok (.iconst (-1), 1) := by decide +kernel
theorem dX8_better_22 : decode cX8_better 22 = .ok (.ireturn, 1) := by decide +kernel
theorem dX8_better_23 : decode cX8_better 23 = .ok (.iload_n 1, 1) := by decide +kernel
theorem dX8_better_24 : decode cX8_better 24 = .ok (.tableswitch 52 0 3 #[32, 37, 42, 47], 32) := by decide +kernel
theorem dX8_better_56 : decode cX8_better 56 = .ok (.aload_n 0, 1) := by decide +kernel
theorem dX8_better_57 : decode cX8_better 57 = .ok (.getfield 225, 3) := by decide +kernel
theorem dX8_better_60 : decode cX8_better 60 = .ok (.ireturn, 1) := by decide +kernel
theorem dX8_better_61 : decode cX8_better 61 = .ok (.aload_n 0, 1) := by decide +kernel
theorem dX8_better_62 : decode cX8_better 62 = .ok (.getfield 228, 3) := by decide +kernel
theorem dX8_better_65 : decode cX8_better 65 = .ok (.ireturn, 1) := by decide +kernel
theorem dX8_better_66 : decode cX8_better 66 = .ok (.aload_n 0, 1) := by decide +kernel
theorem dX8_better_67 : decode cX8_better 67 = .ok (.getfield 231, 3) := by decide +kernel
theorem dX8_better_70 : decode cX8_better 70 = .ok (.ireturn, 1) := by decide +kernel
theorem dX8_better_71 : decode cX8_better 71 = .ok (.aload_n 0, 1) := by decide +kernel
theorem dX8_better_72 : decode cX8_better 72 = .ok (.getfield 234, 3) := by decide +kernel
theorem dX8_better_75 : decode cX8_better 75 = .ok (.ireturn, 1) := by decide +kernel
theorem dX8_better_76 : decode cX8_better 76 = .ok (.aload_n 0, 1) := by decide +kernel
theorem dX8_better_77 : decode cX8_better 77 = .ok (.getfield 222, 3) := by decide +kernel
theorem dX8_better_80 : decode cX8_better 80 = .ok (.ireturn, 1) := by decide +kernel
theorem dX8_exchange_0 : decode cX8_exchange 0 = .ok (.aload_n 0, 1) := by decide +kernel
theorem dX8_exchange_1 : decode cX8_exchange 1 = .ok (.iconst 0, 1) := by decide +kernel
theorem dX8_exchange_2 : decode cX8_exchange 2 = .ok (.putfield 1, 3) := by decide +kernel
theorem dX8_exchange_5 : decode cX8_exchange 5 = .ok (.aload_n 0, 1) := by decide +kernel
theorem dX8_exchange_6 : decode cX8_exchange 6 = .ok (.iload_n 1, 1) := by decide +kernel
theorem dX8_exchange_7 : decode cX8_exchange 7 = .ok (.invokevirtual 164, 3) := by decide +kernel
theorem dX8_exchange_10 : decode cX8_exchange 10 = .ok (.ifCond .eq 28, 3) := by decide +kernel
theorem dX8_exchange_13 : decode cX8_exchange 13 = .ok (.aload_n 0, 1) := by decide +kernel
theorem dX8_exchange_14 : decode cX8_exchange 14 = .ok (.iload_n 3, 1) := by decide +kernel
theorem dX8_exchange_15 : decode cX8_exchange 15 = .ok (.invokevirtual 164, 3) := by decide +kernel
theorem dX8_exchange_18 : decode cX8_exchange 18 = .ok (.ifCond .eq 20, 3) := by decide +kernel
theorem dX8_exchange_21 : decode cX8_exchange 21 = .ok (.aload_n 0, 1) := by decide +kernel
theorem dX8_exchange_22 : decode cX8_exchange 22 = .ok (.iload_n 2, 1) := by decide +kernel
theorem dX8_exchange_23 : decode cX8_exchange 23 = .ok (.invokevirtual 154, 3) := by decide +kernel
theorem dX8_exchange_26 : decode cX8_exchange 26 = .ok (.ifCond .eq 12, 3) := by decide +kernel
theorem dX8_exchange_29 : decode cX8_exchange 29 = .ok (.aload_n 0, 1) := by decide +kernel
theorem dX8_exchange_30 : decode cX8_exchange 30 = .ok (.iload 4, 2) := by decide +kernel
theorem dX8_exchange_32 : decode cX8_exchange 32 = .ok (.invokevirtual 154, 3) := by decide +kernel
theorem dX8_exchange_35 : decode cX8_exchange 35 = .ok (.ifCond .ne 5, 3) := by decide +kernel
theorem dX8_exchange_38 : decode cX8_exchange 38 = .ok (.iconst (-1), 1) := by decide +kernel
theorem dX8_exchange_39 : decode cX8_exchange 39 = .ok (.ireturn, 1) := by decide +kernel
theorem dX8_exchange_40 : decode cX8_exchange 40 = .ok (.aload_n 0, 1) := by decide +kernel
theorem dX8_exchange_41 : decode cX8_exchange 41 = .ok (.getfield 64, 3) := by decide +kernel
theorem dX8_exchange_44 : decode cX8_exchange 44 = .ok (.iconst 0, 1) := by decide +kernel
theorem dX8_exchange_45 : decode cX8_exchange 45 = .ok (.aload_n 0, 1) := by decide +kernel
theorem dX8_exchange_46 : decode cX8_exchange 46 = .ok (.getfield 76, 3) := by decide +kernel
theorem dX8_exchange_49 : decode cX8_exchange 49 = .ok (.iconst 0, 1) := by decide +kernel
theorem dX8_exchange_50 : decode cX8_exchange 50 = .ok (.invokestatic 125, 3) := by decide +kernel
theorem dX8_exchange_53 : decode cX8_exchange 53 = .ok (.aload_n 0, 1) := by decide +kernel
theorem dX8_exchange_54 : decode cX8_exchange 54 = .ok (.iload_n 1, 1) := by decide +kernel
theorem dX8_exchange_55 : decode cX8_exchange 55 = .ok (.iload_n 2, 1) := by decide +kernel
theorem dX8_exchange_56 : decode cX8_exchange 56 = .ok (.iload_n 3, 1) := by decide +kernel
theorem dX8_exchange_57 : decode cX8_exchange 57 = .ok (.iload 4, 2) := by decide +kernel
theorem dX8_exchange_59 : decode cX8_exchange 59 = .ok (.invokevirtual 218, 3) := by decide +kernel
theorem dX8_exchange_62 : decode cX8_exchange 62 = .ok (.ifCond .ne 5, 3) := by decide +kernel
theorem dX8_exchange_65 : decode cX8_exchange 65 = .ok (.iconst (-1), 1) := by decide +kernel
theorem dX8_exchange_66 : decode cX8_exchange 66 = .ok (.ireturn, 1) := by decide +kernel
theorem dX8_exchange_67 : decode cX8_exchange 67 = .ok (.aload_n 0, 1) := by decide +kernel
theorem dX8_exchange_68 : decode cX8_exchange 68 = .ok (.invokevirtual 201, 3) := by decide +kernel
theorem dX8_exchange_71 : decode cX8_exchange 71 = .ok (.aload_n 0, 1) := by decide +kernel
theorem dX8_exchange_72 : decode cX8_exchange 72 = .ok (.invokevirtual 211, 3) := by decide +kernel
theorem dX8_exchange_75 : decode cX8_exchange 75 = .ok (.ireturn, 1) := by decide +kernel
theorem dX8_smooth_0 : decode cX8_smooth 0 = .ok (.aload_n 0, 1) := by decide +kernel
theorem dX8_smooth_1 : decode cX8_smooth 1 = .ok (.iconst 0, 1) := by decide +kernel
theorem dX8_smooth_2 : decode cX8_smooth 2 = .ok (.putfield 1, 3) := by decide +kernel
theorem dX8_smooth_5 : decode cX8_smooth 5 = .ok (.aload_n 0, 1) := by decide +kernel
theorem dX8_smooth_6 : decode cX8_smooth 6 = .ok (.getfield 64, 3) := by decide +kernel
theorem dX8_smooth_9 : decode cX8_smooth 9 = .ok (.iconst 0, 1) := by decide +kernel
theorem dX8_smooth_10 : decode cX8_smooth 10 = .ok (.aload_n 0, 1) := by decide +kernel
theorem dX8_smooth_11 : decode cX8_smooth 11 = .ok (.getfield 76, 3) := by decide +kernel
theorem dX8_smooth_14 : decode cX8_smooth 14 = .ok (.iconst 0, 1) := by decide +kernel
theorem dX8_smooth_15 : decode cX8_smooth 15 = .ok (.invokestatic 125, 3) := by decide +kernel
theorem dX8_smooth_18 : decode cX8_smooth 18 = .ok (.iconst 0, 1) := by decide +kernel
theorem dX8_smooth_19 : decode cX8_smooth 19 = .ok (.istore_n 1, 1) := by decide +kernel
theorem dX8_smooth_20 : decode cX8_smooth 20 = .ok (.iload_n 1, 1) := by decide +kernel
theorem dX8_smooth_21 : decode cX8_smooth 21 = .ok (.bipush 40, 2) := by decide +kernel
theorem dX8_smooth_23 : decode cX8_smooth 23 = .ok (.if_icmp .ge 37, 3) := by decide +kernel
theorem dX8_smooth_26 : decode cX8_smooth 26 = .ok (.aload_n 0, 1) := by decide +kernel
theorem dX8_smooth_27 : decode cX8_smooth 27 = .ok (.invokevirtual 237, 3) := by decide +kernel
theorem dX8_smooth_30 : decode cX8_smooth 30 = .ok (.ifCond .eq 30, 3) := by decide +kernel
theorem dX8_smooth_33 : decode cX8_smooth 33 = .ok (.aload_n 0, 1) := by decide +kernel
theorem dX8_smooth_34 : decode cX8_smooth 34 = .ok (.aload_n 0, 1) := by decide +kernel
theorem dX8_smooth_35 : decode cX8_smooth 35 = .ok (.getfield 225, 3) := by decide +kernel
theorem dX8_smooth_38 : decode cX8_smooth 38 = .ok (.aload_n 0, 1) := by decide +kernel
theorem dX8_smooth_39 : decode cX8_smooth 39 = .ok (.getfield 228, 3) := by decide +kernel
theorem dX8_smooth_42 : decode cX8_smooth 42 = .ok (.aload_n 0, 1) := by decide +kernel
theorem dX8_smooth_43 : decode cX8_smooth 43 = .ok (.getfield 231, 3) := by decide +kernel
theorem dX8_smooth_46 : decode cX8_smooth 46 = .ok (.aload_n 0, 1) := by decide +kernel
theorem dX8_smooth_47 : decode cX8_smooth 47 = .ok (.getfield 234, 3) := by decide +kernel
theorem dX8_smooth_50 : decode cX8_smooth 50 = .ok (.invokevirtual 218, 3) := by decide +kernel
theorem dX8_smooth_53 : decode cX8_smooth 53 = .ok (.pop, 1) := by decide +kernel
theorem dX8_smooth_54 : decode cX8_smooth 54 = .ok (.iinc 1 1, 3) := by decide +kernel
theorem dX8_smooth_57 : decode cX8_smooth 57 = .ok (.goto (-37), 3) := by decide +kernel
theorem dX8_smooth_60 : decode cX8_smooth 60 = .ok (.iload_n 1, 1) := by decide +kernel
theorem dX8_smooth_61 : decode cX8_smooth 61 = .ok (.ifCond .ne 5, 3) := by decide +kernel
theorem dX8_smooth_64 : decode cX8_smooth 64 = .ok (.iconst (-1), 1) := by decide +kernel
theorem dX8_smooth_65 : decode cX8_smooth 65 = .ok (.ireturn, 1) := by decide +kernel
theorem dX8_smooth_66 : decode cX8_smooth 66 = .ok (.aload_n 0, 1) := by decide +kernel
theorem dX8_smooth_67 : decode cX8_smooth 67 = .ok (.invokevirtual 201, 3) := by decide +kernel
theorem dX8_smooth_70 : decode cX8_smooth 70 = .ok (.iload_n 1, 1) := by decide +kernel
theorem dX8_smooth_71 : decode cX8_smooth 71 = .ok (.ireturn, 1) := by decide +kernel
theorem dX8_laysAnew_0 : decode cX8_laysAnew 0 = .ok (.aload_n 0, 1) := by decide +kernel
theorem dX8_laysAnew_1 : decode cX8_laysAnew 1 = .ok (.getfield 64, 3) := by decide +kernel
theorem dX8_laysAnew_4 : decode cX8_laysAnew 4 = .ok (.iconst 0, 1) := by decide +kernel
theorem dX8_laysAnew_5 : decode cX8_laysAnew 5 = .ok (.aload_n 0, 1) := by decide +kernel
theorem dX8_laysAnew_6 : decode cX8_laysAnew 6 = .ok (.getfield 70, 3) := by decide +kernel
theorem dX8_laysAnew_9 : decode cX8_laysAnew 9 = .ok (.iconst 0, 1) := by decide +kernel
theorem dX8_laysAnew_10 : decode cX8_laysAnew 10 = .ok (.invokestatic 125, 3) := by decide +kernel
theorem dX8_laysAnew_13 : decode cX8_laysAnew 13 = .ok (.aload_n 0, 1) := by decide +kernel
theorem dX8_laysAnew_14 : decode cX8_laysAnew 14 = .ok (.getfield 70, 3) := by decide +kernel
theorem dX8_laysAnew_17 : decode cX8_laysAnew 17 = .ok (.iconst 5, 1) := by decide +kernel
theorem dX8_laysAnew_18 : decode cX8_laysAnew 18 = .ok (.aload_n 0, 1) := by decide +kernel
theorem dX8_laysAnew_19 : decode cX8_laysAnew 19 = .ok (.getfield 64, 3) := by decide +kernel
theorem dX8_laysAnew_22 : decode cX8_laysAnew 22 = .ok (.iconst 4, 1) := by decide +kernel
theorem dX8_laysAnew_23 : decode cX8_laysAnew 23 = .ok (.iaload, 1) := by decide +kernel
theorem dX8_laysAnew_24 : decode cX8_laysAnew 24 = .ok (.iastore, 1) := by decide +kernel
theorem dX8_laysAnew_25 : decode cX8_laysAnew 25 = .ok (.aload_n 0, 1) := by decide +kernel
theorem dX8_laysAnew_26 : decode cX8_laysAnew 26 = .ok (.getfield 70, 3) := by decide +kernel
theorem dX8_laysAnew_29 : decode cX8_laysAnew 29 = .ok (.bipush 17, 2) := by decide +kernel
theorem dX8_laysAnew_31 : decode cX8_laysAnew 31 = .ok (.iconst 0, 1) := by decide +kernel
theorem dX8_laysAnew_32 : decode cX8_laysAnew 32 = .ok (.iastore, 1) := by decide +kernel
theorem dX8_laysAnew_33 : decode cX8_laysAnew 33 = .ok (.iconst 0, 1) := by decide +kernel
theorem dX8_laysAnew_34 : decode cX8_laysAnew 34 = .ok (.istore_n 1, 1) := by decide +kernel
theorem dX8_laysAnew_35 : decode cX8_laysAnew 35 = .ok (.iload_n 1, 1) := by decide +kernel
theorem dX8_laysAnew_36 : decode cX8_laysAnew 36 = .ok (.bipush 14, 2) := by decide +kernel
theorem dX8_laysAnew_38 : decode cX8_laysAnew 38 = .ok (.if_icmp .ge 47, 3) := by decide +kernel
theorem dX8_laysAnew_41 : decode cX8_laysAnew 41 = .ok (.aload_n 0, 1) := by decide +kernel
theorem dX8_laysAnew_42 : decode cX8_laysAnew 42 = .ok (.getfield 70, 3) := by decide +kernel
theorem dX8_laysAnew_45 : decode cX8_laysAnew 45 = .ok (.bipush 47, 2) := by decide +kernel
theorem dX8_laysAnew_47 : decode cX8_laysAnew 47 = .ok (.iload_n 1, 1) := by decide +kernel
theorem dX8_laysAnew_48 : decode cX8_laysAnew 48 = .ok (.iadd, 1) := by decide +kernel
theorem dX8_laysAnew_49 : decode cX8_laysAnew 49 = .ok (.aload_n 0, 1) := by decide +kernel
theorem dX8_laysAnew_50 : decode cX8_laysAnew 50 = .ok (.getfield 64, 3) := by decide +kernel
theorem dX8_laysAnew_53 : decode cX8_laysAnew 53 = .ok (.bipush 33, 2) := by decide +kernel
theorem dX8_laysAnew_55 : decode cX8_laysAnew 55 = .ok (.iload_n 1, 1) := by decide +kernel
theorem dX8_laysAnew_56 : decode cX8_laysAnew 56 = .ok (.iadd, 1) := by decide +kernel
theorem dX8_laysAnew_57 : decode cX8_laysAnew 57 = .ok (.iaload, 1) := by decide +kernel
theorem dX8_laysAnew_58 : decode cX8_laysAnew 58 = .ok (.iastore, 1) := by decide +kernel
theorem dX8_laysAnew_59 : decode cX8_laysAnew 59 = .ok (.aload_n 0, 1) := by decide +kernel
theorem dX8_laysAnew_60 : decode cX8_laysAnew 60 = .ok (.getfield 70, 3) := by decide +kernel
theorem dX8_laysAnew_63 : decode cX8_laysAnew 63 = .ok (.bipush 61, 2) := by decide +kernel
theorem dX8_laysAnew_65 : decode cX8_laysAnew 65 = .ok (.iload_n 1, 1) := by decide +kernel
theorem dX8_laysAnew_66 : decode cX8_laysAnew 66 = .ok (.iadd, 1) := by decide +kernel
theorem dX8_laysAnew_67 : decode cX8_laysAnew 67 = .ok (.iconst 0, 1) := by decide +kernel
theorem dX8_laysAnew_68 : decode cX8_laysAnew 68 = .ok (.iastore, 1) := by decide +kernel
theorem dX8_laysAnew_69 : decode cX8_laysAnew 69 = .ok (.aload_n 0, 1) := by decide +kernel
theorem dX8_laysAnew_70 : decode cX8_laysAnew 70 = .ok (.getfield 70, 3) := by decide +kernel
theorem dX8_laysAnew_73 : decode cX8_laysAnew 73 = .ok (.bipush 75, 2) := by decide +kernel
theorem dX8_laysAnew_75 : decode cX8_laysAnew 75 = .ok (.iload_n 1, 1) := by decide +kernel
theorem dX8_laysAnew_76 : decode cX8_laysAnew 76 = .ok (.iadd, 1) := by decide +kernel
theorem dX8_laysAnew_77 : decode cX8_laysAnew 77 = .ok (.iconst 0, 1) := by decide +kernel
theorem dX8_laysAnew_78 : decode cX8_laysAnew 78 = .ok (.iastore, 1) := by decide +kernel
theorem dX8_laysAnew_79 : decode cX8_laysAnew 79 = .ok (.iinc 1 1, 3) := by decide +kernel
theorem dX8_laysAnew_82 : decode cX8_laysAnew 82 = .ok (.goto (-47), 3) := by decide +kernel
theorem dX8_laysAnew_85 : decode cX8_laysAnew 85 = .ok (.aload_n 0, 1) := by decide +kernel
theorem dX8_laysAnew_86 : decode cX8_laysAnew 86 = .ok (.aload_n 0, 1) := by decide +kernel
theorem dX8_laysAnew_87 : decode cX8_laysAnew 87 = .ok (.getfield 70, 3) := by decide +kernel
theorem dX8_laysAnew_90 : decode cX8_laysAnew 90 = .ok (.invokevirtual 204, 3) := by decide +kernel
theorem dX8_laysAnew_93 : decode cX8_laysAnew 93 = .ok (.pop, 1) := by decide +kernel
theorem dX8_laysAnew_94 : decode cX8_laysAnew 94 = .ok (.return_, 1) := by decide +kernel
theorem dX8_same_0 : decode cX8_same 0 = .ok (.aload_n 0, 1) := by decide +kernel
theorem dX8_same_1 : decode cX8_same 1 = .ok (.iconst 0, 1) := by decide +kernel
theorem dX8_same_2 : decode cX8_same 2 = .ok (.putfield 1, 3) := by decide +kernel
theorem dX8_same_5 : decode cX8_same 5 = .ok (.aload_n 0, 1) := by decide +kernel
theorem dX8_same_6 : decode cX8_same 6 = .ok (.invokevirtual 240, 3) := by decide +kernel
theorem dX8_same_9 : decode cX8_same 9 = .ok (.iconst 0, 1) := by decide +kernel
theorem dX8_same_10 : decode cX8_same 10 = .ok (.istore_n 1, 1) := by decide +kernel
theorem dX8_same_11 : decode cX8_same 11 = .ok (.iconst 0, 1) := by decide +kernel
theorem dX8_same_12 : decode cX8_same 12 = .ok (.istore_n 2, 1) := by decide +kernel
theorem dX8_same_13 : decode cX8_same 13 = .ok (.iload_n 2, 1) := by decide +kernel
theorem dX8_same_14 : decode cX8_same 14 = .ok (.aload_n 0, 1) := by decide +kernel
theorem dX8_same_15 : decode cX8_same 15 = .ok (.invokevirtual 136, 3) := by decide +kernel
theorem dX8_same_18 : decode cX8_same 18 = .ok (.if_icmp .ge 33, 3) := by decide +kernel
theorem dX8_same_21 : decode cX8_same 21 = .ok (.aload_n 0, 1) := by decide +kernel
theorem dX8_same_22 : decode cX8_same 22 = .ok (.getfield 64, 3) := by decide +kernel
theorem dX8_same_25 : decode cX8_same 25 = .ok (.bipush 61, 2) := by decide +kernel
theorem dX8_same_27 : decode cX8_same 27 = .ok (.iload_n 2, 1) := by decide +kernel
theorem dX8_same_28 : decode cX8_same 28 = .ok (.iadd, 1) := by decide +kernel
theorem dX8_same_29 : decode cX8_same 29 = .ok (.iaload, 1) := by decide +kernel
theorem dX8_same_30 : decode cX8_same 30 = .ok (.aload_n 0, 1) := by decide +kernel
theorem dX8_same_31 : decode cX8_same 31 = .ok (.getfield 70, 3) := by decide +kernel
theorem dX8_same_34 : decode cX8_same 34 = .ok (.bipush 61, 2) := by decide +kernel
theorem dX8_same_36 : decode cX8_same 36 = .ok (.iload_n 2, 1) := by decide +kernel
theorem dX8_same_37 : decode cX8_same 37 = .ok (.iadd, 1) := by decide +kernel
theorem dX8_same_38 : decode cX8_same 38 = .ok (.iaload, 1) := by decide +kernel
theorem dX8_same_39 : decode cX8_same 39 = .ok (.if_icmp .ne 6, 3) := by decide +kernel
theorem dX8_same_42 : decode cX8_same 42 = .ok (.iinc 1 1, 3) := by decide +kernel
theorem dX8_same_45 : decode cX8_same 45 = .ok (.iinc 2 1, 3) := by decide +kernel
theorem dX8_same_48 : decode cX8_same 48 = .ok (.goto (-35), 3) := by decide +kernel
theorem dX8_same_51 : decode cX8_same 51 = .ok (.iload_n 1, 1) := by decide +kernel
theorem dX8_same_52 : decode cX8_same 52 = .ok (.ireturn, 1) := by decide +kernel
theorem dX8_anew_0 : decode cX8_anew 0 = .ok (.aload_n 0, 1) := by decide +kernel
theorem dX8_anew_1 : decode cX8_anew 1 = .ok (.iconst 0, 1) := by decide +kernel
theorem dX8_anew_2 : decode cX8_anew 2 = .ok (.putfield 1, 3) := by decide +kernel
theorem dX8_anew_5 : decode cX8_anew 5 = .ok (.aload_n 0, 1) := by decide +kernel
theorem dX8_anew_6 : decode cX8_anew 6 = .ok (.iload_n 1, 1) := by decide +kernel
theorem dX8_anew_7 : decode cX8_anew 7 = .ok (.invokevirtual 164, 3) := by decide +kernel
theorem dX8_anew_10 : decode cX8_anew 10 = .ok (.ifCond .ne 5, 3) := by decide +kernel
theorem dX8_anew_13 : decode cX8_anew 13 = .ok (.iconst (-1), 1) := by decide +kernel
theorem dX8_anew_14 : decode cX8_anew 14 = .ok (.ireturn, 1) := by decide +kernel
theorem dX8_anew_15 : decode cX8_anew 15 = .ok (.aload_n 0, 1) := by decide +kernel
theorem dX8_anew_16 : decode cX8_anew 16 = .ok (.invokevirtual 240, 3) := by decide +kernel
theorem dX8_anew_19 : decode cX8_anew 19 = .ok (.aload_n 0, 1) := by decide +kernel
theorem dX8_anew_20 : decode cX8_anew 20 = .ok (.getfield 70, 3) := by decide +kernel
theorem dX8_anew_23 : decode cX8_anew 23 = .ok (.bipush 61, 2) := by decide +kernel
theorem dX8_anew_25 : decode cX8_anew 25 = .ok (.iload_n 1, 1) := by decide +kernel
theorem dX8_anew_26 : decode cX8_anew 26 = .ok (.iadd, 1) := by decide +kernel
theorem dX8_anew_27 : decode cX8_anew 27 = .ok (.iaload, 1) := by decide +kernel
theorem dX8_anew_28 : decode cX8_anew 28 = .ok (.ireturn, 1) := by decide +kernel
theorem dX8_undo_0 : decode cX8_undo 0 = .ok (.aload_n 0, 1) := by decide +kernel
theorem dX8_undo_1 : decode cX8_undo 1 = .ok (.iconst 0, 1) := by decide +kernel
theorem dX8_undo_2 : decode cX8_undo 2 = .ok (.putfield 1, 3) := by decide +kernel
theorem dX8_undo_5 : decode cX8_undo 5 = .ok (.aload_n 0, 1) := by decide +kernel
theorem dX8_undo_6 : decode cX8_undo 6 = .ok (.getfield 129, 3) := by decide +kernel
theorem dX8_undo_9 : decode cX8_undo 9 = .ok (.ifCond .ne 5, 3) := by decide +kernel
theorem dX8_undo_12 : decode cX8_undo 12 = .ok (.iconst (-1), 1) := by decide +kernel
theorem dX8_undo_13 : decode cX8_undo 13 = .ok (.ireturn, 1) := by decide +kernel
theorem dX8_undo_14 : decode cX8_undo 14 = .ok (.aload_n 0, 1) := by decide +kernel
theorem dX8_undo_15 : decode cX8_undo 15 = .ok (.dup, 1) := by decide +kernel
theorem dX8_undo_16 : decode cX8_undo 16 = .ok (.getfield 129, 3) := by decide +kernel
theorem dX8_undo_19 : decode cX8_undo 19 = .ok (.iconst 1, 1) := by decide +kernel
theorem dX8_undo_20 : decode cX8_undo 20 = .ok (.isub, 1) := by decide +kernel
theorem dX8_undo_21 : decode cX8_undo 21 = .ok (.putfield 129, 3) := by decide +kernel
theorem dX8_undo_24 : decode cX8_undo 24 = .ok (.aload_n 0, 1) := by decide +kernel
theorem dX8_undo_25 : decode cX8_undo 25 = .ok (.getfield 73, 3) := by decide +kernel
theorem dX8_undo_28 : decode cX8_undo 28 = .ok (.bipush 89, 2) := by decide +kernel
theorem dX8_undo_30 : decode cX8_undo 30 = .ok (.aload_n 0, 1) := by decide +kernel
theorem dX8_undo_31 : decode cX8_undo 31 = .ok (.getfield 129, 3) := by decide +kernel
theorem dX8_undo_34 : decode cX8_undo 34 = .ok (.imul, 1) := by decide +kernel
theorem dX8_undo_35 : decode cX8_undo 35 = .ok (.aload_n 0, 1) := by decide +kernel
theorem dX8_undo_36 : decode cX8_undo 36 = .ok (.getfield 64, 3) := by decide +kernel
theorem dX8_undo_39 : decode cX8_undo 39 = .ok (.iconst 0, 1) := by decide +kernel
theorem dX8_undo_40 : decode cX8_undo 40 = .ok (.invokestatic 125, 3) := by decide +kernel
theorem dX8_undo_43 : decode cX8_undo 43 = .ok (.aload_n 0, 1) := by decide +kernel
theorem dX8_undo_44 : decode cX8_undo 44 = .ok (.getfield 129, 3) := by decide +kernel
theorem dX8_undo_47 : decode cX8_undo 47 = .ok (.ireturn, 1) := by decide +kernel
