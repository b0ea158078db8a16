theorem dX0_init_0 : decode cX0_init 0 = .ok (.aload_n 0, 1) := by decide +kernel
theorem dX0_init_1 : decode cX0_init 1 = .ok (.invokespecial 3, 3) := by decide +kernel
theorem dX0_init_4 : decode cX0_init 4 = .ok (.aload_n 0, 1) := by decide +kernel
theorem dX0_init_5 : decode cX0_init 5 = .ok (.aload_n 1, 1) := by decide +kernel
theorem dX0_init_6 : decode cX0_init 6 = .ok (.putfield 9, 3) := by decide +kernel
theorem dX0_init_9 : decode cX0_init 9 = .ok (.aload_n 0, 1) := by decide +kernel
theorem dX0_init_10 : decode cX0_init 10 = .ok (.new 15, 3) := by decide +kernel
theorem dX0_init_13 : decode cX0_init 13 = .ok (.dup, 1) := by decide +kernel
theorem dX0_init_14 : decode cX0_init 14 = .ok (.invokespecial 17, 3) := by decide +kernel
theorem dX0_init_17 : decode cX0_init 17 = .ok (.putfield 18, 3) := by decide +kernel
theorem dX0_init_20 : decode cX0_init 20 = .ok (.aload_n 0, 1) := by decide +kernel
theorem dX0_init_21 : decode cX0_init 21 = .ok (.new 22, 3) := by decide +kernel
theorem dX0_init_24 : decode cX0_init 24 = .ok (.dup, 1) := by decide +kernel
theorem dX0_init_25 : decode cX0_init 25 = .ok (.invokespecial 24, 3) := by decide +kernel
theorem dX0_init_28 : decode cX0_init 28 = .ok (.putfield 25, 3) := by decide +kernel
theorem dX0_init_31 : decode cX0_init 31 = .ok (.aload_n 0, 1) := by decide +kernel
theorem dX0_init_32 : decode cX0_init 32 = .ok (.bipush 81, 2) := by decide +kernel
theorem dX0_init_34 : decode cX0_init 34 = .ok (.newarray .int, 2) := by decide +kernel
theorem dX0_init_36 : decode cX0_init 36 = .ok (.putfield 29, 3) := by decide +kernel
theorem dX0_init_39 : decode cX0_init 39 = .ok (.aload_n 0, 1) := by decide +kernel
theorem dX0_init_40 : decode cX0_init 40 = .ok (.bipush 9, 2) := by decide +kernel
theorem dX0_init_42 : decode cX0_init 42 = .ok (.newarray .int, 2) := by decide +kernel
theorem dX0_init_44 : decode cX0_init 44 = .ok (.putfield 33, 3) := by decide +kernel
theorem dX0_init_47 : decode cX0_init 47 = .ok (.aload_n 0, 1) := by decide +kernel
theorem dX0_init_48 : decode cX0_init 48 = .ok (.bipush 84, 2) := by decide +kernel
theorem dX0_init_50 : decode cX0_init 50 = .ok (.newarray .int, 2) := by decide +kernel
theorem dX0_init_52 : decode cX0_init 52 = .ok (.putfield 36, 3) := by decide +kernel
theorem dX0_init_55 : decode cX0_init 55 = .ok (.aload_n 0, 1) := by decide +kernel
theorem dX0_init_56 : decode cX0_init 56 = .ok (.bipush 84, 2) := by decide +kernel
theorem dX0_init_58 : decode cX0_init 58 = .ok (.newarray .int, 2) := by decide +kernel
theorem dX0_init_60 : decode cX0_init 60 = .ok (.putfield 39, 3) := by decide +kernel
theorem dX0_init_63 : decode cX0_init 63 = .ok (.return_, 1) := by decide +kernel
theorem dX0_begin_0 : decode cX0_begin 0 = .ok (.aload_n 0, 1) := by decide +kernel
theorem dX0_begin_1 : decode cX0_begin 1 = .ok (.getfield 18, 3) := by decide +kernel
theorem dX0_begin_4 : decode cX0_begin 4 = .ok (.aload_n 0, 1) := by decide +kernel
theorem dX0_begin_5 : decode cX0_begin 5 = .ok (.getfield 9, 3) := by decide +kernel
theorem dX0_begin_8 : decode cX0_begin 8 = .ok (.invokevirtual 42, 3) := by decide +kernel
theorem dX0_begin_11 : decode cX0_begin 11 = .ok (.return_, 1) := by decide +kernel
theorem dX0_isSet_0 : decode cX0_isSet 0 = .ok (.aload_n 0, 1) := by decide +kernel
theorem dX0_isSet_1 : decode cX0_isSet 1 = .ok (.getfield 9, 3) := by decide +kernel
theorem dX0_isSet_4 : decode cX0_isSet 4 = .ok (.iload_n 1, 1) := by decide +kernel
theorem dX0_isSet_5 : decode cX0_isSet 5 = .ok (.invokevirtual 46, 3) := by decide +kernel
theorem dX0_isSet_8 : decode cX0_isSet 8 = .ok (.ifCond .eq 20, 3) := by decide +kernel
theorem dX0_isSet_11 : decode cX0_isSet 11 = .ok (.aload_n 0, 1) := by decide +kernel
theorem dX0_isSet_12 : decode cX0_isSet 12 = .ok (.getfield 18, 3) := by decide +kernel
theorem dX0_isSet_15 : decode cX0_isSet 15 = .ok (.getfield 52, 3) := by decide +kernel
theorem dX0_isSet_18 : decode cX0_isSet 18 = .ok (.iload_n 1, 1) := by decide +kernel
theorem dX0_isSet_19 : decode cX0_isSet 19 = .ok (.iaload, 1) := by decide +kernel
theorem dX0_isSet_20 : decode cX0_isSet 20 = .ok (.iconst 1, 1) := by decide +kernel
theorem dX0_isSet_21 : decode cX0_isSet 21 = .ok (.if_icmp .ne 7, 3) := by decide +kernel
theorem dX0_isSet_24 : decode cX0_isSet 24 = .ok (.iconst 1, 1) := by decide +kernel
theorem dX0_isSet_25 : decode cX0_isSet 25 = .ok (.goto 4, 3) := by decide +kernel
theorem dX0_isSet_28 : decode cX0_isSet 28 = .ok (.iconst 0, 1) := by decide +kernel
theorem dX0_isSet_29 : decode cX0_isSet 29 = .ok (.ireturn, 1) := by decide +kernel
theorem dX0_casesAt_0 : decode cX0_casesAt 0 = .ok (.iconst 0, 1) := by decide +kernel
theorem dX0_casesAt_1 : decode cX0_casesAt 1 = .ok (.istore_n 2, 1) := by decide +kernel
theorem dX0_casesAt_2 : decode cX0_casesAt 2 = .ok (.iconst 0, 1) := by decide +kernel
theorem dX0_casesAt_3 : decode cX0_casesAt 3 = .ok (.istore_n 3, 1) := by decide +kernel
theorem dX0_casesAt_4 : decode cX0_casesAt 4 = .ok (.iload_n 3, 1) := by decide +kernel
theorem dX0_casesAt_5 : decode cX0_casesAt 5 = .ok (.aload_n 0, 1) := by decide +kernel
theorem dX0_casesAt_6 : decode cX0_casesAt 6 = .ok (.getfield 9, 3) := by decide +kernel
theorem dX0_casesAt_9 : decode cX0_casesAt 9 = .ok (.getfield 55, 3) := by decide +kernel
theorem dX0_casesAt_12 : decode cX0_casesAt 12 = .ok (.if_icmp .ge 25, 3) := by decide +kernel
theorem dX0_casesAt_15 : decode cX0_casesAt 15 = .ok (.aload_n 0, 1) := by decide +kernel
theorem dX0_casesAt_16 : decode cX0_casesAt 16 = .ok (.getfield 18, 3) := by decide +kernel
theorem dX0_casesAt_19 : decode cX0_casesAt 19 = .ok (.getfield 52, 3) := by decide +kernel
theorem dX0_casesAt_22 : decode cX0_casesAt 22 = .ok (.iload_n 3, 1) := by decide +kernel
theorem dX0_casesAt_23 : decode cX0_casesAt 23 = .ok (.iaload, 1) := by decide +kernel
theorem dX0_casesAt_24 : decode cX0_casesAt 24 = .ok (.iload_n 1, 1) := by decide +kernel
theorem dX0_casesAt_25 : decode cX0_casesAt 25 = .ok (.if_icmp .ne 6, 3) := by decide +kernel
theorem dX0_casesAt_28 : decode cX0_casesAt 28 = .ok (.iinc 2 1, 3) := by decide +kernel
theorem dX0_casesAt_31 : decode cX0_casesAt 31 = .ok (.iinc 3 1, 3) := by decide +kernel
theorem dX0_casesAt_34 : decode cX0_casesAt 34 = .ok (.goto (-30), 3) := by decide +kernel
theorem dX0_casesAt_37 : decode cX0_casesAt 37 = .ok (.iload_n 2, 1) := by decide +kernel
theorem dX0_casesAt_38 : decode cX0_casesAt 38 = .ok (.ireturn, 1) := by decide +kernel
theorem dX0_benchesOf_0 : decode cX0_benchesOf 0 = .ok (.iconst 0, 1) := by decide +kernel
theorem dX0_benchesOf_1 : decode cX0_benchesOf 1 = .ok (.istore_n 2, 1) := by decide +kernel
theorem dX0_benchesOf_2 : decode cX0_benchesOf 2 = .ok (.iconst 0, 1) := by decide +kernel
theorem dX0_benchesOf_3 : decode cX0_benchesOf 3 = .ok (.istore_n 3, 1) := by decide +kernel
theorem dX0_benchesOf_4 : decode cX0_benchesOf 4 = .ok (.iload_n 3, 1) := by decide +kernel
theorem dX0_benchesOf_5 : decode cX0_benchesOf 5 = .ok (.aload_n 0, 1) := by decide +kernel
theorem dX0_benchesOf_6 : decode cX0_benchesOf 6 = .ok (.getfield 9, 3) := by decide +kernel
theorem dX0_benchesOf_9 : decode cX0_benchesOf 9 = .ok (.getfield 55, 3) := by decide +kernel
theorem dX0_benchesOf_12 : decode cX0_benchesOf 12 = .ok (.if_icmp .ge 28, 3) := by decide +kernel
theorem dX0_benchesOf_15 : decode cX0_benchesOf 15 = .ok (.aload_n 0, 1) := by decide +kernel
theorem dX0_benchesOf_16 : decode cX0_benchesOf 16 = .ok (.getfield 18, 3) := by decide +kernel
theorem dX0_benchesOf_19 : decode cX0_benchesOf 19 = .ok (.getfield 59, 3) := by decide +kernel
theorem dX0_benchesOf_22 : decode cX0_benchesOf 22 = .ok (.iload_n 3, 1) := by decide +kernel
theorem dX0_benchesOf_23 : decode cX0_benchesOf 23 = .ok (.iaload, 1) := by decide +kernel
theorem dX0_benchesOf_24 : decode cX0_benchesOf 24 = .ok (.iload_n 1, 1) := by decide +kernel
theorem dX0_benchesOf_25 : decode cX0_benchesOf 25 = .ok (.invokestatic 62, 3) := by decide +kernel
theorem dX0_benchesOf_28 : decode cX0_benchesOf 28 = .ok (.ifCond .eq 6, 3) := by decide +kernel
theorem dX0_benchesOf_31 : decode cX0_benchesOf 31 = .ok (.iinc 2 1, 3) := by decide +kernel
theorem dX0_benchesOf_34 : decode cX0_benchesOf 34 = .ok (.iinc 3 1, 3) := by decide +kernel
theorem dX0_benchesOf_37 : decode cX0_benchesOf 37 = .ok (.goto (-33), 3) := by decide +kernel
theorem dX0_benchesOf_40 : decode cX0_benchesOf 40 = .ok (.iload_n 2, 1) := by decide +kernel
theorem dX0_benchesOf_41 : decode cX0_benchesOf 41 = .ok (.ireturn, 1) := by decide +kernel
theorem dX0_benchesLedBy_0 : decode cX0_benchesLedBy 0 = .ok (.iconst 0, 1) := by decide +kernel
theorem dX0_benchesLedBy_1 : decode cX0_benchesLedBy 1 = .ok (.istore_n 2, 1) := by decide +kernel
theorem dX0_benchesLedBy_2 : decode cX0_benchesLedBy 2 = .ok (.iconst 0, 1) := by decide +kernel
theorem dX0_benchesLedBy_3 : decode cX0_benchesLedBy 3 = .ok (.istore_n 3, 1) := by decide +kernel
theorem dX0_benchesLedBy_4 : decode cX0_benchesLedBy 4 = .ok (.iload_n 3, 1) := by decide +kernel
theorem dX0_benchesLedBy_5 : decode cX0_benchesLedBy 5 = .ok (.aload_n 0, 1) := by decide +kernel
theorem dX0_benchesLedBy_6 : decode cX0_benchesLedBy 6 = .ok (.getfield 9, 3) := by decide +kernel
theorem dX0_benchesLedBy_9 : decode cX0_benchesLedBy 9 = .ok (.getfield 55, 3) := by decide +kernel
theorem dX0_benchesLedBy_12 : decode cX0_benchesLedBy 12 = .ok (.if_icmp .ge 32, 3) := by decide +kernel
theorem dX0_benchesLedBy_15 : decode cX0_benchesLedBy 15 = .ok (.aload_n 0, 1) := by decide +kernel
theorem dX0_benchesLedBy_16 : decode cX0_benchesLedBy 16 = .ok (.getfield 9, 3) := by decide +kernel
theorem dX0_benchesLedBy_19 : decode cX0_benchesLedBy 19 = .ok (.aload_n 0, 1) := by decide +kernel
theorem dX0_benchesLedBy_20 : decode cX0_benchesLedBy 20 = .ok (.getfield 18, 3) := by decide +kernel
theorem dX0_benchesLedBy_23 : decode cX0_benchesLedBy 23 = .ok (.getfield 59, 3) := by decide +kernel
theorem dX0_benchesLedBy_26 : decode cX0_benchesLedBy 26 = .ok (.iload_n 3, 1) := by decide +kernel
theorem dX0_benchesLedBy_27 : decode cX0_benchesLedBy 27 = .ok (.iaload, 1) := by decide +kernel
theorem dX0_benchesLedBy_28 : decode cX0_benchesLedBy 28 = .ok (.invokevirtual 66, 3) := by decide +kernel
theorem dX0_benchesLedBy_31 : decode cX0_benchesLedBy 31 = .ok (.iload_n 1, 1) := by decide +kernel
theorem dX0_benchesLedBy_32 : decode cX0_benchesLedBy 32 = .ok (.if_icmp .ne 6, 3) := by decide +kernel
theorem dX0_benchesLedBy_35 : decode cX0_benchesLedBy 35 = .ok (.iinc 2 1, 3) := by decide +kernel
theorem dX0_benchesLedBy_38 : decode cX0_benchesLedBy 38 = .ok (.iinc 3 1, 3) := by decide +kernel
theorem dX0_benchesLedBy_41 : decode cX0_benchesLedBy 41 = .ok (.goto (-37), 3) := by decide +kernel
theorem dX0_benchesLedBy_44 : decode cX0_benchesLedBy 44 = .ok (.iload_n 2, 1) := by decide +kernel
theorem dX0_benchesLedBy_45 : decode cX0_benchesLedBy 45 = .ok (.ireturn, 1) := by decide +kernel
theorem dX0_casesBarredTo_0 : decode cX0_casesBarredTo 0 = .ok (.iconst 0, 1) := by decide +kernel
theorem dX0_casesBarredTo_1 : decode cX0_casesBarredTo 1 = .ok (.istore_n 2, 1) := by decide +kernel
theorem dX0_casesBarredTo_2 : decode cX0_casesBarredTo 2 = .ok (.iconst 0, 1) := by decide +kernel
theorem dX0_casesBarredTo_3 : decode cX0_casesBarredTo 3 = .ok (.istore_n 3, 1) := by decide +kernel
theorem dX0_casesBarredTo_4 : decode cX0_casesBarredTo 4 = .ok (.iload_n 3, 1) := by decide +kernel
theorem dX0_casesBarredTo_5 : decode cX0_casesBarredTo 5 = .ok (.aload_n 0, 1) := by decide +kernel
theorem dX0_casesBarredTo_6 : decode cX0_casesBarredTo 6 = .ok (.getfield 9, 3) := by decide +kernel
theorem dX0_casesBarredTo_9 : decode cX0_casesBarredTo 9 = .ok (.getfield 55, 3) := by decide +kernel
theorem dX0_casesBarredTo_12 : decode cX0_casesBarredTo 12 = .ok (.if_icmp .ge 28, 3) := by decide +kernel
theorem dX0_casesBarredTo_15 : decode cX0_casesBarredTo 15 = .ok (.aload_n 0, 1) := by decide +kernel
theorem dX0_casesBarredTo_16 : decode cX0_casesBarredTo 16 = .ok (.getfield 18, 3) := by decide +kernel
theorem dX0_casesBarredTo_19 : decode cX0_casesBarredTo 19 = .ok (.getfield 70, 3) := by decide +kernel
theorem dX0_casesBarredTo_22 : decode cX0_casesBarredTo 22 = .ok (.iload_n 3, 1) := by decide +kernel
theorem dX0_casesBarredTo_23 : decode cX0_casesBarredTo 23 = .ok (.iaload, 1) := by decide +kernel
theorem dX0_casesBarredTo_24 : decode cX0_casesBarredTo 24 = .ok (.iload_n 1, 1) := by decide +kernel
theorem dX0_casesBarredTo_25 : decode cX0_casesBarredTo 25 = .ok (.invokestatic 62, 3) := by decide +kernel
theorem dX0_casesBarredTo_28 : decode cX0_casesBarredTo 28 = .ok (.ifCond .eq 6, 3) := by decide +kernel
theorem dX0_casesBarredTo_31 : decode cX0_casesBarredTo 31 = .ok (.iinc 2 1, 3) := by decide +kernel
theorem dX0_casesBarredTo_34 : decode cX0_casesBarredTo 34 = .ok (.iinc 3 1, 3) := by decide +kernel
theorem dX0_casesBarredTo_37 : decode cX0_casesBarredTo 37 = .ok (.goto (-33), 3) := by decide +kernel
theorem dX0_casesBarredTo_40 : decode cX0_casesBarredTo 40 = .ok (.iload_n 2, 1) := by decide +kernel
theorem dX0_casesBarredTo_41 : decode cX0_casesBarredTo 41 = .ok (.ireturn, 1) := by decide +kernel
theorem dX0_countBenches_0 : decode cX0_countBenches 0 = .ok (.aload_n 0, 1) := by decide +kernel
theorem dX0_countBenches_1 : decode cX0_countBenches 1 = .ok (.getfield 29, 3) := by decide +kernel
theorem dX0_countBenches_4 : decode cX0_countBenches 4 = .ok (.iconst 0, 1) := by decide +kernel
theorem dX0_countBenches_5 : decode cX0_countBenches 5 = .ok (.invokestatic 73, 3) := by decide +kernel
theorem dX0_countBenches_8 : decode cX0_countBenches 8 = .ok (.aload_n 0, 1) := by decide +kernel
theorem dX0_countBenches_9 : decode cX0_countBenches 9 = .ok (.getfield 33, 3) := by decide +kernel
theorem dX0_countBenches_12 : decode cX0_countBenches 12 = .ok (.iconst 0, 1) := by decide +kernel
theorem dX0_countBenches_13 : decode cX0_countBenches 13 = .ok (.invokestatic 73, 3) := by decide +kernel
theorem dX0_countBenches_16 : decode cX0_countBenches 16 = .ok (.iconst 0, 1) := by decide +kernel
theorem dX0_countBenches_17 : decode cX0_countBenches 17 = .ok (.istore_n 2, 1) := by decide +kernel
theorem dX0_countBenches_18 : decode cX0_countBenches 18 = .ok (.iload_n 2, 1) := by decide +kernel
theorem dX0_countBenches_19 : decode cX0_countBenches 19 = .ok (.aload_n 0, 1) := by decide +kernel
theorem dX0_countBenches_20 : decode cX0_countBenches 20 = .ok (.getfield 9, 3) := by decide +kernel
theorem dX0_countBenches_23 : decode cX0_countBenches 23 = .ok (.getfield 55, 3) := by decide +kernel
theorem dX0_countBenches_26 : decode cX0_countBenches 26 = .ok (.if_icmp .ge 50, 3) := by decide +kernel
theorem dX0_countBenches_29 : decode cX0_countBenches 29 = .ok (.aload_n 0, 1) := by decide +kernel
theorem dX0_countBenches_30 : decode cX0_countBenches 30 = .ok (.getfield 18, 3) := by decide +kernel
theorem dX0_countBenches_33 : decode cX0_countBenches 33 = .ok (.getfield 59, 3) := by decide +kernel
theorem dX0_countBenches_36 : decode cX0_countBenches 36 = .ok (.iload_n 2, 1) := by decide +kernel
theorem dX0_countBenches_37 : decode cX0_countBenches 37 = .ok (.iaload, 1) := by decide +kernel
theorem dX0_countBenches_38 : decode cX0_countBenches 38 = .ok (.istore_n 3, 1) := by decide +kernel
theorem dX0_countBenches_39 : decode cX0_countBenches 39 = .ok (.iload_n 2, 1) := by decide +kernel
theorem dX0_countBenches_40 : decode cX0_countBenches 40 = .ok (.iload_n 1, 1) := by decide +kernel
theorem dX0_countBenches_41 : decode cX0_countBenches 41 = .ok (.if_icmp .eq 29, 3) := by decide +kernel
theorem dX0_countBenches_44 : decode cX0_countBenches 44 = .ok (.iload_n 3, 1) := by decide +kernel
theorem dX0_countBenches_45 : decode cX0_countBenches 45 = .ok (.ifCond .eq 25, 3) := by decide +kernel
theorem dX0_countBenches_48 : decode cX0_countBenches 48 = .ok (.aload_n 0, 1) := by decide +kernel
theorem dX0_countBenches_49 : decode cX0_countBenches 49 = .ok (.iload_n 3, 1) := by decide +kernel
theorem dX0_countBenches_50 : decode cX0_countBenches 50 = .ok (.aload_n 0, 1) := by decide +kernel
theorem dX0_countBenches_51 : decode cX0_countBenches 51 = .ok (.getfield 9, 3) := by decide +kernel
theorem dX0_countBenches_54 : decode cX0_countBenches 54 = .ok (.getfield 79, 3) := by decide +kernel
theorem dX0_countBenches_57 : decode cX0_countBenches 57 = .ok (.iload_n 2, 1) := by decide +kernel
theorem dX0_countBenches_58 : decode cX0_countBenches 58 = .ok (.iaload, 1) := by decide +kernel
theorem dX0_countBenches_59 : decode cX0_countBenches 59 = .ok (.aload_n 0, 1) := by decide +kernel
theorem dX0_countBenches_60 : decode cX0_countBenches 60 = .ok (.getfield 9, 3) := by decide +kernel
theorem dX0_countBenches_63 : decode cX0_countBenches 63 = .ok (.iload_n 3, 1) := by decide +kernel
theorem dX0_countBenches_64 : decode cX0_countBenches 64 = .ok (.invokevirtual 66, 3) := by decide +kernel
theorem dX0_countBenches_67 : decode cX0_countBenches 67 = .ok (.invokevirtual 82, 3) := by decide +kernel
theorem dX0_countBenches_70 : decode cX0_countBenches 70 = .ok (.iinc 2 1, 3) := by decide +kernel
theorem dX0_countBenches_73 : decode cX0_countBenches 73 = .ok (.goto (-55), 3) := by decide +kernel
theorem dX0_countBenches_76 : decode cX0_countBenches 76 = .ok (.return_, 1) := by decide +kernel
theorem dX0_countBench_0 : decode cX0_countBench 0 = .ok (.iconst 0, 1) := by decide +kernel
theorem dX0_countBench_1 : decode cX0_countBench 1 = .ok (.istore 4, 2) := by decide +kernel
theorem dX0_countBench_3 : decode cX0_countBench 3 = .ok (.iload 4, 2) := by decide +kernel
theorem dX0_countBench_5 : decode cX0_countBench 5 = .ok (.aload_n 0, 1) := by decide +kernel
theorem dX0_countBench_6 : decode cX0_countBench 6 = .ok (.getfield 9, 3) := by decide +kernel
theorem dX0_countBench_9 : decode cX0_countBench 9 = .ok (.getfield 86, 3) := by decide +kernel
theorem dX0_countBench_12 : decode cX0_countBench 12 = .ok (.if_icmp .ge 96, 3) := by decide +kernel
theorem dX0_countBench_15 : decode cX0_countBench 15 = .ok (.iload_n 1, 1) := by decide +kernel
theorem dX0_countBench_16 : decode cX0_countBench 16 = .ok (.iload 4, 2) := by decide +kernel
theorem dX0_countBench_18 : decode cX0_countBench 18 = .ok (.invokestatic 62, 3) := by decide +kernel
theorem dX0_countBench_21 : decode cX0_countBench 21 = .ok (.ifCond .eq 81, 3) := by decide +kernel
theorem dX0_countBench_24 : decode cX0_countBench 24 = .ok (.aload_n 0, 1) := by decide +kernel
theorem dX0_countBench_25 : decode cX0_countBench 25 = .ok (.getfield 33, 3) := by decide +kernel
theorem dX0_countBench_28 : decode cX0_countBench 28 = .ok (.iload 4, 2) := by decide +kernel
theorem dX0_countBench_30 : decode cX0_countBench 30 = .ok (.dup2, 1) := by decide +kernel
theorem dX0_countBench_31 : decode cX0_countBench 31 = .ok (.iaload, 1) := by decide +kernel
theorem dX0_countBench_32 : decode cX0_countBench 32 = .ok (.iload 4, 2) := by decide +kernel
theorem dX0_countBench_34 : decode cX0_countBench 34 = .ok (.iload_n 3, 1) := by decide +kernel
theorem dX0_countBench_35 : decode cX0_countBench 35 = .ok (.if_icmp .ne 15, 3) := by decide +kernel
theorem dX0_countBench_38 : decode cX0_countBench 38 = .ok (.iload_n 2, 1) := by decide +kernel
theorem dX0_countBench_39 : decode cX0_countBench 39 = .ok (.aload_n 0, 1) := by decide +kernel
theorem dX0_countBench_40 : decode cX0_countBench 40 = .ok (.getfield 9, 3) := by decide +kernel
theorem dX0_countBench_43 : decode cX0_countBench 43 = .ok (.getfield 89, 3) := by decide +kernel
theorem dX0_countBench_46 : decode cX0_countBench 46 = .ok (.iadd, 1) := by decide +kernel
theorem dX0_countBench_47 : decode cX0_countBench 47 = .ok (.goto 4, 3) := by decide +kernel
theorem dX0_countBench_50 : decode cX0_countBench 50 = .ok (.iload_n 2, 1) := by decide +kernel
theorem dX0_countBench_51 : decode cX0_countBench 51 = .ok (.iadd, 1) := by decide +kernel
theorem dX0_countBench_52 : decode cX0_countBench 52 = .ok (.iastore, 1) := by decide +kernel
theorem dX0_countBench_53 : decode cX0_countBench 53 = .ok (.iload 4, 2) := by decide +kernel
theorem dX0_countBench_55 : decode cX0_countBench 55 = .ok (.iconst 1, 1) := by decide +kernel
theorem dX0_countBench_56 : decode cX0_countBench 56 = .ok (.iadd, 1) := by decide +kernel
theorem dX0_countBench_57 : decode cX0_countBench 57 = .ok (.istore 5, 2) := by decide +kernel
theorem dX0_countBench_59 : decode cX0_countBench 59 = .ok (.iload 5, 2) := by decide +kernel
theorem dX0_countBench_61 : decode cX0_countBench 61 = .ok (.aload_n 0, 1) := by decide +kernel
theorem dX0_countBench_62 : decode cX0_countBench 62 = .ok (.getfield 9, 3) := by decide +kernel
theorem dX0_countBench_65 : decode cX0_countBench 65 = .ok (.getfield 86, 3) := by decide +kernel
theorem dX0_countBench_68 : decode cX0_countBench 68 = .ok (.if_icmp .ge 34, 3) := by decide +kernel
theorem dX0_countBench_71 : decode cX0_countBench 71 = .ok (.iload_n 1, 1) := by decide +kernel
theorem dX0_countBench_72 : decode cX0_countBench 72 = .ok (.iload 5, 2) := by decide +kernel
theorem dX0_countBench_74 : decode cX0_countBench 74 = .ok (.invokestatic 62, 3) := by decide +kernel
theorem dX0_countBench_77 : decode cX0_countBench 77 = .ok (.ifCond .eq 19, 3) := by decide +kernel
theorem dX0_countBench_80 : decode cX0_countBench 80 = .ok (.aload_n 0, 1) := by decide +kernel
theorem dX0_countBench_81 : decode cX0_countBench 81 = .ok (.getfield 29, 3) := by decide +kernel
theorem dX0_countBench_84 : decode cX0_countBench 84 = .ok (.iload 4, 2) := by decide +kernel
theorem dX0_countBench_86 : decode cX0_countBench 86 = .ok (.iload 5, 2) := by decide +kernel
theorem dX0_countBench_88 : decode cX0_countBench 88 = .ok (.invokestatic 92, 3) := by decide +kernel
theorem dX0_countBench_91 : decode cX0_countBench 91 = .ok (.dup2, 1) := by decide +kernel
theorem dX0_countBench_92 : decode cX0_countBench 92 = .ok (.iaload, 1) := by decide +kernel
theorem dX0_countBench_93 : decode cX0_countBench 93 = .ok (.iconst 1, 1) := by decide +kernel
theorem dX0_countBench_94 : decode cX0_countBench 94 = .ok (.iadd, 1) := by decide +kernel
theorem dX0_countBench_95 : decode cX0_countBench 95 = .ok (.iastore, 1) := by decide +kernel
theorem dX0_countBench_96 : decode cX0_countBench 96 = .ok (.iinc 5 1, 3) := by decide +kernel
theorem dX0_countBench_99 : decode cX0_countBench 99 = .ok (.goto (-40), 3) := by decide +kernel
theorem dX0_countBench_102 : decode cX0_countBench 102 = .ok (.iinc 4 1, 3) := by decide +kernel
theorem dX0_countBench_105 : decode cX0_countBench 105 = .ok (.goto (-102), 3) := by decide +kernel
theorem dX0_countBench_108 : decode cX0_countBench 108 = .ok (.return_, 1) := by decide +kernel
theorem dX0_tensionOf_0 : decode cX0_tensionOf 0 = .ok (.iconst 0, 1) := by decide +kernel
theorem dX0_tensionOf_1 : decode cX0_tensionOf 1 = .ok (.istore_n 2, 1) := by decide +kernel
theorem dX0_tensionOf_2 : decode cX0_tensionOf 2 = .ok (.iconst 0, 1) := by decide +kernel
theorem dX0_tensionOf_3 : decode cX0_tensionOf 3 = .ok (.istore_n 3, 1) := by decide +kernel
theorem dX0_tensionOf_4 : decode cX0_tensionOf 4 = .ok (.iconst 0, 1) := by decide +kernel
theorem dX0_tensionOf_5 : decode cX0_tensionOf 5 = .ok (.istore 4, 2) := by decide +kernel
theorem dX0_tensionOf_7 : decode cX0_tensionOf 7 = .ok (.iload 4, 2) := by decide +kernel
theorem dX0_tensionOf_9 : decode cX0_tensionOf 9 = .ok (.aload_n 0, 1) := by decide +kernel
theorem dX0_tensionOf_10 : decode cX0_tensionOf 10 = .ok (.getfield 9, 3) := by decide +kernel
theorem dX0_tensionOf_13 : decode cX0_tensionOf 13 = .ok (.getfield 86, 3) := by decide +kernel
theorem dX0_tensionOf_16 : decode cX0_tensionOf 16 = .ok (.if_icmp .ge 38, 3) := by decide +kernel
theorem dX0_tensionOf_19 : decode cX0_tensionOf 19 = .ok (.iload_n 1, 1) := by decide +kernel
theorem dX0_tensionOf_20 : decode cX0_tensionOf 20 = .ok (.iload 4, 2) := by decide +kernel
theorem dX0_tensionOf_22 : decode cX0_tensionOf 22 = .ok (.invokestatic 62, 3) := by decide +kernel
theorem dX0_tensionOf_25 : decode cX0_tensionOf 25 = .ok (.ifCond .eq 23, 3) := by decide +kernel
theorem dX0_tensionOf_28 : decode cX0_tensionOf 28 = .ok (.iload_n 3, 1) := by decide +kernel
theorem dX0_tensionOf_29 : decode cX0_tensionOf 29 = .ok (.aload_n 0, 1) := by decide +kernel
theorem dX0_tensionOf_30 : decode cX0_tensionOf 30 = .ok (.getfield 33, 3) := by decide +kernel
theorem dX0_tensionOf_33 : decode cX0_tensionOf 33 = .ok (.iload 4, 2) := by decide +kernel
theorem dX0_tensionOf_35 : decode cX0_tensionOf 35 = .ok (.iaload, 1) := by decide +kernel
theorem dX0_tensionOf_36 : decode cX0_tensionOf 36 = .ok (.iadd, 1) := by decide +kernel
theorem dX0_tensionOf_37 : decode cX0_tensionOf 37 = .ok (.istore_n 3, 1) := by decide +kernel
theorem dX0_tensionOf_38 : decode cX0_tensionOf 38 = .ok (.iload_n 2, 1) := by decide +kernel
theorem dX0_tensionOf_39 : decode cX0_tensionOf 39 = .ok (.aload_n 0, 1) := by decide +kernel
theorem dX0_tensionOf_40 : decode cX0_tensionOf 40 = .ok (.iload_n 1, 1) := by decide +kernel
theorem dX0_tensionOf_41 : decode cX0_tensionOf 41 = .ok (.iload 4, 2) := by decide +kernel
theorem dX0_tensionOf_43 : decode cX0_tensionOf 43 = .ok (.invokevirtual 96, 3) := by decide +kernel
theorem dX0_tensionOf_46 : decode cX0_tensionOf 46 = .ok (.iadd, 1) := by decide +kernel
theorem dX0_tensionOf_47 : decode cX0_tensionOf 47 = .ok (.istore_n 2, 1) := by decide +kernel
theorem dX0_tensionOf_48 : decode cX0_tensionOf 48 = .ok (.iinc 4 1, 3) := by decide +kernel
theorem dX0_tensionOf_51 : decode cX0_tensionOf 51 = .ok (.goto (-44), 3) := by decide +kernel
theorem dX0_tensionOf_54 : decode cX0_tensionOf 54 = .ok (.aload_n 0, 1) := by decide +kernel
theorem dX0_tensionOf_55 : decode cX0_tensionOf 55 = .ok (.getfield 9, 3) := by decide +kernel
theorem dX0_tensionOf_58 : decode cX0_tensionOf 58 = .ok (.getfield 99, 3) := by decide +kernel
theorem dX0_tensionOf_61 : decode cX0_tensionOf 61 = .ok (.iload_n 2, 1) := by decide +kernel
theorem dX0_tensionOf_62 : decode cX0_tensionOf 62 = .ok (.imul, 1) := by decide +kernel
theorem dX0_tensionOf_63 : decode cX0_tensionOf 63 = .ok (.aload_n 0, 1) := by decide +kernel
theorem dX0_tensionOf_64 : decode cX0_tensionOf 64 = .ok (.getfield 9, 3) := by decide +kernel
theorem dX0_tensionOf_67 : decode cX0_tensionOf 67 = .ok (.getfield 102, 3) := by decide +kernel
theorem dX0_tensionOf_70 : decode cX0_tensionOf 70 = .ok (.iload_n 3, 1) := by decide +kernel
theorem dX0_tensionOf_71 : decode cX0_tensionOf 71 = .ok (.imul, 1) := by decide +kernel
theorem dX0_tensionOf_72 : decode cX0_tensionOf 72 = .ok (.iadd, 1) := by decide +kernel
theorem dX0_tensionOf_73 : decode cX0_tensionOf 73 = .ok (.ireturn, 1) := by decide +kernel
theorem dX0_pairsBehind_0 : decode cX0_pairsBehind 0 = .ok (.iconst 0, 1) := by decide +kernel
theorem dX0_pairsBehind_1 : decode cX0_pairsBehind 1 = .ok (.istore_n 3, 1) := by decide +kernel
theorem dX0_pairsBehind_2 : decode cX0_pairsBehind 2 = .ok (.iload_n 2, 1) := by decide +kernel
theorem dX0_pairsBehind_3 : decode cX0_pairsBehind 3 = .ok (.iconst 1, 1) := by decide +kernel
theorem dX0_pairsBehind_4 : decode cX0_pairsBehind 4 = .ok (.iadd, 1) := by decide +kernel
theorem dX0_pairsBehind_5 : decode cX0_pairsBehind 5 = .ok (.istore 4, 2) := by decide +kernel
theorem dX0_pairsBehind_7 : decode cX0_pairsBehind 7 = .ok (.iload 4, 2) := by decide +kernel
theorem dX0_pairsBehind_9 : decode cX0_pairsBehind 9 = .ok (.aload_n 0, 1) := by decide +kernel
theorem dX0_pairsBehind_10 : decode cX0_pairsBehind 10 = .ok (.getfield 9, 3) := by decide +kernel
theorem dX0_pairsBehind_13 : decode cX0_pairsBehind 13 = .ok (.getfield 86, 3) := by decide +kernel
theorem dX0_pairsBehind_16 : decode cX0_pairsBehind 16 = .ok (.if_icmp .ge 32, 3) := by decide +kernel
theorem dX0_pairsBehind_19 : decode cX0_pairsBehind 19 = .ok (.iload_n 1, 1) := by decide +kernel
theorem dX0_pairsBehind_20 : decode cX0_pairsBehind 20 = .ok (.iload 4, 2) := by decide +kernel
theorem dX0_pairsBehind_22 : decode cX0_pairsBehind 22 = .ok (.invokestatic 62, 3) := by decide +kernel
theorem dX0_pairsBehind_25 : decode cX0_pairsBehind 25 = .ok (.ifCond .eq 17, 3) := by decide +kernel
theorem dX0_pairsBehind_28 : decode cX0_pairsBehind 28 = .ok (.iload_n 3, 1) := by decide +kernel
theorem dX0_pairsBehind_29 : decode cX0_pairsBehind 29 = .ok (.aload_n 0, 1) := by decide +kernel
theorem dX0_pairsBehind_30 : decode cX0_pairsBehind 30 = .ok (.getfield 29, 3) := by decide +kernel
theorem dX0_pairsBehind_33 : decode cX0_pairsBehind 33 = .ok (.iload_n 2, 1) := by decide +kernel
theorem dX0_pairsBehind_34 : decode cX0_pairsBehind 34 = .ok (.iload 4, 2) := by decide +kernel
theorem dX0_pairsBehind_36 : decode cX0_pairsBehind 36 = .ok (.invokestatic 92, 3) := by decide +kernel
theorem dX0_pairsBehind_39 : decode cX0_pairsBehind 39 = .ok (.iaload, 1) := by decide +kernel
theorem dX0_pairsBehind_40 : decode cX0_pairsBehind 40 = .ok (.iadd, 1) := by decide +kernel
theorem dX0_pairsBehind_41 : decode cX0_pairsBehind 41 = .ok (.istore_n 3, 1) := by decide +kernel
theorem dX0_pairsBehind_42 : decode cX0_pairsBehind 42 = .ok (.iinc 4 1, 3) := by decide +kernel
theorem dX0_pairsBehind_45 : decode cX0_pairsBehind 45 = .ok (.goto (-38), 3) := by decide +kernel
theorem dX0_pairsBehind_48 : decode cX0_pairsBehind 48 = .ok (.iload_n 3, 1) := by decide +kernel
theorem dX0_pairsBehind_49 : decode cX0_pairsBehind 49 = .ok (.ireturn, 1) := by decide +kernel
theorem dX0_spreadOfPairs_0 : decode cX0_spreadOfPairs 0 = .ok (.iconst 0, 1) := by decide +kernel
theorem dX0_spreadOfPairs_1 : decode cX0_spreadOfPairs 1 = .ok (.istore_n 1, 1) := by decide +kernel
theorem dX0_spreadOfPairs_2 : decode cX0_spreadOfPairs 2 = .ok (.ldc 107, 2) := by decide +kernel
theorem dX0_spreadOfPairs_4 : decode cX0_spreadOfPairs 4 = .ok (.istore_n 2, 1) := by decide +kernel
theorem dX0_spreadOfPairs_5 : decode cX0_spreadOfPairs 5 = .ok (.iconst 0, 1) := by decide +kernel
theorem dX0_spreadOfPairs_6 : decode cX0_spreadOfPairs 6 = .ok (.istore_n 3, 1) := by decide +kernel
theorem dX0_spreadOfPairs_7 : decode cX0_spreadOfPairs 7 = .ok (.iload_n 3, 1) := by decide +kernel
theorem dX0_spreadOfPairs_8 : decode cX0_spreadOfPairs 8 = .ok (.aload_n 0, 1) := by decide +kernel
theorem dX0_spreadOfPairs_9 : decode cX0_spreadOfPairs 9 = .ok (.getfield 9, 3) := by decide +kernel
theorem dX0_spreadOfPairs_12 : decode cX0_spreadOfPairs 12 = .ok (.getfield 86, 3) := by decide +kernel
theorem dX0_spreadOfPairs_15 : decode cX0_spreadOfPairs 15 = .ok (.if_icmp .ge 59, 3) := by decide +kernel
theorem dX0_spreadOfPairs_18 : decode cX0_spreadOfPairs 18 = .ok (.iload_n 3, 1) := by decide +kernel
theorem dX0_spreadOfPairs_19 : decode cX0_spreadOfPairs 19 = .ok (.iconst 1, 1) := by decide +kernel
theorem dX0_spreadOfPairs_20 : decode cX0_spreadOfPairs 20 = .ok (.iadd, 1) := by decide +kernel
theorem dX0_spreadOfPairs_21 : decode cX0_spreadOfPairs 21 = .ok (.istore 4, 2) := by decide +kernel
theorem dX0_spreadOfPairs_23 : decode cX0_spreadOfPairs 23 = .ok (.iload 4, 2) := by decide +kernel
theorem dX0_spreadOfPairs_25 : decode cX0_spreadOfPairs 25 = .ok (.aload_n 0, 1) := by decide +kernel
theorem dX0_spreadOfPairs_26 : decode cX0_spreadOfPairs 26 = .ok (.getfield 9, 3) := by decide +kernel
theorem dX0_spreadOfPairs_29 : decode cX0_spreadOfPairs 29 = .ok (.getfield 86, 3) := by decide +kernel
theorem dX0_spreadOfPairs_32 : decode cX0_spreadOfPairs 32 = .ok (.if_icmp .ge 36, 3) := by decide +kernel
theorem dX0_spreadOfPairs_35 : decode cX0_spreadOfPairs 35 = .ok (.aload_n 0, 1) := by decide +kernel
theorem dX0_spreadOfPairs_36 : decode cX0_spreadOfPairs 36 = .ok (.getfield 29, 3) := by decide +kernel
theorem dX0_spreadOfPairs_39 : decode cX0_spreadOfPairs 39 = .ok (.iload_n 3, 1) := by decide +kernel
theorem dX0_spreadOfPairs_40 : decode cX0_spreadOfPairs 40 = .ok (.iload 4, 2) := by decide +kernel
theorem dX0_spreadOfPairs_42 : decode cX0_spreadOfPairs 42 = .ok (.invokestatic 92, 3) := by decide +kernel
theorem dX0_spreadOfPairs_45 : decode cX0_spreadOfPairs 45 = .ok (.iaload, 1) := by decide +kernel
theorem dX0_spreadOfPairs_46 : decode cX0_spreadOfPairs 46 = .ok (.istore 5, 2) := by decide +kernel
theorem dX0_spreadOfPairs_48 : decode cX0_spreadOfPairs 48 = .ok (.iload_n 1, 1) := by decide +kernel
theorem dX0_spreadOfPairs_49 : decode cX0_spreadOfPairs 49 = .ok (.iload 5, 2) := by decide +kernel
theorem dX0_spreadOfPairs_51 : decode cX0_spreadOfPairs 51 = .ok (.invokestatic 108, 3) := by decide +kernel
theorem dX0_spreadOfPairs_54 : decode cX0_spreadOfPairs 54 = .ok (.istore_n 1, 1) := by decide +kernel
theorem dX0_spreadOfPairs_55 : decode cX0_spreadOfPairs 55 = .ok (.iload_n 2, 1) := by decide +kernel
theorem dX0_spreadOfPairs_56 : decode cX0_spreadOfPairs 56 = .ok (.iload 5, 2) := by decide +kernel
theorem dX0_spreadOfPairs_58 : decode cX0_spreadOfPairs 58 = .ok (.invokestatic 113, 3) := by decide +kernel
theorem dX0_spreadOfPairs_61 : decode cX0_spreadOfPairs 61 = .ok (.istore_n 2, 1) := by decide +kernel
theorem dX0_spreadOfPairs_62 : decode cX0_spreadOfPairs 62 = .ok (.iinc 4 1, 3) := by decide +kernel
theorem dX0_spreadOfPairs_65 : decode cX0_spreadOfPairs 65 = .ok (.goto (-42), 3) := by decide +kernel
theorem dX0_spreadOfPairs_68 : decode cX0_spreadOfPairs 68 = .ok (.iinc 3 1, 3) := by decide +kernel
theorem dX0_spreadOfPairs_71 : decode cX0_spreadOfPairs 71 = .ok (.goto (-64), 3) := by decide +kernel
theorem dX0_spreadOfPairs_74 : decode cX0_spreadOfPairs 74 = .ok (.iload_n 1, 1) := by decide +kernel
theorem dX0_spreadOfPairs_75 : decode cX0_spreadOfPairs 75 = .ok (.iload_n 2, 1) := by decide +kernel
theorem dX0_spreadOfPairs_76 : decode cX0_spreadOfPairs 76 = .ok (.isub, 1) := by decide +kernel
theorem dX0_spreadOfPairs_77 : decode cX0_spreadOfPairs 77 = .ok (.ireturn, 1) := by decide +kernel
theorem dX0_spreadOfLoads_0 : decode cX0_spreadOfLoads 0 = .ok (.iconst 0, 1) := by decide +kernel
theorem dX0_spreadOfLoads_1 : decode cX0_spreadOfLoads 1 = .ok (.istore_n 1, 1) := by decide +kernel
theorem dX0_spreadOfLoads_2 : decode cX0_spreadOfLoads 2 = .ok (.ldc 107, 2) := by decide +kernel
theorem dX0_spreadOfLoads_4 : decode cX0_spreadOfLoads 4 = .ok (.istore_n 2, 1) := by decide +kernel
theorem dX0_spreadOfLoads_5 : decode cX0_spreadOfLoads 5 = .ok (.iconst 0, 1) := by decide +kernel
theorem dX0_spreadOfLoads_6 : decode cX0_spreadOfLoads 6 = .ok (.istore_n 3, 1) := by decide +kernel
theorem dX0_spreadOfLoads_7 : decode cX0_spreadOfLoads 7 = .ok (.iload_n 3, 1) := by decide +kernel
theorem dX0_spreadOfLoads_8 : decode cX0_spreadOfLoads 8 = .ok (.aload_n 0, 1) := by decide +kernel
theorem dX0_spreadOfLoads_9 : decode cX0_spreadOfLoads 9 = .ok (.getfield 9, 3) := by decide +kernel
theorem dX0_spreadOfLoads_12 : decode cX0_spreadOfLoads 12 = .ok (.getfield 86, 3) := by decide +kernel
theorem dX0_spreadOfLoads_15 : decode cX0_spreadOfLoads 15 = .ok (.if_icmp .ge 31, 3) := by decide +kernel
theorem dX0_spreadOfLoads_18 : decode cX0_spreadOfLoads 18 = .ok (.iload_n 1, 1) := by decide +kernel
theorem dX0_spreadOfLoads_19 : decode cX0_spreadOfLoads 19 = .ok (.aload_n 0, 1) := by decide +kernel
theorem dX0_spreadOfLoads_20 : decode cX0_spreadOfLoads 20 = .ok (.getfield 33, 3) := by decide +kernel
theorem dX0_spreadOfLoads_23 : decode cX0_spreadOfLoads 23 = .ok (.iload_n 3, 1) := by decide +kernel
theorem dX0_spreadOfLoads_24 : decode cX0_spreadOfLoads 24 = .ok (.iaload, 1) := by decide +kernel
theorem dX0_spreadOfLoads_25 : decode cX0_spreadOfLoads 25 = .ok (.invokestatic 108, 3) := by decide +kernel
theorem dX0_spreadOfLoads_28 : decode cX0_spreadOfLoads 28 = .ok (.istore_n 1, 1) := by decide +kernel
theorem dX0_spreadOfLoads_29 : decode cX0_spreadOfLoads 29 = .ok (.iload_n 2, 1) := by decide +kernel
theorem dX0_spreadOfLoads_30 : decode cX0_spreadOfLoads 30 = .ok (.aload_n 0, 1) := by decide +kernel
theorem dX0_spreadOfLoads_31 : decode cX0_spreadOfLoads 31 = .ok (.getfield 33, 3) := by decide +kernel
theorem dX0_spreadOfLoads_34 : decode cX0_spreadOfLoads 34 = .ok (.iload_n 3, 1) := by decide +kernel
theorem dX0_spreadOfLoads_35 : decode cX0_spreadOfLoads 35 = .ok (.iaload, 1) := by decide +kernel
theorem dX0_spreadOfLoads_36 : decode cX0_spreadOfLoads 36 = .ok (.invokestatic 113, 3) := by decide +kernel
theorem dX0_spreadOfLoads_39 : decode cX0_spreadOfLoads 39 = .ok (.istore_n 2, 1) := by decide +kernel
theorem dX0_spreadOfLoads_40 : decode cX0_spreadOfLoads 40 = .ok (.iinc 3 1, 3) := by decide +kernel
theorem dX0_spreadOfLoads_43 : decode cX0_spreadOfLoads 43 = .ok (.goto (-36), 3) := by decide +kernel
theorem dX0_spreadOfLoads_46 : decode cX0_spreadOfLoads 46 = .ok (.iload_n 1, 1) := by decide +kernel
theorem dX0_spreadOfLoads_47 : decode cX0_spreadOfLoads 47 = .ok (.iload_n 2, 1) := by decide +kernel
theorem dX0_spreadOfLoads_48 : decode cX0_spreadOfLoads 48 = .ok (.isub, 1) := by decide +kernel
theorem dX0_spreadOfLoads_49 : decode cX0_spreadOfLoads 49 = .ok (.ireturn, 1) := by decide +kernel
theorem dX0_evennessCounted_0 : decode cX0_evennessCounted 0 = .ok (.iconst 0, 1) := by decide +kernel
theorem dX0_evennessCounted_1 : decode cX0_evennessCounted 1 = .ok (.istore_n 1, 1) := by decide +kernel
theorem dX0_evennessCounted_2 : decode cX0_evennessCounted 2 = .ok (.iconst 0, 1) := by decide +kernel
theorem dX0_evennessCounted_3 : decode cX0_evennessCounted 3 = .ok (.istore_n 2, 1) := by decide +kernel
theorem dX0_evennessCounted_4 : decode cX0_evennessCounted 4 = .ok (.iload_n 2, 1) := by decide +kernel
theorem dX0_evennessCounted_5 : decode cX0_evennessCounted 5 = .ok (.aload_n 0, 1) := by decide +kernel
theorem dX0_evennessCounted_6 : decode cX0_evennessCounted 6 = .ok (.getfield 9, 3) := by decide +kernel
theorem dX0_evennessCounted_9 : decode cX0_evennessCounted 9 = .ok (.getfield 86, 3) := by decide +kernel
theorem dX0_evennessCounted_12 : decode cX0_evennessCounted 12 = .ok (.if_icmp .ge 50, 3) := by decide +kernel
theorem dX0_evennessCounted_15 : decode cX0_evennessCounted 15 = .ok (.iload_n 2, 1) := by decide +kernel
theorem dX0_evennessCounted_16 : decode cX0_evennessCounted 16 = .ok (.iconst 1, 1) := by decide +kernel
theorem dX0_evennessCounted_17 : decode cX0_evennessCounted 17 = .ok (.iadd, 1) := by decide +kernel
theorem dX0_evennessCounted_18 : decode cX0_evennessCounted 18 = .ok (.istore_n 3, 1) := by decide +kernel
theorem dX0_evennessCounted_19 : decode cX0_evennessCounted 19 = .ok (.iload_n 3, 1) := by decide +kernel
theorem dX0_evennessCounted_20 : decode cX0_evennessCounted 20 = .ok (.aload_n 0, 1) := by decide +kernel
theorem dX0_evennessCounted_21 : decode cX0_evennessCounted 21 = .ok (.getfield 9, 3) := by decide +kernel
theorem dX0_evennessCounted_24 : decode cX0_evennessCounted 24 = .ok (.getfield 86, 3) := by decide +kernel
theorem dX0_evennessCounted_27 : decode cX0_evennessCounted 27 = .ok (.if_icmp .ge 29, 3) := by decide +kernel
theorem dX0_evennessCounted_30 : decode cX0_evennessCounted 30 = .ok (.aload_n 0, 1) := by decide +kernel
theorem dX0_evennessCounted_31 : decode cX0_evennessCounted 31 = .ok (.getfield 29, 3) := by decide +kernel
theorem dX0_evennessCounted_34 : decode cX0_evennessCounted 34 = .ok (.iload_n 2, 1) := by decide +kernel
theorem dX0_evennessCounted_35 : decode cX0_evennessCounted 35 = .ok (.iload_n 3, 1) := by decide +kernel
theorem dX0_evennessCounted_36 : decode cX0_evennessCounted 36 = .ok (.invokestatic 92, 3) := by decide +kernel
theorem dX0_evennessCounted_39 : decode cX0_evennessCounted 39 = .ok (.iaload, 1) := by decide +kernel
theorem dX0_evennessCounted_40 : decode cX0_evennessCounted 40 = .ok (.istore 4, 2) := by decide +kernel
theorem dX0_evennessCounted_42 : decode cX0_evennessCounted 42 = .ok (.iload_n 1, 1) := by decide +kernel
theorem dX0_evennessCounted_43 : decode cX0_evennessCounted 43 = .ok (.iload 4, 2) := by decide +kernel
theorem dX0_evennessCounted_45 : decode cX0_evennessCounted 45 = .ok (.iload 4, 2) := by decide +kernel
theorem dX0_evennessCounted_47 : decode cX0_evennessCounted 47 = .ok (.imul, 1) := by decide +kernel
theorem dX0_evennessCounted_48 : decode cX0_evennessCounted 48 = .ok (.iadd, 1) := by decide +kernel
theorem dX0_evennessCounted_49 : decode cX0_evennessCounted 49 = .ok (.istore_n 1, 1) := by decide +kernel
theorem dX0_evennessCounted_50 : decode cX0_evennessCounted 50 = .ok (.iinc 3 1, 3) := by decide +kernel
theorem dX0_evennessCounted_53 : decode cX0_evennessCounted 53 = .ok (.goto (-34), 3) := by decide +kernel
theorem dX0_evennessCounted_56 : decode cX0_evennessCounted 56 = .ok (.iinc 2 1, 3) := by decide +kernel
theorem dX0_evennessCounted_59 : decode cX0_evennessCounted 59 = .ok (.goto (-55), 3) := by decide +kernel
theorem dX0_evennessCounted_62 : decode cX0_evennessCounted 62 = .ok (.iload_n 1, 1) := by decide +kernel
theorem dX0_evennessCounted_63 : decode cX0_evennessCounted 63 = .ok (.ireturn, 1) := by decide +kernel
theorem dX0_isLawful_0 : decode cX0_isLawful 0 = .ok (.iload_n 2, 1) := by decide +kernel
theorem dX0_isLawful_1 : decode cX0_isLawful 1 = .ok (.aload_n 0, 1) := by decide +kernel
theorem dX0_isLawful_2 : decode cX0_isLawful 2 = .ok (.getfield 18, 3) := by decide +kernel
theorem dX0_isLawful_5 : decode cX0_isLawful 5 = .ok (.getfield 70, 3) := by decide +kernel
theorem dX0_isLawful_8 : decode cX0_isLawful 8 = .ok (.iload_n 1, 1) := by decide +kernel
theorem dX0_isLawful_9 : decode cX0_isLawful 9 = .ok (.iaload, 1) := by decide +kernel
theorem dX0_isLawful_10 : decode cX0_isLawful 10 = .ok (.aload_n 0, 1) := by decide +kernel
theorem dX0_isLawful_11 : decode cX0_isLawful 11 = .ok (.getfield 18, 3) := by decide +kernel
theorem dX0_isLawful_14 : decode cX0_isLawful 14 = .ok (.getfield 116, 3) := by decide +kernel
theorem dX0_isLawful_17 : decode cX0_isLawful 17 = .ok (.ior, 1) := by decide +kernel
theorem dX0_isLawful_18 : decode cX0_isLawful 18 = .ok (.iand, 1) := by decide +kernel
theorem dX0_isLawful_19 : decode cX0_isLawful 19 = .ok (.ifCond .ne 19, 3) := by decide +kernel
theorem dX0_isLawful_22 : decode cX0_isLawful 22 = .ok (.iload_n 2, 1) := by decide +kernel
theorem dX0_isLawful_23 : decode cX0_isLawful 23 = .ok (.aload_n 0, 1) := by decide +kernel
theorem dX0_isLawful_24 : decode cX0_isLawful 24 = .ok (.getfield 9, 3) := by decide +kernel
theorem dX0_isLawful_27 : decode cX0_isLawful 27 = .ok (.getfield 119, 3) := by decide +kernel
theorem dX0_isLawful_30 : decode cX0_isLawful 30 = .ok (.iand, 1) := by decide +kernel
theorem dX0_isLawful_31 : decode cX0_isLawful 31 = .ok (.ifCond .eq 7, 3) := by decide +kernel
theorem dX0_isLawful_34 : decode cX0_isLawful 34 = .ok (.iconst 1, 1) := by decide +kernel
theorem dX0_isLawful_35 : decode cX0_isLawful 35 = .ok (.goto 4, 3) := by decide +kernel
theorem dX0_isLawful_38 : decode cX0_isLawful 38 = .ok (.iconst 0, 1) := by decide +kernel
theorem dX0_isLawful_39 : decode cX0_isLawful 39 = .ok (.ireturn, 1) := by decide +kernel
theorem dX0_listLawful_0 : decode cX0_listLawful 0 = .ok (.aload_n 0, 1) := by decide +kernel
theorem dX0_listLawful_1 : decode cX0_listLawful 1 = .ok (.iconst 0, 1) := by decide +kernel
theorem dX0_listLawful_2 : decode cX0_listLawful 2 = .ok (.putfield 122, 3) := by decide +kernel
theorem dX0_listLawful_5 : decode cX0_listLawful 5 = .ok (.iconst 0, 1) := by decide +kernel
theorem dX0_listLawful_6 : decode cX0_listLawful 6 = .ok (.istore_n 2, 1) := by decide +kernel
theorem dX0_listLawful_7 : decode cX0_listLawful 7 = .ok (.iload_n 2, 1) := by decide +kernel
theorem dX0_listLawful_8 : decode cX0_listLawful 8 = .ok (.aload_n 0, 1) := by decide +kernel
theorem dX0_listLawful_9 : decode cX0_listLawful 9 = .ok (.getfield 9, 3) := by decide +kernel
theorem dX0_listLawful_12 : decode cX0_listLawful 12 = .ok (.getfield 86, 3) := by decide +kernel
theorem dX0_listLawful_15 : decode cX0_listLawful 15 = .ok (.if_icmp .ge 45, 3) := by decide +kernel
theorem dX0_listLawful_18 : decode cX0_listLawful 18 = .ok (.iload_n 2, 1) := by decide +kernel
theorem dX0_listLawful_19 : decode cX0_listLawful 19 = .ok (.iconst 1, 1) := by decide +kernel
theorem dX0_listLawful_20 : decode cX0_listLawful 20 = .ok (.iadd, 1) := by decide +kernel
theorem dX0_listLawful_21 : decode cX0_listLawful 21 = .ok (.istore_n 3, 1) := by decide +kernel
theorem dX0_listLawful_22 : decode cX0_listLawful 22 = .ok (.iload_n 3, 1) := by decide +kernel
theorem dX0_listLawful_23 : decode cX0_listLawful 23 = .ok (.aload_n 0, 1) := by decide +kernel
theorem dX0_listLawful_24 : decode cX0_listLawful 24 = .ok (.getfield 9, 3) := by decide +kernel
theorem dX0_listLawful_27 : decode cX0_listLawful 27 = .ok (.getfield 86, 3) := by decide +kernel
theorem dX0_listLawful_30 : decode cX0_listLawful 30 = .ok (.if_icmp .ge 24, 3) := by decide +kernel
theorem dX0_listLawful_33 : decode cX0_listLawful 33 = .ok (.aload_n 0, 1) := by decide +kernel
theorem dX0_listLawful_34 : decode cX0_listLawful 34 = .ok (.iload_n 1, 1) := by decide +kernel
theorem dX0_listLawful_35 : decode cX0_listLawful 35 = .ok (.iconst 1, 1) := by decide +kernel
theorem dX0_listLawful_36 : decode cX0_listLawful 36 = .ok (.iload_n 2, 1) := by decide +kernel
theorem dX0_listLawful_37 : decode cX0_listLawful 37 = .ok (.ishl, 1) := by decide +kernel
theorem dX0_listLawful_38 : decode cX0_listLawful 38 = .ok (.iconst 1, 1) := by decide +kernel
theorem dX0_listLawful_39 : decode cX0_listLawful 39 = .ok (.iload_n 3, 1) := by decide +kernel
theorem dX0_listLawful_40 : decode cX0_listLawful 40 = .ok (.ishl, 1) := by decide +kernel
theorem dX0_listLawful_41 : decode cX0_listLawful 41 = .ok (.ior, 1) := by decide +kernel
theorem dX0_listLawful_42 : decode cX0_listLawful 42 = .ok (.iload_n 3, 1) := by decide +kernel
theorem dX0_listLawful_43 : decode cX0_listLawful 43 = .ok (.iconst 1, 1) := by decide +kernel
theorem dX0_listLawful_44 : decode cX0_listLawful 44 = .ok (.iadd, 1) := by decide +kernel
theorem dX0_listLawful_45 : decode cX0_listLawful 45 = .ok (.invokevirtual 125, 3) := by decide +kernel
theorem dX0_listLawful_48 : decode cX0_listLawful 48 = .ok (.iinc 3 1, 3) := by decide +kernel
theorem dX0_listLawful_51 : decode cX0_listLawful 51 = .ok (.goto (-29), 3) := by decide +kernel
theorem dX0_listLawful_54 : decode cX0_listLawful 54 = .ok (.iinc 2 1, 3) := by decide +kernel
theorem dX0_listLawful_57 : decode cX0_listLawful 57 = .ok (.goto (-50), 3) := by decide +kernel
theorem dX0_listLawful_60 : decode cX0_listLawful 60 = .ok (.return_, 1) := by decide +kernel
theorem dX0_listThirds_0 : decode cX0_listThirds 0 = .ok (.iload_n 3, 1) := by decide +kernel
theorem dX0_listThirds_1 : decode cX0_listThirds 1 = .ok (.istore 4, 2) := by decide +kernel
theorem dX0_listThirds_3 : decode cX0_listThirds 3 = .ok (.iload 4, 2) := by decide +kernel
theorem dX0_listThirds_5 : decode cX0_listThirds 5 = .ok (.aload_n 0, 1) := by decide +kernel
theorem dX0_listThirds_6 : decode cX0_listThirds 6 = .ok (.getfield 9, 3) := by decide +kernel
theorem dX0_listThirds_9 : decode cX0_listThirds 9 = .ok (.getfield 86, 3) := by decide +kernel
theorem dX0_listThirds_12 : decode cX0_listThirds 12 = .ok (.if_icmp .ge 57, 3) := by decide +kernel
theorem dX0_listThirds_15 : decode cX0_listThirds 15 = .ok (.iload_n 2, 1) := by decide +kernel
theorem dX0_listThirds_16 : decode cX0_listThirds 16 = .ok (.iconst 1, 1) := by decide +kernel
theorem dX0_listThirds_17 : decode cX0_listThirds 17 = .ok (.iload 4, 2) := by decide +kernel
theorem dX0_listThirds_19 : decode cX0_listThirds 19 = .ok (.ishl, 1) := by decide +kernel
theorem dX0_listThirds_20 : decode cX0_listThirds 20 = .ok (.ior, 1) := by decide +kernel
theorem dX0_listThirds_21 : decode cX0_listThirds 21 = .ok (.istore 5, 2) := by decide +kernel
theorem dX0_listThirds_23 : decode cX0_listThirds 23 = .ok (.aload_n 0, 1) := by decide +kernel
theorem dX0_listThirds_24 : decode cX0_listThirds 24 = .ok (.iload_n 1, 1) := by decide +kernel
theorem dX0_listThirds_25 : decode cX0_listThirds 25 = .ok (.iload 5, 2) := by decide +kernel
theorem dX0_listThirds_27 : decode cX0_listThirds 27 = .ok (.invokevirtual 128, 3) := by decide +kernel
theorem dX0_listThirds_30 : decode cX0_listThirds 30 = .ok (.ifCond .eq 33, 3) := by decide +kernel
theorem dX0_listThirds_33 : decode cX0_listThirds 33 = .ok (.aload_n 0, 1) := by decide +kernel
theorem dX0_listThirds_34 : decode cX0_listThirds 34 = .ok (.getfield 122, 3) := by decide +kernel
theorem dX0_listThirds_37 : decode cX0_listThirds 37 = .ok (.bipush 84, 2) := by decide +kernel
theorem dX0_listThirds_39 : decode cX0_listThirds 39 = .ok (.if_icmp .ge 24, 3) := by decide +kernel
theorem dX0_listThirds_42 : decode cX0_listThirds 42 = .ok (.aload_n 0, 1) := by decide +kernel
theorem dX0_listThirds_43 : decode cX0_listThirds 43 = .ok (.getfield 36, 3) := by decide +kernel
theorem dX0_listThirds_46 : decode cX0_listThirds 46 = .ok (.aload_n 0, 1) := by decide +kernel
theorem dX0_listThirds_47 : decode cX0_listThirds 47 = .ok (.getfield 122, 3) := by decide +kernel
theorem dX0_listThirds_50 : decode cX0_listThirds 50 = .ok (.iload 5, 2) := by decide +kernel
theorem dX0_listThirds_52 : decode cX0_listThirds 52 = .ok (.iastore, 1) := by decide +kernel
theorem dX0_listThirds_53 : decode cX0_listThirds 53 = .ok (.aload_n 0, 1) := by decide +kernel
theorem dX0_listThirds_54 : decode cX0_listThirds 54 = .ok (.dup, 1) := by decide +kernel
theorem dX0_listThirds_55 : decode cX0_listThirds 55 = .ok (.getfield 122, 3) := by decide +kernel
theorem dX0_listThirds_58 : decode cX0_listThirds 58 = .ok (.iconst 1, 1) := by decide +kernel
theorem dX0_listThirds_59 : decode cX0_listThirds 59 = .ok (.iadd, 1) := by decide +kernel
theorem dX0_listThirds_60 : decode cX0_listThirds 60 = .ok (.putfield 122, 3) := by decide +kernel
theorem dX0_listThirds_63 : decode cX0_listThirds 63 = .ok (.iinc 4 1, 3) := by decide +kernel
theorem dX0_listThirds_66 : decode cX0_listThirds 66 = .ok (.goto (-63), 3) := by decide +kernel
theorem dX0_listThirds_69 : decode cX0_listThirds 69 = .ok (.return_, 1) := by decide +kernel
theorem dX0_placeListed_0 : decode cX0_placeListed 0 = .ok (.iconst 0, 1) := by decide +kernel
theorem dX0_placeListed_1 : decode cX0_placeListed 1 = .ok (.istore_n 2, 1) := by decide +kernel
theorem dX0_placeListed_2 : decode cX0_placeListed 2 = .ok (.iload_n 2, 1) := by decide +kernel
theorem dX0_placeListed_3 : decode cX0_placeListed 3 = .ok (.aload_n 0, 1) := by decide +kernel
theorem dX0_placeListed_4 : decode cX0_placeListed 4 = .ok (.getfield 122, 3) := by decide +kernel
theorem dX0_placeListed_7 : decode cX0_placeListed 7 = .ok (.if_icmp .ge 21, 3) := by decide +kernel
theorem dX0_placeListed_10 : decode cX0_placeListed 10 = .ok (.aload_n 0, 1) := by decide +kernel
theorem dX0_placeListed_11 : decode cX0_placeListed 11 = .ok (.getfield 36, 3) := by decide +kernel
theorem dX0_placeListed_14 : decode cX0_placeListed 14 = .ok (.iload_n 2, 1) := by decide +kernel
theorem dX0_placeListed_15 : decode cX0_placeListed 15 = .ok (.iaload, 1) := by decide +kernel
theorem dX0_placeListed_16 : decode cX0_placeListed 16 = .ok (.iload_n 1, 1) := by decide +kernel
theorem dX0_placeListed_17 : decode cX0_placeListed 17 = .ok (.if_icmp .ne 5, 3) := by decide +kernel
theorem dX0_placeListed_20 : decode cX0_placeListed 20 = .ok (.iload_n 2, 1) := by decide +kernel
theorem dX0_placeListed_21 : decode cX0_placeListed 21 = .ok (.ireturn, 1) := by decide +kernel
theorem dX0_placeListed_22 : decode cX0_placeListed 22 = .ok (.iinc 2 1, 3) := by decide +kernel
theorem dX0_placeListed_25 : decode cX0_placeListed 25 = .ok (.goto (-23), 3) := by decide +kernel
theorem dX0_placeListed_28 : decode cX0_placeListed 28 = .ok (.iconst (-1), 1) := by decide +kernel
theorem dX0_placeListed_29 : decode cX0_placeListed 29 = .ok (.ireturn, 1) := by decide +kernel
theorem dX0_gatherPool_0 : decode cX0_gatherPool 0 = .ok (.aload_n 0, 1) := by decide +kernel
theorem dX0_gatherPool_1 : decode cX0_gatherPool 1 = .ok (.iload_n 1, 1) := by decide +kernel
theorem dX0_gatherPool_2 : decode cX0_gatherPool 2 = .ok (.invokevirtual 131, 3) := by decide +kernel
theorem dX0_gatherPool_5 : decode cX0_gatherPool 5 = .ok (.aload_n 0, 1) := by decide +kernel
theorem dX0_gatherPool_6 : decode cX0_gatherPool 6 = .ok (.iload_n 1, 1) := by decide +kernel
theorem dX0_gatherPool_7 : decode cX0_gatherPool 7 = .ok (.invokevirtual 135, 3) := by decide +kernel
theorem dX0_gatherPool_10 : decode cX0_gatherPool 10 = .ok (.iconst 0, 1) := by decide +kernel
theorem dX0_gatherPool_11 : decode cX0_gatherPool 11 = .ok (.istore_n 2, 1) := by decide +kernel
theorem dX0_gatherPool_12 : decode cX0_gatherPool 12 = .ok (.iload_n 2, 1) := by decide +kernel
theorem dX0_gatherPool_13 : decode cX0_gatherPool 13 = .ok (.aload_n 0, 1) := by decide +kernel
theorem dX0_gatherPool_14 : decode cX0_gatherPool 14 = .ok (.getfield 122, 3) := by decide +kernel
theorem dX0_gatherPool_17 : decode cX0_gatherPool 17 = .ok (.if_icmp .ge 25, 3) := by decide +kernel
theorem dX0_gatherPool_20 : decode cX0_gatherPool 20 = .ok (.aload_n 0, 1) := by decide +kernel
theorem dX0_gatherPool_21 : decode cX0_gatherPool 21 = .ok (.getfield 39, 3) := by decide +kernel
theorem dX0_gatherPool_24 : decode cX0_gatherPool 24 = .ok (.iload_n 2, 1) := by decide +kernel
theorem dX0_gatherPool_25 : decode cX0_gatherPool 25 = .ok (.aload_n 0, 1) := by decide +kernel
theorem dX0_gatherPool_26 : decode cX0_gatherPool 26 = .ok (.aload_n 0, 1) := by decide +kernel
theorem dX0_gatherPool_27 : decode cX0_gatherPool 27 = .ok (.getfield 36, 3) := by decide +kernel
theorem dX0_gatherPool_30 : decode cX0_gatherPool 30 = .ok (.iload_n 2, 1) := by decide +kernel
theorem dX0_gatherPool_31 : decode cX0_gatherPool 31 = .ok (.iaload, 1) := by decide +kernel
theorem dX0_gatherPool_32 : decode cX0_gatherPool 32 = .ok (.invokevirtual 138, 3) := by decide +kernel
theorem dX0_gatherPool_35 : decode cX0_gatherPool 35 = .ok (.iastore, 1) := by decide +kernel
theorem dX0_gatherPool_36 : decode cX0_gatherPool 36 = .ok (.iinc 2 1, 3) := by decide +kernel
theorem dX0_gatherPool_39 : decode cX0_gatherPool 39 = .ok (.goto (-27), 3) := by decide +kernel
theorem dX0_gatherPool_42 : decode cX0_gatherPool 42 = .ok (.aload_n 0, 1) := by decide +kernel
theorem dX0_gatherPool_43 : decode cX0_gatherPool 43 = .ok (.iconst 0, 1) := by decide +kernel
theorem dX0_gatherPool_44 : decode cX0_gatherPool 44 = .ok (.putfield 141, 3) := by decide +kernel
theorem dX0_gatherPool_47 : decode cX0_gatherPool 47 = .ok (.aload_n 0, 1) := by decide +kernel
theorem dX0_gatherPool_48 : decode cX0_gatherPool 48 = .ok (.iconst (-1), 1) := by decide +kernel
theorem dX0_gatherPool_49 : decode cX0_gatherPool 49 = .ok (.putfield 144, 3) := by decide +kernel
theorem dX0_gatherPool_52 : decode cX0_gatherPool 52 = .ok (.iconst 0, 1) := by decide +kernel
theorem dX0_gatherPool_53 : decode cX0_gatherPool 53 = .ok (.istore_n 2, 1) := by decide +kernel
theorem dX0_gatherPool_54 : decode cX0_gatherPool 54 = .ok (.iload_n 2, 1) := by decide +kernel
theorem dX0_gatherPool_55 : decode cX0_gatherPool 55 = .ok (.aload_n 0, 1) := by decide +kernel
theorem dX0_gatherPool_56 : decode cX0_gatherPool 56 = .ok (.getfield 122, 3) := by decide +kernel
theorem dX0_gatherPool_59 : decode cX0_gatherPool 59 = .ok (.if_icmp .ge 63, 3) := by decide +kernel
theorem dX0_gatherPool_62 : decode cX0_gatherPool 62 = .ok (.aload_n 0, 1) := by decide +kernel
theorem dX0_gatherPool_63 : decode cX0_gatherPool 63 = .ok (.getfield 141, 3) := by decide +kernel
theorem dX0_gatherPool_66 : decode cX0_gatherPool 66 = .ok (.aload_n 0, 1) := by decide +kernel
theorem dX0_gatherPool_67 : decode cX0_gatherPool 67 = .ok (.getfield 122, 3) := by decide +kernel
theorem dX0_gatherPool_70 : decode cX0_gatherPool 70 = .ok (.if_icmp .ge 52, 3) := by decide +kernel
theorem dX0_gatherPool_73 : decode cX0_gatherPool 73 = .ok (.aload_n 0, 1) := by decide +kernel
theorem dX0_gatherPool_74 : decode cX0_gatherPool 74 = .ok (.getfield 141, 3) := by decide +kernel
theorem dX0_gatherPool_77 : decode cX0_gatherPool 77 = .ok (.aload_n 0, 1) := by decide +kernel
theorem dX0_gatherPool_78 : decode cX0_gatherPool 78 = .ok (.getfield 9, 3) := by decide +kernel
theorem dX0_gatherPool_81 : decode cX0_gatherPool 81 = .ok (.getfield 147, 3) := by decide +kernel
theorem dX0_gatherPool_84 : decode cX0_gatherPool 84 = .ok (.if_icmp .ge 38, 3) := by decide +kernel
theorem dX0_gatherPool_87 : decode cX0_gatherPool 87 = .ok (.aload_n 0, 1) := by decide +kernel
theorem dX0_gatherPool_88 : decode cX0_gatherPool 88 = .ok (.aload_n 0, 1) := by decide +kernel
theorem dX0_gatherPool_89 : decode cX0_gatherPool 89 = .ok (.aload_n 0, 1) := by decide +kernel
theorem dX0_gatherPool_90 : decode cX0_gatherPool 90 = .ok (.getfield 144, 3) := by decide +kernel
theorem dX0_gatherPool_93 : decode cX0_gatherPool 93 = .ok (.invokevirtual 150, 3) := by decide +kernel
theorem dX0_gatherPool_96 : decode cX0_gatherPool 96 = .ok (.putfield 144, 3) := by decide +kernel
theorem dX0_gatherPool_99 : decode cX0_gatherPool 99 = .ok (.aload_n 0, 1) := by decide +kernel
theorem dX0_gatherPool_100 : decode cX0_gatherPool 100 = .ok (.dup, 1) := by decide +kernel
theorem dX0_gatherPool_101 : decode cX0_gatherPool 101 = .ok (.getfield 141, 3) := by decide +kernel
theorem dX0_gatherPool_104 : decode cX0_gatherPool 104 = .ok (.aload_n 0, 1) := by decide +kernel
theorem dX0_gatherPool_105 : decode cX0_gatherPool 105 = .ok (.aload_n 0, 1) := by decide +kernel
theorem dX0_gatherPool_106 : decode cX0_gatherPool 106 = .ok (.getfield 144, 3) := by decide +kernel
theorem dX0_gatherPool_109 : decode cX0_gatherPool 109 = .ok (.invokevirtual 153, 3) := by decide +kernel
theorem dX0_gatherPool_112 : decode cX0_gatherPool 112 = .ok (.iadd, 1) := by decide +kernel
theorem dX0_gatherPool_113 : decode cX0_gatherPool 113 = .ok (.putfield 141, 3) := by decide +kernel
theorem dX0_gatherPool_116 : decode cX0_gatherPool 116 = .ok (.iinc 2 1, 3) := by decide +kernel
theorem dX0_gatherPool_119 : decode cX0_gatherPool 119 = .ok (.goto (-65), 3) := by decide +kernel
theorem dX0_gatherPool_122 : decode cX0_gatherPool 122 = .ok (.return_, 1) := by decide +kernel
theorem dX0_leastTensionAbove_0 : decode cX0_leastTensionAbove 0 = .ok (.ldc 107, 2) := by decide +kernel
theorem dX0_leastTensionAbove_2 : decode cX0_leastTensionAbove 2 = .ok (.istore_n 2, 1) := by decide +kernel
theorem dX0_leastTensionAbove_3 : decode cX0_leastTensionAbove 3 = .ok (.iconst 0, 1) := by decide +kernel
theorem dX0_leastTensionAbove_4 : decode cX0_leastTensionAbove 4 = .ok (.istore_n 3, 1) := by decide +kernel
theorem dX0_leastTensionAbove_5 : decode cX0_leastTensionAbove 5 = .ok (.iload_n 3, 1) := by decide +kernel
theorem dX0_leastTensionAbove_6 : decode cX0_leastTensionAbove 6 = .ok (.aload_n 0, 1) := by decide +kernel
theorem dX0_leastTensionAbove_7 : decode cX0_leastTensionAbove 7 = .ok (.getfield 122, 3) := by decide +kernel
theorem dX0_leastTensionAbove_10 : decode cX0_leastTensionAbove 10 = .ok (.if_icmp .ge 30, 3) := by decide +kernel
theorem dX0_leastTensionAbove_13 : decode cX0_leastTensionAbove 13 = .ok (.aload_n 0, 1) := by decide +kernel
theorem dX0_leastTensionAbove_14 : decode cX0_leastTensionAbove 14 = .ok (.getfield 39, 3) := by decide +kernel
theorem dX0_leastTensionAbove_17 : decode cX0_leastTensionAbove 17 = .ok (.iload_n 3, 1) := by decide +kernel
theorem dX0_leastTensionAbove_18 : decode cX0_leastTensionAbove 18 = .ok (.iaload, 1) := by decide +kernel
theorem dX0_leastTensionAbove_19 : decode cX0_leastTensionAbove 19 = .ok (.iload_n 1, 1) := by decide +kernel
theorem dX0_leastTensionAbove_20 : decode cX0_leastTensionAbove 20 = .ok (.if_icmp .le 14, 3) := by decide +kernel
theorem dX0_leastTensionAbove_23 : decode cX0_leastTensionAbove 23 = .ok (.iload_n 2, 1) := by decide +kernel
theorem dX0_leastTensionAbove_24 : decode cX0_leastTensionAbove 24 = .ok (.aload_n 0, 1) := by decide +kernel
theorem dX0_leastTensionAbove_25 : decode cX0_leastTensionAbove 25 = .ok (.getfield 39, 3) := by decide +kernel
theorem dX0_leastTensionAbove_28 : decode cX0_leastTensionAbove 28 = .ok (.iload_n 3, 1) := by decide +kernel
theorem dX0_leastTensionAbove_29 : decode cX0_leastTensionAbove 29 = .ok (.iaload, 1) := by decide +kernel
theorem dX0_leastTensionAbove_30 : decode cX0_leastTensionAbove 30 = .ok (.invokestatic 113, 3) := by decide +kernel
theorem dX0_leastTensionAbove_33 : decode cX0_leastTensionAbove 33 = .ok (.istore_n 2, 1) := by decide +kernel
theorem dX0_leastTensionAbove_34 : decode cX0_leastTensionAbove 34 = .ok (.iinc 3 1, 3) := by decide +kernel
theorem dX0_leastTensionAbove_37 : decode cX0_leastTensionAbove 37 = .ok (.goto (-32), 3) := by decide +kernel
theorem dX0_leastTensionAbove_40 : decode cX0_leastTensionAbove 40 = .ok (.iload_n 2, 1) := by decide +kernel
theorem dX0_leastTensionAbove_41 : decode cX0_leastTensionAbove 41 = .ok (.ireturn, 1) := by decide +kernel
theorem dX0_countListedAt_0 : decode cX0_countListedAt 0 = .ok (.iconst 0, 1) := by decide +kernel
theorem dX0_countListedAt_1 : decode cX0_countListedAt 1 = .ok (.istore_n 2, 1) := by decide +kernel
theorem dX0_countListedAt_2 : decode cX0_countListedAt 2 = .ok (.iconst 0, 1) := by decide +kernel
theorem dX0_countListedAt_3 : decode cX0_countListedAt 3 = .ok (.istore_n 3, 1) := by decide +kernel
theorem dX0_countListedAt_4 : decode cX0_countListedAt 4 = .ok (.iload_n 3, 1) := by decide +kernel
theorem dX0_countListedAt_5 : decode cX0_countListedAt 5 = .ok (.aload_n 0, 1) := by decide +kernel
theorem dX0_countListedAt_6 : decode cX0_countListedAt 6 = .ok (.getfield 122, 3) := by decide +kernel
theorem dX0_countListedAt_9 : decode cX0_countListedAt 9 = .ok (.if_icmp .ge 22, 3) := by decide +kernel
theorem dX0_countListedAt_12 : decode cX0_countListedAt 12 = .ok (.aload_n 0, 1) := by decide +kernel
theorem dX0_countListedAt_13 : decode cX0_countListedAt 13 = .ok (.getfield 39, 3) := by decide +kernel
theorem dX0_countListedAt_16 : decode cX0_countListedAt 16 = .ok (.iload_n 3, 1) := by decide +kernel
theorem dX0_countListedAt_17 : decode cX0_countListedAt 17 = .ok (.iaload, 1) := by decide +kernel
theorem dX0_countListedAt_18 : decode cX0_countListedAt 18 = .ok (.iload_n 1, 1) := by decide +kernel
theorem dX0_countListedAt_19 : decode cX0_countListedAt 19 = .ok (.if_icmp .ne 6, 3) := by decide +kernel
theorem dX0_countListedAt_22 : decode cX0_countListedAt 22 = .ok (.iinc 2 1, 3) := by decide +kernel
theorem dX0_countListedAt_25 : decode cX0_countListedAt 25 = .ok (.iinc 3 1, 3) := by decide +kernel
theorem dX0_countListedAt_28 : decode cX0_countListedAt 28 = .ok (.goto (-24), 3) := by decide +kernel
theorem dX0_countListedAt_31 : decode cX0_countListedAt 31 = .ok (.iload_n 2, 1) := by decide +kernel
theorem dX0_countListedAt_32 : decode cX0_countListedAt 32 = .ok (.ireturn, 1) := by decide +kernel
theorem dX0_pooledWith_0 : decode cX0_pooledWith 0 = .ok (.iconst 0, 1) := by decide +kernel
theorem dX0_pooledWith_1 : decode cX0_pooledWith 1 = .ok (.istore_n 2, 1) := by decide +kernel
theorem dX0_pooledWith_2 : decode cX0_pooledWith 2 = .ok (.iconst 0, 1) := by decide +kernel
theorem dX0_pooledWith_3 : decode cX0_pooledWith 3 = .ok (.istore_n 3, 1) := by decide +kernel
theorem dX0_pooledWith_4 : decode cX0_pooledWith 4 = .ok (.iload_n 3, 1) := by decide +kernel
theorem dX0_pooledWith_5 : decode cX0_pooledWith 5 = .ok (.aload_n 0, 1) := by decide +kernel
theorem dX0_pooledWith_6 : decode cX0_pooledWith 6 = .ok (.getfield 122, 3) := by decide +kernel
theorem dX0_pooledWith_9 : decode cX0_pooledWith 9 = .ok (.if_icmp .ge 38, 3) := by decide +kernel
theorem dX0_pooledWith_12 : decode cX0_pooledWith 12 = .ok (.aload_n 0, 1) := by decide +kernel
theorem dX0_pooledWith_13 : decode cX0_pooledWith 13 = .ok (.getfield 39, 3) := by decide +kernel
theorem dX0_pooledWith_16 : decode cX0_pooledWith 16 = .ok (.iload_n 3, 1) := by decide +kernel
theorem dX0_pooledWith_17 : decode cX0_pooledWith 17 = .ok (.iaload, 1) := by decide +kernel
theorem dX0_pooledWith_18 : decode cX0_pooledWith 18 = .ok (.aload_n 0, 1) := by decide +kernel
theorem dX0_pooledWith_19 : decode cX0_pooledWith 19 = .ok (.getfield 144, 3) := by decide +kernel
theorem dX0_pooledWith_22 : decode cX0_pooledWith 22 = .ok (.if_icmp .gt 19, 3) := by decide +kernel
theorem dX0_pooledWith_25 : decode cX0_pooledWith 25 = .ok (.aload_n 0, 1) := by decide +kernel
theorem dX0_pooledWith_26 : decode cX0_pooledWith 26 = .ok (.getfield 36, 3) := by decide +kernel
theorem dX0_pooledWith_29 : decode cX0_pooledWith 29 = .ok (.iload_n 3, 1) := by decide +kernel
theorem dX0_pooledWith_30 : decode cX0_pooledWith 30 = .ok (.iaload, 1) := by decide +kernel
theorem dX0_pooledWith_31 : decode cX0_pooledWith 31 = .ok (.iload_n 1, 1) := by decide +kernel
theorem dX0_pooledWith_32 : decode cX0_pooledWith 32 = .ok (.invokestatic 62, 3) := by decide +kernel
theorem dX0_pooledWith_35 : decode cX0_pooledWith 35 = .ok (.ifCond .eq 6, 3) := by decide +kernel
theorem dX0_pooledWith_38 : decode cX0_pooledWith 38 = .ok (.iinc 2 1, 3) := by decide +kernel
theorem dX0_pooledWith_41 : decode cX0_pooledWith 41 = .ok (.iinc 3 1, 3) := by decide +kernel
theorem dX0_pooledWith_44 : decode cX0_pooledWith 44 = .ok (.goto (-40), 3) := by decide +kernel
theorem dX0_pooledWith_47 : decode cX0_pooledWith 47 = .ok (.iload_n 2, 1) := by decide +kernel
theorem dX0_pooledWith_48 : decode cX0_pooledWith 48 = .ok (.ireturn, 1) := by decide +kernel
theorem dX0_pooledAt_0 : decode cX0_pooledAt 0 = .ok (.iload_n 1, 1) := by decide +kernel
theorem dX0_pooledAt_1 : decode cX0_pooledAt 1 = .ok (.istore_n 2, 1) := by decide +kernel
theorem dX0_pooledAt_2 : decode cX0_pooledAt 2 = .ok (.iconst 0, 1) := by decide +kernel
theorem dX0_pooledAt_3 : decode cX0_pooledAt 3 = .ok (.istore_n 3, 1) := by decide +kernel
theorem dX0_pooledAt_4 : decode cX0_pooledAt 4 = .ok (.iload_n 3, 1) := by decide +kernel
theorem dX0_pooledAt_5 : decode cX0_pooledAt 5 = .ok (.aload_n 0, 1) := by decide +kernel
theorem dX0_pooledAt_6 : decode cX0_pooledAt 6 = .ok (.getfield 122, 3) := by decide +kernel
theorem dX0_pooledAt_9 : decode cX0_pooledAt 9 = .ok (.if_icmp .ge 36, 3) := by decide +kernel
theorem dX0_pooledAt_12 : decode cX0_pooledAt 12 = .ok (.aload_n 0, 1) := by decide +kernel
theorem dX0_pooledAt_13 : decode cX0_pooledAt 13 = .ok (.getfield 39, 3) := by decide +kernel
theorem dX0_pooledAt_16 : decode cX0_pooledAt 16 = .ok (.iload_n 3, 1) := by decide +kernel
theorem dX0_pooledAt_17 : decode cX0_pooledAt 17 = .ok (.iaload, 1) := by decide +kernel
theorem dX0_pooledAt_18 : decode cX0_pooledAt 18 = .ok (.aload_n 0, 1) := by decide +kernel
theorem dX0_pooledAt_19 : decode cX0_pooledAt 19 = .ok (.getfield 144, 3) := by decide +kernel
theorem dX0_pooledAt_22 : decode cX0_pooledAt 22 = .ok (.if_icmp .gt 17, 3) := by decide +kernel
theorem dX0_pooledAt_25 : decode cX0_pooledAt 25 = .ok (.iload_n 2, 1) := by decide +kernel
theorem dX0_pooledAt_26 : decode cX0_pooledAt 26 = .ok (.ifCond .ne 10, 3) := by decide +kernel
theorem dX0_pooledAt_29 : decode cX0_pooledAt 29 = .ok (.aload_n 0, 1) := by decide +kernel
theorem dX0_pooledAt_30 : decode cX0_pooledAt 30 = .ok (.getfield 36, 3) := by decide +kernel
theorem dX0_pooledAt_33 : decode cX0_pooledAt 33 = .ok (.iload_n 3, 1) := by decide +kernel
theorem dX0_pooledAt_34 : decode cX0_pooledAt 34 = .ok (.iaload, 1) := by decide +kernel
theorem dX0_pooledAt_35 : decode cX0_pooledAt 35 = .ok (.ireturn, 1) := by decide +kernel
theorem dX0_pooledAt_36 : decode cX0_pooledAt 36 = .ok (.iinc 2 (-1), 3) := by decide +kernel
theorem dX0_pooledAt_39 : decode cX0_pooledAt 39 = .ok (.iinc 3 1, 3) := by decide +kernel
theorem dX0_pooledAt_42 : decode cX0_pooledAt 42 = .ok (.goto (-38), 3) := by decide +kernel
theorem dX0_pooledAt_45 : decode cX0_pooledAt 45 = .ok (.iconst (-1), 1) := by decide +kernel
theorem dX0_pooledAt_46 : decode cX0_pooledAt 46 = .ok (.ireturn, 1) := by decide +kernel
theorem dX0_drawOne_0 : decode cX0_drawOne 0 = .ok (.aload_n 0, 1) := by decide +kernel
theorem dX0_drawOne_1 : decode cX0_drawOne 1 = .ok (.iload_n 1, 1) := by decide +kernel
theorem dX0_drawOne_2 : decode cX0_drawOne 2 = .ok (.invokevirtual 156, 3) := by decide +kernel
theorem dX0_drawOne_5 : decode cX0_drawOne 5 = .ok (.aload_n 0, 1) := by decide +kernel
theorem dX0_drawOne_6 : decode cX0_drawOne 6 = .ok (.getfield 141, 3) := by decide +kernel
theorem dX0_drawOne_9 : decode cX0_drawOne 9 = .ok (.ifCond .gt 5, 3) := by decide +kernel
theorem dX0_drawOne_12 : decode cX0_drawOne 12 = .ok (.iconst (-1), 1) := by decide +kernel
theorem dX0_drawOne_13 : decode cX0_drawOne 13 = .ok (.ireturn, 1) := by decide +kernel
theorem dX0_drawOne_14 : decode cX0_drawOne 14 = .ok (.aload_n 0, 1) := by decide +kernel
theorem dX0_drawOne_15 : decode cX0_drawOne 15 = .ok (.getfield 18, 3) := by decide +kernel
theorem dX0_drawOne_18 : decode cX0_drawOne 18 = .ok (.aload_n 0, 1) := by decide +kernel
theorem dX0_drawOne_19 : decode cX0_drawOne 19 = .ok (.getfield 18, 3) := by decide +kernel
theorem dX0_drawOne_22 : decode cX0_drawOne 22 = .ok (.getfield 159, 3) := by decide +kernel
theorem dX0_drawOne_25 : decode cX0_drawOne 25 = .ok (.ldc 162, 2) := by decide +kernel
theorem dX0_drawOne_27 : decode cX0_drawOne 27 = .ok (.imul, 1) := by decide +kernel
theorem dX0_drawOne_28 : decode cX0_drawOne 28 = .ok (.sipush 12345, 3) := by decide +kernel
theorem dX0_drawOne_31 : decode cX0_drawOne 31 = .ok (.iadd, 1) := by decide +kernel
theorem dX0_drawOne_32 : decode cX0_drawOne 32 = .ok (.putfield 159, 3) := by decide +kernel
theorem dX0_drawOne_35 : decode cX0_drawOne 35 = .ok (.aload_n 0, 1) := by decide +kernel
theorem dX0_drawOne_36 : decode cX0_drawOne 36 = .ok (.aload_n 0, 1) := by decide +kernel
theorem dX0_drawOne_37 : decode cX0_drawOne 37 = .ok (.getfield 18, 3) := by decide +kernel
theorem dX0_drawOne_40 : decode cX0_drawOne 40 = .ok (.getfield 159, 3) := by decide +kernel
theorem dX0_drawOne_43 : decode cX0_drawOne 43 = .ok (.bipush 8, 2) := by decide +kernel
theorem dX0_drawOne_45 : decode cX0_drawOne 45 = .ok (.iushr, 1) := by decide +kernel
theorem dX0_drawOne_46 : decode cX0_drawOne 46 = .ok (.aload_n 0, 1) := by decide +kernel
theorem dX0_drawOne_47 : decode cX0_drawOne 47 = .ok (.getfield 141, 3) := by decide +kernel
theorem dX0_drawOne_50 : decode cX0_drawOne 50 = .ok (.irem, 1) := by decide +kernel
theorem dX0_drawOne_51 : decode cX0_drawOne 51 = .ok (.invokevirtual 163, 3) := by decide +kernel
theorem dX0_drawOne_54 : decode cX0_drawOne 54 = .ok (.istore_n 2, 1) := by decide +kernel
theorem dX0_drawOne_55 : decode cX0_drawOne 55 = .ok (.aload_n 0, 1) := by decide +kernel
theorem dX0_drawOne_56 : decode cX0_drawOne 56 = .ok (.getfield 18, 3) := by decide +kernel
theorem dX0_drawOne_59 : decode cX0_drawOne 59 = .ok (.getfield 59, 3) := by decide +kernel
theorem dX0_drawOne_62 : decode cX0_drawOne 62 = .ok (.iload_n 1, 1) := by decide +kernel
theorem dX0_drawOne_63 : decode cX0_drawOne 63 = .ok (.iload_n 2, 1) := by decide +kernel
theorem dX0_drawOne_64 : decode cX0_drawOne 64 = .ok (.iastore, 1) := by decide +kernel
theorem dX0_drawOne_65 : decode cX0_drawOne 65 = .ok (.aload_n 0, 1) := by decide +kernel
theorem dX0_drawOne_66 : decode cX0_drawOne 66 = .ok (.getfield 18, 3) := by decide +kernel
theorem dX0_drawOne_69 : decode cX0_drawOne 69 = .ok (.getfield 52, 3) := by decide +kernel
theorem dX0_drawOne_72 : decode cX0_drawOne 72 = .ok (.iload_n 1, 1) := by decide +kernel
theorem dX0_drawOne_73 : decode cX0_drawOne 73 = .ok (.iconst 1, 1) := by decide +kernel
theorem dX0_drawOne_74 : decode cX0_drawOne 74 = .ok (.iastore, 1) := by decide +kernel
theorem dX0_drawOne_75 : decode cX0_drawOne 75 = .ok (.iload_n 2, 1) := by decide +kernel
theorem dX0_drawOne_76 : decode cX0_drawOne 76 = .ok (.ireturn, 1) := by decide +kernel
theorem dX0_drawEveryOpen_0 : decode cX0_drawEveryOpen 0 = .ok (.iconst 0, 1) := by decide +kernel
theorem dX0_drawEveryOpen_1 : decode cX0_drawEveryOpen 1 = .ok (.istore_n 1, 1) := by decide +kernel
theorem dX0_drawEveryOpen_2 : decode cX0_drawEveryOpen 2 = .ok (.iconst 0, 1) := by decide +kernel
theorem dX0_drawEveryOpen_3 : decode cX0_drawEveryOpen 3 = .ok (.istore_n 2, 1) := by decide +kernel
theorem dX0_drawEveryOpen_4 : decode cX0_drawEveryOpen 4 = .ok (.iload_n 2, 1) := by decide +kernel
theorem dX0_drawEveryOpen_5 : decode cX0_drawEveryOpen 5 = .ok (.aload_n 0, 1) := by decide +kernel
theorem dX0_drawEveryOpen_6 : decode cX0_drawEveryOpen 6 = .ok (.getfield 9, 3) := by decide +kernel
theorem dX0_drawEveryOpen_9 : decode cX0_drawEveryOpen 9 = .ok (.getfield 55, 3) := by decide +kernel
theorem dX0_drawEveryOpen_12 : decode cX0_drawEveryOpen 12 = .ok (.if_icmp .ge 33, 3) := by decide +kernel
theorem dX0_drawEveryOpen_15 : decode cX0_drawEveryOpen 15 = .ok (.aload_n 0, 1) := by decide +kernel
theorem dX0_drawEveryOpen_16 : decode cX0_drawEveryOpen 16 = .ok (.getfield 18, 3) := by decide +kernel
theorem dX0_drawEveryOpen_19 : decode cX0_drawEveryOpen 19 = .ok (.getfield 52, 3) := by decide +kernel
theorem dX0_drawEveryOpen_22 : decode cX0_drawEveryOpen 22 = .ok (.iload_n 2, 1) := by decide +kernel
theorem dX0_drawEveryOpen_23 : decode cX0_drawEveryOpen 23 = .ok (.iaload, 1) := by decide +kernel
theorem dX0_drawEveryOpen_24 : decode cX0_drawEveryOpen 24 = .ok (.ifCond .ne 15, 3) := by decide +kernel
theorem dX0_drawEveryOpen_27 : decode cX0_drawEveryOpen 27 = .ok (.aload_n 0, 1) := by decide +kernel
theorem dX0_drawEveryOpen_28 : decode cX0_drawEveryOpen 28 = .ok (.iload_n 2, 1) := by decide +kernel
theorem dX0_drawEveryOpen_29 : decode cX0_drawEveryOpen 29 = .ok (.invokevirtual 166, 3) := by decide +kernel
theorem dX0_drawEveryOpen_32 : decode cX0_drawEveryOpen 32 = .ok (.iconst (-1), 1) := by decide +kernel
theorem dX0_drawEveryOpen_33 : decode cX0_drawEveryOpen 33 = .ok (.if_icmp .eq 6, 3) := by decide +kernel
theorem dX0_drawEveryOpen_36 : decode cX0_drawEveryOpen 36 = .ok (.iinc 1 1, 3) := by decide +kernel
theorem dX0_drawEveryOpen_39 : decode cX0_drawEveryOpen 39 = .ok (.iinc 2 1, 3) := by decide +kernel
theorem dX0_drawEveryOpen_42 : decode cX0_drawEveryOpen 42 = .ok (.goto (-38), 3) := by decide +kernel
theorem dX0_drawEveryOpen_45 : decode cX0_drawEveryOpen 45 = .ok (.iload_n 1, 1) := by decide +kernel
theorem dX0_drawEveryOpen_46 : decode cX0_drawEveryOpen 46 = .ok (.ireturn, 1) := by decide +kernel
theorem dX0_repair_0 : decode cX0_repair 0 = .ok (.aload_n 0, 1) := by decide +kernel
theorem dX0_repair_1 : decode cX0_repair 1 = .ok (.getfield 18, 3) := by decide +kernel
theorem dX0_repair_4 : decode cX0_repair 4 = .ok (.getfield 59, 3) := by decide +kernel
theorem dX0_repair_7 : decode cX0_repair 7 = .ok (.iload_n 1, 1) := by decide +kernel
theorem dX0_repair_8 : decode cX0_repair 8 = .ok (.iaload, 1) := by decide +kernel
theorem dX0_repair_9 : decode cX0_repair 9 = .ok (.iconst 1, 1) := by decide +kernel
theorem dX0_repair_10 : decode cX0_repair 10 = .ok (.iload_n 2, 1) := by decide +kernel
theorem dX0_repair_11 : decode cX0_repair 11 = .ok (.ishl, 1) := by decide +kernel
theorem dX0_repair_12 : decode cX0_repair 12 = .ok (.iconst (-1), 1) := by decide +kernel
theorem dX0_repair_13 : decode cX0_repair 13 = .ok (.ixor, 1) := by decide +kernel
theorem dX0_repair_14 : decode cX0_repair 14 = .ok (.iand, 1) := by decide +kernel
theorem dX0_repair_15 : decode cX0_repair 15 = .ok (.istore_n 3, 1) := by decide +kernel
theorem dX0_repair_16 : decode cX0_repair 16 = .ok (.aload_n 0, 1) := by decide +kernel
theorem dX0_repair_17 : decode cX0_repair 17 = .ok (.iload_n 1, 1) := by decide +kernel
theorem dX0_repair_18 : decode cX0_repair 18 = .ok (.invokevirtual 135, 3) := by decide +kernel
theorem dX0_repair_21 : decode cX0_repair 21 = .ok (.iconst (-1), 1) := by decide +kernel
theorem dX0_repair_22 : decode cX0_repair 22 = .ok (.istore 4, 2) := by decide +kernel
theorem dX0_repair_24 : decode cX0_repair 24 = .ok (.iconst 0, 1) := by decide +kernel
theorem dX0_repair_25 : decode cX0_repair 25 = .ok (.istore 5, 2) := by decide +kernel
theorem dX0_repair_27 : decode cX0_repair 27 = .ok (.iconst 0, 1) := by decide +kernel
theorem dX0_repair_28 : decode cX0_repair 28 = .ok (.istore 6, 2) := by decide +kernel
theorem dX0_repair_30 : decode cX0_repair 30 = .ok (.iload 6, 2) := by decide +kernel
theorem dX0_repair_32 : decode cX0_repair 32 = .ok (.aload_n 0, 1) := by decide +kernel
theorem dX0_repair_33 : decode cX0_repair 33 = .ok (.getfield 9, 3) := by decide +kernel
theorem dX0_repair_36 : decode cX0_repair 36 = .ok (.getfield 86, 3) := by decide +kernel
theorem dX0_repair_39 : decode cX0_repair 39 = .ok (.if_icmp .ge 73, 3) := by decide +kernel
theorem dX0_repair_42 : decode cX0_repair 42 = .ok (.iload_n 3, 1) := by decide +kernel
theorem dX0_repair_43 : decode cX0_repair 43 = .ok (.iconst 1, 1) := by decide +kernel
theorem dX0_repair_44 : decode cX0_repair 44 = .ok (.iload 6, 2) := by decide +kernel
theorem dX0_repair_46 : decode cX0_repair 46 = .ok (.ishl, 1) := by decide +kernel
theorem dX0_repair_47 : decode cX0_repair 47 = .ok (.ior, 1) := by decide +kernel
theorem dX0_repair_48 : decode cX0_repair 48 = .ok (.istore 7, 2) := by decide +kernel
theorem dX0_repair_50 : decode cX0_repair 50 = .ok (.aload_n 0, 1) := by decide +kernel
theorem dX0_repair_51 : decode cX0_repair 51 = .ok (.getfield 18, 3) := by decide +kernel
theorem dX0_repair_54 : decode cX0_repair 54 = .ok (.getfield 59, 3) := by decide +kernel
theorem dX0_repair_57 : decode cX0_repair 57 = .ok (.iload_n 1, 1) := by decide +kernel
theorem dX0_repair_58 : decode cX0_repair 58 = .ok (.iaload, 1) := by decide +kernel
theorem dX0_repair_59 : decode cX0_repair 59 = .ok (.iload 6, 2) := by decide +kernel
theorem dX0_repair_61 : decode cX0_repair 61 = .ok (.invokestatic 62, 3) := by decide +kernel
theorem dX0_repair_64 : decode cX0_repair 64 = .ok (.ifCond .ne 42, 3) := by decide +kernel
theorem dX0_repair_67 : decode cX0_repair 67 = .ok (.aload_n 0, 1) := by decide +kernel
theorem dX0_repair_68 : decode cX0_repair 68 = .ok (.iload_n 1, 1) := by decide +kernel
theorem dX0_repair_69 : decode cX0_repair 69 = .ok (.iload 7, 2) := by decide +kernel
theorem dX0_repair_71 : decode cX0_repair 71 = .ok (.invokevirtual 128, 3) := by decide +kernel
theorem dX0_repair_74 : decode cX0_repair 74 = .ok (.ifCond .eq 32, 3) := by decide +kernel
theorem dX0_repair_77 : decode cX0_repair 77 = .ok (.aload_n 0, 1) := by decide +kernel
theorem dX0_repair_78 : decode cX0_repair 78 = .ok (.iload 7, 2) := by decide +kernel
theorem dX0_repair_80 : decode cX0_repair 80 = .ok (.invokevirtual 138, 3) := by decide +kernel
theorem dX0_repair_83 : decode cX0_repair 83 = .ok (.istore 8, 2) := by decide +kernel
theorem dX0_repair_85 : decode cX0_repair 85 = .ok (.iload 4, 2) := by decide +kernel
theorem dX0_repair_87 : decode cX0_repair 87 = .ok (.iconst (-1), 1) := by decide +kernel
theorem dX0_repair_88 : decode cX0_repair 88 = .ok (.if_icmp .eq 10, 3) := by decide +kernel
theorem dX0_repair_91 : decode cX0_repair 91 = .ok (.iload 8, 2) := by decide +kernel
theorem dX0_repair_93 : decode cX0_repair 93 = .ok (.iload 5, 2) := by decide +kernel
theorem dX0_repair_95 : decode cX0_repair 95 = .ok (.if_icmp .ge 11, 3) := by decide +kernel
theorem dX0_repair_98 : decode cX0_repair 98 = .ok (.iload 6, 2) := by decide +kernel
theorem dX0_repair_100 : decode cX0_repair 100 = .ok (.istore 4, 2) := by decide +kernel
theorem dX0_repair_102 : decode cX0_repair 102 = .ok (.iload 8, 2) := by decide +kernel
theorem dX0_repair_104 : decode cX0_repair 104 = .ok (.istore 5, 2) := by decide +kernel
theorem dX0_repair_106 : decode cX0_repair 106 = .ok (.iinc 6 1, 3) := by decide +kernel
theorem dX0_repair_109 : decode cX0_repair 109 = .ok (.goto (-79), 3) := by decide +kernel
theorem dX0_repair_112 : decode cX0_repair 112 = .ok (.aload_n 0, 1) := by decide +kernel
theorem dX0_repair_113 : decode cX0_repair 113 = .ok (.getfield 18, 3) := by decide +kernel
theorem dX0_repair_116 : decode cX0_repair 116 = .ok (.getfield 59, 3) := by decide +kernel
theorem dX0_repair_119 : decode cX0_repair 119 = .ok (.iload_n 1, 1) := by decide +kernel
theorem dX0_repair_120 : decode cX0_repair 120 = .ok (.iload 4, 2) := by decide +kernel
theorem dX0_repair_122 : decode cX0_repair 122 = .ok (.iconst (-1), 1) := by decide +kernel
theorem dX0_repair_123 : decode cX0_repair 123 = .ok (.if_icmp .ne 7, 3) := by decide +kernel
theorem dX0_repair_126 : decode cX0_repair 126 = .ok (.iconst 0, 1) := by decide +kernel
theorem dX0_repair_127 : decode cX0_repair 127 = .ok (.goto 9, 3) := by decide +kernel
theorem dX0_repair_130 : decode cX0_repair 130 = .ok (.iload_n 3, 1) := by decide +kernel
theorem dX0_repair_131 : decode cX0_repair 131 = .ok (.iconst 1, 1) := by decide +kernel
theorem dX0_repair_132 : decode cX0_repair 132 = .ok (.iload 4, 2) := by decide +kernel
theorem dX0_repair_134 : decode cX0_repair 134 = .ok (.ishl, 1) := by decide +kernel
theorem dX0_repair_135 : decode cX0_repair 135 = .ok (.ior, 1) := by decide +kernel
theorem dX0_repair_136 : decode cX0_repair 136 = .ok (.iastore, 1) := by decide +kernel
theorem dX0_repair_137 : decode cX0_repair 137 = .ok (.aload_n 0, 1) := by decide +kernel
theorem dX0_repair_138 : decode cX0_repair 138 = .ok (.getfield 18, 3) := by decide +kernel
theorem dX0_repair_141 : decode cX0_repair 141 = .ok (.getfield 52, 3) := by decide +kernel
theorem dX0_repair_144 : decode cX0_repair 144 = .ok (.iload_n 1, 1) := by decide +kernel
theorem dX0_repair_145 : decode cX0_repair 145 = .ok (.iload 4, 2) := by decide +kernel
theorem dX0_repair_147 : decode cX0_repair 147 = .ok (.iconst (-1), 1) := by decide +kernel
theorem dX0_repair_148 : decode cX0_repair 148 = .ok (.if_icmp .ne 7, 3) := by decide +kernel
theorem dX0_repair_151 : decode cX0_repair 151 = .ok (.iconst 0, 1) := by decide +kernel
theorem dX0_repair_152 : decode cX0_repair 152 = .ok (.goto 4, 3) := by decide +kernel
theorem dX0_repair_155 : decode cX0_repair 155 = .ok (.iconst 1, 1) := by decide +kernel
theorem dX0_repair_156 : decode cX0_repair 156 = .ok (.iastore, 1) := by decide +kernel
theorem dX0_repair_157 : decode cX0_repair 157 = .ok (.iload 4, 2) := by decide +kernel
theorem dX0_repair_159 : decode cX0_repair 159 = .ok (.ireturn, 1) := by decide +kernel
theorem dX0_repairAllOf_0 : decode cX0_repairAllOf 0 = .ok (.iconst 0, 1) := by decide +kernel
theorem dX0_repairAllOf_1 : decode cX0_repairAllOf 1 = .ok (.istore_n 2, 1) := by decide +kernel
theorem dX0_repairAllOf_2 : decode cX0_repairAllOf 2 = .ok (.iconst 0, 1) := by decide +kernel
theorem dX0_repairAllOf_3 : decode cX0_repairAllOf 3 = .ok (.istore_n 3, 1) := by decide +kernel
theorem dX0_repairAllOf_4 : decode cX0_repairAllOf 4 = .ok (.iload_n 3, 1) := by decide +kernel
theorem dX0_repairAllOf_5 : decode cX0_repairAllOf 5 = .ok (.aload_n 0, 1) := by decide +kernel
theorem dX0_repairAllOf_6 : decode cX0_repairAllOf 6 = .ok (.getfield 9, 3) := by decide +kernel
theorem dX0_repairAllOf_9 : decode cX0_repairAllOf 9 = .ok (.getfield 55, 3) := by decide +kernel
theorem dX0_repairAllOf_12 : decode cX0_repairAllOf 12 = .ok (.if_icmp .ge 51, 3) := by decide +kernel
theorem dX0_repairAllOf_15 : decode cX0_repairAllOf 15 = .ok (.aload_n 0, 1) := by decide +kernel
theorem dX0_repairAllOf_16 : decode cX0_repairAllOf 16 = .ok (.getfield 18, 3) := by decide +kernel
theorem dX0_repairAllOf_19 : decode cX0_repairAllOf 19 = .ok (.getfield 52, 3) := by decide +kernel
theorem dX0_repairAllOf_22 : decode cX0_repairAllOf 22 = .ok (.iload_n 3, 1) := by decide +kernel
theorem dX0_repairAllOf_23 : decode cX0_repairAllOf 23 = .ok (.iaload, 1) := by decide +kernel
theorem dX0_repairAllOf_24 : decode cX0_repairAllOf 24 = .ok (.iconst 1, 1) := by decide +kernel
theorem dX0_repairAllOf_25 : decode cX0_repairAllOf 25 = .ok (.if_icmp .ne 32, 3) := by decide +kernel
theorem dX0_repairAllOf_28 : decode cX0_repairAllOf 28 = .ok (.aload_n 0, 1) := by decide +kernel
theorem dX0_repairAllOf_29 : decode cX0_repairAllOf 29 = .ok (.getfield 18, 3) := by decide +kernel
theorem dX0_repairAllOf_32 : decode cX0_repairAllOf 32 = .ok (.getfield 59, 3) := by decide +kernel
theorem dX0_repairAllOf_35 : decode cX0_repairAllOf 35 = .ok (.iload_n 3, 1) := by decide +kernel
theorem dX0_repairAllOf_36 : decode cX0_repairAllOf 36 = .ok (.iaload, 1) := by decide +kernel
theorem dX0_repairAllOf_37 : decode cX0_repairAllOf 37 = .ok (.iload_n 1, 1) := by decide +kernel
theorem dX0_repairAllOf_38 : decode cX0_repairAllOf 38 = .ok (.invokestatic 62, 3) := by decide +kernel
theorem dX0_repairAllOf_41 : decode cX0_repairAllOf 41 = .ok (.ifCond .eq 16, 3) := by decide +kernel
theorem dX0_repairAllOf_44 : decode cX0_repairAllOf 44 = .ok (.aload_n 0, 1) := by decide +kernel
theorem dX0_repairAllOf_45 : decode cX0_repairAllOf 45 = .ok (.iload_n 3, 1) := by decide +kernel
theorem dX0_repairAllOf_46 : decode cX0_repairAllOf 46 = .ok (.iload_n 1, 1) := by decide +kernel
theorem dX0_repairAllOf_47 : decode cX0_repairAllOf 47 = .ok (.invokevirtual 169, 3) := by decide +kernel
theorem dX0_repairAllOf_50 : decode cX0_repairAllOf 50 = .ok (.iconst (-1), 1) := by decide +kernel
theorem dX0_repairAllOf_51 : decode cX0_repairAllOf 51 = .ok (.if_icmp .eq 6, 3) := by decide +kernel
theorem dX0_repairAllOf_54 : decode cX0_repairAllOf 54 = .ok (.iinc 2 1, 3) := by decide +kernel
theorem dX0_repairAllOf_57 : decode cX0_repairAllOf 57 = .ok (.iinc 3 1, 3) := by decide +kernel
theorem dX0_repairAllOf_60 : decode cX0_repairAllOf 60 = .ok (.goto (-56), 3) := by decide +kernel
theorem dX0_repairAllOf_63 : decode cX0_repairAllOf 63 = .ok (.iload_n 2, 1) := by decide +kernel
theorem dX0_repairAllOf_64 : decode cX0_repairAllOf 64 = .ok (.ireturn, 1) := by decide +kernel
theorem dX0_mayExchange_0 : decode cX0_mayExchange 0 = .ok (.aload_n 0, 1) := by decide +kernel
theorem dX0_mayExchange_1 : decode cX0_mayExchange 1 = .ok (.iload_n 1, 1) := by decide +kernel
theorem dX0_mayExchange_2 : decode cX0_mayExchange 2 = .ok (.invokevirtual 172, 3) := by decide +kernel
theorem dX0_mayExchange_5 : decode cX0_mayExchange 5 = .ok (.ifCond .eq 34, 3) := by decide +kernel
theorem dX0_mayExchange_8 : decode cX0_mayExchange 8 = .ok (.aload_n 0, 1) := by decide +kernel
theorem dX0_mayExchange_9 : decode cX0_mayExchange 9 = .ok (.iload_n 3, 1) := by decide +kernel
theorem dX0_mayExchange_10 : decode cX0_mayExchange 10 = .ok (.invokevirtual 172, 3) := by decide +kernel
theorem dX0_mayExchange_13 : decode cX0_mayExchange 13 = .ok (.ifCond .eq 26, 3) := by decide +kernel
theorem dX0_mayExchange_16 : decode cX0_mayExchange 16 = .ok (.aload_n 0, 1) := by decide +kernel
theorem dX0_mayExchange_17 : decode cX0_mayExchange 17 = .ok (.getfield 9, 3) := by decide +kernel
theorem dX0_mayExchange_20 : decode cX0_mayExchange 20 = .ok (.iload_n 2, 1) := by decide +kernel
theorem dX0_mayExchange_21 : decode cX0_mayExchange 21 = .ok (.invokevirtual 175, 3) := by decide +kernel
theorem dX0_mayExchange_24 : decode cX0_mayExchange 24 = .ok (.ifCond .eq 15, 3) := by decide +kernel
theorem dX0_mayExchange_27 : decode cX0_mayExchange 27 = .ok (.aload_n 0, 1) := by decide +kernel
theorem dX0_mayExchange_28 : decode cX0_mayExchange 28 = .ok (.getfield 9, 3) := by decide +kernel
theorem dX0_mayExchange_31 : decode cX0_mayExchange 31 = .ok (.iload 4, 2) := by decide +kernel
theorem dX0_mayExchange_33 : decode cX0_mayExchange 33 = .ok (.invokevirtual 175, 3) := by decide +kernel
theorem dX0_mayExchange_36 : decode cX0_mayExchange 36 = .ok (.ifCond .ne 5, 3) := by decide +kernel
theorem dX0_mayExchange_39 : decode cX0_mayExchange 39 = .ok (.iconst 0, 1) := by decide +kernel
theorem dX0_mayExchange_40 : decode cX0_mayExchange 40 = .ok (.ireturn, 1) := by decide +kernel
theorem dX0_mayExchange_41 : decode cX0_mayExchange 41 = .ok (.aload_n 0, 1) := by decide +kernel
theorem dX0_mayExchange_42 : decode cX0_mayExchange 42 = .ok (.getfield 18, 3) := by decide +kernel
theorem dX0_mayExchange_45 : decode cX0_mayExchange 45 = .ok (.getfield 59, 3) := by decide +kernel
theorem dX0_mayExchange_48 : decode cX0_mayExchange 48 = .ok (.iload_n 1, 1) := by decide +kernel
theorem dX0_mayExchange_49 : decode cX0_mayExchange 49 = .ok (.iaload, 1) := by decide +kernel
theorem dX0_mayExchange_50 : decode cX0_mayExchange 50 = .ok (.istore 5, 2) := by decide +kernel
theorem dX0_mayExchange_52 : decode cX0_mayExchange 52 = .ok (.aload_n 0, 1) := by decide +kernel
theorem dX0_mayExchange_53 : decode cX0_mayExchange 53 = .ok (.getfield 18, 3) := by decide +kernel
theorem dX0_mayExchange_56 : decode cX0_mayExchange 56 = .ok (.getfield 59, 3) := by decide +kernel
theorem dX0_mayExchange_59 : decode cX0_mayExchange 59 = .ok (.iload_n 3, 1) := by decide +kernel
theorem dX0_mayExchange_60 : decode cX0_mayExchange 60 = .ok (.iaload, 1) := by decide +kernel
theorem dX0_mayExchange_61 : decode cX0_mayExchange 61 = .ok (.istore 6, 2) := by decide +kernel
theorem dX0_mayExchange_63 : decode cX0_mayExchange 63 = .ok (.iload 5, 2) := by decide +kernel
theorem dX0_mayExchange_65 : decode cX0_mayExchange 65 = .ok (.iload_n 2, 1) := by decide +kernel
theorem dX0_mayExchange_66 : decode cX0_mayExchange 66 = .ok (.invokestatic 62, 3) := by decide +kernel
theorem dX0_mayExchange_69 : decode cX0_mayExchange 69 = .ok (.ifCond .eq 32, 3) := by decide +kernel
theorem dX0_mayExchange_72 : decode cX0_mayExchange 72 = .ok (.iload 6, 2) := by decide +kernel
theorem dX0_mayExchange_74 : decode cX0_mayExchange 74 = .ok (.iload_n 2, 1) := by decide +kernel
theorem dX0_mayExchange_75 : decode cX0_mayExchange 75 = .ok (.invokestatic 62, 3) := by decide +kernel
theorem dX0_mayExchange_78 : decode cX0_mayExchange 78 = .ok (.ifCond .ne 23, 3) := by decide +kernel
theorem dX0_mayExchange_81 : decode cX0_mayExchange 81 = .ok (.iload 6, 2) := by decide +kernel
theorem dX0_mayExchange_83 : decode cX0_mayExchange 83 = .ok (.iload 4, 2) := by decide +kernel
theorem dX0_mayExchange_85 : decode cX0_mayExchange 85 = .ok (.invokestatic 62, 3) := by decide +kernel
theorem dX0_mayExchange_88 : decode cX0_mayExchange 88 = .ok (.ifCond .eq 13, 3) := by decide +kernel
theorem dX0_mayExchange_91 : decode cX0_mayExchange 91 = .ok (.iload 5, 2) := by decide +kernel
theorem dX0_mayExchange_93 : decode cX0_mayExchange 93 = .ok (.iload 4, 2) := by decide +kernel
theorem dX0_mayExchange_95 : decode cX0_mayExchange 95 = .ok (.invokestatic 62, 3) := by decide +kernel
theorem dX0_mayExchange_98 : decode cX0_mayExchange 98 = .ok (.ifCond .eq 5, 3) := by decide +kernel
theorem dX0_mayExchange_101 : decode cX0_mayExchange 101 = .ok (.iconst 0, 1) := by decide +kernel
theorem dX0_mayExchange_102 : decode cX0_mayExchange 102 = .ok (.ireturn, 1) := by decide +kernel
theorem dX0_mayExchange_103 : decode cX0_mayExchange 103 = .ok (.aload_n 0, 1) := by decide +kernel
theorem dX0_mayExchange_104 : decode cX0_mayExchange 104 = .ok (.iload_n 1, 1) := by decide +kernel
theorem dX0_mayExchange_105 : decode cX0_mayExchange 105 = .ok (.iload 5, 2) := by decide +kernel
theorem dX0_mayExchange_107 : decode cX0_mayExchange 107 = .ok (.iload_n 2, 1) := by decide +kernel
theorem dX0_mayExchange_108 : decode cX0_mayExchange 108 = .ok (.iload 4, 2) := by decide +kernel
theorem dX0_mayExchange_110 : decode cX0_mayExchange 110 = .ok (.invokestatic 178, 3) := by decide +kernel
theorem dX0_mayExchange_113 : decode cX0_mayExchange 113 = .ok (.invokevirtual 128, 3) := by decide +kernel
theorem dX0_mayExchange_116 : decode cX0_mayExchange 116 = .ok (.ifCond .eq 23, 3) := by decide +kernel
theorem dX0_mayExchange_119 : decode cX0_mayExchange 119 = .ok (.aload_n 0, 1) := by decide +kernel
theorem dX0_mayExchange_120 : decode cX0_mayExchange 120 = .ok (.iload_n 3, 1) := by decide +kernel
theorem dX0_mayExchange_121 : decode cX0_mayExchange 121 = .ok (.iload 6, 2) := by decide +kernel
theorem dX0_mayExchange_123 : decode cX0_mayExchange 123 = .ok (.iload 4, 2) := by decide +kernel
theorem dX0_mayExchange_125 : decode cX0_mayExchange 125 = .ok (.iload_n 2, 1) := by decide +kernel
theorem dX0_mayExchange_126 : decode cX0_mayExchange 126 = .ok (.invokestatic 178, 3) := by decide +kernel
theorem dX0_mayExchange_129 : decode cX0_mayExchange 129 = .ok (.invokevirtual 128, 3) := by decide +kernel
theorem dX0_mayExchange_132 : decode cX0_mayExchange 132 = .ok (.ifCond .eq 7, 3) := by decide +kernel
theorem dX0_mayExchange_135 : decode cX0_mayExchange 135 = .ok (.iconst 1, 1) := by decide +kernel
theorem dX0_mayExchange_136 : decode cX0_mayExchange 136 = .ok (.goto 4, 3) := by decide +kernel
theorem dX0_mayExchange_139 : decode cX0_mayExchange 139 = .ok (.iconst 0, 1) := by decide +kernel
theorem dX0_mayExchange_140 : decode cX0_mayExchange 140 = .ok (.ireturn, 1) := by decide +kernel
theorem dX0_changePlaces_0 : decode cX0_changePlaces 0 = .ok (.aload_n 0, 1) := by decide +kernel
theorem dX0_changePlaces_1 : decode cX0_changePlaces 1 = .ok (.getfield 18, 3) := by decide +kernel
theorem dX0_changePlaces_4 : decode cX0_changePlaces 4 = .ok (.getfield 59, 3) := by decide +kernel
theorem dX0_changePlaces_7 : decode cX0_changePlaces 7 = .ok (.iload_n 1, 1) := by decide +kernel
theorem dX0_changePlaces_8 : decode cX0_changePlaces 8 = .ok (.aload_n 0, 1) := by decide +kernel
theorem dX0_changePlaces_9 : decode cX0_changePlaces 9 = .ok (.getfield 18, 3) := by decide +kernel
theorem dX0_changePlaces_12 : decode cX0_changePlaces 12 = .ok (.getfield 59, 3) := by decide +kernel
theorem dX0_changePlaces_15 : decode cX0_changePlaces 15 = .ok (.iload_n 1, 1) := by decide +kernel
theorem dX0_changePlaces_16 : decode cX0_changePlaces 16 = .ok (.iaload, 1) := by decide +kernel
theorem dX0_changePlaces_17 : decode cX0_changePlaces 17 = .ok (.iload_n 2, 1) := by decide +kernel
theorem dX0_changePlaces_18 : decode cX0_changePlaces 18 = .ok (.iload 4, 2) := by decide +kernel
theorem dX0_changePlaces_20 : decode cX0_changePlaces 20 = .ok (.invokestatic 178, 3) := by decide +kernel
theorem dX0_changePlaces_23 : decode cX0_changePlaces 23 = .ok (.iastore, 1) := by decide +kernel
theorem dX0_changePlaces_24 : decode cX0_changePlaces 24 = .ok (.aload_n 0, 1) := by decide +kernel
theorem dX0_changePlaces_25 : decode cX0_changePlaces 25 = .ok (.getfield 18, 3) := by decide +kernel
theorem dX0_changePlaces_28 : decode cX0_changePlaces 28 = .ok (.getfield 59, 3) := by decide +kernel
theorem dX0_changePlaces_31 : decode cX0_changePlaces 31 = .ok (.iload_n 3, 1) := by decide +kernel
theorem dX0_changePlaces_32 : decode cX0_changePlaces 32 = .ok (.aload_n 0, 1) := by decide +kernel
theorem dX0_changePlaces_33 : decode cX0_changePlaces 33 = .ok (.getfield 18, 3) := by decide +kernel
theorem dX0_changePlaces_36 : decode cX0_changePlaces 36 = .ok (.getfield 59, 3) := by decide +kernel
theorem dX0_changePlaces_39 : decode cX0_changePlaces 39 = .ok (.iload_n 3, 1) := by decide +kernel
theorem dX0_changePlaces_40 : decode cX0_changePlaces 40 = .ok (.iaload, 1) := by decide +kernel
theorem dX0_changePlaces_41 : decode cX0_changePlaces 41 = .ok (.iload 4, 2) := by decide +kernel
theorem dX0_changePlaces_43 : decode cX0_changePlaces 43 = .ok (.iload_n 2, 1) := by decide +kernel
theorem dX0_changePlaces_44 : decode cX0_changePlaces 44 = .ok (.invokestatic 178, 3) := by decide +kernel
theorem dX0_changePlaces_47 : decode cX0_changePlaces 47 = .ok (.iastore, 1) := by decide +kernel
theorem dX0_changePlaces_48 : decode cX0_changePlaces 48 = .ok (.return_, 1) := by decide +kernel
theorem dX0_swapped_0 : decode cX0_swapped 0 = .ok (.iload_n 0, 1) := by decide +kernel
theorem dX0_swapped_1 : decode cX0_swapped 1 = .ok (.iconst 1, 1) := by decide +kernel
theorem dX0_swapped_2 : decode cX0_swapped 2 = .ok (.iload_n 1, 1) := by decide +kernel
theorem dX0_swapped_3 : decode cX0_swapped 3 = .ok (.ishl, 1) := by decide +kernel
theorem dX0_swapped_4 : decode cX0_swapped 4 = .ok (.iconst (-1), 1) := by decide +kernel
theorem dX0_swapped_5 : decode cX0_swapped 5 = .ok (.ixor, 1) := by decide +kernel
theorem dX0_swapped_6 : decode cX0_swapped 6 = .ok (.iand, 1) := by decide +kernel
theorem dX0_swapped_7 : decode cX0_swapped 7 = .ok (.iconst 1, 1) := by decide +kernel
theorem dX0_swapped_8 : decode cX0_swapped 8 = .ok (.iload_n 2, 1) := by decide +kernel
theorem dX0_swapped_9 : decode cX0_swapped 9 = .ok (.ishl, 1) := by decide +kernel
theorem dX0_swapped_10 : decode cX0_swapped 10 = .ok (.ior, 1) := by decide +kernel
theorem dX0_swapped_11 : decode cX0_swapped 11 = .ok (.ireturn, 1) := by decide +kernel
theorem dX0_findBetter_0 : decode cX0_findBetter 0 = .ok (.aload_n 0, 1) := by decide +kernel
theorem dX0_findBetter_1 : decode cX0_findBetter 1 = .ok (.iconst (-1), 1) := by decide +kernel
theorem dX0_findBetter_2 : decode cX0_findBetter 2 = .ok (.invokevirtual 135, 3) := by decide +kernel
theorem dX0_findBetter_5 : decode cX0_findBetter 5 = .ok (.iconst 0, 1) := by decide +kernel
theorem dX0_findBetter_6 : decode cX0_findBetter 6 = .ok (.istore_n 1, 1) := by decide +kernel
theorem dX0_findBetter_7 : decode cX0_findBetter 7 = .ok (.iload_n 1, 1) := by decide +kernel
theorem dX0_findBetter_8 : decode cX0_findBetter 8 = .ok (.aload_n 0, 1) := by decide +kernel
theorem dX0_findBetter_9 : decode cX0_findBetter 9 = .ok (.getfield 9, 3) := by decide +kernel
theorem dX0_findBetter_12 : decode cX0_findBetter 12 = .ok (.getfield 55, 3) := by decide +kernel
theorem dX0_findBetter_15 : decode cX0_findBetter 15 = .ok (.if_icmp .ge 68, 3) := by decide +kernel
theorem dX0_findBetter_18 : decode cX0_findBetter 18 = .ok (.iconst 0, 1) := by decide +kernel
theorem dX0_findBetter_19 : decode cX0_findBetter 19 = .ok (.istore_n 2, 1) := by decide +kernel
theorem dX0_findBetter_20 : decode cX0_findBetter 20 = .ok (.iload_n 2, 1) := by decide +kernel
theorem dX0_findBetter_21 : decode cX0_findBetter 21 = .ok (.aload_n 0, 1) := by decide +kernel
theorem dX0_findBetter_22 : decode cX0_findBetter 22 = .ok (.getfield 9, 3) := by decide +kernel
theorem dX0_findBetter_25 : decode cX0_findBetter 25 = .ok (.getfield 86, 3) := by decide +kernel
theorem dX0_findBetter_28 : decode cX0_findBetter 28 = .ok (.if_icmp .ge 49, 3) := by decide +kernel
theorem dX0_findBetter_31 : decode cX0_findBetter 31 = .ok (.aload_n 0, 1) := by decide +kernel
theorem dX0_findBetter_32 : decode cX0_findBetter 32 = .ok (.getfield 18, 3) := by decide +kernel
theorem dX0_findBetter_35 : decode cX0_findBetter 35 = .ok (.getfield 52, 3) := by decide +kernel
theorem dX0_findBetter_38 : decode cX0_findBetter 38 = .ok (.iload_n 1, 1) := by decide +kernel
theorem dX0_findBetter_39 : decode cX0_findBetter 39 = .ok (.iaload, 1) := by decide +kernel
theorem dX0_findBetter_40 : decode cX0_findBetter 40 = .ok (.iconst 1, 1) := by decide +kernel
theorem dX0_findBetter_41 : decode cX0_findBetter 41 = .ok (.if_icmp .ne 30, 3) := by decide +kernel
theorem dX0_findBetter_44 : decode cX0_findBetter 44 = .ok (.aload_n 0, 1) := by decide +kernel
theorem dX0_findBetter_45 : decode cX0_findBetter 45 = .ok (.getfield 18, 3) := by decide +kernel
theorem dX0_findBetter_48 : decode cX0_findBetter 48 = .ok (.getfield 59, 3) := by decide +kernel
theorem dX0_findBetter_51 : decode cX0_findBetter 51 = .ok (.iload_n 1, 1) := by decide +kernel
theorem dX0_findBetter_52 : decode cX0_findBetter 52 = .ok (.iaload, 1) := by decide +kernel
theorem dX0_findBetter_53 : decode cX0_findBetter 53 = .ok (.iload_n 2, 1) := by decide +kernel
theorem dX0_findBetter_54 : decode cX0_findBetter 54 = .ok (.invokestatic 62, 3) := by decide +kernel
theorem dX0_findBetter_57 : decode cX0_findBetter 57 = .ok (.ifCond .eq 14, 3) := by decide +kernel
theorem dX0_findBetter_60 : decode cX0_findBetter 60 = .ok (.aload_n 0, 1) := by decide +kernel
theorem dX0_findBetter_61 : decode cX0_findBetter 61 = .ok (.iload_n 1, 1) := by decide +kernel
theorem dX0_findBetter_62 : decode cX0_findBetter 62 = .ok (.iload_n 2, 1) := by decide +kernel
theorem dX0_findBetter_63 : decode cX0_findBetter 63 = .ok (.invokevirtual 182, 3) := by decide +kernel
theorem dX0_findBetter_66 : decode cX0_findBetter 66 = .ok (.ifCond .eq 5, 3) := by decide +kernel
theorem dX0_findBetter_69 : decode cX0_findBetter 69 = .ok (.iconst 1, 1) := by decide +kernel
theorem dX0_findBetter_70 : decode cX0_findBetter 70 = .ok (.ireturn, 1) := by decide +kernel
theorem dX0_findBetter_71 : decode cX0_findBetter 71 = .ok (.iinc 2 1, 3) := by decide +kernel
theorem dX0_findBetter_74 : decode cX0_findBetter 74 = .ok (.goto (-54), 3) := by decide +kernel
theorem dX0_findBetter_77 : decode cX0_findBetter 77 = .ok (.iinc 1 1, 3) := by decide +kernel
theorem dX0_findBetter_80 : decode cX0_findBetter 80 = .ok (.goto (-73), 3) := by decide +kernel
theorem dX0_findBetter_83 : decode cX0_findBetter 83 = .ok (.iconst 0, 1) := by decide +kernel
theorem dX0_findBetter_84 : decode cX0_findBetter 84 = .ok (.ireturn, 1) := by decide +kernel
theorem dX0_findBetterFor_0 : decode cX0_findBetterFor 0 = .ok (.iload_n 1, 1) := by decide +kernel
theorem dX0_findBetterFor_1 : decode cX0_findBetterFor 1 = .ok (.iconst 1, 1) := by decide +kernel
theorem dX0_findBetterFor_2 : decode cX0_findBetterFor 2 = .ok (.iadd, 1) := by decide +kernel
theorem dX0_findBetterFor_3 : decode cX0_findBetterFor 3 = .ok (.istore_n 3, 1) := by decide +kernel
theorem dX0_findBetterFor_4 : decode cX0_findBetterFor 4 = .ok (.iload_n 3, 1) := by decide +kernel
theorem dX0_findBetterFor_5 : decode cX0_findBetterFor 5 = .ok (.aload_n 0, 1) := by decide +kernel
theorem dX0_findBetterFor_6 : decode cX0_findBetterFor 6 = .ok (.getfield 9, 3) := by decide +kernel
theorem dX0_findBetterFor_9 : decode cX0_findBetterFor 9 = .ok (.getfield 55, 3) := by decide +kernel
theorem dX0_findBetterFor_12 : decode cX0_findBetterFor 12 = .ok (.if_icmp .ge 71, 3) := by decide +kernel
theorem dX0_findBetterFor_15 : decode cX0_findBetterFor 15 = .ok (.iconst 0, 1) := by decide +kernel
theorem dX0_findBetterFor_16 : decode cX0_findBetterFor 16 = .ok (.istore 4, 2) := by decide +kernel
theorem dX0_findBetterFor_18 : decode cX0_findBetterFor 18 = .ok (.iload 4, 2) := by decide +kernel
theorem dX0_findBetterFor_20 : decode cX0_findBetterFor 20 = .ok (.aload_n 0, 1) := by decide +kernel
theorem dX0_findBetterFor_21 : decode cX0_findBetterFor 21 = .ok (.getfield 9, 3) := by decide +kernel
theorem dX0_findBetterFor_24 : decode cX0_findBetterFor 24 = .ok (.getfield 86, 3) := by decide +kernel
theorem dX0_findBetterFor_27 : decode cX0_findBetterFor 27 = .ok (.if_icmp .ge 50, 3) := by decide +kernel
theorem dX0_findBetterFor_30 : decode cX0_findBetterFor 30 = .ok (.aload_n 0, 1) := by decide +kernel
theorem dX0_findBetterFor_31 : decode cX0_findBetterFor 31 = .ok (.iload_n 1, 1) := by decide +kernel
theorem dX0_findBetterFor_32 : decode cX0_findBetterFor 32 = .ok (.iload_n 2, 1) := by decide +kernel
theorem dX0_findBetterFor_33 : decode cX0_findBetterFor 33 = .ok (.iload_n 3, 1) := by decide +kernel
theorem dX0_findBetterFor_34 : decode cX0_findBetterFor 34 = .ok (.iload 4, 2) := by decide +kernel
theorem dX0_findBetterFor_36 : decode cX0_findBetterFor 36 = .ok (.invokevirtual 185, 3) := by decide +kernel
theorem dX0_findBetterFor_39 : decode cX0_findBetterFor 39 = .ok (.ifCond .eq 32, 3) := by decide +kernel
theorem dX0_findBetterFor_42 : decode cX0_findBetterFor 42 = .ok (.aload_n 0, 1) := by decide +kernel
theorem dX0_findBetterFor_43 : decode cX0_findBetterFor 43 = .ok (.iload_n 1, 1) := by decide +kernel
theorem dX0_findBetterFor_44 : decode cX0_findBetterFor 44 = .ok (.iload_n 2, 1) := by decide +kernel
theorem dX0_findBetterFor_45 : decode cX0_findBetterFor 45 = .ok (.iload_n 3, 1) := by decide +kernel
theorem dX0_findBetterFor_46 : decode cX0_findBetterFor 46 = .ok (.iload 4, 2) := by decide +kernel
theorem dX0_findBetterFor_48 : decode cX0_findBetterFor 48 = .ok (.invokevirtual 189, 3) := by decide +kernel
theorem dX0_findBetterFor_51 : decode cX0_findBetterFor 51 = .ok (.istore 5, 2) := by decide +kernel
theorem dX0_findBetterFor_53 : decode cX0_findBetterFor 53 = .ok (.iload 5, 2) := by decide +kernel
theorem dX0_findBetterFor_55 : decode cX0_findBetterFor 55 = .ok (.ifCond .le 16, 3) := by decide +kernel
theorem dX0_findBetterFor_58 : decode cX0_findBetterFor 58 = .ok (.aload_n 0, 1) := by decide +kernel
theorem dX0_findBetterFor_59 : decode cX0_findBetterFor 59 = .ok (.iload_n 1, 1) := by decide +kernel
theorem dX0_findBetterFor_60 : decode cX0_findBetterFor 60 = .ok (.iload_n 2, 1) := by decide +kernel
theorem dX0_findBetterFor_61 : decode cX0_findBetterFor 61 = .ok (.iload_n 3, 1) := by decide +kernel
theorem dX0_findBetterFor_62 : decode cX0_findBetterFor 62 = .ok (.iload 4, 2) := by decide +kernel
theorem dX0_findBetterFor_64 : decode cX0_findBetterFor 64 = .ok (.iload 5, 2) := by decide +kernel
theorem dX0_findBetterFor_66 : decode cX0_findBetterFor 66 = .ok (.invokevirtual 193, 3) := by decide +kernel
theorem dX0_findBetterFor_69 : decode cX0_findBetterFor 69 = .ok (.iconst 1, 1) := by decide +kernel
theorem dX0_findBetterFor_70 : decode cX0_findBetterFor 70 = .ok (.ireturn, 1) := by decide +kernel
theorem dX0_findBetterFor_71 : decode cX0_findBetterFor 71 = .ok (.iinc 4 1, 3) := by decide +kernel
theorem dX0_findBetterFor_74 : decode cX0_findBetterFor 74 = .ok (.goto (-56), 3) := by decide +kernel
theorem dX0_findBetterFor_77 : decode cX0_findBetterFor 77 = .ok (.iinc 3 1, 3) := by decide +kernel
theorem dX0_findBetterFor_80 : decode cX0_findBetterFor 80 = .ok (.goto (-76), 3) := by decide +kernel
theorem dX0_findBetterFor_83 : decode cX0_findBetterFor 83 = .ok (.iconst 0, 1) := by decide +kernel
theorem dX0_findBetterFor_84 : decode cX0_findBetterFor 84 = .ok (.ireturn, 1) := by decide +kernel
theorem dX0_keepFound_0 : decode cX0_keepFound 0 = .ok (.aload_n 0, 1) := by decide +kernel
theorem dX0_keepFound_1 : decode cX0_keepFound 1 = .ok (.getfield 25, 3) := by decide +kernel
theorem dX0_keepFound_4 : decode cX0_keepFound 4 = .ok (.iload_n 1, 1) := by decide +kernel
theorem dX0_keepFound_5 : decode cX0_keepFound 5 = .ok (.putfield 197, 3) := by decide +kernel
theorem dX0_keepFound_8 : decode cX0_keepFound 8 = .ok (.aload_n 0, 1) := by decide +kernel
theorem dX0_keepFound_9 : decode cX0_keepFound 9 = .ok (.getfield 25, 3) := by decide +kernel
theorem dX0_keepFound_12 : decode cX0_keepFound 12 = .ok (.iload_n 2, 1) := by decide +kernel
theorem dX0_keepFound_13 : decode cX0_keepFound 13 = .ok (.putfield 200, 3) := by decide +kernel
theorem dX0_keepFound_16 : decode cX0_keepFound 16 = .ok (.aload_n 0, 1) := by decide +kernel
theorem dX0_keepFound_17 : decode cX0_keepFound 17 = .ok (.getfield 25, 3) := by decide +kernel
theorem dX0_keepFound_20 : decode cX0_keepFound 20 = .ok (.iload_n 3, 1) := by decide +kernel
theorem dX0_keepFound_21 : decode cX0_keepFound 21 = .ok (.putfield 203, 3) := by decide +kernel
theorem dX0_keepFound_24 : decode cX0_keepFound 24 = .ok (.aload_n 0, 1) := by decide +kernel
theorem dX0_keepFound_25 : decode cX0_keepFound 25 = .ok (.getfield 25, 3) := by decide +kernel
theorem dX0_keepFound_28 : decode cX0_keepFound 28 = .ok (.iload 4, 2) := by decide +kernel
theorem dX0_keepFound_30 : decode cX0_keepFound 30 = .ok (.putfield 206, 3) := by decide +kernel
theorem dX0_keepFound_33 : decode cX0_keepFound 33 = .ok (.aload_n 0, 1) := by decide +kernel
theorem dX0_keepFound_34 : decode cX0_keepFound 34 = .ok (.getfield 25, 3) := by decide +kernel
theorem dX0_keepFound_37 : decode cX0_keepFound 37 = .ok (.iload 5, 2) := by decide +kernel
theorem dX0_keepFound_39 : decode cX0_keepFound 39 = .ok (.putfield 209, 3) := by decide +kernel
theorem dX0_keepFound_42 : decode cX0_keepFound 42 = .ok (.return_, 1) := by decide +kernel
theorem dX0_gainOf_0 : decode cX0_gainOf 0 = .ok (.aload_n 0, 1) := by decide +kernel
theorem dX0_gainOf_1 : decode cX0_gainOf 1 = .ok (.getfield 18, 3) := by decide +kernel
theorem dX0_gainOf_4 : decode cX0_gainOf 4 = .ok (.getfield 59, 3) := by decide +kernel
theorem dX0_gainOf_7 : decode cX0_gainOf 7 = .ok (.iload_n 1, 1) := by decide +kernel
theorem dX0_gainOf_8 : decode cX0_gainOf 8 = .ok (.iaload, 1) := by decide +kernel
theorem dX0_gainOf_9 : decode cX0_gainOf 9 = .ok (.iconst 1, 1) := by decide +kernel
theorem dX0_gainOf_10 : decode cX0_gainOf 10 = .ok (.iload_n 2, 1) := by decide +kernel
theorem dX0_gainOf_11 : decode cX0_gainOf 11 = .ok (.ishl, 1) := by decide +kernel
theorem dX0_gainOf_12 : decode cX0_gainOf 12 = .ok (.iconst (-1), 1) := by decide +kernel
theorem dX0_gainOf_13 : decode cX0_gainOf 13 = .ok (.ixor, 1) := by decide +kernel
theorem dX0_gainOf_14 : decode cX0_gainOf 14 = .ok (.iand, 1) := by decide +kernel
theorem dX0_gainOf_15 : decode cX0_gainOf 15 = .ok (.istore 5, 2) := by decide +kernel
theorem dX0_gainOf_17 : decode cX0_gainOf 17 = .ok (.aload_n 0, 1) := by decide +kernel
theorem dX0_gainOf_18 : decode cX0_gainOf 18 = .ok (.getfield 18, 3) := by decide +kernel
theorem dX0_gainOf_21 : decode cX0_gainOf 21 = .ok (.getfield 59, 3) := by decide +kernel
theorem dX0_gainOf_24 : decode cX0_gainOf 24 = .ok (.iload_n 3, 1) := by decide +kernel
theorem dX0_gainOf_25 : decode cX0_gainOf 25 = .ok (.iaload, 1) := by decide +kernel
theorem dX0_gainOf_26 : decode cX0_gainOf 26 = .ok (.iconst 1, 1) := by decide +kernel
theorem dX0_gainOf_27 : decode cX0_gainOf 27 = .ok (.iload 4, 2) := by decide +kernel
theorem dX0_gainOf_29 : decode cX0_gainOf 29 = .ok (.ishl, 1) := by decide +kernel
theorem dX0_gainOf_30 : decode cX0_gainOf 30 = .ok (.iconst (-1), 1) := by decide +kernel
theorem dX0_gainOf_31 : decode cX0_gainOf 31 = .ok (.ixor, 1) := by decide +kernel
theorem dX0_gainOf_32 : decode cX0_gainOf 32 = .ok (.iand, 1) := by decide +kernel
theorem dX0_gainOf_33 : decode cX0_gainOf 33 = .ok (.istore 6, 2) := by decide +kernel
theorem dX0_gainOf_35 : decode cX0_gainOf 35 = .ok (.aload_n 0, 1) := by decide +kernel
theorem dX0_gainOf_36 : decode cX0_gainOf 36 = .ok (.iload 5, 2) := by decide +kernel
theorem dX0_gainOf_38 : decode cX0_gainOf 38 = .ok (.iload_n 2, 1) := by decide +kernel
theorem dX0_gainOf_39 : decode cX0_gainOf 39 = .ok (.iload 4, 2) := by decide +kernel
theorem dX0_gainOf_41 : decode cX0_gainOf 41 = .ok (.invokevirtual 212, 3) := by decide +kernel
theorem dX0_gainOf_44 : decode cX0_gainOf 44 = .ok (.aload_n 0, 1) := by decide +kernel
theorem dX0_gainOf_45 : decode cX0_gainOf 45 = .ok (.iload 6, 2) := by decide +kernel
theorem dX0_gainOf_47 : decode cX0_gainOf 47 = .ok (.iload 4, 2) := by decide +kernel
theorem dX0_gainOf_49 : decode cX0_gainOf 49 = .ok (.iload_n 2, 1) := by decide +kernel
theorem dX0_gainOf_50 : decode cX0_gainOf 50 = .ok (.invokevirtual 212, 3) := by decide +kernel
theorem dX0_gainOf_53 : decode cX0_gainOf 53 = .ok (.iadd, 1) := by decide +kernel
theorem dX0_gainOf_54 : decode cX0_gainOf 54 = .ok (.istore 7, 2) := by decide +kernel
theorem dX0_gainOf_56 : decode cX0_gainOf 56 = .ok (.aload_n 0, 1) := by decide +kernel
theorem dX0_gainOf_57 : decode cX0_gainOf 57 = .ok (.iload 6, 2) := by decide +kernel
theorem dX0_gainOf_59 : decode cX0_gainOf 59 = .ok (.iload_n 2, 1) := by decide +kernel
theorem dX0_gainOf_60 : decode cX0_gainOf 60 = .ok (.iload 4, 2) := by decide +kernel
theorem dX0_gainOf_62 : decode cX0_gainOf 62 = .ok (.invokevirtual 212, 3) := by decide +kernel
theorem dX0_gainOf_65 : decode cX0_gainOf 65 = .ok (.pop, 1) := by decide +kernel
theorem dX0_gainOf_66 : decode cX0_gainOf 66 = .ok (.aload_n 0, 1) := by decide +kernel
theorem dX0_gainOf_67 : decode cX0_gainOf 67 = .ok (.iload 5, 2) := by decide +kernel
theorem dX0_gainOf_69 : decode cX0_gainOf 69 = .ok (.iload 4, 2) := by decide +kernel
theorem dX0_gainOf_71 : decode cX0_gainOf 71 = .ok (.iload_n 2, 1) := by decide +kernel
theorem dX0_gainOf_72 : decode cX0_gainOf 72 = .ok (.invokevirtual 212, 3) := by decide +kernel
theorem dX0_gainOf_75 : decode cX0_gainOf 75 = .ok (.pop, 1) := by decide +kernel
theorem dX0_gainOf_76 : decode cX0_gainOf 76 = .ok (.iload 7, 2) := by decide +kernel
theorem dX0_gainOf_78 : decode cX0_gainOf 78 = .ok (.ineg, 1) := by decide +kernel
theorem dX0_gainOf_79 : decode cX0_gainOf 79 = .ok (.ireturn, 1) := by decide +kernel
theorem dX0_movePairs_0 : decode cX0_movePairs 0 = .ok (.iconst 0, 1) := by decide +kernel
theorem dX0_movePairs_1 : decode cX0_movePairs 1 = .ok (.istore 4, 2) := by decide +kernel
theorem dX0_movePairs_3 : decode cX0_movePairs 3 = .ok (.iconst 0, 1) := by decide +kernel
theorem dX0_movePairs_4 : decode cX0_movePairs 4 = .ok (.istore 5, 2) := by decide +kernel
theorem dX0_movePairs_6 : decode cX0_movePairs 6 = .ok (.iload 5, 2) := by decide +kernel
theorem dX0_movePairs_8 : decode cX0_movePairs 8 = .ok (.aload_n 0, 1) := by decide +kernel
theorem dX0_movePairs_9 : decode cX0_movePairs 9 = .ok (.getfield 9, 3) := by decide +kernel
theorem dX0_movePairs_12 : decode cX0_movePairs 12 = .ok (.getfield 86, 3) := by decide +kernel
theorem dX0_movePairs_15 : decode cX0_movePairs 15 = .ok (.if_icmp .ge 88, 3) := by decide +kernel
theorem dX0_movePairs_18 : decode cX0_movePairs 18 = .ok (.iload_n 1, 1) := by decide +kernel
theorem dX0_movePairs_19 : decode cX0_movePairs 19 = .ok (.iload 5, 2) := by decide +kernel
theorem dX0_movePairs_21 : decode cX0_movePairs 21 = .ok (.invokestatic 62, 3) := by decide +kernel
theorem dX0_movePairs_24 : decode cX0_movePairs 24 = .ok (.ifCond .eq 73, 3) := by decide +kernel
theorem dX0_movePairs_27 : decode cX0_movePairs 27 = .ok (.iload 5, 2) := by decide +kernel
theorem dX0_movePairs_29 : decode cX0_movePairs 29 = .ok (.iload_n 2, 1) := by decide +kernel
theorem dX0_movePairs_30 : decode cX0_movePairs 30 = .ok (.invokestatic 92, 3) := by decide +kernel
theorem dX0_movePairs_33 : decode cX0_movePairs 33 = .ok (.istore 6, 2) := by decide +kernel
theorem dX0_movePairs_35 : decode cX0_movePairs 35 = .ok (.iload 5, 2) := by decide +kernel
theorem dX0_movePairs_37 : decode cX0_movePairs 37 = .ok (.iload_n 3, 1) := by decide +kernel
theorem dX0_movePairs_38 : decode cX0_movePairs 38 = .ok (.invokestatic 92, 3) := by decide +kernel
theorem dX0_movePairs_41 : decode cX0_movePairs 41 = .ok (.istore 7, 2) := by decide +kernel
theorem dX0_movePairs_43 : decode cX0_movePairs 43 = .ok (.iload 4, 2) := by decide +kernel
theorem dX0_movePairs_45 : decode cX0_movePairs 45 = .ok (.iconst 1, 1) := by decide +kernel
theorem dX0_movePairs_46 : decode cX0_movePairs 46 = .ok (.iconst 2, 1) := by decide +kernel
theorem dX0_movePairs_47 : decode cX0_movePairs 47 = .ok (.aload_n 0, 1) := by decide +kernel
theorem dX0_movePairs_48 : decode cX0_movePairs 48 = .ok (.getfield 29, 3) := by decide +kernel
theorem dX0_movePairs_51 : decode cX0_movePairs 51 = .ok (.iload 6, 2) := by decide +kernel
theorem dX0_movePairs_53 : decode cX0_movePairs 53 = .ok (.iaload, 1) := by decide +kernel
theorem dX0_movePairs_54 : decode cX0_movePairs 54 = .ok (.imul, 1) := by decide +kernel
theorem dX0_movePairs_55 : decode cX0_movePairs 55 = .ok (.isub, 1) := by decide +kernel
theorem dX0_movePairs_56 : decode cX0_movePairs 56 = .ok (.iadd, 1) := by decide +kernel
theorem dX0_movePairs_57 : decode cX0_movePairs 57 = .ok (.istore 4, 2) := by decide +kernel
theorem dX0_movePairs_59 : decode cX0_movePairs 59 = .ok (.aload_n 0, 1) := by decide +kernel
theorem dX0_movePairs_60 : decode cX0_movePairs 60 = .ok (.getfield 29, 3) := by decide +kernel
theorem dX0_movePairs_63 : decode cX0_movePairs 63 = .ok (.iload 6, 2) := by decide +kernel
theorem dX0_movePairs_65 : decode cX0_movePairs 65 = .ok (.dup2, 1) := by decide +kernel
theorem dX0_movePairs_66 : decode cX0_movePairs 66 = .ok (.iaload, 1) := by decide +kernel
theorem dX0_movePairs_67 : decode cX0_movePairs 67 = .ok (.iconst 1, 1) := by decide +kernel
theorem dX0_movePairs_68 : decode cX0_movePairs 68 = .ok (.isub, 1) := by decide +kernel
theorem dX0_movePairs_69 : decode cX0_movePairs 69 = .ok (.iastore, 1) := by decide +kernel
theorem dX0_movePairs_70 : decode cX0_movePairs 70 = .ok (.iload 4, 2) := by decide +kernel
theorem dX0_movePairs_72 : decode cX0_movePairs 72 = .ok (.iconst 1, 1) := by decide +kernel
theorem dX0_movePairs_73 : decode cX0_movePairs 73 = .ok (.iconst 2, 1) := by decide +kernel
theorem dX0_movePairs_74 : decode cX0_movePairs 74 = .ok (.aload_n 0, 1) := by decide +kernel
theorem dX0_movePairs_75 : decode cX0_movePairs 75 = .ok (.getfield 29, 3) := by decide +kernel
theorem dX0_movePairs_78 : decode cX0_movePairs 78 = .ok (.iload 7, 2) := by decide +kernel
theorem dX0_movePairs_80 : decode cX0_movePairs 80 = .ok (.iaload, 1) := by decide +kernel
theorem dX0_movePairs_81 : decode cX0_movePairs 81 = .ok (.imul, 1) := by decide +kernel
theorem dX0_movePairs_82 : decode cX0_movePairs 82 = .ok (.iadd, 1) := by decide +kernel
theorem dX0_movePairs_83 : decode cX0_movePairs 83 = .ok (.iadd, 1) := by decide +kernel
theorem dX0_movePairs_84 : decode cX0_movePairs 84 = .ok (.istore 4, 2) := by decide +kernel
theorem dX0_movePairs_86 : decode cX0_movePairs 86 = .ok (.aload_n 0, 1) := by decide +kernel
theorem dX0_movePairs_87 : decode cX0_movePairs 87 = .ok (.getfield 29, 3) := by decide +kernel
theorem dX0_movePairs_90 : decode cX0_movePairs 90 = .ok (.iload 7, 2) := by decide +kernel
theorem dX0_movePairs_92 : decode cX0_movePairs 92 = .ok (.dup2, 1) := by decide +kernel
theorem dX0_movePairs_93 : decode cX0_movePairs 93 = .ok (.iaload, 1) := by decide +kernel
theorem dX0_movePairs_94 : decode cX0_movePairs 94 = .ok (.iconst 1, 1) := by decide +kernel
theorem dX0_movePairs_95 : decode cX0_movePairs 95 = .ok (.iadd, 1) := by decide +kernel
theorem dX0_movePairs_96 : decode cX0_movePairs 96 = .ok (.iastore, 1) := by decide +kernel
theorem dX0_movePairs_97 : decode cX0_movePairs 97 = .ok (.iinc 5 1, 3) := by decide +kernel
theorem dX0_movePairs_100 : decode cX0_movePairs 100 = .ok (.goto (-94), 3) := by decide +kernel
theorem dX0_movePairs_103 : decode cX0_movePairs 103 = .ok (.iload 4, 2) := by decide +kernel
theorem dX0_movePairs_105 : decode cX0_movePairs 105 = .ok (.ireturn, 1) := by decide +kernel
