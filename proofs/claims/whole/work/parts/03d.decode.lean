theorem dX1_init_0 : decode cX1_init 0 = .ok (.aload_n 0, 1) := by decide +kernel
theorem dX1_init_1 : decode cX1_init 1 = .ok (.invokespecial 3, 3) := by decide +kernel
theorem dX1_init_4 : decode cX1_init 4 = .ok (.aload_n 0, 1) := by decide +kernel
theorem dX1_init_5 : decode cX1_init 5 = .ok (.bipush 14, 2) := by decide +kernel
theorem dX1_init_7 : decode cX1_init 7 = .ok (.newarray .int, 2) := by decide +kernel
theorem dX1_init_9 : decode cX1_init 9 = .ok (.putfield 9, 3) := by decide +kernel
theorem dX1_init_12 : decode cX1_init 12 = .ok (.aload_n 0, 1) := by decide +kernel
theorem dX1_init_13 : decode cX1_init 13 = .ok (.bipush 14, 2) := by decide +kernel
theorem dX1_init_15 : decode cX1_init 15 = .ok (.newarray .int, 2) := by decide +kernel
theorem dX1_init_17 : decode cX1_init 17 = .ok (.putfield 15, 3) := by decide +kernel
theorem dX1_init_20 : decode cX1_init 20 = .ok (.aload_n 0, 1) := by decide +kernel
theorem dX1_init_21 : decode cX1_init 21 = .ok (.bipush 14, 2) := by decide +kernel
theorem dX1_init_23 : decode cX1_init 23 = .ok (.newarray .int, 2) := by decide +kernel
theorem dX1_init_25 : decode cX1_init 25 = .ok (.putfield 18, 3) := by decide +kernel
theorem dX1_init_28 : decode cX1_init 28 = .ok (.return_, 1) := by decide +kernel
theorem dX1_begin_0 : decode cX1_begin 0 = .ok (.aload_n 0, 1) := by decide +kernel
theorem dX1_begin_1 : decode cX1_begin 1 = .ok (.aload_n 1, 1) := by decide +kernel
theorem dX1_begin_2 : decode cX1_begin 2 = .ok (.getfield 21, 3) := by decide +kernel
theorem dX1_begin_5 : decode cX1_begin 5 = .ok (.putfield 27, 3) := by decide +kernel
theorem dX1_begin_8 : decode cX1_begin 8 = .ok (.aload_n 0, 1) := by decide +kernel
theorem dX1_begin_9 : decode cX1_begin 9 = .ok (.iconst 0, 1) := by decide +kernel
theorem dX1_begin_10 : decode cX1_begin 10 = .ok (.putfield 28, 3) := by decide +kernel
theorem dX1_begin_13 : decode cX1_begin 13 = .ok (.aload_n 0, 1) := by decide +kernel
theorem dX1_begin_14 : decode cX1_begin 14 = .ok (.getfield 9, 3) := by decide +kernel
theorem dX1_begin_17 : decode cX1_begin 17 = .ok (.iconst 0, 1) := by decide +kernel
theorem dX1_begin_18 : decode cX1_begin 18 = .ok (.invokestatic 31, 3) := by decide +kernel
theorem dX1_begin_21 : decode cX1_begin 21 = .ok (.aload_n 0, 1) := by decide +kernel
theorem dX1_begin_22 : decode cX1_begin 22 = .ok (.getfield 15, 3) := by decide +kernel
theorem dX1_begin_25 : decode cX1_begin 25 = .ok (.iconst 0, 1) := by decide +kernel
theorem dX1_begin_26 : decode cX1_begin 26 = .ok (.invokestatic 31, 3) := by decide +kernel
theorem dX1_begin_29 : decode cX1_begin 29 = .ok (.aload_n 1, 1) := by decide +kernel
theorem dX1_begin_30 : decode cX1_begin 30 = .ok (.getfield 37, 3) := by decide +kernel
theorem dX1_begin_33 : decode cX1_begin 33 = .ok (.iconst 0, 1) := by decide +kernel
theorem dX1_begin_34 : decode cX1_begin 34 = .ok (.aload_n 0, 1) := by decide +kernel
theorem dX1_begin_35 : decode cX1_begin 35 = .ok (.getfield 18, 3) := by decide +kernel
theorem dX1_begin_38 : decode cX1_begin 38 = .ok (.iconst 0, 1) := by decide +kernel
theorem dX1_begin_39 : decode cX1_begin 39 = .ok (.bipush 14, 2) := by decide +kernel
theorem dX1_begin_41 : decode cX1_begin 41 = .ok (.invokestatic 38, 3) := by decide +kernel
theorem dX1_begin_44 : decode cX1_begin 44 = .ok (.return_, 1) := by decide +kernel
theorem dX1_become_0 : decode cX1_become 0 = .ok (.aload_n 0, 1) := by decide +kernel
theorem dX1_become_1 : decode cX1_become 1 = .ok (.aload_n 1, 1) := by decide +kernel
theorem dX1_become_2 : decode cX1_become 2 = .ok (.getfield 27, 3) := by decide +kernel
theorem dX1_become_5 : decode cX1_become 5 = .ok (.putfield 27, 3) := by decide +kernel
theorem dX1_become_8 : decode cX1_become 8 = .ok (.aload_n 0, 1) := by decide +kernel
theorem dX1_become_9 : decode cX1_become 9 = .ok (.aload_n 1, 1) := by decide +kernel
theorem dX1_become_10 : decode cX1_become 10 = .ok (.getfield 28, 3) := by decide +kernel
theorem dX1_become_13 : decode cX1_become 13 = .ok (.putfield 28, 3) := by decide +kernel
theorem dX1_become_16 : decode cX1_become 16 = .ok (.aload_n 1, 1) := by decide +kernel
theorem dX1_become_17 : decode cX1_become 17 = .ok (.getfield 9, 3) := by decide +kernel
theorem dX1_become_20 : decode cX1_become 20 = .ok (.iconst 0, 1) := by decide +kernel
theorem dX1_become_21 : decode cX1_become 21 = .ok (.aload_n 0, 1) := by decide +kernel
theorem dX1_become_22 : decode cX1_become 22 = .ok (.getfield 9, 3) := by decide +kernel
theorem dX1_become_25 : decode cX1_become 25 = .ok (.iconst 0, 1) := by decide +kernel
theorem dX1_become_26 : decode cX1_become 26 = .ok (.bipush 14, 2) := by decide +kernel
theorem dX1_become_28 : decode cX1_become 28 = .ok (.invokestatic 38, 3) := by decide +kernel
theorem dX1_become_31 : decode cX1_become 31 = .ok (.aload_n 1, 1) := by decide +kernel
theorem dX1_become_32 : decode cX1_become 32 = .ok (.getfield 15, 3) := by decide +kernel
theorem dX1_become_35 : decode cX1_become 35 = .ok (.iconst 0, 1) := by decide +kernel
theorem dX1_become_36 : decode cX1_become 36 = .ok (.aload_n 0, 1) := by decide +kernel
theorem dX1_become_37 : decode cX1_become 37 = .ok (.getfield 15, 3) := by decide +kernel
theorem dX1_become_40 : decode cX1_become 40 = .ok (.iconst 0, 1) := by decide +kernel
theorem dX1_become_41 : decode cX1_become 41 = .ok (.bipush 14, 2) := by decide +kernel
theorem dX1_become_43 : decode cX1_become 43 = .ok (.invokestatic 38, 3) := by decide +kernel
theorem dX1_become_46 : decode cX1_become 46 = .ok (.aload_n 1, 1) := by decide +kernel
theorem dX1_become_47 : decode cX1_become 47 = .ok (.getfield 18, 3) := by decide +kernel
theorem dX1_become_50 : decode cX1_become 50 = .ok (.iconst 0, 1) := by decide +kernel
theorem dX1_become_51 : decode cX1_become 51 = .ok (.aload_n 0, 1) := by decide +kernel
theorem dX1_become_52 : decode cX1_become 52 = .ok (.getfield 18, 3) := by decide +kernel
theorem dX1_become_55 : decode cX1_become 55 = .ok (.iconst 0, 1) := by decide +kernel
theorem dX1_become_56 : decode cX1_become 56 = .ok (.bipush 14, 2) := by decide +kernel
theorem dX1_become_58 : decode cX1_become 58 = .ok (.invokestatic 38, 3) := by decide +kernel
theorem dX1_become_61 : decode cX1_become 61 = .ok (.return_, 1) := by decide +kernel
theorem dX2_init_0 : decode cX2_init 0 = .ok (.aload_n 0, 1) := by decide +kernel
theorem dX2_init_1 : decode cX2_init 1 = .ok (.invokespecial 1, 3) := by decide +kernel
theorem dX2_init_4 : decode cX2_init 4 = .ok (.return_, 1) := by decide +kernel
theorem dX3_init_0 : decode cX3_init 0 = .ok (.aload_n 0, 1) := by decide +kernel
theorem dX3_init_1 : decode cX3_init 1 = .ok (.invokespecial 3, 3) := by decide +kernel
theorem dX3_init_4 : decode cX3_init 4 = .ok (.aload_n 0, 1) := by decide +kernel
theorem dX3_init_5 : decode cX3_init 5 = .ok (.bipush 11, 2) := by decide +kernel
theorem dX3_init_7 : decode cX3_init 7 = .ok (.anewarray 11, 3) := by decide +kernel
theorem dX3_init_10 : decode cX3_init 10 = .ok (.putfield 13, 3) := by decide +kernel
theorem dX3_init_13 : decode cX3_init 13 = .ok (.iconst 0, 1) := by decide +kernel
theorem dX3_init_14 : decode cX3_init 14 = .ok (.istore_n 1, 1) := by decide +kernel
theorem dX3_init_15 : decode cX3_init 15 = .ok (.iload_n 1, 1) := by decide +kernel
theorem dX3_init_16 : decode cX3_init 16 = .ok (.bipush 11, 2) := by decide +kernel
theorem dX3_init_18 : decode cX3_init 18 = .ok (.if_icmp .ge 22, 3) := by decide +kernel
theorem dX3_init_21 : decode cX3_init 21 = .ok (.aload_n 0, 1) := by decide +kernel
theorem dX3_init_22 : decode cX3_init 22 = .ok (.getfield 13, 3) := by decide +kernel
theorem dX3_init_25 : decode cX3_init 25 = .ok (.iload_n 1, 1) := by decide +kernel
theorem dX3_init_26 : decode cX3_init 26 = .ok (.new 11, 3) := by decide +kernel
theorem dX3_init_29 : decode cX3_init 29 = .ok (.dup, 1) := by decide +kernel
theorem dX3_init_30 : decode cX3_init 30 = .ok (.invokespecial 17, 3) := by decide +kernel
theorem dX3_init_33 : decode cX3_init 33 = .ok (.aastore, 1) := by decide +kernel
theorem dX3_init_34 : decode cX3_init 34 = .ok (.iinc 1 1, 3) := by decide +kernel
theorem dX3_init_37 : decode cX3_init 37 = .ok (.goto (-22), 3) := by decide +kernel
theorem dX3_init_40 : decode cX3_init 40 = .ok (.aload_n 0, 1) := by decide +kernel
theorem dX3_init_41 : decode cX3_init 41 = .ok (.iconst 0, 1) := by decide +kernel
theorem dX3_init_42 : decode cX3_init 42 = .ok (.putfield 18, 3) := by decide +kernel
theorem dX3_init_45 : decode cX3_init 45 = .ok (.aload_n 0, 1) := by decide +kernel
theorem dX3_init_46 : decode cX3_init 46 = .ok (.iconst 0, 1) := by decide +kernel
theorem dX3_init_47 : decode cX3_init 47 = .ok (.putfield 22, 3) := by decide +kernel
theorem dX3_init_50 : decode cX3_init 50 = .ok (.return_, 1) := by decide +kernel
theorem dX3_forget_0 : decode cX3_forget 0 = .ok (.aload_n 0, 1) := by decide +kernel
theorem dX3_forget_1 : decode cX3_forget 1 = .ok (.iconst 0, 1) := by decide +kernel
theorem dX3_forget_2 : decode cX3_forget 2 = .ok (.putfield 22, 3) := by decide +kernel
theorem dX3_forget_5 : decode cX3_forget 5 = .ok (.return_, 1) := by decide +kernel
theorem dX3_prepare_0 : decode cX3_prepare 0 = .ok (.aload_n 0, 1) := by decide +kernel
theorem dX3_prepare_1 : decode cX3_prepare 1 = .ok (.getfield 13, 3) := by decide +kernel
theorem dX3_prepare_4 : decode cX3_prepare 4 = .ok (.aload_n 0, 1) := by decide +kernel
theorem dX3_prepare_5 : decode cX3_prepare 5 = .ok (.getfield 18, 3) := by decide +kernel
theorem dX3_prepare_8 : decode cX3_prepare 8 = .ok (.aaload, 1) := by decide +kernel
theorem dX3_prepare_9 : decode cX3_prepare 9 = .ok (.aload_n 1, 1) := by decide +kernel
theorem dX3_prepare_10 : decode cX3_prepare 10 = .ok (.invokevirtual 25, 3) := by decide +kernel
theorem dX3_prepare_13 : decode cX3_prepare 13 = .ok (.return_, 1) := by decide +kernel
theorem dX3_keepPrepared_0 : decode cX3_keepPrepared 0 = .ok (.aload_n 0, 1) := by decide +kernel
theorem dX3_keepPrepared_1 : decode cX3_keepPrepared 1 = .ok (.aload_n 0, 1) := by decide +kernel
theorem dX3_keepPrepared_2 : decode cX3_keepPrepared 2 = .ok (.getfield 18, 3) := by decide +kernel
theorem dX3_keepPrepared_5 : decode cX3_keepPrepared 5 = .ok (.iconst 1, 1) := by decide +kernel
theorem dX3_keepPrepared_6 : decode cX3_keepPrepared 6 = .ok (.iadd, 1) := by decide +kernel
theorem dX3_keepPrepared_7 : decode cX3_keepPrepared 7 = .ok (.bipush 11, 2) := by decide +kernel
theorem dX3_keepPrepared_9 : decode cX3_keepPrepared 9 = .ok (.irem, 1) := by decide +kernel
theorem dX3_keepPrepared_10 : decode cX3_keepPrepared 10 = .ok (.putfield 18, 3) := by decide +kernel
theorem dX3_keepPrepared_13 : decode cX3_keepPrepared 13 = .ok (.aload_n 0, 1) := by decide +kernel
theorem dX3_keepPrepared_14 : decode cX3_keepPrepared 14 = .ok (.aload_n 0, 1) := by decide +kernel
theorem dX3_keepPrepared_15 : decode cX3_keepPrepared 15 = .ok (.getfield 22, 3) := by decide +kernel
theorem dX3_keepPrepared_18 : decode cX3_keepPrepared 18 = .ok (.iconst 1, 1) := by decide +kernel
theorem dX3_keepPrepared_19 : decode cX3_keepPrepared 19 = .ok (.iadd, 1) := by decide +kernel
theorem dX3_keepPrepared_20 : decode cX3_keepPrepared 20 = .ok (.bipush 10, 2) := by decide +kernel
theorem dX3_keepPrepared_22 : decode cX3_keepPrepared 22 = .ok (.invokestatic 29, 3) := by decide +kernel
theorem dX3_keepPrepared_25 : decode cX3_keepPrepared 25 = .ok (.putfield 22, 3) := by decide +kernel
theorem dX3_keepPrepared_28 : decode cX3_keepPrepared 28 = .ok (.return_, 1) := by decide +kernel
theorem dX3_giveBack_0 : decode cX3_giveBack 0 = .ok (.aload_n 0, 1) := by decide +kernel
theorem dX3_giveBack_1 : decode cX3_giveBack 1 = .ok (.aload_n 0, 1) := by decide +kernel
theorem dX3_giveBack_2 : decode cX3_giveBack 2 = .ok (.getfield 18, 3) := by decide +kernel
theorem dX3_giveBack_5 : decode cX3_giveBack 5 = .ok (.bipush 11, 2) := by decide +kernel
theorem dX3_giveBack_7 : decode cX3_giveBack 7 = .ok (.iadd, 1) := by decide +kernel
theorem dX3_giveBack_8 : decode cX3_giveBack 8 = .ok (.iconst 1, 1) := by decide +kernel
theorem dX3_giveBack_9 : decode cX3_giveBack 9 = .ok (.isub, 1) := by decide +kernel
theorem dX3_giveBack_10 : decode cX3_giveBack 10 = .ok (.bipush 11, 2) := by decide +kernel
theorem dX3_giveBack_12 : decode cX3_giveBack 12 = .ok (.irem, 1) := by decide +kernel
theorem dX3_giveBack_13 : decode cX3_giveBack 13 = .ok (.putfield 18, 3) := by decide +kernel
theorem dX3_giveBack_16 : decode cX3_giveBack 16 = .ok (.aload_n 0, 1) := by decide +kernel
theorem dX3_giveBack_17 : decode cX3_giveBack 17 = .ok (.dup, 1) := by decide +kernel
theorem dX3_giveBack_18 : decode cX3_giveBack 18 = .ok (.getfield 22, 3) := by decide +kernel
theorem dX3_giveBack_21 : decode cX3_giveBack 21 = .ok (.iconst 1, 1) := by decide +kernel
theorem dX3_giveBack_22 : decode cX3_giveBack 22 = .ok (.isub, 1) := by decide +kernel
theorem dX3_giveBack_23 : decode cX3_giveBack 23 = .ok (.putfield 22, 3) := by decide +kernel
theorem dX3_giveBack_26 : decode cX3_giveBack 26 = .ok (.aload_n 1, 1) := by decide +kernel
theorem dX3_giveBack_27 : decode cX3_giveBack 27 = .ok (.aload_n 0, 1) := by decide +kernel
theorem dX3_giveBack_28 : decode cX3_giveBack 28 = .ok (.getfield 13, 3) := by decide +kernel
theorem dX3_giveBack_31 : decode cX3_giveBack 31 = .ok (.aload_n 0, 1) := by decide +kernel
theorem dX3_giveBack_32 : decode cX3_giveBack 32 = .ok (.getfield 18, 3) := by decide +kernel
theorem dX3_giveBack_35 : decode cX3_giveBack 35 = .ok (.aaload, 1) := by decide +kernel
theorem dX3_giveBack_36 : decode cX3_giveBack 36 = .ok (.invokevirtual 25, 3) := by decide +kernel
theorem dX3_giveBack_39 : decode cX3_giveBack 39 = .ok (.return_, 1) := by decide +kernel
theorem dX4_init_0 : decode cX4_init 0 = .ok (.aload_n 0, 1) := by decide +kernel
theorem dX4_init_1 : decode cX4_init 1 = .ok (.invokespecial 3, 3) := by decide +kernel
theorem dX4_init_4 : decode cX4_init 4 = .ok (.aload_n 0, 1) := by decide +kernel
theorem dX4_init_5 : decode cX4_init 5 = .ok (.aload_n 1, 1) := by decide +kernel
theorem dX4_init_6 : decode cX4_init 6 = .ok (.putfield 9, 3) := by decide +kernel
theorem dX4_init_9 : decode cX4_init 9 = .ok (.aload_n 0, 1) := by decide +kernel
theorem dX4_init_10 : decode cX4_init 10 = .ok (.new 15, 3) := by decide +kernel
theorem dX4_init_13 : decode cX4_init 13 = .ok (.dup, 1) := by decide +kernel
theorem dX4_init_14 : decode cX4_init 14 = .ok (.invokespecial 17, 3) := by decide +kernel
theorem dX4_init_17 : decode cX4_init 17 = .ok (.putfield 18, 3) := by decide +kernel
theorem dX4_init_20 : decode cX4_init 20 = .ok (.return_, 1) := by decide +kernel
theorem dX4_read_0 : decode cX4_read 0 = .ok (.aload_n 0, 1) := by decide +kernel
theorem dX4_read_1 : decode cX4_read 1 = .ok (.getfield 18, 3) := by decide +kernel
theorem dX4_read_4 : decode cX4_read 4 = .ok (.invokevirtual 22, 3) := by decide +kernel
theorem dX4_read_7 : decode cX4_read 7 = .ok (.aload_n 0, 1) := by decide +kernel
theorem dX4_read_8 : decode cX4_read 8 = .ok (.iconst 0, 1) := by decide +kernel
theorem dX4_read_9 : decode cX4_read 9 = .ok (.putfield 25, 3) := by decide +kernel
theorem dX4_read_12 : decode cX4_read 12 = .ok (.aload_n 0, 1) := by decide +kernel
theorem dX4_read_13 : decode cX4_read 13 = .ok (.iconst 0, 1) := by decide +kernel
theorem dX4_read_14 : decode cX4_read 14 = .ok (.putfield 29, 3) := by decide +kernel
theorem dX4_read_17 : decode cX4_read 17 = .ok (.aload_n 0, 1) := by decide +kernel
theorem dX4_read_18 : decode cX4_read 18 = .ok (.iconst 0, 1) := by decide +kernel
theorem dX4_read_19 : decode cX4_read 19 = .ok (.putfield 32, 3) := by decide +kernel
theorem dX4_read_22 : decode cX4_read 22 = .ok (.aload_n 0, 1) := by decide +kernel
theorem dX4_read_23 : decode cX4_read 23 = .ok (.iconst 0, 1) := by decide +kernel
theorem dX4_read_24 : decode cX4_read 24 = .ok (.putfield 35, 3) := by decide +kernel
theorem dX4_read_27 : decode cX4_read 27 = .ok (.aload_n 0, 1) := by decide +kernel
theorem dX4_read_28 : decode cX4_read 28 = .ok (.invokevirtual 39, 3) := by decide +kernel
theorem dX4_read_31 : decode cX4_read 31 = .ok (.iconst 0, 1) := by decide +kernel
theorem dX4_read_32 : decode cX4_read 32 = .ok (.istore_n 1, 1) := by decide +kernel
theorem dX4_read_33 : decode cX4_read 33 = .ok (.iload_n 1, 1) := by decide +kernel
theorem dX4_read_34 : decode cX4_read 34 = .ok (.sipush 540, 3) := by decide +kernel
theorem dX4_read_37 : decode cX4_read 37 = .ok (.if_icmp .ge 28, 3) := by decide +kernel
theorem dX4_read_40 : decode cX4_read 40 = .ok (.aload_n 0, 1) := by decide +kernel
theorem dX4_read_41 : decode cX4_read 41 = .ok (.getfield 42, 3) := by decide +kernel
theorem dX4_read_44 : decode cX4_read 44 = .ok (.iconst 1, 1) := by decide +kernel
theorem dX4_read_45 : decode cX4_read 45 = .ok (.if_icmp .eq 20, 3) := by decide +kernel
theorem dX4_read_48 : decode cX4_read 48 = .ok (.aload_n 0, 1) := by decide +kernel
theorem dX4_read_49 : decode cX4_read 49 = .ok (.getfield 25, 3) := by decide +kernel
theorem dX4_read_52 : decode cX4_read 52 = .ok (.ifCond .ne 13, 3) := by decide +kernel
theorem dX4_read_55 : decode cX4_read 55 = .ok (.aload_n 0, 1) := by decide +kernel
theorem dX4_read_56 : decode cX4_read 56 = .ok (.invokevirtual 45, 3) := by decide +kernel
theorem dX4_read_59 : decode cX4_read 59 = .ok (.iinc 1 1, 3) := by decide +kernel
theorem dX4_read_62 : decode cX4_read 62 = .ok (.goto (-29), 3) := by decide +kernel
theorem dX4_read_65 : decode cX4_read 65 = .ok (.aload_n 0, 1) := by decide +kernel
theorem dX4_read_66 : decode cX4_read 66 = .ok (.getfield 25, 3) := by decide +kernel
theorem dX4_read_69 : decode cX4_read 69 = .ok (.ifCond .ne 21, 3) := by decide +kernel
theorem dX4_read_72 : decode cX4_read 72 = .ok (.aload_n 0, 1) := by decide +kernel
theorem dX4_read_73 : decode cX4_read 73 = .ok (.getfield 9, 3) := by decide +kernel
theorem dX4_read_76 : decode cX4_read 76 = .ok (.getfield 48, 3) := by decide +kernel
theorem dX4_read_79 : decode cX4_read 79 = .ok (.sipush 500, 3) := by decide +kernel
theorem dX4_read_82 : decode cX4_read 82 = .ok (.if_icmp .le 8, 3) := by decide +kernel
theorem dX4_read_85 : decode cX4_read 85 = .ok (.aload_n 0, 1) := by decide +kernel
theorem dX4_read_86 : decode cX4_read 86 = .ok (.iconst 1, 1) := by decide +kernel
theorem dX4_read_87 : decode cX4_read 87 = .ok (.putfield 25, 3) := by decide +kernel
theorem dX4_read_90 : decode cX4_read 90 = .ok (.aload_n 0, 1) := by decide +kernel
theorem dX4_read_91 : decode cX4_read 91 = .ok (.getfield 25, 3) := by decide +kernel
theorem dX4_read_94 : decode cX4_read 94 = .ok (.ifCond .ne 7, 3) := by decide +kernel
theorem dX4_read_97 : decode cX4_read 97 = .ok (.iconst 1, 1) := by decide +kernel
theorem dX4_read_98 : decode cX4_read 98 = .ok (.goto 4, 3) := by decide +kernel
theorem dX4_read_101 : decode cX4_read 101 = .ok (.iconst 0, 1) := by decide +kernel
theorem dX4_read_102 : decode cX4_read 102 = .ok (.ireturn, 1) := by decide +kernel
theorem dX4_readLine_0 : decode cX4_readLine 0 = .ok (.aload_n 0, 1) := by decide +kernel
theorem dX4_readLine_1 : decode cX4_readLine 1 = .ok (.getfield 29, 3) := by decide +kernel
theorem dX4_readLine_4 : decode cX4_readLine 4 = .ok (.ifCond .ne 10, 3) := by decide +kernel
theorem dX4_readLine_7 : decode cX4_readLine 7 = .ok (.aload_n 0, 1) := by decide +kernel
theorem dX4_readLine_8 : decode cX4_readLine 8 = .ok (.invokevirtual 53, 3) := by decide +kernel
theorem dX4_readLine_11 : decode cX4_readLine 11 = .ok (.goto 56, 3) := by decide +kernel
theorem dX4_readLine_14 : decode cX4_readLine 14 = .ok (.aload_n 0, 1) := by decide +kernel
theorem dX4_readLine_15 : decode cX4_readLine 15 = .ok (.ldc 56, 2) := by decide +kernel
theorem dX4_readLine_17 : decode cX4_readLine 17 = .ok (.invokevirtual 58, 3) := by decide +kernel
theorem dX4_readLine_20 : decode cX4_readLine 20 = .ok (.ifCond .eq 10, 3) := by decide +kernel
theorem dX4_readLine_23 : decode cX4_readLine 23 = .ok (.aload_n 0, 1) := by decide +kernel
theorem dX4_readLine_24 : decode cX4_readLine 24 = .ok (.invokevirtual 62, 3) := by decide +kernel
theorem dX4_readLine_27 : decode cX4_readLine 27 = .ok (.goto 40, 3) := by decide +kernel
theorem dX4_readLine_30 : decode cX4_readLine 30 = .ok (.aload_n 0, 1) := by decide +kernel
theorem dX4_readLine_31 : decode cX4_readLine 31 = .ok (.ldc 65, 2) := by decide +kernel
theorem dX4_readLine_33 : decode cX4_readLine 33 = .ok (.invokevirtual 58, 3) := by decide +kernel
theorem dX4_readLine_36 : decode cX4_readLine 36 = .ok (.ifCond .eq 10, 3) := by decide +kernel
theorem dX4_readLine_39 : decode cX4_readLine 39 = .ok (.aload_n 0, 1) := by decide +kernel
theorem dX4_readLine_40 : decode cX4_readLine 40 = .ok (.invokevirtual 67, 3) := by decide +kernel
theorem dX4_readLine_43 : decode cX4_readLine 43 = .ok (.goto 24, 3) := by decide +kernel
theorem dX4_readLine_46 : decode cX4_readLine 46 = .ok (.aload_n 0, 1) := by decide +kernel
theorem dX4_readLine_47 : decode cX4_readLine 47 = .ok (.ldc 70, 2) := by decide +kernel
theorem dX4_readLine_49 : decode cX4_readLine 49 = .ok (.invokevirtual 58, 3) := by decide +kernel
theorem dX4_readLine_52 : decode cX4_readLine 52 = .ok (.ifCond .eq 10, 3) := by decide +kernel
theorem dX4_readLine_55 : decode cX4_readLine 55 = .ok (.aload_n 0, 1) := by decide +kernel
theorem dX4_readLine_56 : decode cX4_readLine 56 = .ok (.invokevirtual 72, 3) := by decide +kernel
theorem dX4_readLine_59 : decode cX4_readLine 59 = .ok (.goto 8, 3) := by decide +kernel
theorem dX4_readLine_62 : decode cX4_readLine 62 = .ok (.aload_n 0, 1) := by decide +kernel
theorem dX4_readLine_63 : decode cX4_readLine 63 = .ok (.iconst 1, 1) := by decide +kernel
theorem dX4_readLine_64 : decode cX4_readLine 64 = .ok (.putfield 25, 3) := by decide +kernel
theorem dX4_readLine_67 : decode cX4_readLine 67 = .ok (.aload_n 0, 1) := by decide +kernel
theorem dX4_readLine_68 : decode cX4_readLine 68 = .ok (.invokevirtual 75, 3) := by decide +kernel
theorem dX4_readLine_71 : decode cX4_readLine 71 = .ok (.return_, 1) := by decide +kernel
theorem dX4_readCourt_0 : decode cX4_readCourt 0 = .ok (.aload_n 0, 1) := by decide +kernel
theorem dX4_readCourt_1 : decode cX4_readCourt 1 = .ok (.ldc 78, 2) := by decide +kernel
theorem dX4_readCourt_3 : decode cX4_readCourt 3 = .ok (.invokevirtual 58, 3) := by decide +kernel
theorem dX4_readCourt_6 : decode cX4_readCourt 6 = .ok (.ifCond .ne 9, 3) := by decide +kernel
theorem dX4_readCourt_9 : decode cX4_readCourt 9 = .ok (.aload_n 0, 1) := by decide +kernel
theorem dX4_readCourt_10 : decode cX4_readCourt 10 = .ok (.iconst 1, 1) := by decide +kernel
theorem dX4_readCourt_11 : decode cX4_readCourt 11 = .ok (.putfield 25, 3) := by decide +kernel
theorem dX4_readCourt_14 : decode cX4_readCourt 14 = .ok (.return_, 1) := by decide +kernel
theorem dX4_readCourt_15 : decode cX4_readCourt 15 = .ok (.aload_n 0, 1) := by decide +kernel
theorem dX4_readCourt_16 : decode cX4_readCourt 16 = .ok (.invokevirtual 39, 3) := by decide +kernel
theorem dX4_readCourt_19 : decode cX4_readCourt 19 = .ok (.aload_n 0, 1) := by decide +kernel
theorem dX4_readCourt_20 : decode cX4_readCourt 20 = .ok (.getfield 18, 3) := by decide +kernel
theorem dX4_readCourt_23 : decode cX4_readCourt 23 = .ok (.aload_n 0, 1) := by decide +kernel
theorem dX4_readCourt_24 : decode cX4_readCourt 24 = .ok (.iconst 0, 1) := by decide +kernel
theorem dX4_readCourt_25 : decode cX4_readCourt 25 = .ok (.sipush 9999, 3) := by decide +kernel
theorem dX4_readCourt_28 : decode cX4_readCourt 28 = .ok (.invokevirtual 80, 3) := by decide +kernel
theorem dX4_readCourt_31 : decode cX4_readCourt 31 = .ok (.putfield 84, 3) := by decide +kernel
theorem dX4_readCourt_34 : decode cX4_readCourt 34 = .ok (.aload_n 0, 1) := by decide +kernel
theorem dX4_readCourt_35 : decode cX4_readCourt 35 = .ok (.getfield 18, 3) := by decide +kernel
theorem dX4_readCourt_38 : decode cX4_readCourt 38 = .ok (.aload_n 0, 1) := by decide +kernel
theorem dX4_readCourt_39 : decode cX4_readCourt 39 = .ok (.iconst 1, 1) := by decide +kernel
theorem dX4_readCourt_40 : decode cX4_readCourt 40 = .ok (.bipush 20, 2) := by decide +kernel
theorem dX4_readCourt_42 : decode cX4_readCourt 42 = .ok (.invokevirtual 80, 3) := by decide +kernel
theorem dX4_readCourt_45 : decode cX4_readCourt 45 = .ok (.putfield 87, 3) := by decide +kernel
theorem dX4_readCourt_48 : decode cX4_readCourt 48 = .ok (.aload_n 0, 1) := by decide +kernel
theorem dX4_readCourt_49 : decode cX4_readCourt 49 = .ok (.getfield 18, 3) := by decide +kernel
theorem dX4_readCourt_52 : decode cX4_readCourt 52 = .ok (.aload_n 0, 1) := by decide +kernel
theorem dX4_readCourt_53 : decode cX4_readCourt 53 = .ok (.iconst 0, 1) := by decide +kernel
theorem dX4_readCourt_54 : decode cX4_readCourt 54 = .ok (.bipush 9, 2) := by decide +kernel
theorem dX4_readCourt_56 : decode cX4_readCourt 56 = .ok (.invokevirtual 80, 3) := by decide +kernel
theorem dX4_readCourt_59 : decode cX4_readCourt 59 = .ok (.putfield 90, 3) := by decide +kernel
theorem dX4_readCourt_62 : decode cX4_readCourt 62 = .ok (.aload_n 0, 1) := by decide +kernel
theorem dX4_readCourt_63 : decode cX4_readCourt 63 = .ok (.getfield 18, 3) := by decide +kernel
theorem dX4_readCourt_66 : decode cX4_readCourt 66 = .ok (.aload_n 0, 1) := by decide +kernel
theorem dX4_readCourt_67 : decode cX4_readCourt 67 = .ok (.iconst 0, 1) := by decide +kernel
theorem dX4_readCourt_68 : decode cX4_readCourt 68 = .ok (.bipush 9, 2) := by decide +kernel
theorem dX4_readCourt_70 : decode cX4_readCourt 70 = .ok (.invokevirtual 80, 3) := by decide +kernel
theorem dX4_readCourt_73 : decode cX4_readCourt 73 = .ok (.putfield 93, 3) := by decide +kernel
theorem dX4_readCourt_76 : decode cX4_readCourt 76 = .ok (.aload_n 0, 1) := by decide +kernel
theorem dX4_readCourt_77 : decode cX4_readCourt 77 = .ok (.getfield 18, 3) := by decide +kernel
theorem dX4_readCourt_80 : decode cX4_readCourt 80 = .ok (.aload_n 0, 1) := by decide +kernel
theorem dX4_readCourt_81 : decode cX4_readCourt 81 = .ok (.iconst 0, 1) := by decide +kernel
theorem dX4_readCourt_82 : decode cX4_readCourt 82 = .ok (.bipush 9, 2) := by decide +kernel
theorem dX4_readCourt_84 : decode cX4_readCourt 84 = .ok (.invokevirtual 80, 3) := by decide +kernel
theorem dX4_readCourt_87 : decode cX4_readCourt 87 = .ok (.putfield 96, 3) := by decide +kernel
theorem dX4_readCourt_90 : decode cX4_readCourt 90 = .ok (.return_, 1) := by decide +kernel
theorem dX4_readJudge_0 : decode cX4_readJudge 0 = .ok (.aload_n 0, 1) := by decide +kernel
theorem dX4_readJudge_1 : decode cX4_readJudge 1 = .ok (.getfield 18, 3) := by decide +kernel
theorem dX4_readJudge_4 : decode cX4_readJudge 4 = .ok (.getfield 99, 3) := by decide +kernel
theorem dX4_readJudge_7 : decode cX4_readJudge 7 = .ok (.bipush 9, 2) := by decide +kernel
theorem dX4_readJudge_9 : decode cX4_readJudge 9 = .ok (.if_icmp .lt 9, 3) := by decide +kernel
theorem dX4_readJudge_12 : decode cX4_readJudge 12 = .ok (.aload_n 0, 1) := by decide +kernel
theorem dX4_readJudge_13 : decode cX4_readJudge 13 = .ok (.iconst 3, 1) := by decide +kernel
theorem dX4_readJudge_14 : decode cX4_readJudge 14 = .ok (.putfield 25, 3) := by decide +kernel
theorem dX4_readJudge_17 : decode cX4_readJudge 17 = .ok (.return_, 1) := by decide +kernel
theorem dX4_readJudge_18 : decode cX4_readJudge 18 = .ok (.aload_n 0, 1) := by decide +kernel
theorem dX4_readJudge_19 : decode cX4_readJudge 19 = .ok (.invokevirtual 39, 3) := by decide +kernel
theorem dX4_readJudge_22 : decode cX4_readJudge 22 = .ok (.aload_n 0, 1) := by decide +kernel
theorem dX4_readJudge_23 : decode cX4_readJudge 23 = .ok (.getfield 18, 3) := by decide +kernel
theorem dX4_readJudge_26 : decode cX4_readJudge 26 = .ok (.getfield 102, 3) := by decide +kernel
theorem dX4_readJudge_29 : decode cX4_readJudge 29 = .ok (.aload_n 0, 1) := by decide +kernel
theorem dX4_readJudge_30 : decode cX4_readJudge 30 = .ok (.getfield 18, 3) := by decide +kernel
theorem dX4_readJudge_33 : decode cX4_readJudge 33 = .ok (.getfield 99, 3) := by decide +kernel
theorem dX4_readJudge_36 : decode cX4_readJudge 36 = .ok (.aload_n 0, 1) := by decide +kernel
theorem dX4_readJudge_37 : decode cX4_readJudge 37 = .ok (.iconst 1, 1) := by decide +kernel
theorem dX4_readJudge_38 : decode cX4_readJudge 38 = .ok (.bipush 99, 2) := by decide +kernel
theorem dX4_readJudge_40 : decode cX4_readJudge 40 = .ok (.invokevirtual 80, 3) := by decide +kernel
theorem dX4_readJudge_43 : decode cX4_readJudge 43 = .ok (.iastore, 1) := by decide +kernel
theorem dX4_readJudge_44 : decode cX4_readJudge 44 = .ok (.aload_n 0, 1) := by decide +kernel
theorem dX4_readJudge_45 : decode cX4_readJudge 45 = .ok (.getfield 18, 3) := by decide +kernel
theorem dX4_readJudge_48 : decode cX4_readJudge 48 = .ok (.dup, 1) := by decide +kernel
theorem dX4_readJudge_49 : decode cX4_readJudge 49 = .ok (.getfield 99, 3) := by decide +kernel
theorem dX4_readJudge_52 : decode cX4_readJudge 52 = .ok (.iconst 1, 1) := by decide +kernel
theorem dX4_readJudge_53 : decode cX4_readJudge 53 = .ok (.iadd, 1) := by decide +kernel
theorem dX4_readJudge_54 : decode cX4_readJudge 54 = .ok (.putfield 99, 3) := by decide +kernel
theorem dX4_readJudge_57 : decode cX4_readJudge 57 = .ok (.return_, 1) := by decide +kernel
theorem dX4_readSenior_0 : decode cX4_readSenior 0 = .ok (.aload_n 0, 1) := by decide +kernel
theorem dX4_readSenior_1 : decode cX4_readSenior 1 = .ok (.getfield 35, 3) := by decide +kernel
theorem dX4_readSenior_4 : decode cX4_readSenior 4 = .ok (.ifCond .eq 9, 3) := by decide +kernel
theorem dX4_readSenior_7 : decode cX4_readSenior 7 = .ok (.aload_n 0, 1) := by decide +kernel
theorem dX4_readSenior_8 : decode cX4_readSenior 8 = .ok (.iconst 3, 1) := by decide +kernel
theorem dX4_readSenior_9 : decode cX4_readSenior 9 = .ok (.putfield 25, 3) := by decide +kernel
theorem dX4_readSenior_12 : decode cX4_readSenior 12 = .ok (.return_, 1) := by decide +kernel
theorem dX4_readSenior_13 : decode cX4_readSenior 13 = .ok (.aload_n 0, 1) := by decide +kernel
theorem dX4_readSenior_14 : decode cX4_readSenior 14 = .ok (.iconst 1, 1) := by decide +kernel
theorem dX4_readSenior_15 : decode cX4_readSenior 15 = .ok (.putfield 35, 3) := by decide +kernel
theorem dX4_readSenior_18 : decode cX4_readSenior 18 = .ok (.aload_n 0, 1) := by decide +kernel
theorem dX4_readSenior_19 : decode cX4_readSenior 19 = .ok (.invokevirtual 39, 3) := by decide +kernel
theorem dX4_readSenior_22 : decode cX4_readSenior 22 = .ok (.aload_n 0, 1) := by decide +kernel
theorem dX4_readSenior_23 : decode cX4_readSenior 23 = .ok (.getfield 18, 3) := by decide +kernel
theorem dX4_readSenior_26 : decode cX4_readSenior 26 = .ok (.aload_n 0, 1) := by decide +kernel
theorem dX4_readSenior_27 : decode cX4_readSenior 27 = .ok (.iconst 1, 1) := by decide +kernel
theorem dX4_readSenior_28 : decode cX4_readSenior 28 = .ok (.bipush 99, 2) := by decide +kernel
theorem dX4_readSenior_30 : decode cX4_readSenior 30 = .ok (.invokevirtual 80, 3) := by decide +kernel
theorem dX4_readSenior_33 : decode cX4_readSenior 33 = .ok (.putfield 106, 3) := by decide +kernel
theorem dX4_readSenior_36 : decode cX4_readSenior 36 = .ok (.return_, 1) := by decide +kernel
theorem dX4_readCase_0 : decode cX4_readCase 0 = .ok (.aload_n 0, 1) := by decide +kernel
theorem dX4_readCase_1 : decode cX4_readCase 1 = .ok (.getfield 18, 3) := by decide +kernel
theorem dX4_readCase_4 : decode cX4_readCase 4 = .ok (.getfield 109, 3) := by decide +kernel
theorem dX4_readCase_7 : decode cX4_readCase 7 = .ok (.istore_n 1, 1) := by decide +kernel
theorem dX4_readCase_8 : decode cX4_readCase 8 = .ok (.iload_n 1, 1) := by decide +kernel
theorem dX4_readCase_9 : decode cX4_readCase 9 = .ok (.bipush 14, 2) := by decide +kernel
theorem dX4_readCase_11 : decode cX4_readCase 11 = .ok (.if_icmp .lt 9, 3) := by decide +kernel
theorem dX4_readCase_14 : decode cX4_readCase 14 = .ok (.aload_n 0, 1) := by decide +kernel
theorem dX4_readCase_15 : decode cX4_readCase 15 = .ok (.iconst 3, 1) := by decide +kernel
theorem dX4_readCase_16 : decode cX4_readCase 16 = .ok (.putfield 25, 3) := by decide +kernel
theorem dX4_readCase_19 : decode cX4_readCase 19 = .ok (.return_, 1) := by decide +kernel
theorem dX4_readCase_20 : decode cX4_readCase 20 = .ok (.aload_n 0, 1) := by decide +kernel
theorem dX4_readCase_21 : decode cX4_readCase 21 = .ok (.invokevirtual 39, 3) := by decide +kernel
theorem dX4_readCase_24 : decode cX4_readCase 24 = .ok (.aload_n 0, 1) := by decide +kernel
theorem dX4_readCase_25 : decode cX4_readCase 25 = .ok (.getfield 18, 3) := by decide +kernel
theorem dX4_readCase_28 : decode cX4_readCase 28 = .ok (.getfield 112, 3) := by decide +kernel
theorem dX4_readCase_31 : decode cX4_readCase 31 = .ok (.iload_n 1, 1) := by decide +kernel
theorem dX4_readCase_32 : decode cX4_readCase 32 = .ok (.aload_n 0, 1) := by decide +kernel
theorem dX4_readCase_33 : decode cX4_readCase 33 = .ok (.iconst 1, 1) := by decide +kernel
theorem dX4_readCase_34 : decode cX4_readCase 34 = .ok (.bipush 9, 2) := by decide +kernel
theorem dX4_readCase_36 : decode cX4_readCase 36 = .ok (.invokevirtual 80, 3) := by decide +kernel
theorem dX4_readCase_39 : decode cX4_readCase 39 = .ok (.iastore, 1) := by decide +kernel
theorem dX4_readCase_40 : decode cX4_readCase 40 = .ok (.aload_n 0, 1) := by decide +kernel
theorem dX4_readCase_41 : decode cX4_readCase 41 = .ok (.getfield 18, 3) := by decide +kernel
theorem dX4_readCase_44 : decode cX4_readCase 44 = .ok (.getfield 115, 3) := by decide +kernel
theorem dX4_readCase_47 : decode cX4_readCase 47 = .ok (.iload_n 1, 1) := by decide +kernel
theorem dX4_readCase_48 : decode cX4_readCase 48 = .ok (.iconst 0, 1) := by decide +kernel
theorem dX4_readCase_49 : decode cX4_readCase 49 = .ok (.iastore, 1) := by decide +kernel
theorem dX4_readCase_50 : decode cX4_readCase 50 = .ok (.aload_n 0, 1) := by decide +kernel
theorem dX4_readCase_51 : decode cX4_readCase 51 = .ok (.getfield 18, 3) := by decide +kernel
theorem dX4_readCase_54 : decode cX4_readCase 54 = .ok (.dup, 1) := by decide +kernel
theorem dX4_readCase_55 : decode cX4_readCase 55 = .ok (.getfield 109, 3) := by decide +kernel
theorem dX4_readCase_58 : decode cX4_readCase 58 = .ok (.iconst 1, 1) := by decide +kernel
theorem dX4_readCase_59 : decode cX4_readCase 59 = .ok (.iadd, 1) := by decide +kernel
theorem dX4_readCase_60 : decode cX4_readCase 60 = .ok (.putfield 109, 3) := by decide +kernel
theorem dX4_readCase_63 : decode cX4_readCase 63 = .ok (.aload_n 0, 1) := by decide +kernel
theorem dX4_readCase_64 : decode cX4_readCase 64 = .ok (.getfield 25, 3) := by decide +kernel
theorem dX4_readCase_67 : decode cX4_readCase 67 = .ok (.ifCond .ne 29, 3) := by decide +kernel
theorem dX4_readCase_70 : decode cX4_readCase 70 = .ok (.aload_n 0, 1) := by decide +kernel
theorem dX4_readCase_71 : decode cX4_readCase 71 = .ok (.ldc 118, 2) := by decide +kernel
theorem dX4_readCase_73 : decode cX4_readCase 73 = .ok (.invokevirtual 58, 3) := by decide +kernel
theorem dX4_readCase_76 : decode cX4_readCase 76 = .ok (.ifCond .eq 20, 3) := by decide +kernel
theorem dX4_readCase_79 : decode cX4_readCase 79 = .ok (.aload_n 0, 1) := by decide +kernel
theorem dX4_readCase_80 : decode cX4_readCase 80 = .ok (.invokevirtual 39, 3) := by decide +kernel
theorem dX4_readCase_83 : decode cX4_readCase 83 = .ok (.aload_n 0, 1) := by decide +kernel
theorem dX4_readCase_84 : decode cX4_readCase 84 = .ok (.getfield 18, 3) := by decide +kernel
theorem dX4_readCase_87 : decode cX4_readCase 87 = .ok (.getfield 115, 3) := by decide +kernel
theorem dX4_readCase_90 : decode cX4_readCase 90 = .ok (.iload_n 1, 1) := by decide +kernel
theorem dX4_readCase_91 : decode cX4_readCase 91 = .ok (.aload_n 0, 1) := by decide +kernel
theorem dX4_readCase_92 : decode cX4_readCase 92 = .ok (.invokevirtual 120, 3) := by decide +kernel
theorem dX4_readCase_95 : decode cX4_readCase 95 = .ok (.iastore, 1) := by decide +kernel
theorem dX4_readCase_96 : decode cX4_readCase 96 = .ok (.return_, 1) := by decide +kernel
theorem dX4_takeBarred_0 : decode cX4_takeBarred 0 = .ok (.iconst 0, 1) := by decide +kernel
theorem dX4_takeBarred_1 : decode cX4_takeBarred 1 = .ok (.istore_n 1, 1) := by decide +kernel
theorem dX4_takeBarred_2 : decode cX4_takeBarred 2 = .ok (.aload_n 0, 1) := by decide +kernel
theorem dX4_takeBarred_3 : decode cX4_takeBarred 3 = .ok (.getfield 42, 3) := by decide +kernel
theorem dX4_takeBarred_6 : decode cX4_takeBarred 6 = .ok (.iconst 3, 1) := by decide +kernel
theorem dX4_takeBarred_7 : decode cX4_takeBarred 7 = .ok (.if_icmp .eq 8, 3) := by decide +kernel
theorem dX4_takeBarred_10 : decode cX4_takeBarred 10 = .ok (.aload_n 0, 1) := by decide +kernel
theorem dX4_takeBarred_11 : decode cX4_takeBarred 11 = .ok (.iconst 1, 1) := by decide +kernel
theorem dX4_takeBarred_12 : decode cX4_takeBarred 12 = .ok (.putfield 25, 3) := by decide +kernel
theorem dX4_takeBarred_15 : decode cX4_takeBarred 15 = .ok (.iconst 0, 1) := by decide +kernel
theorem dX4_takeBarred_16 : decode cX4_takeBarred 16 = .ok (.istore_n 2, 1) := by decide +kernel
theorem dX4_takeBarred_17 : decode cX4_takeBarred 17 = .ok (.iload_n 2, 1) := by decide +kernel
theorem dX4_takeBarred_18 : decode cX4_takeBarred 18 = .ok (.bipush 9, 2) := by decide +kernel
theorem dX4_takeBarred_20 : decode cX4_takeBarred 20 = .ok (.if_icmp .gt 70, 3) := by decide +kernel
theorem dX4_takeBarred_23 : decode cX4_takeBarred 23 = .ok (.aload_n 0, 1) := by decide +kernel
theorem dX4_takeBarred_24 : decode cX4_takeBarred 24 = .ok (.getfield 42, 3) := by decide +kernel
theorem dX4_takeBarred_27 : decode cX4_takeBarred 27 = .ok (.iconst 3, 1) := by decide +kernel
theorem dX4_takeBarred_28 : decode cX4_takeBarred 28 = .ok (.if_icmp .ne 62, 3) := by decide +kernel
theorem dX4_takeBarred_31 : decode cX4_takeBarred 31 = .ok (.aload_n 0, 1) := by decide +kernel
theorem dX4_takeBarred_32 : decode cX4_takeBarred 32 = .ok (.getfield 25, 3) := by decide +kernel
theorem dX4_takeBarred_35 : decode cX4_takeBarred 35 = .ok (.ifCond .ne 55, 3) := by decide +kernel
theorem dX4_takeBarred_38 : decode cX4_takeBarred 38 = .ok (.aload_n 0, 1) := by decide +kernel
theorem dX4_takeBarred_39 : decode cX4_takeBarred 39 = .ok (.getfield 18, 3) := by decide +kernel
theorem dX4_takeBarred_42 : decode cX4_takeBarred 42 = .ok (.aload_n 0, 1) := by decide +kernel
theorem dX4_takeBarred_43 : decode cX4_takeBarred 43 = .ok (.getfield 124, 3) := by decide +kernel
theorem dX4_takeBarred_46 : decode cX4_takeBarred 46 = .ok (.invokevirtual 127, 3) := by decide +kernel
theorem dX4_takeBarred_49 : decode cX4_takeBarred 49 = .ok (.ifCond .eq 14, 3) := by decide +kernel
theorem dX4_takeBarred_52 : decode cX4_takeBarred 52 = .ok (.iload_n 1, 1) := by decide +kernel
theorem dX4_takeBarred_53 : decode cX4_takeBarred 53 = .ok (.aload_n 0, 1) := by decide +kernel
theorem dX4_takeBarred_54 : decode cX4_takeBarred 54 = .ok (.getfield 124, 3) := by decide +kernel
theorem dX4_takeBarred_57 : decode cX4_takeBarred 57 = .ok (.invokestatic 131, 3) := by decide +kernel
theorem dX4_takeBarred_60 : decode cX4_takeBarred 60 = .ok (.ifCond .eq 11, 3) := by decide +kernel
theorem dX4_takeBarred_63 : decode cX4_takeBarred 63 = .ok (.aload_n 0, 1) := by decide +kernel
theorem dX4_takeBarred_64 : decode cX4_takeBarred 64 = .ok (.iconst 4, 1) := by decide +kernel
theorem dX4_takeBarred_65 : decode cX4_takeBarred 65 = .ok (.putfield 25, 3) := by decide +kernel
theorem dX4_takeBarred_68 : decode cX4_takeBarred 68 = .ok (.goto 16, 3) := by decide +kernel
theorem dX4_takeBarred_71 : decode cX4_takeBarred 71 = .ok (.iload_n 1, 1) := by decide +kernel
theorem dX4_takeBarred_72 : decode cX4_takeBarred 72 = .ok (.iconst 1, 1) := by decide +kernel
theorem dX4_takeBarred_73 : decode cX4_takeBarred 73 = .ok (.aload_n 0, 1) := by decide +kernel
theorem dX4_takeBarred_74 : decode cX4_takeBarred 74 = .ok (.getfield 124, 3) := by decide +kernel
theorem dX4_takeBarred_77 : decode cX4_takeBarred 77 = .ok (.ishl, 1) := by decide +kernel
theorem dX4_takeBarred_78 : decode cX4_takeBarred 78 = .ok (.ior, 1) := by decide +kernel
theorem dX4_takeBarred_79 : decode cX4_takeBarred 79 = .ok (.istore_n 1, 1) := by decide +kernel
theorem dX4_takeBarred_80 : decode cX4_takeBarred 80 = .ok (.aload_n 0, 1) := by decide +kernel
theorem dX4_takeBarred_81 : decode cX4_takeBarred 81 = .ok (.invokevirtual 39, 3) := by decide +kernel
theorem dX4_takeBarred_84 : decode cX4_takeBarred 84 = .ok (.iinc 2 1, 3) := by decide +kernel
theorem dX4_takeBarred_87 : decode cX4_takeBarred 87 = .ok (.goto (-70), 3) := by decide +kernel
theorem dX4_takeBarred_90 : decode cX4_takeBarred 90 = .ok (.iload_n 1, 1) := by decide +kernel
theorem dX4_takeBarred_91 : decode cX4_takeBarred 91 = .ok (.ireturn, 1) := by decide +kernel
theorem dX4_takeNumber_0 : decode cX4_takeNumber 0 = .ok (.aload_n 0, 1) := by decide +kernel
theorem dX4_takeNumber_1 : decode cX4_takeNumber 1 = .ok (.getfield 25, 3) := by decide +kernel
theorem dX4_takeNumber_4 : decode cX4_takeNumber 4 = .ok (.ifCond .eq 5, 3) := by decide +kernel
theorem dX4_takeNumber_7 : decode cX4_takeNumber 7 = .ok (.iconst (-1), 1) := by decide +kernel
theorem dX4_takeNumber_8 : decode cX4_takeNumber 8 = .ok (.ireturn, 1) := by decide +kernel
theorem dX4_takeNumber_9 : decode cX4_takeNumber 9 = .ok (.aload_n 0, 1) := by decide +kernel
theorem dX4_takeNumber_10 : decode cX4_takeNumber 10 = .ok (.getfield 42, 3) := by decide +kernel
theorem dX4_takeNumber_13 : decode cX4_takeNumber 13 = .ok (.iconst 3, 1) := by decide +kernel
theorem dX4_takeNumber_14 : decode cX4_takeNumber 14 = .ok (.if_icmp .eq 10, 3) := by decide +kernel
theorem dX4_takeNumber_17 : decode cX4_takeNumber 17 = .ok (.aload_n 0, 1) := by decide +kernel
theorem dX4_takeNumber_18 : decode cX4_takeNumber 18 = .ok (.iconst 1, 1) := by decide +kernel
theorem dX4_takeNumber_19 : decode cX4_takeNumber 19 = .ok (.putfield 25, 3) := by decide +kernel
theorem dX4_takeNumber_22 : decode cX4_takeNumber 22 = .ok (.iconst (-1), 1) := by decide +kernel
theorem dX4_takeNumber_23 : decode cX4_takeNumber 23 = .ok (.ireturn, 1) := by decide +kernel
theorem dX4_takeNumber_24 : decode cX4_takeNumber 24 = .ok (.aload_n 0, 1) := by decide +kernel
theorem dX4_takeNumber_25 : decode cX4_takeNumber 25 = .ok (.getfield 124, 3) := by decide +kernel
theorem dX4_takeNumber_28 : decode cX4_takeNumber 28 = .ok (.iload_n 1, 1) := by decide +kernel
theorem dX4_takeNumber_29 : decode cX4_takeNumber 29 = .ok (.if_icmp .lt 11, 3) := by decide +kernel
theorem dX4_takeNumber_32 : decode cX4_takeNumber 32 = .ok (.aload_n 0, 1) := by decide +kernel
theorem dX4_takeNumber_33 : decode cX4_takeNumber 33 = .ok (.getfield 124, 3) := by decide +kernel
theorem dX4_takeNumber_36 : decode cX4_takeNumber 36 = .ok (.iload_n 2, 1) := by decide +kernel
theorem dX4_takeNumber_37 : decode cX4_takeNumber 37 = .ok (.if_icmp .le 10, 3) := by decide +kernel
theorem dX4_takeNumber_40 : decode cX4_takeNumber 40 = .ok (.aload_n 0, 1) := by decide +kernel
theorem dX4_takeNumber_41 : decode cX4_takeNumber 41 = .ok (.iconst 2, 1) := by decide +kernel
theorem dX4_takeNumber_42 : decode cX4_takeNumber 42 = .ok (.putfield 25, 3) := by decide +kernel
theorem dX4_takeNumber_45 : decode cX4_takeNumber 45 = .ok (.iconst (-1), 1) := by decide +kernel
theorem dX4_takeNumber_46 : decode cX4_takeNumber 46 = .ok (.ireturn, 1) := by decide +kernel
theorem dX4_takeNumber_47 : decode cX4_takeNumber 47 = .ok (.aload_n 0, 1) := by decide +kernel
theorem dX4_takeNumber_48 : decode cX4_takeNumber 48 = .ok (.getfield 124, 3) := by decide +kernel
theorem dX4_takeNumber_51 : decode cX4_takeNumber 51 = .ok (.istore_n 3, 1) := by decide +kernel
theorem dX4_takeNumber_52 : decode cX4_takeNumber 52 = .ok (.aload_n 0, 1) := by decide +kernel
theorem dX4_takeNumber_53 : decode cX4_takeNumber 53 = .ok (.invokevirtual 39, 3) := by decide +kernel
theorem dX4_takeNumber_56 : decode cX4_takeNumber 56 = .ok (.iload_n 3, 1) := by decide +kernel
theorem dX4_takeNumber_57 : decode cX4_takeNumber 57 = .ok (.ireturn, 1) := by decide +kernel
theorem dX4_takeSign_0 : decode cX4_takeSign 0 = .ok (.aload_n 0, 1) := by decide +kernel
theorem dX4_takeSign_1 : decode cX4_takeSign 1 = .ok (.getfield 25, 3) := by decide +kernel
theorem dX4_takeSign_4 : decode cX4_takeSign 4 = .ok (.ifCond .eq 4, 3) := by decide +kernel
theorem dX4_takeSign_7 : decode cX4_takeSign 7 = .ok (.return_, 1) := by decide +kernel
theorem dX4_takeSign_8 : decode cX4_takeSign 8 = .ok (.aload_n 0, 1) := by decide +kernel
theorem dX4_takeSign_9 : decode cX4_takeSign 9 = .ok (.getfield 42, 3) := by decide +kernel
theorem dX4_takeSign_12 : decode cX4_takeSign 12 = .ok (.iconst 4, 1) := by decide +kernel
theorem dX4_takeSign_13 : decode cX4_takeSign 13 = .ok (.if_icmp .eq 9, 3) := by decide +kernel
theorem dX4_takeSign_16 : decode cX4_takeSign 16 = .ok (.aload_n 0, 1) := by decide +kernel
theorem dX4_takeSign_17 : decode cX4_takeSign 17 = .ok (.iconst 1, 1) := by decide +kernel
theorem dX4_takeSign_18 : decode cX4_takeSign 18 = .ok (.putfield 25, 3) := by decide +kernel
theorem dX4_takeSign_21 : decode cX4_takeSign 21 = .ok (.return_, 1) := by decide +kernel
theorem dX4_takeSign_22 : decode cX4_takeSign 22 = .ok (.aload_n 0, 1) := by decide +kernel
theorem dX4_takeSign_23 : decode cX4_takeSign 23 = .ok (.dup, 1) := by decide +kernel
theorem dX4_takeSign_24 : decode cX4_takeSign 24 = .ok (.getfield 29, 3) := by decide +kernel
theorem dX4_takeSign_27 : decode cX4_takeSign 27 = .ok (.iconst 1, 1) := by decide +kernel
theorem dX4_takeSign_28 : decode cX4_takeSign 28 = .ok (.iadd, 1) := by decide +kernel
theorem dX4_takeSign_29 : decode cX4_takeSign 29 = .ok (.putfield 29, 3) := by decide +kernel
theorem dX4_takeSign_32 : decode cX4_takeSign 32 = .ok (.aload_n 0, 1) := by decide +kernel
theorem dX4_takeSign_33 : decode cX4_takeSign 33 = .ok (.invokevirtual 39, 3) := by decide +kernel
theorem dX4_takeSign_36 : decode cX4_takeSign 36 = .ok (.return_, 1) := by decide +kernel
theorem dX4_isWord_0 : decode cX4_isWord 0 = .ok (.aload_n 0, 1) := by decide +kernel
theorem dX4_isWord_1 : decode cX4_isWord 1 = .ok (.getfield 42, 3) := by decide +kernel
theorem dX4_isWord_4 : decode cX4_isWord 4 = .ok (.iconst 2, 1) := by decide +kernel
theorem dX4_isWord_5 : decode cX4_isWord 5 = .ok (.if_icmp .ne 19, 3) := by decide +kernel
theorem dX4_isWord_8 : decode cX4_isWord 8 = .ok (.aload_n 0, 1) := by decide +kernel
theorem dX4_isWord_9 : decode cX4_isWord 9 = .ok (.getfield 32, 3) := by decide +kernel
theorem dX4_isWord_12 : decode cX4_isWord 12 = .ok (.aload_n 0, 1) := by decide +kernel
theorem dX4_isWord_13 : decode cX4_isWord 13 = .ok (.getfield 135, 3) := by decide +kernel
theorem dX4_isWord_16 : decode cX4_isWord 16 = .ok (.isub, 1) := by decide +kernel
theorem dX4_isWord_17 : decode cX4_isWord 17 = .ok (.aload_n 1, 1) := by decide +kernel
theorem dX4_isWord_18 : decode cX4_isWord 18 = .ok (.invokevirtual 138, 3) := by decide +kernel
theorem dX4_isWord_21 : decode cX4_isWord 21 = .ok (.if_icmp .eq 5, 3) := by decide +kernel
theorem dX4_isWord_24 : decode cX4_isWord 24 = .ok (.iconst 0, 1) := by decide +kernel
theorem dX4_isWord_25 : decode cX4_isWord 25 = .ok (.ireturn, 1) := by decide +kernel
theorem dX4_isWord_26 : decode cX4_isWord 26 = .ok (.iconst 0, 1) := by decide +kernel
theorem dX4_isWord_27 : decode cX4_isWord 27 = .ok (.istore_n 2, 1) := by decide +kernel
theorem dX4_isWord_28 : decode cX4_isWord 28 = .ok (.iload_n 2, 1) := by decide +kernel
theorem dX4_isWord_29 : decode cX4_isWord 29 = .ok (.aload_n 1, 1) := by decide +kernel
theorem dX4_isWord_30 : decode cX4_isWord 30 = .ok (.invokevirtual 138, 3) := by decide +kernel
theorem dX4_isWord_33 : decode cX4_isWord 33 = .ok (.if_icmp .ge 33, 3) := by decide +kernel
theorem dX4_isWord_36 : decode cX4_isWord 36 = .ok (.aload_n 0, 1) := by decide +kernel
theorem dX4_isWord_37 : decode cX4_isWord 37 = .ok (.getfield 9, 3) := by decide +kernel
theorem dX4_isWord_40 : decode cX4_isWord 40 = .ok (.getfield 142, 3) := by decide +kernel
theorem dX4_isWord_43 : decode cX4_isWord 43 = .ok (.aload_n 0, 1) := by decide +kernel
theorem dX4_isWord_44 : decode cX4_isWord 44 = .ok (.getfield 135, 3) := by decide +kernel
theorem dX4_isWord_47 : decode cX4_isWord 47 = .ok (.iload_n 2, 1) := by decide +kernel
theorem dX4_isWord_48 : decode cX4_isWord 48 = .ok (.iadd, 1) := by decide +kernel
theorem dX4_isWord_49 : decode cX4_isWord 49 = .ok (.baload, 1) := by decide +kernel
theorem dX4_isWord_50 : decode cX4_isWord 50 = .ok (.aload_n 1, 1) := by decide +kernel
theorem dX4_isWord_51 : decode cX4_isWord 51 = .ok (.iload_n 2, 1) := by decide +kernel
theorem dX4_isWord_52 : decode cX4_isWord 52 = .ok (.invokevirtual 146, 3) := by decide +kernel
theorem dX4_isWord_55 : decode cX4_isWord 55 = .ok (.if_icmp .eq 5, 3) := by decide +kernel
theorem dX4_isWord_58 : decode cX4_isWord 58 = .ok (.iconst 0, 1) := by decide +kernel
theorem dX4_isWord_59 : decode cX4_isWord 59 = .ok (.ireturn, 1) := by decide +kernel
theorem dX4_isWord_60 : decode cX4_isWord 60 = .ok (.iinc 2 1, 3) := by decide +kernel
theorem dX4_isWord_63 : decode cX4_isWord 63 = .ok (.goto (-35), 3) := by decide +kernel
theorem dX4_isWord_66 : decode cX4_isWord 66 = .ok (.iconst 1, 1) := by decide +kernel
theorem dX4_isWord_67 : decode cX4_isWord 67 = .ok (.ireturn, 1) := by decide +kernel
theorem dX4_step_0 : decode cX4_step 0 = .ok (.aload_n 0, 1) := by decide +kernel
theorem dX4_step_1 : decode cX4_step 1 = .ok (.getfield 32, 3) := by decide +kernel
theorem dX4_step_4 : decode cX4_step 4 = .ok (.aload_n 0, 1) := by decide +kernel
theorem dX4_step_5 : decode cX4_step 5 = .ok (.getfield 9, 3) := by decide +kernel
theorem dX4_step_8 : decode cX4_step 8 = .ok (.getfield 48, 3) := by decide +kernel
theorem dX4_step_11 : decode cX4_step 11 = .ok (.if_icmp .ge 34, 3) := by decide +kernel
theorem dX4_step_14 : decode cX4_step 14 = .ok (.aload_n 0, 1) := by decide +kernel
theorem dX4_step_15 : decode cX4_step 15 = .ok (.getfield 9, 3) := by decide +kernel
theorem dX4_step_18 : decode cX4_step 18 = .ok (.getfield 142, 3) := by decide +kernel
theorem dX4_step_21 : decode cX4_step 21 = .ok (.aload_n 0, 1) := by decide +kernel
theorem dX4_step_22 : decode cX4_step 22 = .ok (.getfield 32, 3) := by decide +kernel
theorem dX4_step_25 : decode cX4_step 25 = .ok (.baload, 1) := by decide +kernel
theorem dX4_step_26 : decode cX4_step 26 = .ok (.invokestatic 150, 3) := by decide +kernel
theorem dX4_step_29 : decode cX4_step 29 = .ok (.ifCond .eq 16, 3) := by decide +kernel
theorem dX4_step_32 : decode cX4_step 32 = .ok (.aload_n 0, 1) := by decide +kernel
theorem dX4_step_33 : decode cX4_step 33 = .ok (.dup, 1) := by decide +kernel
theorem dX4_step_34 : decode cX4_step 34 = .ok (.getfield 32, 3) := by decide +kernel
theorem dX4_step_37 : decode cX4_step 37 = .ok (.iconst 1, 1) := by decide +kernel
theorem dX4_step_38 : decode cX4_step 38 = .ok (.iadd, 1) := by decide +kernel
theorem dX4_step_39 : decode cX4_step 39 = .ok (.putfield 32, 3) := by decide +kernel
theorem dX4_step_42 : decode cX4_step 42 = .ok (.goto (-42), 3) := by decide +kernel
theorem dX4_step_45 : decode cX4_step 45 = .ok (.aload_n 0, 1) := by decide +kernel
theorem dX4_step_46 : decode cX4_step 46 = .ok (.getfield 9, 3) := by decide +kernel
theorem dX4_step_49 : decode cX4_step 49 = .ok (.getfield 48, 3) := by decide +kernel
theorem dX4_step_52 : decode cX4_step 52 = .ok (.sipush 500, 3) := by decide +kernel
theorem dX4_step_55 : decode cX4_step 55 = .ok (.invokestatic 153, 3) := by decide +kernel
theorem dX4_step_58 : decode cX4_step 58 = .ok (.istore_n 1, 1) := by decide +kernel
theorem dX4_step_59 : decode cX4_step 59 = .ok (.aload_n 0, 1) := by decide +kernel
theorem dX4_step_60 : decode cX4_step 60 = .ok (.getfield 32, 3) := by decide +kernel
theorem dX4_step_63 : decode cX4_step 63 = .ok (.iload_n 1, 1) := by decide +kernel
theorem dX4_step_64 : decode cX4_step 64 = .ok (.if_icmp .lt 14, 3) := by decide +kernel
theorem dX4_step_67 : decode cX4_step 67 = .ok (.aload_n 0, 1) := by decide +kernel
theorem dX4_step_68 : decode cX4_step 68 = .ok (.iload_n 1, 1) := by decide +kernel
theorem dX4_step_69 : decode cX4_step 69 = .ok (.putfield 135, 3) := by decide +kernel
theorem dX4_step_72 : decode cX4_step 72 = .ok (.aload_n 0, 1) := by decide +kernel
theorem dX4_step_73 : decode cX4_step 73 = .ok (.iconst 1, 1) := by decide +kernel
theorem dX4_step_74 : decode cX4_step 74 = .ok (.putfield 42, 3) := by decide +kernel
theorem dX4_step_77 : decode cX4_step 77 = .ok (.return_, 1) := by decide +kernel
theorem dX4_step_78 : decode cX4_step 78 = .ok (.aload_n 0, 1) := by decide +kernel
theorem dX4_step_79 : decode cX4_step 79 = .ok (.aload_n 0, 1) := by decide +kernel
theorem dX4_step_80 : decode cX4_step 80 = .ok (.getfield 32, 3) := by decide +kernel
theorem dX4_step_83 : decode cX4_step 83 = .ok (.putfield 135, 3) := by decide +kernel
theorem dX4_step_86 : decode cX4_step 86 = .ok (.iconst 0, 1) := by decide +kernel
theorem dX4_step_87 : decode cX4_step 87 = .ok (.istore_n 2, 1) := by decide +kernel
theorem dX4_step_88 : decode cX4_step 88 = .ok (.aload_n 0, 1) := by decide +kernel
theorem dX4_step_89 : decode cX4_step 89 = .ok (.iconst 0, 1) := by decide +kernel
theorem dX4_step_90 : decode cX4_step 90 = .ok (.putfield 124, 3) := by decide +kernel
theorem dX4_step_93 : decode cX4_step 93 = .ok (.aload_n 0, 1) := by decide +kernel
theorem dX4_step_94 : decode cX4_step 94 = .ok (.getfield 32, 3) := by decide +kernel
theorem dX4_step_97 : decode cX4_step 97 = .ok (.aload_n 0, 1) := by decide +kernel
theorem dX4_step_98 : decode cX4_step 98 = .ok (.getfield 9, 3) := by decide +kernel
theorem dX4_step_101 : decode cX4_step 101 = .ok (.getfield 48, 3) := by decide +kernel
theorem dX4_step_104 : decode cX4_step 104 = .ok (.if_icmp .ge 81, 3) := by decide +kernel
theorem dX4_step_107 : decode cX4_step 107 = .ok (.aload_n 0, 1) := by decide +kernel
theorem dX4_step_108 : decode cX4_step 108 = .ok (.getfield 9, 3) := by decide +kernel
theorem dX4_step_111 : decode cX4_step 111 = .ok (.getfield 142, 3) := by decide +kernel
theorem dX4_step_114 : decode cX4_step 114 = .ok (.aload_n 0, 1) := by decide +kernel
theorem dX4_step_115 : decode cX4_step 115 = .ok (.getfield 32, 3) := by decide +kernel
theorem dX4_step_118 : decode cX4_step 118 = .ok (.baload, 1) := by decide +kernel
theorem dX4_step_119 : decode cX4_step 119 = .ok (.invokestatic 158, 3) := by decide +kernel
theorem dX4_step_122 : decode cX4_step 122 = .ok (.ifCond .eq 63, 3) := by decide +kernel
theorem dX4_step_125 : decode cX4_step 125 = .ok (.aload_n 0, 1) := by decide +kernel
theorem dX4_step_126 : decode cX4_step 126 = .ok (.getfield 9, 3) := by decide +kernel
theorem dX4_step_129 : decode cX4_step 129 = .ok (.getfield 142, 3) := by decide +kernel
theorem dX4_step_132 : decode cX4_step 132 = .ok (.aload_n 0, 1) := by decide +kernel
theorem dX4_step_133 : decode cX4_step 133 = .ok (.getfield 32, 3) := by decide +kernel
theorem dX4_step_136 : decode cX4_step 136 = .ok (.baload, 1) := by decide +kernel
theorem dX4_step_137 : decode cX4_step 137 = .ok (.bipush 57, 2) := by decide +kernel
theorem dX4_step_139 : decode cX4_step 139 = .ok (.if_icmp .gt 33, 3) := by decide +kernel
theorem dX4_step_142 : decode cX4_step 142 = .ok (.iinc 2 1, 3) := by decide +kernel
theorem dX4_step_145 : decode cX4_step 145 = .ok (.aload_n 0, 1) := by decide +kernel
theorem dX4_step_146 : decode cX4_step 146 = .ok (.aload_n 0, 1) := by decide +kernel
theorem dX4_step_147 : decode cX4_step 147 = .ok (.getfield 124, 3) := by decide +kernel
theorem dX4_step_150 : decode cX4_step 150 = .ok (.bipush 10, 2) := by decide +kernel
theorem dX4_step_152 : decode cX4_step 152 = .ok (.imul, 1) := by decide +kernel
theorem dX4_step_153 : decode cX4_step 153 = .ok (.aload_n 0, 1) := by decide +kernel
theorem dX4_step_154 : decode cX4_step 154 = .ok (.getfield 9, 3) := by decide +kernel
theorem dX4_step_157 : decode cX4_step 157 = .ok (.getfield 142, 3) := by decide +kernel
theorem dX4_step_160 : decode cX4_step 160 = .ok (.aload_n 0, 1) := by decide +kernel
theorem dX4_step_161 : decode cX4_step 161 = .ok (.getfield 32, 3) := by decide +kernel
theorem dX4_step_164 : decode cX4_step 164 = .ok (.baload, 1) := by decide +kernel
theorem dX4_step_165 : decode cX4_step 165 = .ok (.bipush 48, 2) := by decide +kernel
theorem dX4_step_167 : decode cX4_step 167 = .ok (.isub, 1) := by decide +kernel
theorem dX4_step_168 : decode cX4_step 168 = .ok (.iadd, 1) := by decide +kernel
theorem dX4_step_169 : decode cX4_step 169 = .ok (.putfield 124, 3) := by decide +kernel
theorem dX4_step_172 : decode cX4_step 172 = .ok (.aload_n 0, 1) := by decide +kernel
theorem dX4_step_173 : decode cX4_step 173 = .ok (.dup, 1) := by decide +kernel
theorem dX4_step_174 : decode cX4_step 174 = .ok (.getfield 32, 3) := by decide +kernel
theorem dX4_step_177 : decode cX4_step 177 = .ok (.iconst 1, 1) := by decide +kernel
theorem dX4_step_178 : decode cX4_step 178 = .ok (.iadd, 1) := by decide +kernel
theorem dX4_step_179 : decode cX4_step 179 = .ok (.putfield 32, 3) := by decide +kernel
theorem dX4_step_182 : decode cX4_step 182 = .ok (.goto (-89), 3) := by decide +kernel
theorem dX4_step_185 : decode cX4_step 185 = .ok (.aload_n 0, 1) := by decide +kernel
theorem dX4_step_186 : decode cX4_step 186 = .ok (.getfield 32, 3) := by decide +kernel
theorem dX4_step_189 : decode cX4_step 189 = .ok (.aload_n 0, 1) := by decide +kernel
theorem dX4_step_190 : decode cX4_step 190 = .ok (.getfield 135, 3) := by decide +kernel
theorem dX4_step_193 : decode cX4_step 193 = .ok (.if_icmp .ne 42, 3) := by decide +kernel
theorem dX4_step_196 : decode cX4_step 196 = .ok (.aload_n 0, 1) := by decide +kernel
theorem dX4_step_197 : decode cX4_step 197 = .ok (.aload_n 0, 1) := by decide +kernel
theorem dX4_step_198 : decode cX4_step 198 = .ok (.getfield 9, 3) := by decide +kernel
theorem dX4_step_201 : decode cX4_step 201 = .ok (.getfield 142, 3) := by decide +kernel
theorem dX4_step_204 : decode cX4_step 204 = .ok (.aload_n 0, 1) := by decide +kernel
theorem dX4_step_205 : decode cX4_step 205 = .ok (.getfield 32, 3) := by decide +kernel
theorem dX4_step_208 : decode cX4_step 208 = .ok (.baload, 1) := by decide +kernel
theorem dX4_step_209 : decode cX4_step 209 = .ok (.bipush 59, 2) := by decide +kernel
theorem dX4_step_211 : decode cX4_step 211 = .ok (.if_icmp .ne 7, 3) := by decide +kernel
theorem dX4_step_214 : decode cX4_step 214 = .ok (.iconst 4, 1) := by decide +kernel
theorem dX4_step_215 : decode cX4_step 215 = .ok (.goto 4, 3) := by decide +kernel
theorem dX4_step_218 : decode cX4_step 218 = .ok (.iconst 0, 1) := by decide +kernel
theorem dX4_step_219 : decode cX4_step 219 = .ok (.putfield 42, 3) := by decide +kernel
theorem dX4_step_222 : decode cX4_step 222 = .ok (.aload_n 0, 1) := by decide +kernel
theorem dX4_step_223 : decode cX4_step 223 = .ok (.dup, 1) := by decide +kernel
theorem dX4_step_224 : decode cX4_step 224 = .ok (.getfield 32, 3) := by decide +kernel
theorem dX4_step_227 : decode cX4_step 227 = .ok (.iconst 1, 1) := by decide +kernel
theorem dX4_step_228 : decode cX4_step 228 = .ok (.iadd, 1) := by decide +kernel
theorem dX4_step_229 : decode cX4_step 229 = .ok (.putfield 32, 3) := by decide +kernel
theorem dX4_step_232 : decode cX4_step 232 = .ok (.goto 42, 3) := by decide +kernel
theorem dX4_step_235 : decode cX4_step 235 = .ok (.iload_n 2, 1) := by decide +kernel
theorem dX4_step_236 : decode cX4_step 236 = .ok (.ifCond .ne 11, 3) := by decide +kernel
theorem dX4_step_239 : decode cX4_step 239 = .ok (.aload_n 0, 1) := by decide +kernel
theorem dX4_step_240 : decode cX4_step 240 = .ok (.iconst 2, 1) := by decide +kernel
theorem dX4_step_241 : decode cX4_step 241 = .ok (.putfield 42, 3) := by decide +kernel
theorem dX4_step_244 : decode cX4_step 244 = .ok (.goto 30, 3) := by decide +kernel
theorem dX4_step_247 : decode cX4_step 247 = .ok (.aload_n 0, 1) := by decide +kernel
theorem dX4_step_248 : decode cX4_step 248 = .ok (.iload_n 2, 1) := by decide +kernel
theorem dX4_step_249 : decode cX4_step 249 = .ok (.aload_n 0, 1) := by decide +kernel
theorem dX4_step_250 : decode cX4_step 250 = .ok (.getfield 32, 3) := by decide +kernel
theorem dX4_step_253 : decode cX4_step 253 = .ok (.aload_n 0, 1) := by decide +kernel
theorem dX4_step_254 : decode cX4_step 254 = .ok (.getfield 135, 3) := by decide +kernel
theorem dX4_step_257 : decode cX4_step 257 = .ok (.isub, 1) := by decide +kernel
theorem dX4_step_258 : decode cX4_step 258 = .ok (.if_icmp .ne 12, 3) := by decide +kernel
theorem dX4_step_261 : decode cX4_step 261 = .ok (.iload_n 2, 1) := by decide +kernel
theorem dX4_step_262 : decode cX4_step 262 = .ok (.iconst 4, 1) := by decide +kernel
theorem dX4_step_263 : decode cX4_step 263 = .ok (.if_icmp .gt 7, 3) := by decide +kernel
theorem dX4_step_266 : decode cX4_step 266 = .ok (.iconst 3, 1) := by decide +kernel
theorem dX4_step_267 : decode cX4_step 267 = .ok (.goto 4, 3) := by decide +kernel
theorem dX4_step_270 : decode cX4_step 270 = .ok (.iconst 0, 1) := by decide +kernel
theorem dX4_step_271 : decode cX4_step 271 = .ok (.putfield 42, 3) := by decide +kernel
theorem dX4_step_274 : decode cX4_step 274 = .ok (.return_, 1) := by decide +kernel
theorem dX4_isBlank_0 : decode cX4_isBlank 0 = .ok (.iload_n 0, 1) := by decide +kernel
theorem dX4_isBlank_1 : decode cX4_isBlank 1 = .ok (.bipush 32, 2) := by decide +kernel
theorem dX4_isBlank_3 : decode cX4_isBlank 3 = .ok (.if_icmp .eq 9, 3) := by decide +kernel
theorem dX4_isBlank_6 : decode cX4_isBlank 6 = .ok (.iload_n 0, 1) := by decide +kernel
theorem dX4_isBlank_7 : decode cX4_isBlank 7 = .ok (.bipush 10, 2) := by decide +kernel
theorem dX4_isBlank_9 : decode cX4_isBlank 9 = .ok (.if_icmp .ne 7, 3) := by decide +kernel
theorem dX4_isBlank_12 : decode cX4_isBlank 12 = .ok (.iconst 1, 1) := by decide +kernel
theorem dX4_isBlank_13 : decode cX4_isBlank 13 = .ok (.goto 4, 3) := by decide +kernel
theorem dX4_isBlank_16 : decode cX4_isBlank 16 = .ok (.iconst 0, 1) := by decide +kernel
theorem dX4_isBlank_17 : decode cX4_isBlank 17 = .ok (.ireturn, 1) := by decide +kernel
theorem dX4_isSmallOrDigit_0 : decode cX4_isSmallOrDigit 0 = .ok (.iload_n 0, 1) := by decide +kernel
theorem dX4_isSmallOrDigit_1 : decode cX4_isSmallOrDigit 1 = .ok (.bipush 97, 2) := by decide +kernel
theorem dX4_isSmallOrDigit_3 : decode cX4_isSmallOrDigit 3 = .ok (.if_icmp .lt 9, 3) := by decide +kernel
theorem dX4_isSmallOrDigit_6 : decode cX4_isSmallOrDigit 6 = .ok (.iload_n 0, 1) := by decide +kernel
theorem dX4_isSmallOrDigit_7 : decode cX4_isSmallOrDigit 7 = .ok (.bipush 122, 2) := by decide +kernel
theorem dX4_isSmallOrDigit_9 : decode cX4_isSmallOrDigit 9 = .ok (.if_icmp .le 15, 3) := by decide +kernel
theorem dX4_isSmallOrDigit_12 : decode cX4_isSmallOrDigit 12 = .ok (.iload_n 0, 1) := by decide +kernel
theorem dX4_isSmallOrDigit_13 : decode cX4_isSmallOrDigit 13 = .ok (.bipush 48, 2) := by decide +kernel
theorem dX4_isSmallOrDigit_15 : decode cX4_isSmallOrDigit 15 = .ok (.if_icmp .lt 13, 3) := by decide +kernel
theorem dX4_isSmallOrDigit_18 : decode cX4_isSmallOrDigit 18 = .ok (.iload_n 0, 1) := by decide +kernel
theorem dX4_isSmallOrDigit_19 : decode cX4_isSmallOrDigit 19 = .ok (.bipush 57, 2) := by decide +kernel
theorem dX4_isSmallOrDigit_21 : decode cX4_isSmallOrDigit 21 = .ok (.if_icmp .gt 7, 3) := by decide +kernel
theorem dX4_isSmallOrDigit_24 : decode cX4_isSmallOrDigit 24 = .ok (.iconst 1, 1) := by decide +kernel
theorem dX4_isSmallOrDigit_25 : decode cX4_isSmallOrDigit 25 = .ok (.goto 4, 3) := by decide +kernel
theorem dX4_isSmallOrDigit_28 : decode cX4_isSmallOrDigit 28 = .ok (.iconst 0, 1) := by decide +kernel
theorem dX4_isSmallOrDigit_29 : decode cX4_isSmallOrDigit 29 = .ok (.ireturn, 1) := by decide +kernel
theorem dX5_init_0 : decode cX5_init 0 = .ok (.aload_n 0, 1) := by decide +kernel
theorem dX5_init_1 : decode cX5_init 1 = .ok (.invokespecial 3, 3) := by decide +kernel
theorem dX5_init_4 : decode cX5_init 4 = .ok (.aload_n 0, 1) := by decide +kernel
theorem dX5_init_5 : decode cX5_init 5 = .ok (.sipush 540, 3) := by decide +kernel
theorem dX5_init_8 : decode cX5_init 8 = .ok (.newarray .byte, 2) := by decide +kernel
theorem dX5_init_10 : decode cX5_init 10 = .ok (.putfield 9, 3) := by decide +kernel
theorem dX5_init_13 : decode cX5_init 13 = .ok (.aload_n 0, 1) := by decide +kernel
theorem dX5_init_14 : decode cX5_init 14 = .ok (.iconst 0, 1) := by decide +kernel
theorem dX5_init_15 : decode cX5_init 15 = .ok (.putfield 15, 3) := by decide +kernel
theorem dX5_init_18 : decode cX5_init 18 = .ok (.return_, 1) := by decide +kernel
theorem dX5_put_0 : decode cX5_put 0 = .ok (.bipush 24, 2) := by decide +kernel
theorem dX5_put_2 : decode cX5_put 2 = .ok (.istore_n 2, 1) := by decide +kernel
theorem dX5_put_3 : decode cX5_put 3 = .ok (.iload_n 2, 1) := by decide +kernel
theorem dX5_put_4 : decode cX5_put 4 = .ok (.ifCond .lt 42, 3) := by decide +kernel
theorem dX5_put_7 : decode cX5_put 7 = .ok (.aload_n 0, 1) := by decide +kernel
theorem dX5_put_8 : decode cX5_put 8 = .ok (.getfield 15, 3) := by decide +kernel
theorem dX5_put_11 : decode cX5_put 11 = .ok (.sipush 540, 3) := by decide +kernel
theorem dX5_put_14 : decode cX5_put 14 = .ok (.if_icmp .ge 32, 3) := by decide +kernel
theorem dX5_put_17 : decode cX5_put 17 = .ok (.aload_n 0, 1) := by decide +kernel
theorem dX5_put_18 : decode cX5_put 18 = .ok (.getfield 9, 3) := by decide +kernel
theorem dX5_put_21 : decode cX5_put 21 = .ok (.aload_n 0, 1) := by decide +kernel
theorem dX5_put_22 : decode cX5_put 22 = .ok (.getfield 15, 3) := by decide +kernel
theorem dX5_put_25 : decode cX5_put 25 = .ok (.iload_n 1, 1) := by decide +kernel
theorem dX5_put_26 : decode cX5_put 26 = .ok (.iload_n 2, 1) := by decide +kernel
theorem dX5_put_27 : decode cX5_put 27 = .ok (.ishr, 1) := by decide +kernel
theorem dX5_put_28 : decode cX5_put 28 = .ok (.i2b, 1) := by decide +kernel
theorem dX5_put_29 : decode cX5_put 29 = .ok (.bastore, 1) := by decide +kernel
theorem dX5_put_30 : decode cX5_put 30 = .ok (.aload_n 0, 1) := by decide +kernel
theorem dX5_put_31 : decode cX5_put 31 = .ok (.dup, 1) := by decide +kernel
theorem dX5_put_32 : decode cX5_put 32 = .ok (.getfield 15, 3) := by decide +kernel
theorem dX5_put_35 : decode cX5_put 35 = .ok (.iconst 1, 1) := by decide +kernel
theorem dX5_put_36 : decode cX5_put 36 = .ok (.iadd, 1) := by decide +kernel
theorem dX5_put_37 : decode cX5_put 37 = .ok (.putfield 15, 3) := by decide +kernel
theorem dX5_put_40 : decode cX5_put 40 = .ok (.iinc 2 (-8), 3) := by decide +kernel
theorem dX5_put_43 : decode cX5_put 43 = .ok (.goto (-40), 3) := by decide +kernel
theorem dX5_put_46 : decode cX5_put 46 = .ok (.return_, 1) := by decide +kernel
theorem dX6_init_0 : decode cX6_init 0 = .ok (.aload_n 0, 1) := by decide +kernel
theorem dX6_init_1 : decode cX6_init 1 = .ok (.invokespecial 3, 3) := by decide +kernel
theorem dX6_init_4 : decode cX6_init 4 = .ok (.aload_n 0, 1) := by decide +kernel
theorem dX6_init_5 : decode cX6_init 5 = .ok (.bipush 9, 2) := by decide +kernel
theorem dX6_init_7 : decode cX6_init 7 = .ok (.newarray .int, 2) := by decide +kernel
theorem dX6_init_9 : decode cX6_init 9 = .ok (.putfield 9, 3) := by decide +kernel
theorem dX6_init_12 : decode cX6_init 12 = .ok (.aload_n 0, 1) := by decide +kernel
theorem dX6_init_13 : decode cX6_init 13 = .ok (.bipush 14, 2) := by decide +kernel
theorem dX6_init_15 : decode cX6_init 15 = .ok (.newarray .int, 2) := by decide +kernel
theorem dX6_init_17 : decode cX6_init 17 = .ok (.putfield 15, 3) := by decide +kernel
theorem dX6_init_20 : decode cX6_init 20 = .ok (.aload_n 0, 1) := by decide +kernel
theorem dX6_init_21 : decode cX6_init 21 = .ok (.bipush 14, 2) := by decide +kernel
theorem dX6_init_23 : decode cX6_init 23 = .ok (.newarray .int, 2) := by decide +kernel
theorem dX6_init_25 : decode cX6_init 25 = .ok (.putfield 18, 3) := by decide +kernel
theorem dX6_init_28 : decode cX6_init 28 = .ok (.aload_n 0, 1) := by decide +kernel
theorem dX6_init_29 : decode cX6_init 29 = .ok (.iconst 1, 1) := by decide +kernel
theorem dX6_init_30 : decode cX6_init 30 = .ok (.putfield 21, 3) := by decide +kernel
theorem dX6_init_33 : decode cX6_init 33 = .ok (.return_, 1) := by decide +kernel
theorem dX6_clear_0 : decode cX6_clear 0 = .ok (.aload_n 0, 1) := by decide +kernel
theorem dX6_clear_1 : decode cX6_clear 1 = .ok (.iconst 0, 1) := by decide +kernel
theorem dX6_clear_2 : decode cX6_clear 2 = .ok (.putfield 25, 3) := by decide +kernel
theorem dX6_clear_5 : decode cX6_clear 5 = .ok (.aload_n 0, 1) := by decide +kernel
theorem dX6_clear_6 : decode cX6_clear 6 = .ok (.iconst 0, 1) := by decide +kernel
theorem dX6_clear_7 : decode cX6_clear 7 = .ok (.putfield 28, 3) := by decide +kernel
theorem dX6_clear_10 : decode cX6_clear 10 = .ok (.aload_n 0, 1) := by decide +kernel
theorem dX6_clear_11 : decode cX6_clear 11 = .ok (.iconst 0, 1) := by decide +kernel
theorem dX6_clear_12 : decode cX6_clear 12 = .ok (.putfield 31, 3) := by decide +kernel
theorem dX6_clear_15 : decode cX6_clear 15 = .ok (.aload_n 0, 1) := by decide +kernel
theorem dX6_clear_16 : decode cX6_clear 16 = .ok (.iconst 0, 1) := by decide +kernel
theorem dX6_clear_17 : decode cX6_clear 17 = .ok (.putfield 34, 3) := by decide +kernel
theorem dX6_clear_20 : decode cX6_clear 20 = .ok (.aload_n 0, 1) := by decide +kernel
theorem dX6_clear_21 : decode cX6_clear 21 = .ok (.iconst 0, 1) := by decide +kernel
theorem dX6_clear_22 : decode cX6_clear 22 = .ok (.putfield 37, 3) := by decide +kernel
theorem dX6_clear_25 : decode cX6_clear 25 = .ok (.aload_n 0, 1) := by decide +kernel
theorem dX6_clear_26 : decode cX6_clear 26 = .ok (.iconst 1, 1) := by decide +kernel
theorem dX6_clear_27 : decode cX6_clear 27 = .ok (.putfield 21, 3) := by decide +kernel
theorem dX6_clear_30 : decode cX6_clear 30 = .ok (.aload_n 0, 1) := by decide +kernel
theorem dX6_clear_31 : decode cX6_clear 31 = .ok (.iconst 0, 1) := by decide +kernel
theorem dX6_clear_32 : decode cX6_clear 32 = .ok (.putfield 40, 3) := by decide +kernel
theorem dX6_clear_35 : decode cX6_clear 35 = .ok (.aload_n 0, 1) := by decide +kernel
theorem dX6_clear_36 : decode cX6_clear 36 = .ok (.iconst 0, 1) := by decide +kernel
theorem dX6_clear_37 : decode cX6_clear 37 = .ok (.putfield 43, 3) := by decide +kernel
theorem dX6_clear_40 : decode cX6_clear 40 = .ok (.return_, 1) := by decide +kernel
theorem dX6_become_0 : decode cX6_become 0 = .ok (.aload_n 0, 1) := by decide +kernel
theorem dX6_become_1 : decode cX6_become 1 = .ok (.aload_n 1, 1) := by decide +kernel
theorem dX6_become_2 : decode cX6_become 2 = .ok (.getfield 25, 3) := by decide +kernel
theorem dX6_become_5 : decode cX6_become 5 = .ok (.putfield 25, 3) := by decide +kernel
theorem dX6_become_8 : decode cX6_become 8 = .ok (.aload_n 0, 1) := by decide +kernel
theorem dX6_become_9 : decode cX6_become 9 = .ok (.aload_n 1, 1) := by decide +kernel
theorem dX6_become_10 : decode cX6_become 10 = .ok (.getfield 28, 3) := by decide +kernel
theorem dX6_become_13 : decode cX6_become 13 = .ok (.putfield 28, 3) := by decide +kernel
theorem dX6_become_16 : decode cX6_become 16 = .ok (.aload_n 0, 1) := by decide +kernel
theorem dX6_become_17 : decode cX6_become 17 = .ok (.aload_n 1, 1) := by decide +kernel
theorem dX6_become_18 : decode cX6_become 18 = .ok (.getfield 31, 3) := by decide +kernel
theorem dX6_become_21 : decode cX6_become 21 = .ok (.putfield 31, 3) := by decide +kernel
theorem dX6_become_24 : decode cX6_become 24 = .ok (.aload_n 0, 1) := by decide +kernel
theorem dX6_become_25 : decode cX6_become 25 = .ok (.aload_n 1, 1) := by decide +kernel
theorem dX6_become_26 : decode cX6_become 26 = .ok (.getfield 34, 3) := by decide +kernel
theorem dX6_become_29 : decode cX6_become 29 = .ok (.putfield 34, 3) := by decide +kernel
theorem dX6_become_32 : decode cX6_become 32 = .ok (.aload_n 0, 1) := by decide +kernel
theorem dX6_become_33 : decode cX6_become 33 = .ok (.aload_n 1, 1) := by decide +kernel
theorem dX6_become_34 : decode cX6_become 34 = .ok (.getfield 37, 3) := by decide +kernel
theorem dX6_become_37 : decode cX6_become 37 = .ok (.putfield 37, 3) := by decide +kernel
theorem dX6_become_40 : decode cX6_become 40 = .ok (.aload_n 0, 1) := by decide +kernel
theorem dX6_become_41 : decode cX6_become 41 = .ok (.aload_n 1, 1) := by decide +kernel
theorem dX6_become_42 : decode cX6_become 42 = .ok (.getfield 21, 3) := by decide +kernel
theorem dX6_become_45 : decode cX6_become 45 = .ok (.putfield 21, 3) := by decide +kernel
theorem dX6_become_48 : decode cX6_become 48 = .ok (.aload_n 0, 1) := by decide +kernel
theorem dX6_become_49 : decode cX6_become 49 = .ok (.aload_n 1, 1) := by decide +kernel
theorem dX6_become_50 : decode cX6_become 50 = .ok (.getfield 40, 3) := by decide +kernel
theorem dX6_become_53 : decode cX6_become 53 = .ok (.putfield 40, 3) := by decide +kernel
theorem dX6_become_56 : decode cX6_become 56 = .ok (.aload_n 0, 1) := by decide +kernel
theorem dX6_become_57 : decode cX6_become 57 = .ok (.aload_n 1, 1) := by decide +kernel
theorem dX6_become_58 : decode cX6_become 58 = .ok (.getfield 43, 3) := by decide +kernel
theorem dX6_become_61 : decode cX6_become 61 = .ok (.putfield 43, 3) := by decide +kernel
theorem dX6_become_64 : decode cX6_become 64 = .ok (.aload_n 1, 1) := by decide +kernel
theorem dX6_become_65 : decode cX6_become 65 = .ok (.getfield 9, 3) := by decide +kernel
theorem dX6_become_68 : decode cX6_become 68 = .ok (.iconst 0, 1) := by decide +kernel
theorem dX6_become_69 : decode cX6_become 69 = .ok (.aload_n 0, 1) := by decide +kernel
theorem dX6_become_70 : decode cX6_become 70 = .ok (.getfield 9, 3) := by decide +kernel
theorem dX6_become_73 : decode cX6_become 73 = .ok (.iconst 0, 1) := by decide +kernel
theorem dX6_become_74 : decode cX6_become 74 = .ok (.bipush 9, 2) := by decide +kernel
theorem dX6_become_76 : decode cX6_become 76 = .ok (.invokestatic 46, 3) := by decide +kernel
theorem dX6_become_79 : decode cX6_become 79 = .ok (.aload_n 1, 1) := by decide +kernel
theorem dX6_become_80 : decode cX6_become 80 = .ok (.getfield 15, 3) := by decide +kernel
theorem dX6_become_83 : decode cX6_become 83 = .ok (.iconst 0, 1) := by decide +kernel
theorem dX6_become_84 : decode cX6_become 84 = .ok (.aload_n 0, 1) := by decide +kernel
theorem dX6_become_85 : decode cX6_become 85 = .ok (.getfield 15, 3) := by decide +kernel
theorem dX6_become_88 : decode cX6_become 88 = .ok (.iconst 0, 1) := by decide +kernel
theorem dX6_become_89 : decode cX6_become 89 = .ok (.bipush 14, 2) := by decide +kernel
theorem dX6_become_91 : decode cX6_become 91 = .ok (.invokestatic 46, 3) := by decide +kernel
theorem dX6_become_94 : decode cX6_become 94 = .ok (.aload_n 1, 1) := by decide +kernel
theorem dX6_become_95 : decode cX6_become 95 = .ok (.getfield 18, 3) := by decide +kernel
theorem dX6_become_98 : decode cX6_become 98 = .ok (.iconst 0, 1) := by decide +kernel
theorem dX6_become_99 : decode cX6_become 99 = .ok (.aload_n 0, 1) := by decide +kernel
theorem dX6_become_100 : decode cX6_become 100 = .ok (.getfield 18, 3) := by decide +kernel
theorem dX6_become_103 : decode cX6_become 103 = .ok (.iconst 0, 1) := by decide +kernel
theorem dX6_become_104 : decode cX6_become 104 = .ok (.bipush 14, 2) := by decide +kernel
theorem dX6_become_106 : decode cX6_become 106 = .ok (.invokestatic 46, 3) := by decide +kernel
theorem dX6_become_109 : decode cX6_become 109 = .ok (.aload_n 0, 1) := by decide +kernel
theorem dX6_become_110 : decode cX6_become 110 = .ok (.invokevirtual 52, 3) := by decide +kernel
theorem dX6_become_113 : decode cX6_become 113 = .ok (.return_, 1) := by decide +kernel
theorem dX6_markSeniors_0 : decode cX6_markSeniors 0 = .ok (.aload_n 0, 1) := by decide +kernel
theorem dX6_markSeniors_1 : decode cX6_markSeniors 1 = .ok (.iconst 0, 1) := by decide +kernel
theorem dX6_markSeniors_2 : decode cX6_markSeniors 2 = .ok (.putfield 55, 3) := by decide +kernel
theorem dX6_markSeniors_5 : decode cX6_markSeniors 5 = .ok (.iconst 0, 1) := by decide +kernel
theorem dX6_markSeniors_6 : decode cX6_markSeniors 6 = .ok (.istore_n 1, 1) := by decide +kernel
theorem dX6_markSeniors_7 : decode cX6_markSeniors 7 = .ok (.iload_n 1, 1) := by decide +kernel
theorem dX6_markSeniors_8 : decode cX6_markSeniors 8 = .ok (.aload_n 0, 1) := by decide +kernel
theorem dX6_markSeniors_9 : decode cX6_markSeniors 9 = .ok (.getfield 40, 3) := by decide +kernel
theorem dX6_markSeniors_12 : decode cX6_markSeniors 12 = .ok (.if_icmp .ge 34, 3) := by decide +kernel
theorem dX6_markSeniors_15 : decode cX6_markSeniors 15 = .ok (.aload_n 0, 1) := by decide +kernel
theorem dX6_markSeniors_16 : decode cX6_markSeniors 16 = .ok (.getfield 9, 3) := by decide +kernel
theorem dX6_markSeniors_19 : decode cX6_markSeniors 19 = .ok (.iload_n 1, 1) := by decide +kernel
theorem dX6_markSeniors_20 : decode cX6_markSeniors 20 = .ok (.iaload, 1) := by decide +kernel
theorem dX6_markSeniors_21 : decode cX6_markSeniors 21 = .ok (.aload_n 0, 1) := by decide +kernel
theorem dX6_markSeniors_22 : decode cX6_markSeniors 22 = .ok (.getfield 21, 3) := by decide +kernel
theorem dX6_markSeniors_25 : decode cX6_markSeniors 25 = .ok (.if_icmp .lt 15, 3) := by decide +kernel
theorem dX6_markSeniors_28 : decode cX6_markSeniors 28 = .ok (.aload_n 0, 1) := by decide +kernel
theorem dX6_markSeniors_29 : decode cX6_markSeniors 29 = .ok (.dup, 1) := by decide +kernel
theorem dX6_markSeniors_30 : decode cX6_markSeniors 30 = .ok (.getfield 55, 3) := by decide +kernel
theorem dX6_markSeniors_33 : decode cX6_markSeniors 33 = .ok (.iconst 1, 1) := by decide +kernel
theorem dX6_markSeniors_34 : decode cX6_markSeniors 34 = .ok (.iload_n 1, 1) := by decide +kernel
theorem dX6_markSeniors_35 : decode cX6_markSeniors 35 = .ok (.ishl, 1) := by decide +kernel
theorem dX6_markSeniors_36 : decode cX6_markSeniors 36 = .ok (.ior, 1) := by decide +kernel
theorem dX6_markSeniors_37 : decode cX6_markSeniors 37 = .ok (.putfield 55, 3) := by decide +kernel
theorem dX6_markSeniors_40 : decode cX6_markSeniors 40 = .ok (.iinc 1 1, 3) := by decide +kernel
theorem dX6_markSeniors_43 : decode cX6_markSeniors 43 = .ok (.goto (-36), 3) := by decide +kernel
theorem dX6_markSeniors_46 : decode cX6_markSeniors 46 = .ok (.return_, 1) := by decide +kernel
theorem dX6_hasJudge_0 : decode cX6_hasJudge 0 = .ok (.iload_n 1, 1) := by decide +kernel
theorem dX6_hasJudge_1 : decode cX6_hasJudge 1 = .ok (.ifCond .lt 15, 3) := by decide +kernel
theorem dX6_hasJudge_4 : decode cX6_hasJudge 4 = .ok (.iload_n 1, 1) := by decide +kernel
theorem dX6_hasJudge_5 : decode cX6_hasJudge 5 = .ok (.aload_n 0, 1) := by decide +kernel
theorem dX6_hasJudge_6 : decode cX6_hasJudge 6 = .ok (.getfield 40, 3) := by decide +kernel
theorem dX6_hasJudge_9 : decode cX6_hasJudge 9 = .ok (.if_icmp .ge 7, 3) := by decide +kernel
theorem dX6_hasJudge_12 : decode cX6_hasJudge 12 = .ok (.iconst 1, 1) := by decide +kernel
theorem dX6_hasJudge_13 : decode cX6_hasJudge 13 = .ok (.goto 4, 3) := by decide +kernel
theorem dX6_hasJudge_16 : decode cX6_hasJudge 16 = .ok (.iconst 0, 1) := by decide +kernel
theorem dX6_hasJudge_17 : decode cX6_hasJudge 17 = .ok (.ireturn, 1) := by decide +kernel
theorem dX6_hasCase_0 : decode cX6_hasCase 0 = .ok (.iload_n 1, 1) := by decide +kernel
theorem dX6_hasCase_1 : decode cX6_hasCase 1 = .ok (.ifCond .lt 15, 3) := by decide +kernel
theorem dX6_hasCase_4 : decode cX6_hasCase 4 = .ok (.iload_n 1, 1) := by decide +kernel
theorem dX6_hasCase_5 : decode cX6_hasCase 5 = .ok (.aload_n 0, 1) := by decide +kernel
theorem dX6_hasCase_6 : decode cX6_hasCase 6 = .ok (.getfield 43, 3) := by decide +kernel
theorem dX6_hasCase_9 : decode cX6_hasCase 9 = .ok (.if_icmp .ge 7, 3) := by decide +kernel
theorem dX6_hasCase_12 : decode cX6_hasCase 12 = .ok (.iconst 1, 1) := by decide +kernel
theorem dX6_hasCase_13 : decode cX6_hasCase 13 = .ok (.goto 4, 3) := by decide +kernel
theorem dX6_hasCase_16 : decode cX6_hasCase 16 = .ok (.iconst 0, 1) := by decide +kernel
theorem dX6_hasCase_17 : decode cX6_hasCase 17 = .ok (.ireturn, 1) := by decide +kernel
theorem dX6_isBench_0 : decode cX6_isBench 0 = .ok (.iload_n 1, 1) := by decide +kernel
theorem dX6_isBench_1 : decode cX6_isBench 1 = .ok (.ifCond .lt 25, 3) := by decide +kernel
theorem dX6_isBench_4 : decode cX6_isBench 4 = .ok (.iload_n 1, 1) := by decide +kernel
theorem dX6_isBench_5 : decode cX6_isBench 5 = .ok (.iconst 1, 1) := by decide +kernel
theorem dX6_isBench_6 : decode cX6_isBench 6 = .ok (.aload_n 0, 1) := by decide +kernel
theorem dX6_isBench_7 : decode cX6_isBench 7 = .ok (.getfield 40, 3) := by decide +kernel
theorem dX6_isBench_10 : decode cX6_isBench 10 = .ok (.ishl, 1) := by decide +kernel
theorem dX6_isBench_11 : decode cX6_isBench 11 = .ok (.if_icmp .ge 15, 3) := by decide +kernel
theorem dX6_isBench_14 : decode cX6_isBench 14 = .ok (.iload_n 1, 1) := by decide +kernel
theorem dX6_isBench_15 : decode cX6_isBench 15 = .ok (.invokestatic 58, 3) := by decide +kernel
theorem dX6_isBench_18 : decode cX6_isBench 18 = .ok (.iconst 3, 1) := by decide +kernel
theorem dX6_isBench_19 : decode cX6_isBench 19 = .ok (.if_icmp .ne 7, 3) := by decide +kernel
theorem dX6_isBench_22 : decode cX6_isBench 22 = .ok (.iconst 1, 1) := by decide +kernel
theorem dX6_isBench_23 : decode cX6_isBench 23 = .ok (.goto 4, 3) := by decide +kernel
theorem dX6_isBench_26 : decode cX6_isBench 26 = .ok (.iconst 0, 1) := by decide +kernel
theorem dX6_isBench_27 : decode cX6_isBench 27 = .ok (.ireturn, 1) := by decide +kernel
theorem dX6_presiding_0 : decode cX6_presiding 0 = .ok (.iconst (-1), 1) := by decide +kernel
theorem dX6_presiding_1 : decode cX6_presiding 1 = .ok (.istore_n 2, 1) := by decide +kernel
theorem dX6_presiding_2 : decode cX6_presiding 2 = .ok (.iconst 0, 1) := by decide +kernel
theorem dX6_presiding_3 : decode cX6_presiding 3 = .ok (.istore_n 3, 1) := by decide +kernel
theorem dX6_presiding_4 : decode cX6_presiding 4 = .ok (.iload_n 3, 1) := by decide +kernel
theorem dX6_presiding_5 : decode cX6_presiding 5 = .ok (.aload_n 0, 1) := by decide +kernel
theorem dX6_presiding_6 : decode cX6_presiding 6 = .ok (.getfield 40, 3) := by decide +kernel
theorem dX6_presiding_9 : decode cX6_presiding 9 = .ok (.if_icmp .ge 39, 3) := by decide +kernel
theorem dX6_presiding_12 : decode cX6_presiding 12 = .ok (.iload_n 1, 1) := by decide +kernel
theorem dX6_presiding_13 : decode cX6_presiding 13 = .ok (.iload_n 3, 1) := by decide +kernel
theorem dX6_presiding_14 : decode cX6_presiding 14 = .ok (.invokestatic 64, 3) := by decide +kernel
theorem dX6_presiding_17 : decode cX6_presiding 17 = .ok (.ifCond .eq 25, 3) := by decide +kernel
theorem dX6_presiding_20 : decode cX6_presiding 20 = .ok (.iload_n 2, 1) := by decide +kernel
theorem dX6_presiding_21 : decode cX6_presiding 21 = .ok (.iconst (-1), 1) := by decide +kernel
theorem dX6_presiding_22 : decode cX6_presiding 22 = .ok (.if_icmp .eq 18, 3) := by decide +kernel
theorem dX6_presiding_25 : decode cX6_presiding 25 = .ok (.aload_n 0, 1) := by decide +kernel
theorem dX6_presiding_26 : decode cX6_presiding 26 = .ok (.getfield 9, 3) := by decide +kernel
theorem dX6_presiding_29 : decode cX6_presiding 29 = .ok (.iload_n 3, 1) := by decide +kernel
theorem dX6_presiding_30 : decode cX6_presiding 30 = .ok (.iaload, 1) := by decide +kernel
theorem dX6_presiding_31 : decode cX6_presiding 31 = .ok (.aload_n 0, 1) := by decide +kernel
theorem dX6_presiding_32 : decode cX6_presiding 32 = .ok (.getfield 9, 3) := by decide +kernel
theorem dX6_presiding_35 : decode cX6_presiding 35 = .ok (.iload_n 2, 1) := by decide +kernel
theorem dX6_presiding_36 : decode cX6_presiding 36 = .ok (.iaload, 1) := by decide +kernel
theorem dX6_presiding_37 : decode cX6_presiding 37 = .ok (.if_icmp .le 5, 3) := by decide +kernel
theorem dX6_presiding_40 : decode cX6_presiding 40 = .ok (.iload_n 3, 1) := by decide +kernel
theorem dX6_presiding_41 : decode cX6_presiding 41 = .ok (.istore_n 2, 1) := by decide +kernel
theorem dX6_presiding_42 : decode cX6_presiding 42 = .ok (.iinc 3 1, 3) := by decide +kernel
theorem dX6_presiding_45 : decode cX6_presiding 45 = .ok (.goto (-41), 3) := by decide +kernel
theorem dX6_presiding_48 : decode cX6_presiding 48 = .ok (.iload_n 2, 1) := by decide +kernel
theorem dX6_presiding_49 : decode cX6_presiding 49 = .ok (.ireturn, 1) := by decide +kernel
theorem dX7_init_0 : decode cX7_init 0 = .ok (.aload_n 0, 1) := by decide +kernel
theorem dX7_init_1 : decode cX7_init 1 = .ok (.invokespecial 1, 3) := by decide +kernel
theorem dX7_init_4 : decode cX7_init 4 = .ok (.aload_n 0, 1) := by decide +kernel
theorem dX7_init_5 : decode cX7_init 5 = .ok (.new 7, 3) := by decide +kernel
theorem dX7_init_8 : decode cX7_init 8 = .ok (.dup, 1) := by decide +kernel
theorem dX7_init_9 : decode cX7_init 9 = .ok (.invokespecial 9, 3) := by decide +kernel
theorem dX7_init_12 : decode cX7_init 12 = .ok (.putfield 10, 3) := by decide +kernel
theorem dX7_init_15 : decode cX7_init 15 = .ok (.aload_n 0, 1) := by decide +kernel
theorem dX7_init_16 : decode cX7_init 16 = .ok (.new 16, 3) := by decide +kernel
theorem dX7_init_19 : decode cX7_init 19 = .ok (.dup, 1) := by decide +kernel
theorem dX7_init_20 : decode cX7_init 20 = .ok (.aload_n 0, 1) := by decide +kernel
theorem dX7_init_21 : decode cX7_init 21 = .ok (.getfield 10, 3) := by decide +kernel
theorem dX7_init_24 : decode cX7_init 24 = .ok (.invokespecial 18, 3) := by decide +kernel
theorem dX7_init_27 : decode cX7_init 27 = .ok (.putfield 21, 3) := by decide +kernel
theorem dX7_init_30 : decode cX7_init 30 = .ok (.aload_n 0, 1) := by decide +kernel
theorem dX7_init_31 : decode cX7_init 31 = .ok (.new 25, 3) := by decide +kernel
theorem dX7_init_34 : decode cX7_init 34 = .ok (.dup, 1) := by decide +kernel
theorem dX7_init_35 : decode cX7_init 35 = .ok (.invokespecial 27, 3) := by decide +kernel
theorem dX7_init_38 : decode cX7_init 38 = .ok (.putfield 28, 3) := by decide +kernel
theorem dX7_init_41 : decode cX7_init 41 = .ok (.aload_n 0, 1) := by decide +kernel
theorem dX7_init_42 : decode cX7_init 42 = .ok (.new 32, 3) := by decide +kernel
theorem dX7_init_45 : decode cX7_init 45 = .ok (.dup, 1) := by decide +kernel
theorem dX7_init_46 : decode cX7_init 46 = .ok (.aload_n 0, 1) := by decide +kernel
theorem dX7_init_47 : decode cX7_init 47 = .ok (.getfield 28, 3) := by decide +kernel
theorem dX7_init_50 : decode cX7_init 50 = .ok (.invokespecial 34, 3) := by decide +kernel
theorem dX7_init_53 : decode cX7_init 53 = .ok (.putfield 37, 3) := by decide +kernel
theorem dX7_init_56 : decode cX7_init 56 = .ok (.aload_n 0, 1) := by decide +kernel
theorem dX7_init_57 : decode cX7_init 57 = .ok (.new 32, 3) := by decide +kernel
theorem dX7_init_60 : decode cX7_init 60 = .ok (.dup, 1) := by decide +kernel
theorem dX7_init_61 : decode cX7_init 61 = .ok (.aload_n 0, 1) := by decide +kernel
theorem dX7_init_62 : decode cX7_init 62 = .ok (.getfield 28, 3) := by decide +kernel
theorem dX7_init_65 : decode cX7_init 65 = .ok (.invokespecial 34, 3) := by decide +kernel
theorem dX7_init_68 : decode cX7_init 68 = .ok (.putfield 41, 3) := by decide +kernel
theorem dX7_init_71 : decode cX7_init 71 = .ok (.aload_n 0, 1) := by decide +kernel
theorem dX7_init_72 : decode cX7_init 72 = .ok (.new 44, 3) := by decide +kernel
theorem dX7_init_75 : decode cX7_init 75 = .ok (.dup, 1) := by decide +kernel
theorem dX7_init_76 : decode cX7_init 76 = .ok (.invokespecial 46, 3) := by decide +kernel
theorem dX7_init_79 : decode cX7_init 79 = .ok (.putfield 47, 3) := by decide +kernel
theorem dX7_init_82 : decode cX7_init 82 = .ok (.aload_n 0, 1) := by decide +kernel
theorem dX7_init_83 : decode cX7_init 83 = .ok (.iconst 0, 1) := by decide +kernel
theorem dX7_init_84 : decode cX7_init 84 = .ok (.putfield 51, 3) := by decide +kernel
theorem dX7_init_87 : decode cX7_init 87 = .ok (.return_, 1) := by decide +kernel
theorem dX7_feed_0 : decode cX7_feed 0 = .ok (.aload_n 0, 1) := by decide +kernel
theorem dX7_feed_1 : decode cX7_feed 1 = .ok (.getfield 10, 3) := by decide +kernel
theorem dX7_feed_4 : decode cX7_feed 4 = .ok (.getfield 55, 3) := by decide +kernel
theorem dX7_feed_7 : decode cX7_feed 7 = .ok (.sipush 520, 3) := by decide +kernel
theorem dX7_feed_10 : decode cX7_feed 10 = .ok (.if_icmp .le 5, 3) := by decide +kernel
theorem dX7_feed_13 : decode cX7_feed 13 = .ok (.iconst (-1), 1) := by decide +kernel
theorem dX7_feed_14 : decode cX7_feed 14 = .ok (.ireturn, 1) := by decide +kernel
theorem dX7_feed_15 : decode cX7_feed 15 = .ok (.aload_n 0, 1) := by decide +kernel
theorem dX7_feed_16 : decode cX7_feed 16 = .ok (.getfield 10, 3) := by decide +kernel
theorem dX7_feed_19 : decode cX7_feed 19 = .ok (.iload_n 1, 1) := by decide +kernel
theorem dX7_feed_20 : decode cX7_feed 20 = .ok (.invokevirtual 58, 3) := by decide +kernel
theorem dX7_feed_23 : decode cX7_feed 23 = .ok (.aload_n 0, 1) := by decide +kernel
theorem dX7_feed_24 : decode cX7_feed 24 = .ok (.getfield 10, 3) := by decide +kernel
theorem dX7_feed_27 : decode cX7_feed 27 = .ok (.iload_n 2, 1) := by decide +kernel
theorem dX7_feed_28 : decode cX7_feed 28 = .ok (.invokevirtual 58, 3) := by decide +kernel
theorem dX7_feed_31 : decode cX7_feed 31 = .ok (.aload_n 0, 1) := by decide +kernel
theorem dX7_feed_32 : decode cX7_feed 32 = .ok (.getfield 10, 3) := by decide +kernel
theorem dX7_feed_35 : decode cX7_feed 35 = .ok (.iload_n 3, 1) := by decide +kernel
theorem dX7_feed_36 : decode cX7_feed 36 = .ok (.invokevirtual 58, 3) := by decide +kernel
theorem dX7_feed_39 : decode cX7_feed 39 = .ok (.aload_n 0, 1) := by decide +kernel
theorem dX7_feed_40 : decode cX7_feed 40 = .ok (.getfield 10, 3) := by decide +kernel
theorem dX7_feed_43 : decode cX7_feed 43 = .ok (.iload 4, 2) := by decide +kernel
theorem dX7_feed_45 : decode cX7_feed 45 = .ok (.invokevirtual 58, 3) := by decide +kernel
theorem dX7_feed_48 : decode cX7_feed 48 = .ok (.aload_n 0, 1) := by decide +kernel
theorem dX7_feed_49 : decode cX7_feed 49 = .ok (.getfield 10, 3) := by decide +kernel
theorem dX7_feed_52 : decode cX7_feed 52 = .ok (.iload 5, 2) := by decide +kernel
theorem dX7_feed_54 : decode cX7_feed 54 = .ok (.invokevirtual 58, 3) := by decide +kernel
theorem dX7_feed_57 : decode cX7_feed 57 = .ok (.aload_n 0, 1) := by decide +kernel
theorem dX7_feed_58 : decode cX7_feed 58 = .ok (.getfield 10, 3) := by decide +kernel
theorem dX7_feed_61 : decode cX7_feed 61 = .ok (.getfield 55, 3) := by decide +kernel
theorem dX7_feed_64 : decode cX7_feed 64 = .ok (.ireturn, 1) := by decide +kernel
theorem dX7_end_0 : decode cX7_end 0 = .ok (.iload_n 1, 1) := by decide +kernel
theorem dX7_end_1 : decode cX7_end 1 = .ok (.ifCond .lt 14, 3) := by decide +kernel
theorem dX7_end_4 : decode cX7_end 4 = .ok (.iload_n 1, 1) := by decide +kernel
theorem dX7_end_5 : decode cX7_end 5 = .ok (.aload_n 0, 1) := by decide +kernel
theorem dX7_end_6 : decode cX7_end 6 = .ok (.getfield 10, 3) := by decide +kernel
theorem dX7_end_9 : decode cX7_end 9 = .ok (.getfield 55, 3) := by decide +kernel
theorem dX7_end_12 : decode cX7_end 12 = .ok (.if_icmp .le 5, 3) := by decide +kernel
theorem dX7_end_15 : decode cX7_end 15 = .ok (.iconst 0, 1) := by decide +kernel
theorem dX7_end_16 : decode cX7_end 16 = .ok (.ireturn, 1) := by decide +kernel
theorem dX7_end_17 : decode cX7_end 17 = .ok (.aload_n 0, 1) := by decide +kernel
theorem dX7_end_18 : decode cX7_end 18 = .ok (.getfield 10, 3) := by decide +kernel
theorem dX7_end_21 : decode cX7_end 21 = .ok (.iload_n 1, 1) := by decide +kernel
theorem dX7_end_22 : decode cX7_end 22 = .ok (.putfield 55, 3) := by decide +kernel
theorem dX7_end_25 : decode cX7_end 25 = .ok (.iconst 1, 1) := by decide +kernel
theorem dX7_end_26 : decode cX7_end 26 = .ok (.ireturn, 1) := by decide +kernel
theorem dX7_text_0 : decode cX7_text 0 = .ok (.aload_n 0, 1) := by decide +kernel
theorem dX7_text_1 : decode cX7_text 1 = .ok (.getfield 21, 3) := by decide +kernel
theorem dX7_text_4 : decode cX7_text 4 = .ok (.invokevirtual 62, 3) := by decide +kernel
theorem dX7_text_7 : decode cX7_text 7 = .ok (.istore_n 1, 1) := by decide +kernel
theorem dX7_text_8 : decode cX7_text 8 = .ok (.aload_n 0, 1) := by decide +kernel
theorem dX7_text_9 : decode cX7_text 9 = .ok (.getfield 10, 3) := by decide +kernel
theorem dX7_text_12 : decode cX7_text 12 = .ok (.iconst 0, 1) := by decide +kernel
theorem dX7_text_13 : decode cX7_text 13 = .ok (.putfield 55, 3) := by decide +kernel
theorem dX7_text_16 : decode cX7_text 16 = .ok (.aload_n 0, 1) := by decide +kernel
theorem dX7_text_17 : decode cX7_text 17 = .ok (.aload_n 0, 1) := by decide +kernel
theorem dX7_text_18 : decode cX7_text 18 = .ok (.getfield 21, 3) := by decide +kernel
theorem dX7_text_21 : decode cX7_text 21 = .ok (.getfield 66, 3) := by decide +kernel
theorem dX7_text_24 : decode cX7_text 24 = .ok (.putfield 51, 3) := by decide +kernel
theorem dX7_text_27 : decode cX7_text 27 = .ok (.iload_n 1, 1) := by decide +kernel
theorem dX7_text_28 : decode cX7_text 28 = .ok (.ifCond .ne 13, 3) := by decide +kernel
theorem dX7_text_31 : decode cX7_text 31 = .ok (.iconst (-1), 1) := by decide +kernel
theorem dX7_text_32 : decode cX7_text 32 = .ok (.aload_n 0, 1) := by decide +kernel
theorem dX7_text_33 : decode cX7_text 33 = .ok (.getfield 21, 3) := by decide +kernel
theorem dX7_text_36 : decode cX7_text 36 = .ok (.getfield 69, 3) := by decide +kernel
theorem dX7_text_39 : decode cX7_text 39 = .ok (.isub, 1) := by decide +kernel
theorem dX7_text_40 : decode cX7_text 40 = .ok (.ireturn, 1) := by decide +kernel
theorem dX7_text_41 : decode cX7_text 41 = .ok (.aload_n 0, 1) := by decide +kernel
theorem dX7_text_42 : decode cX7_text 42 = .ok (.getfield 28, 3) := by decide +kernel
theorem dX7_text_45 : decode cX7_text 45 = .ok (.aload_n 0, 1) := by decide +kernel
theorem dX7_text_46 : decode cX7_text 46 = .ok (.getfield 21, 3) := by decide +kernel
theorem dX7_text_49 : decode cX7_text 49 = .ok (.getfield 72, 3) := by decide +kernel
theorem dX7_text_52 : decode cX7_text 52 = .ok (.invokevirtual 75, 3) := by decide +kernel
theorem dX7_text_55 : decode cX7_text 55 = .ok (.aload_n 0, 1) := by decide +kernel
theorem dX7_text_56 : decode cX7_text 56 = .ok (.getfield 37, 3) := by decide +kernel
theorem dX7_text_59 : decode cX7_text 59 = .ok (.invokevirtual 78, 3) := by decide +kernel
theorem dX7_text_62 : decode cX7_text 62 = .ok (.aload_n 0, 1) := by decide +kernel
theorem dX7_text_63 : decode cX7_text 63 = .ok (.getfield 47, 3) := by decide +kernel
theorem dX7_text_66 : decode cX7_text 66 = .ok (.invokevirtual 81, 3) := by decide +kernel
theorem dX7_text_69 : decode cX7_text 69 = .ok (.aload_n 0, 1) := by decide +kernel
theorem dX7_text_70 : decode cX7_text 70 = .ok (.getfield 41, 3) := by decide +kernel
theorem dX7_text_73 : decode cX7_text 73 = .ok (.invokevirtual 78, 3) := by decide +kernel
theorem dX7_text_76 : decode cX7_text 76 = .ok (.aload_n 0, 1) := by decide +kernel
theorem dX7_text_77 : decode cX7_text 77 = .ok (.getfield 41, 3) := by decide +kernel
theorem dX7_text_80 : decode cX7_text 80 = .ok (.invokevirtual 84, 3) := by decide +kernel
theorem dX7_text_83 : decode cX7_text 83 = .ok (.pop, 1) := by decide +kernel
theorem dX7_text_84 : decode cX7_text 84 = .ok (.aload_n 0, 1) := by decide +kernel
theorem dX7_text_85 : decode cX7_text 85 = .ok (.getfield 21, 3) := by decide +kernel
theorem dX7_text_88 : decode cX7_text 88 = .ok (.getfield 88, 3) := by decide +kernel
theorem dX7_text_91 : decode cX7_text 91 = .ok (.ireturn, 1) := by decide +kernel
theorem dX7_fault_0 : decode cX7_fault 0 = .ok (.aload_n 0, 1) := by decide +kernel
theorem dX7_fault_1 : decode cX7_fault 1 = .ok (.getfield 51, 3) := by decide +kernel
theorem dX7_fault_4 : decode cX7_fault 4 = .ok (.ireturn, 1) := by decide +kernel
theorem dX7_now_0 : decode cX7_now 0 = .ok (.iload_n 1, 1) := by decide +kernel
theorem dX7_now_1 : decode cX7_now 1 = .ok (.tableswitch 104 0 6 #[43, 51, 59, 70, 79, 88, 96], 43) := by decide +kernel
theorem dX7_now_44 : decode cX7_now 44 = .ok (.aload_n 0, 1) := by decide +kernel
theorem dX7_now_45 : decode cX7_now 45 = .ok (.getfield 28, 3) := by decide +kernel
theorem dX7_now_48 : decode cX7_now 48 = .ok (.getfield 91, 3) := by decide +kernel
theorem dX7_now_51 : decode cX7_now 51 = .ok (.ireturn, 1) := by decide +kernel
theorem dX7_now_52 : decode cX7_now 52 = .ok (.aload_n 0, 1) := by decide +kernel
theorem dX7_now_53 : decode cX7_now 53 = .ok (.getfield 28, 3) := by decide +kernel
theorem dX7_now_56 : decode cX7_now 56 = .ok (.getfield 94, 3) := by decide +kernel
theorem dX7_now_59 : decode cX7_now 59 = .ok (.ireturn, 1) := by decide +kernel
theorem dX7_now_60 : decode cX7_now 60 = .ok (.aload_n 0, 1) := by decide +kernel
theorem dX7_now_61 : decode cX7_now 61 = .ok (.getfield 37, 3) := by decide +kernel
theorem dX7_now_64 : decode cX7_now 64 = .ok (.getfield 97, 3) := by decide +kernel
theorem dX7_now_67 : decode cX7_now 67 = .ok (.getfield 101, 3) := by decide +kernel
theorem dX7_now_70 : decode cX7_now 70 = .ok (.ireturn, 1) := by decide +kernel
theorem dX7_now_71 : decode cX7_now 71 = .ok (.aload_n 0, 1) := by decide +kernel
theorem dX7_now_72 : decode cX7_now 72 = .ok (.getfield 37, 3) := by decide +kernel
theorem dX7_now_75 : decode cX7_now 75 = .ok (.iconst 1, 1) := by decide +kernel
theorem dX7_now_76 : decode cX7_now 76 = .ok (.invokevirtual 106, 3) := by decide +kernel
theorem dX7_now_79 : decode cX7_now 79 = .ok (.ireturn, 1) := by decide +kernel
theorem dX7_now_80 : decode cX7_now 80 = .ok (.aload_n 0, 1) := by decide +kernel
theorem dX7_now_81 : decode cX7_now 81 = .ok (.getfield 37, 3) := by decide +kernel
theorem dX7_now_84 : decode cX7_now 84 = .ok (.iconst 2, 1) := by decide +kernel
theorem dX7_now_85 : decode cX7_now 85 = .ok (.invokevirtual 106, 3) := by decide +kernel
theorem dX7_now_88 : decode cX7_now 88 = .ok (.ireturn, 1) := by decide +kernel
theorem dX7_now_89 : decode cX7_now 89 = .ok (.aload_n 0, 1) := by decide +kernel
theorem dX7_now_90 : decode cX7_now 90 = .ok (.getfield 47, 3) := by decide +kernel
theorem dX7_now_93 : decode cX7_now 93 = .ok (.getfield 110, 3) := by decide +kernel
theorem dX7_now_96 : decode cX7_now 96 = .ok (.ireturn, 1) := by decide +kernel
theorem dX7_now_97 : decode cX7_now 97 = .ok (.aload_n 0, 1) := by decide +kernel
theorem dX7_now_98 : decode cX7_now 98 = .ok (.getfield 10, 3) := by decide +kernel
theorem dX7_now_101 : decode cX7_now 101 = .ok (.getfield 55, 3) := by decide +kernel
theorem dX7_now_104 : decode cX7_now 104 = .ok (.ireturn, 1) := by decide +kernel
theorem dX7_now_105 : decode cX7_now 105 = .ok (.iconst (-1), 1) := by decide +kernel
theorem dX7_now_106 : decode cX7_now 106 = .ok (.ireturn, 1) := by decide +kernel
theorem dX7_judge_0 : decode cX7_judge 0 = .ok (.aload_n 0, 1) := by decide +kernel
theorem dX7_judge_1 : decode cX7_judge 1 = .ok (.getfield 28, 3) := by decide +kernel
theorem dX7_judge_4 : decode cX7_judge 4 = .ok (.iload_n 1, 1) := by decide +kernel
theorem dX7_judge_5 : decode cX7_judge 5 = .ok (.invokevirtual 113, 3) := by decide +kernel
theorem dX7_judge_8 : decode cX7_judge 8 = .ok (.ifCond .ne 13, 3) := by decide +kernel
theorem dX7_judge_11 : decode cX7_judge 11 = .ok (.new 117, 3) := by decide +kernel
theorem dX7_judge_14 : decode cX7_judge 14 = .ok (.dup, 1) := by decide +kernel
theorem dX7_judge_15 : decode cX7_judge 15 = .ok (.ldc 119, 2) := by decide +kernel
theorem dX7_judge_17 : decode cX7_judge 17 = .ok (.invokespecial 121, 3) := by decide +kernel
theorem dX7_judge_20 : decode cX7_judge 20 = .ok (.athrow, 1) := by decide +kernel
theorem dX7_judge_21 : decode cX7_judge 21 = .ok (.iload_n 2, 1) := by decide +kernel
theorem dX7_judge_22 : decode cX7_judge 22 = .ok (.tableswitch 116 0 5 #[38, 48, 71, 89, 98, 107], 38) := by decide +kernel
theorem dX7_judge_60 : decode cX7_judge 60 = .ok (.aload_n 0, 1) := by decide +kernel
theorem dX7_judge_61 : decode cX7_judge 61 = .ok (.getfield 28, 3) := by decide +kernel
theorem dX7_judge_64 : decode cX7_judge 64 = .ok (.getfield 124, 3) := by decide +kernel
theorem dX7_judge_67 : decode cX7_judge 67 = .ok (.iload_n 1, 1) := by decide +kernel
theorem dX7_judge_68 : decode cX7_judge 68 = .ok (.iaload, 1) := by decide +kernel
theorem dX7_judge_69 : decode cX7_judge 69 = .ok (.ireturn, 1) := by decide +kernel
theorem dX7_judge_70 : decode cX7_judge 70 = .ok (.aload_n 0, 1) := by decide +kernel
theorem dX7_judge_71 : decode cX7_judge 71 = .ok (.getfield 37, 3) := by decide +kernel
theorem dX7_judge_74 : decode cX7_judge 74 = .ok (.getfield 97, 3) := by decide +kernel
theorem dX7_judge_77 : decode cX7_judge 77 = .ok (.getfield 128, 3) := by decide +kernel
theorem dX7_judge_80 : decode cX7_judge 80 = .ok (.iload_n 1, 1) := by decide +kernel
theorem dX7_judge_81 : decode cX7_judge 81 = .ok (.invokestatic 131, 3) := by decide +kernel
theorem dX7_judge_84 : decode cX7_judge 84 = .ok (.ifCond .eq 7, 3) := by decide +kernel
theorem dX7_judge_87 : decode cX7_judge 87 = .ok (.iconst 1, 1) := by decide +kernel
theorem dX7_judge_88 : decode cX7_judge 88 = .ok (.goto 4, 3) := by decide +kernel
theorem dX7_judge_91 : decode cX7_judge 91 = .ok (.iconst 0, 1) := by decide +kernel
theorem dX7_judge_92 : decode cX7_judge 92 = .ok (.ireturn, 1) := by decide +kernel
theorem dX7_judge_93 : decode cX7_judge 93 = .ok (.aload_n 0, 1) := by decide +kernel
theorem dX7_judge_94 : decode cX7_judge 94 = .ok (.getfield 37, 3) := by decide +kernel
theorem dX7_judge_97 : decode cX7_judge 97 = .ok (.iconst (-1), 1) := by decide +kernel
theorem dX7_judge_98 : decode cX7_judge 98 = .ok (.invokevirtual 135, 3) := by decide +kernel
theorem dX7_judge_101 : decode cX7_judge 101 = .ok (.aload_n 0, 1) := by decide +kernel
theorem dX7_judge_102 : decode cX7_judge 102 = .ok (.getfield 37, 3) := by decide +kernel
theorem dX7_judge_105 : decode cX7_judge 105 = .ok (.getfield 138, 3) := by decide +kernel
theorem dX7_judge_108 : decode cX7_judge 108 = .ok (.iload_n 1, 1) := by decide +kernel
theorem dX7_judge_109 : decode cX7_judge 109 = .ok (.iaload, 1) := by decide +kernel
theorem dX7_judge_110 : decode cX7_judge 110 = .ok (.ireturn, 1) := by decide +kernel
theorem dX7_judge_111 : decode cX7_judge 111 = .ok (.aload_n 0, 1) := by decide +kernel
theorem dX7_judge_112 : decode cX7_judge 112 = .ok (.getfield 37, 3) := by decide +kernel
theorem dX7_judge_115 : decode cX7_judge 115 = .ok (.iload_n 1, 1) := by decide +kernel
theorem dX7_judge_116 : decode cX7_judge 116 = .ok (.invokevirtual 141, 3) := by decide +kernel
theorem dX7_judge_119 : decode cX7_judge 119 = .ok (.ireturn, 1) := by decide +kernel
theorem dX7_judge_120 : decode cX7_judge 120 = .ok (.aload_n 0, 1) := by decide +kernel
theorem dX7_judge_121 : decode cX7_judge 121 = .ok (.getfield 37, 3) := by decide +kernel
theorem dX7_judge_124 : decode cX7_judge 124 = .ok (.iload_n 1, 1) := by decide +kernel
theorem dX7_judge_125 : decode cX7_judge 125 = .ok (.invokevirtual 144, 3) := by decide +kernel
theorem dX7_judge_128 : decode cX7_judge 128 = .ok (.ireturn, 1) := by decide +kernel
theorem dX7_judge_129 : decode cX7_judge 129 = .ok (.aload_n 0, 1) := by decide +kernel
theorem dX7_judge_130 : decode cX7_judge 130 = .ok (.getfield 37, 3) := by decide +kernel
theorem dX7_judge_133 : decode cX7_judge 133 = .ok (.iload_n 1, 1) := by decide +kernel
theorem dX7_judge_134 : decode cX7_judge 134 = .ok (.invokevirtual 147, 3) := by decide +kernel
theorem dX7_judge_137 : decode cX7_judge 137 = .ok (.ireturn, 1) := by decide +kernel
theorem dX7_judge_138 : decode cX7_judge 138 = .ok (.new 117, 3) := by decide +kernel
theorem dX7_judge_141 : decode cX7_judge 141 = .ok (.dup, 1) := by decide +kernel
theorem dX7_judge_142 : decode cX7_judge 142 = .ok (.ldc 150, 2) := by decide +kernel
theorem dX7_judge_144 : decode cX7_judge 144 = .ok (.invokespecial 121, 3) := by decide +kernel
theorem dX7_judge_147 : decode cX7_judge 147 = .ok (.athrow, 1) := by decide +kernel
theorem dX7_of_0 : decode cX7_of 0 = .ok (.aload_n 0, 1) := by decide +kernel
theorem dX7_of_1 : decode cX7_of 1 = .ok (.getfield 28, 3) := by decide +kernel
theorem dX7_of_4 : decode cX7_of 4 = .ok (.iload_n 1, 1) := by decide +kernel
theorem dX7_of_5 : decode cX7_of 5 = .ok (.invokevirtual 152, 3) := by decide +kernel
theorem dX7_of_8 : decode cX7_of 8 = .ok (.ifCond .ne 13, 3) := by decide +kernel
theorem dX7_of_11 : decode cX7_of 11 = .ok (.new 117, 3) := by decide +kernel
theorem dX7_of_14 : decode cX7_of 14 = .ok (.dup, 1) := by decide +kernel
theorem dX7_of_15 : decode cX7_of 15 = .ok (.ldc 155, 2) := by decide +kernel
theorem dX7_of_17 : decode cX7_of 17 = .ok (.invokespecial 121, 3) := by decide +kernel
theorem dX7_of_20 : decode cX7_of 20 = .ok (.athrow, 1) := by decide +kernel
theorem dX7_of_21 : decode cX7_of 21 = .ok (.iload_n 2, 1) := by decide +kernel
theorem dX7_of_22 : decode cX7_of 22 = .ok (.tableswitch 103 0 4 #[34, 44, 57, 70, 83], 34) := by decide +kernel
theorem dX7_of_56 : decode cX7_of 56 = .ok (.aload_n 0, 1) := by decide +kernel
theorem dX7_of_57 : decode cX7_of 57 = .ok (.getfield 28, 3) := by decide +kernel
theorem dX7_of_60 : decode cX7_of 60 = .ok (.getfield 157, 3) := by decide +kernel
theorem dX7_of_63 : decode cX7_of 63 = .ok (.iload_n 1, 1) := by decide +kernel
theorem dX7_of_64 : decode cX7_of 64 = .ok (.iaload, 1) := by decide +kernel
theorem dX7_of_65 : decode cX7_of 65 = .ok (.ireturn, 1) := by decide +kernel
theorem dX7_of_66 : decode cX7_of 66 = .ok (.aload_n 0, 1) := by decide +kernel
theorem dX7_of_67 : decode cX7_of 67 = .ok (.getfield 37, 3) := by decide +kernel
theorem dX7_of_70 : decode cX7_of 70 = .ok (.getfield 97, 3) := by decide +kernel
theorem dX7_of_73 : decode cX7_of 73 = .ok (.getfield 160, 3) := by decide +kernel
theorem dX7_of_76 : decode cX7_of 76 = .ok (.iload_n 1, 1) := by decide +kernel
theorem dX7_of_77 : decode cX7_of 77 = .ok (.iaload, 1) := by decide +kernel
theorem dX7_of_78 : decode cX7_of 78 = .ok (.ireturn, 1) := by decide +kernel
theorem dX7_of_79 : decode cX7_of 79 = .ok (.aload_n 0, 1) := by decide +kernel
theorem dX7_of_80 : decode cX7_of 80 = .ok (.getfield 37, 3) := by decide +kernel
theorem dX7_of_83 : decode cX7_of 83 = .ok (.getfield 97, 3) := by decide +kernel
theorem dX7_of_86 : decode cX7_of 86 = .ok (.getfield 163, 3) := by decide +kernel
theorem dX7_of_89 : decode cX7_of 89 = .ok (.iload_n 1, 1) := by decide +kernel
theorem dX7_of_90 : decode cX7_of 90 = .ok (.iaload, 1) := by decide +kernel
theorem dX7_of_91 : decode cX7_of 91 = .ok (.ireturn, 1) := by decide +kernel
theorem dX7_of_92 : decode cX7_of 92 = .ok (.aload_n 0, 1) := by decide +kernel
theorem dX7_of_93 : decode cX7_of 93 = .ok (.getfield 37, 3) := by decide +kernel
theorem dX7_of_96 : decode cX7_of 96 = .ok (.getfield 97, 3) := by decide +kernel
theorem dX7_of_99 : decode cX7_of 99 = .ok (.getfield 166, 3) := by decide +kernel
theorem dX7_of_102 : decode cX7_of 102 = .ok (.iload_n 1, 1) := by decide +kernel
theorem dX7_of_103 : decode cX7_of 103 = .ok (.iaload, 1) := by decide +kernel
theorem dX7_of_104 : decode cX7_of 104 = .ok (.ireturn, 1) := by decide +kernel
theorem dX7_of_105 : decode cX7_of 105 = .ok (.aload_n 0, 1) := by decide +kernel
theorem dX7_of_106 : decode cX7_of 106 = .ok (.getfield 28, 3) := by decide +kernel
theorem dX7_of_109 : decode cX7_of 109 = .ok (.aload_n 0, 1) := by decide +kernel
theorem dX7_of_110 : decode cX7_of 110 = .ok (.getfield 37, 3) := by decide +kernel
theorem dX7_of_113 : decode cX7_of 113 = .ok (.getfield 97, 3) := by decide +kernel
theorem dX7_of_116 : decode cX7_of 116 = .ok (.getfield 166, 3) := by decide +kernel
theorem dX7_of_119 : decode cX7_of 119 = .ok (.iload_n 1, 1) := by decide +kernel
theorem dX7_of_120 : decode cX7_of 120 = .ok (.iaload, 1) := by decide +kernel
theorem dX7_of_121 : decode cX7_of 121 = .ok (.invokevirtual 169, 3) := by decide +kernel
theorem dX7_of_124 : decode cX7_of 124 = .ok (.ireturn, 1) := by decide +kernel
theorem dX7_of_125 : decode cX7_of 125 = .ok (.new 117, 3) := by decide +kernel
theorem dX7_of_128 : decode cX7_of 128 = .ok (.dup, 1) := by decide +kernel
theorem dX7_of_129 : decode cX7_of 129 = .ok (.ldc 172, 2) := by decide +kernel
theorem dX7_of_131 : decode cX7_of 131 = .ok (.invokespecial 121, 3) := by decide +kernel
theorem dX7_of_134 : decode cX7_of 134 = .ok (.athrow, 1) := by decide +kernel
theorem dX7_pair_0 : decode cX7_pair 0 = .ok (.aload_n 0, 1) := by decide +kernel
theorem dX7_pair_1 : decode cX7_pair 1 = .ok (.getfield 28, 3) := by decide +kernel
theorem dX7_pair_4 : decode cX7_pair 4 = .ok (.iload_n 1, 1) := by decide +kernel
theorem dX7_pair_5 : decode cX7_pair 5 = .ok (.invokevirtual 113, 3) := by decide +kernel
theorem dX7_pair_8 : decode cX7_pair 8 = .ok (.ifCond .eq 19, 3) := by decide +kernel
theorem dX7_pair_11 : decode cX7_pair 11 = .ok (.aload_n 0, 1) := by decide +kernel
theorem dX7_pair_12 : decode cX7_pair 12 = .ok (.getfield 28, 3) := by decide +kernel
theorem dX7_pair_15 : decode cX7_pair 15 = .ok (.iload_n 2, 1) := by decide +kernel
theorem dX7_pair_16 : decode cX7_pair 16 = .ok (.invokevirtual 113, 3) := by decide +kernel
theorem dX7_pair_19 : decode cX7_pair 19 = .ok (.ifCond .eq 8, 3) := by decide +kernel
theorem dX7_pair_22 : decode cX7_pair 22 = .ok (.iload_n 1, 1) := by decide +kernel
theorem dX7_pair_23 : decode cX7_pair 23 = .ok (.iload_n 2, 1) := by decide +kernel
theorem dX7_pair_24 : decode cX7_pair 24 = .ok (.if_icmp .ne 5, 3) := by decide +kernel
theorem dX7_pair_27 : decode cX7_pair 27 = .ok (.iconst (-1), 1) := by decide +kernel
theorem dX7_pair_28 : decode cX7_pair 28 = .ok (.ireturn, 1) := by decide +kernel
theorem dX7_pair_29 : decode cX7_pair 29 = .ok (.aload_n 0, 1) := by decide +kernel
theorem dX7_pair_30 : decode cX7_pair 30 = .ok (.getfield 37, 3) := by decide +kernel
theorem dX7_pair_33 : decode cX7_pair 33 = .ok (.iconst (-1), 1) := by decide +kernel
theorem dX7_pair_34 : decode cX7_pair 34 = .ok (.invokevirtual 135, 3) := by decide +kernel
theorem dX7_pair_37 : decode cX7_pair 37 = .ok (.aload_n 0, 1) := by decide +kernel
theorem dX7_pair_38 : decode cX7_pair 38 = .ok (.getfield 37, 3) := by decide +kernel
theorem dX7_pair_41 : decode cX7_pair 41 = .ok (.getfield 174, 3) := by decide +kernel
theorem dX7_pair_44 : decode cX7_pair 44 = .ok (.iload_n 1, 1) := by decide +kernel
theorem dX7_pair_45 : decode cX7_pair 45 = .ok (.iload_n 2, 1) := by decide +kernel
theorem dX7_pair_46 : decode cX7_pair 46 = .ok (.invokestatic 177, 3) := by decide +kernel
theorem dX7_pair_49 : decode cX7_pair 49 = .ok (.iaload, 1) := by decide +kernel
theorem dX7_pair_50 : decode cX7_pair 50 = .ok (.ireturn, 1) := by decide +kernel
theorem dX7_spread_0 : decode cX7_spread 0 = .ok (.aload_n 0, 1) := by decide +kernel
theorem dX7_spread_1 : decode cX7_spread 1 = .ok (.getfield 28, 3) := by decide +kernel
theorem dX7_spread_4 : decode cX7_spread 4 = .ok (.getfield 91, 3) := by decide +kernel
theorem dX7_spread_7 : decode cX7_spread 7 = .ok (.iconst 2, 1) := by decide +kernel
theorem dX7_spread_8 : decode cX7_spread 8 = .ok (.if_icmp .lt 12, 3) := by decide +kernel
theorem dX7_spread_11 : decode cX7_spread 11 = .ok (.iload_n 1, 1) := by decide +kernel
theorem dX7_spread_12 : decode cX7_spread 12 = .ok (.ifCond .lt 8, 3) := by decide +kernel
theorem dX7_spread_15 : decode cX7_spread 15 = .ok (.iload_n 1, 1) := by decide +kernel
theorem dX7_spread_16 : decode cX7_spread 16 = .ok (.iconst 1, 1) := by decide +kernel
theorem dX7_spread_17 : decode cX7_spread 17 = .ok (.if_icmp .le 5, 3) := by decide +kernel
theorem dX7_spread_20 : decode cX7_spread 20 = .ok (.iconst (-1), 1) := by decide +kernel
theorem dX7_spread_21 : decode cX7_spread 21 = .ok (.ireturn, 1) := by decide +kernel
theorem dX7_spread_22 : decode cX7_spread 22 = .ok (.aload_n 0, 1) := by decide +kernel
theorem dX7_spread_23 : decode cX7_spread 23 = .ok (.getfield 37, 3) := by decide +kernel
theorem dX7_spread_26 : decode cX7_spread 26 = .ok (.iconst (-1), 1) := by decide +kernel
theorem dX7_spread_27 : decode cX7_spread 27 = .ok (.invokevirtual 135, 3) := by decide +kernel
theorem dX7_spread_30 : decode cX7_spread 30 = .ok (.iload_n 1, 1) := by decide +kernel
theorem dX7_spread_31 : decode cX7_spread 31 = .ok (.ifCond .ne 13, 3) := by decide +kernel
theorem dX7_spread_34 : decode cX7_spread 34 = .ok (.aload_n 0, 1) := by decide +kernel
theorem dX7_spread_35 : decode cX7_spread 35 = .ok (.getfield 37, 3) := by decide +kernel
theorem dX7_spread_38 : decode cX7_spread 38 = .ok (.invokevirtual 181, 3) := by decide +kernel
theorem dX7_spread_41 : decode cX7_spread 41 = .ok (.goto 10, 3) := by decide +kernel
theorem dX7_spread_44 : decode cX7_spread 44 = .ok (.aload_n 0, 1) := by decide +kernel
theorem dX7_spread_45 : decode cX7_spread 45 = .ok (.getfield 37, 3) := by decide +kernel
theorem dX7_spread_48 : decode cX7_spread 48 = .ok (.invokevirtual 184, 3) := by decide +kernel
theorem dX7_spread_51 : decode cX7_spread 51 = .ok (.ireturn, 1) := by decide +kernel
theorem dX7_lawful_0 : decode cX7_lawful 0 = .ok (.aload_n 0, 1) := by decide +kernel
theorem dX7_lawful_1 : decode cX7_lawful 1 = .ok (.getfield 28, 3) := by decide +kernel
theorem dX7_lawful_4 : decode cX7_lawful 4 = .ok (.iload_n 1, 1) := by decide +kernel
theorem dX7_lawful_5 : decode cX7_lawful 5 = .ok (.invokevirtual 152, 3) := by decide +kernel
theorem dX7_lawful_8 : decode cX7_lawful 8 = .ok (.ifCond .ne 5, 3) := by decide +kernel
theorem dX7_lawful_11 : decode cX7_lawful 11 = .ok (.iconst (-1), 1) := by decide +kernel
theorem dX7_lawful_12 : decode cX7_lawful 12 = .ok (.ireturn, 1) := by decide +kernel
theorem dX7_lawful_13 : decode cX7_lawful 13 = .ok (.aload_n 0, 1) := by decide +kernel
theorem dX7_lawful_14 : decode cX7_lawful 14 = .ok (.getfield 37, 3) := by decide +kernel
theorem dX7_lawful_17 : decode cX7_lawful 17 = .ok (.iload_n 1, 1) := by decide +kernel
theorem dX7_lawful_18 : decode cX7_lawful 18 = .ok (.invokevirtual 187, 3) := by decide +kernel
theorem dX7_lawful_21 : decode cX7_lawful 21 = .ok (.aload_n 0, 1) := by decide +kernel
theorem dX7_lawful_22 : decode cX7_lawful 22 = .ok (.getfield 37, 3) := by decide +kernel
theorem dX7_lawful_25 : decode cX7_lawful 25 = .ok (.getfield 190, 3) := by decide +kernel
theorem dX7_lawful_28 : decode cX7_lawful 28 = .ok (.ireturn, 1) := by decide +kernel
theorem dX7_bench_0 : decode cX7_bench 0 = .ok (.aload_n 0, 1) := by decide +kernel
theorem dX7_bench_1 : decode cX7_bench 1 = .ok (.getfield 28, 3) := by decide +kernel
theorem dX7_bench_4 : decode cX7_bench 4 = .ok (.iload_n 1, 1) := by decide +kernel
theorem dX7_bench_5 : decode cX7_bench 5 = .ok (.invokevirtual 152, 3) := by decide +kernel
theorem dX7_bench_8 : decode cX7_bench 8 = .ok (.ifCond .ne 5, 3) := by decide +kernel
theorem dX7_bench_11 : decode cX7_bench 11 = .ok (.iconst (-1), 1) := by decide +kernel
theorem dX7_bench_12 : decode cX7_bench 12 = .ok (.ireturn, 1) := by decide +kernel
theorem dX7_bench_13 : decode cX7_bench 13 = .ok (.aload_n 0, 1) := by decide +kernel
theorem dX7_bench_14 : decode cX7_bench 14 = .ok (.getfield 37, 3) := by decide +kernel
theorem dX7_bench_17 : decode cX7_bench 17 = .ok (.iload_n 1, 1) := by decide +kernel
theorem dX7_bench_18 : decode cX7_bench 18 = .ok (.invokevirtual 187, 3) := by decide +kernel
theorem dX7_bench_21 : decode cX7_bench 21 = .ok (.iload_n 2, 1) := by decide +kernel
theorem dX7_bench_22 : decode cX7_bench 22 = .ok (.ifCond .lt 26, 3) := by decide +kernel
theorem dX7_bench_25 : decode cX7_bench 25 = .ok (.iload_n 2, 1) := by decide +kernel
theorem dX7_bench_26 : decode cX7_bench 26 = .ok (.aload_n 0, 1) := by decide +kernel
theorem dX7_bench_27 : decode cX7_bench 27 = .ok (.getfield 37, 3) := by decide +kernel
theorem dX7_bench_30 : decode cX7_bench 30 = .ok (.getfield 190, 3) := by decide +kernel
theorem dX7_bench_33 : decode cX7_bench 33 = .ok (.if_icmp .ge 15, 3) := by decide +kernel
theorem dX7_bench_36 : decode cX7_bench 36 = .ok (.aload_n 0, 1) := by decide +kernel
theorem dX7_bench_37 : decode cX7_bench 37 = .ok (.getfield 37, 3) := by decide +kernel
theorem dX7_bench_40 : decode cX7_bench 40 = .ok (.getfield 193, 3) := by decide +kernel
theorem dX7_bench_43 : decode cX7_bench 43 = .ok (.iload_n 2, 1) := by decide +kernel
theorem dX7_bench_44 : decode cX7_bench 44 = .ok (.iaload, 1) := by decide +kernel
theorem dX7_bench_45 : decode cX7_bench 45 = .ok (.goto 4, 3) := by decide +kernel
theorem dX7_bench_48 : decode cX7_bench 48 = .ok (.iconst (-1), 1) := by decide +kernel
theorem dX7_bench_49 : decode cX7_bench 49 = .ok (.ireturn, 1) := by decide +kernel
theorem dX7_rank_0 : decode cX7_rank 0 = .ok (.aload_n 0, 1) := by decide +kernel
theorem dX7_rank_1 : decode cX7_rank 1 = .ok (.getfield 28, 3) := by decide +kernel
theorem dX7_rank_4 : decode cX7_rank 4 = .ok (.iload_n 1, 1) := by decide +kernel
theorem dX7_rank_5 : decode cX7_rank 5 = .ok (.invokevirtual 152, 3) := by decide +kernel
theorem dX7_rank_8 : decode cX7_rank 8 = .ok (.ifCond .ne 5, 3) := by decide +kernel
theorem dX7_rank_11 : decode cX7_rank 11 = .ok (.iconst (-1), 1) := by decide +kernel
theorem dX7_rank_12 : decode cX7_rank 12 = .ok (.ireturn, 1) := by decide +kernel
theorem dX7_rank_13 : decode cX7_rank 13 = .ok (.aload_n 0, 1) := by decide +kernel
theorem dX7_rank_14 : decode cX7_rank 14 = .ok (.getfield 37, 3) := by decide +kernel
theorem dX7_rank_17 : decode cX7_rank 17 = .ok (.iload_n 1, 1) := by decide +kernel
theorem dX7_rank_18 : decode cX7_rank 18 = .ok (.invokevirtual 187, 3) := by decide +kernel
theorem dX7_rank_21 : decode cX7_rank 21 = .ok (.aload_n 0, 1) := by decide +kernel
theorem dX7_rank_22 : decode cX7_rank 22 = .ok (.getfield 37, 3) := by decide +kernel
theorem dX7_rank_25 : decode cX7_rank 25 = .ok (.iload_n 2, 1) := by decide +kernel
theorem dX7_rank_26 : decode cX7_rank 26 = .ok (.invokevirtual 196, 3) := by decide +kernel
theorem dX7_rank_29 : decode cX7_rank 29 = .ok (.ireturn, 1) := by decide +kernel
theorem dX7_tension_0 : decode cX7_tension 0 = .ok (.aload_n 0, 1) := by decide +kernel
theorem dX7_tension_1 : decode cX7_tension 1 = .ok (.getfield 28, 3) := by decide +kernel
theorem dX7_tension_4 : decode cX7_tension 4 = .ok (.iload_n 1, 1) := by decide +kernel
theorem dX7_tension_5 : decode cX7_tension 5 = .ok (.invokevirtual 152, 3) := by decide +kernel
theorem dX7_tension_8 : decode cX7_tension 8 = .ok (.ifCond .eq 14, 3) := by decide +kernel
theorem dX7_tension_11 : decode cX7_tension 11 = .ok (.aload_n 0, 1) := by decide +kernel
theorem dX7_tension_12 : decode cX7_tension 12 = .ok (.getfield 28, 3) := by decide +kernel
theorem dX7_tension_15 : decode cX7_tension 15 = .ok (.iload_n 2, 1) := by decide +kernel
theorem dX7_tension_16 : decode cX7_tension 16 = .ok (.invokevirtual 199, 3) := by decide +kernel
theorem dX7_tension_19 : decode cX7_tension 19 = .ok (.ifCond .ne 5, 3) := by decide +kernel
theorem dX7_tension_22 : decode cX7_tension 22 = .ok (.iconst (-1), 1) := by decide +kernel
theorem dX7_tension_23 : decode cX7_tension 23 = .ok (.ireturn, 1) := by decide +kernel
theorem dX7_tension_24 : decode cX7_tension 24 = .ok (.aload_n 0, 1) := by decide +kernel
theorem dX7_tension_25 : decode cX7_tension 25 = .ok (.getfield 37, 3) := by decide +kernel
theorem dX7_tension_28 : decode cX7_tension 28 = .ok (.iload_n 1, 1) := by decide +kernel
theorem dX7_tension_29 : decode cX7_tension 29 = .ok (.invokevirtual 135, 3) := by decide +kernel
theorem dX7_tension_32 : decode cX7_tension 32 = .ok (.aload_n 0, 1) := by decide +kernel
theorem dX7_tension_33 : decode cX7_tension 33 = .ok (.getfield 37, 3) := by decide +kernel
theorem dX7_tension_36 : decode cX7_tension 36 = .ok (.iload_n 2, 1) := by decide +kernel
theorem dX7_tension_37 : decode cX7_tension 37 = .ok (.invokevirtual 202, 3) := by decide +kernel
theorem dX7_tension_40 : decode cX7_tension 40 = .ok (.ireturn, 1) := by decide +kernel
theorem dX7_pool_0 : decode cX7_pool 0 = .ok (.aload_n 0, 1) := by decide +kernel
theorem dX7_pool_1 : decode cX7_pool 1 = .ok (.getfield 28, 3) := by decide +kernel
theorem dX7_pool_4 : decode cX7_pool 4 = .ok (.iload_n 1, 1) := by decide +kernel
theorem dX7_pool_5 : decode cX7_pool 5 = .ok (.invokevirtual 152, 3) := by decide +kernel
theorem dX7_pool_8 : decode cX7_pool 8 = .ok (.ifCond .ne 5, 3) := by decide +kernel
theorem dX7_pool_11 : decode cX7_pool 11 = .ok (.iconst (-1), 1) := by decide +kernel
theorem dX7_pool_12 : decode cX7_pool 12 = .ok (.ireturn, 1) := by decide +kernel
theorem dX7_pool_13 : decode cX7_pool 13 = .ok (.aload_n 0, 1) := by decide +kernel
theorem dX7_pool_14 : decode cX7_pool 14 = .ok (.getfield 37, 3) := by decide +kernel
theorem dX7_pool_17 : decode cX7_pool 17 = .ok (.iload_n 1, 1) := by decide +kernel
theorem dX7_pool_18 : decode cX7_pool 18 = .ok (.invokevirtual 205, 3) := by decide +kernel
theorem dX7_pool_21 : decode cX7_pool 21 = .ok (.aload_n 0, 1) := by decide +kernel
theorem dX7_pool_22 : decode cX7_pool 22 = .ok (.getfield 37, 3) := by decide +kernel
theorem dX7_pool_25 : decode cX7_pool 25 = .ok (.getfield 208, 3) := by decide +kernel
theorem dX7_pool_28 : decode cX7_pool 28 = .ok (.ireturn, 1) := by decide +kernel
theorem dX7_chances_0 : decode cX7_chances 0 = .ok (.aload_n 0, 1) := by decide +kernel
theorem dX7_chances_1 : decode cX7_chances 1 = .ok (.getfield 28, 3) := by decide +kernel
theorem dX7_chances_4 : decode cX7_chances 4 = .ok (.iload_n 1, 1) := by decide +kernel
theorem dX7_chances_5 : decode cX7_chances 5 = .ok (.invokevirtual 152, 3) := by decide +kernel
theorem dX7_chances_8 : decode cX7_chances 8 = .ok (.ifCond .eq 14, 3) := by decide +kernel
theorem dX7_chances_11 : decode cX7_chances 11 = .ok (.aload_n 0, 1) := by decide +kernel
theorem dX7_chances_12 : decode cX7_chances 12 = .ok (.getfield 28, 3) := by decide +kernel
theorem dX7_chances_15 : decode cX7_chances 15 = .ok (.iload_n 2, 1) := by decide +kernel
theorem dX7_chances_16 : decode cX7_chances 16 = .ok (.invokevirtual 113, 3) := by decide +kernel
theorem dX7_chances_19 : decode cX7_chances 19 = .ok (.ifCond .ne 5, 3) := by decide +kernel
theorem dX7_chances_22 : decode cX7_chances 22 = .ok (.iconst (-1), 1) := by decide +kernel
theorem dX7_chances_23 : decode cX7_chances 23 = .ok (.ireturn, 1) := by decide +kernel
theorem dX7_chances_24 : decode cX7_chances 24 = .ok (.aload_n 0, 1) := by decide +kernel
theorem dX7_chances_25 : decode cX7_chances 25 = .ok (.getfield 37, 3) := by decide +kernel
theorem dX7_chances_28 : decode cX7_chances 28 = .ok (.iload_n 1, 1) := by decide +kernel
theorem dX7_chances_29 : decode cX7_chances 29 = .ok (.invokevirtual 205, 3) := by decide +kernel
theorem dX7_chances_32 : decode cX7_chances 32 = .ok (.aload_n 0, 1) := by decide +kernel
theorem dX7_chances_33 : decode cX7_chances 33 = .ok (.getfield 37, 3) := by decide +kernel
theorem dX7_chances_36 : decode cX7_chances 36 = .ok (.iload_n 2, 1) := by decide +kernel
theorem dX7_chances_37 : decode cX7_chances 37 = .ok (.invokevirtual 211, 3) := by decide +kernel
theorem dX7_chances_40 : decode cX7_chances 40 = .ok (.ireturn, 1) := by decide +kernel
theorem dX7_worst_0 : decode cX7_worst 0 = .ok (.aload_n 0, 1) := by decide +kernel
theorem dX7_worst_1 : decode cX7_worst 1 = .ok (.getfield 28, 3) := by decide +kernel
theorem dX7_worst_4 : decode cX7_worst 4 = .ok (.iload_n 1, 1) := by decide +kernel
theorem dX7_worst_5 : decode cX7_worst 5 = .ok (.invokevirtual 152, 3) := by decide +kernel
theorem dX7_worst_8 : decode cX7_worst 8 = .ok (.ifCond .ne 5, 3) := by decide +kernel
theorem dX7_worst_11 : decode cX7_worst 11 = .ok (.iconst (-1), 1) := by decide +kernel
theorem dX7_worst_12 : decode cX7_worst 12 = .ok (.ireturn, 1) := by decide +kernel
theorem dX7_worst_13 : decode cX7_worst 13 = .ok (.aload_n 0, 1) := by decide +kernel
theorem dX7_worst_14 : decode cX7_worst 14 = .ok (.getfield 37, 3) := by decide +kernel
theorem dX7_worst_17 : decode cX7_worst 17 = .ok (.iload_n 1, 1) := by decide +kernel
theorem dX7_worst_18 : decode cX7_worst 18 = .ok (.invokevirtual 205, 3) := by decide +kernel
theorem dX7_worst_21 : decode cX7_worst 21 = .ok (.aload_n 0, 1) := by decide +kernel
theorem dX7_worst_22 : decode cX7_worst 22 = .ok (.getfield 37, 3) := by decide +kernel
theorem dX7_worst_25 : decode cX7_worst 25 = .ok (.getfield 214, 3) := by decide +kernel
theorem dX7_worst_28 : decode cX7_worst 28 = .ok (.ireturn, 1) := by decide +kernel
theorem dX7_draw_0 : decode cX7_draw 0 = .ok (.aload_n 0, 1) := by decide +kernel
theorem dX7_draw_1 : decode cX7_draw 1 = .ok (.getfield 28, 3) := by decide +kernel
theorem dX7_draw_4 : decode cX7_draw 4 = .ok (.iload_n 1, 1) := by decide +kernel
theorem dX7_draw_5 : decode cX7_draw 5 = .ok (.invokevirtual 152, 3) := by decide +kernel
theorem dX7_draw_8 : decode cX7_draw 8 = .ok (.ifCond .eq 18, 3) := by decide +kernel
theorem dX7_draw_11 : decode cX7_draw 11 = .ok (.aload_n 0, 1) := by decide +kernel
theorem dX7_draw_12 : decode cX7_draw 12 = .ok (.getfield 37, 3) := by decide +kernel
theorem dX7_draw_15 : decode cX7_draw 15 = .ok (.getfield 97, 3) := by decide +kernel
theorem dX7_draw_18 : decode cX7_draw 18 = .ok (.getfield 163, 3) := by decide +kernel
theorem dX7_draw_21 : decode cX7_draw 21 = .ok (.iload_n 1, 1) := by decide +kernel
theorem dX7_draw_22 : decode cX7_draw 22 = .ok (.iaload, 1) := by decide +kernel
theorem dX7_draw_23 : decode cX7_draw 23 = .ok (.ifCond .eq 5, 3) := by decide +kernel
theorem dX7_draw_26 : decode cX7_draw 26 = .ok (.iconst (-1), 1) := by decide +kernel
theorem dX7_draw_27 : decode cX7_draw 27 = .ok (.ireturn, 1) := by decide +kernel
theorem dX7_draw_28 : decode cX7_draw 28 = .ok (.aload_n 0, 1) := by decide +kernel
theorem dX7_draw_29 : decode cX7_draw 29 = .ok (.getfield 47, 3) := by decide +kernel
theorem dX7_draw_32 : decode cX7_draw 32 = .ok (.aload_n 0, 1) := by decide +kernel
theorem dX7_draw_33 : decode cX7_draw 33 = .ok (.getfield 37, 3) := by decide +kernel
theorem dX7_draw_36 : decode cX7_draw 36 = .ok (.getfield 97, 3) := by decide +kernel
theorem dX7_draw_39 : decode cX7_draw 39 = .ok (.invokevirtual 217, 3) := by decide +kernel
theorem dX7_draw_42 : decode cX7_draw 42 = .ok (.aload_n 0, 1) := by decide +kernel
theorem dX7_draw_43 : decode cX7_draw 43 = .ok (.getfield 37, 3) := by decide +kernel
theorem dX7_draw_46 : decode cX7_draw 46 = .ok (.iload_n 1, 1) := by decide +kernel
theorem dX7_draw_47 : decode cX7_draw 47 = .ok (.invokevirtual 221, 3) := by decide +kernel
theorem dX7_draw_50 : decode cX7_draw 50 = .ok (.istore_n 2, 1) := by decide +kernel
theorem dX7_draw_51 : decode cX7_draw 51 = .ok (.iload_n 2, 1) := by decide +kernel
theorem dX7_draw_52 : decode cX7_draw 52 = .ok (.iconst (-1), 1) := by decide +kernel
theorem dX7_draw_53 : decode cX7_draw 53 = .ok (.if_icmp .eq 10, 3) := by decide +kernel
theorem dX7_draw_56 : decode cX7_draw 56 = .ok (.aload_n 0, 1) := by decide +kernel
theorem dX7_draw_57 : decode cX7_draw 57 = .ok (.getfield 47, 3) := by decide +kernel
theorem dX7_draw_60 : decode cX7_draw 60 = .ok (.invokevirtual 224, 3) := by decide +kernel
theorem dX7_draw_63 : decode cX7_draw 63 = .ok (.iload_n 2, 1) := by decide +kernel
theorem dX7_draw_64 : decode cX7_draw 64 = .ok (.ireturn, 1) := by decide +kernel
theorem dX7_drawAll_0 : decode cX7_drawAll 0 = .ok (.aload_n 0, 1) := by decide +kernel
theorem dX7_drawAll_1 : decode cX7_drawAll 1 = .ok (.getfield 47, 3) := by decide +kernel
theorem dX7_drawAll_4 : decode cX7_drawAll 4 = .ok (.aload_n 0, 1) := by decide +kernel
theorem dX7_drawAll_5 : decode cX7_drawAll 5 = .ok (.getfield 37, 3) := by decide +kernel
theorem dX7_drawAll_8 : decode cX7_drawAll 8 = .ok (.getfield 97, 3) := by decide +kernel
theorem dX7_drawAll_11 : decode cX7_drawAll 11 = .ok (.invokevirtual 217, 3) := by decide +kernel
theorem dX7_drawAll_14 : decode cX7_drawAll 14 = .ok (.aload_n 0, 1) := by decide +kernel
theorem dX7_drawAll_15 : decode cX7_drawAll 15 = .ok (.getfield 37, 3) := by decide +kernel
theorem dX7_drawAll_18 : decode cX7_drawAll 18 = .ok (.invokevirtual 84, 3) := by decide +kernel
theorem dX7_drawAll_21 : decode cX7_drawAll 21 = .ok (.istore_n 1, 1) := by decide +kernel
theorem dX7_drawAll_22 : decode cX7_drawAll 22 = .ok (.iload_n 1, 1) := by decide +kernel
theorem dX7_drawAll_23 : decode cX7_drawAll 23 = .ok (.ifCond .le 10, 3) := by decide +kernel
theorem dX7_drawAll_26 : decode cX7_drawAll 26 = .ok (.aload_n 0, 1) := by decide +kernel
theorem dX7_drawAll_27 : decode cX7_drawAll 27 = .ok (.getfield 47, 3) := by decide +kernel
theorem dX7_drawAll_30 : decode cX7_drawAll 30 = .ok (.invokevirtual 224, 3) := by decide +kernel
theorem dX7_drawAll_33 : decode cX7_drawAll 33 = .ok (.iload_n 1, 1) := by decide +kernel
theorem dX7_drawAll_34 : decode cX7_drawAll 34 = .ok (.ireturn, 1) := by decide +kernel
theorem dX7_recuse_0 : decode cX7_recuse 0 = .ok (.aload_n 0, 1) := by decide +kernel
theorem dX7_recuse_1 : decode cX7_recuse 1 = .ok (.getfield 37, 3) := by decide +kernel
theorem dX7_recuse_4 : decode cX7_recuse 4 = .ok (.iload_n 1, 1) := by decide +kernel
theorem dX7_recuse_5 : decode cX7_recuse 5 = .ok (.invokevirtual 227, 3) := by decide +kernel
theorem dX7_recuse_8 : decode cX7_recuse 8 = .ok (.ifCond .eq 33, 3) := by decide +kernel
theorem dX7_recuse_11 : decode cX7_recuse 11 = .ok (.aload_n 0, 1) := by decide +kernel
theorem dX7_recuse_12 : decode cX7_recuse 12 = .ok (.getfield 28, 3) := by decide +kernel
theorem dX7_recuse_15 : decode cX7_recuse 15 = .ok (.iload_n 2, 1) := by decide +kernel
theorem dX7_recuse_16 : decode cX7_recuse 16 = .ok (.invokevirtual 113, 3) := by decide +kernel
theorem dX7_recuse_19 : decode cX7_recuse 19 = .ok (.ifCond .eq 22, 3) := by decide +kernel
theorem dX7_recuse_22 : decode cX7_recuse 22 = .ok (.aload_n 0, 1) := by decide +kernel
theorem dX7_recuse_23 : decode cX7_recuse 23 = .ok (.getfield 37, 3) := by decide +kernel
theorem dX7_recuse_26 : decode cX7_recuse 26 = .ok (.getfield 97, 3) := by decide +kernel
theorem dX7_recuse_29 : decode cX7_recuse 29 = .ok (.getfield 166, 3) := by decide +kernel
theorem dX7_recuse_32 : decode cX7_recuse 32 = .ok (.iload_n 1, 1) := by decide +kernel
theorem dX7_recuse_33 : decode cX7_recuse 33 = .ok (.iaload, 1) := by decide +kernel
theorem dX7_recuse_34 : decode cX7_recuse 34 = .ok (.iload_n 2, 1) := by decide +kernel
theorem dX7_recuse_35 : decode cX7_recuse 35 = .ok (.invokestatic 131, 3) := by decide +kernel
theorem dX7_recuse_38 : decode cX7_recuse 38 = .ok (.ifCond .ne 5, 3) := by decide +kernel
theorem dX7_recuse_41 : decode cX7_recuse 41 = .ok (.iconst (-1), 1) := by decide +kernel
theorem dX7_recuse_42 : decode cX7_recuse 42 = .ok (.ireturn, 1) := by decide +kernel
theorem dX7_recuse_43 : decode cX7_recuse 43 = .ok (.aload_n 0, 1) := by decide +kernel
theorem dX7_recuse_44 : decode cX7_recuse 44 = .ok (.getfield 47, 3) := by decide +kernel
theorem dX7_recuse_47 : decode cX7_recuse 47 = .ok (.aload_n 0, 1) := by decide +kernel
theorem dX7_recuse_48 : decode cX7_recuse 48 = .ok (.getfield 37, 3) := by decide +kernel
theorem dX7_recuse_51 : decode cX7_recuse 51 = .ok (.getfield 97, 3) := by decide +kernel
theorem dX7_recuse_54 : decode cX7_recuse 54 = .ok (.invokevirtual 217, 3) := by decide +kernel
theorem dX7_recuse_57 : decode cX7_recuse 57 = .ok (.aload_n 0, 1) := by decide +kernel
theorem dX7_recuse_58 : decode cX7_recuse 58 = .ok (.getfield 47, 3) := by decide +kernel
theorem dX7_recuse_61 : decode cX7_recuse 61 = .ok (.invokevirtual 224, 3) := by decide +kernel
theorem dX7_recuse_64 : decode cX7_recuse 64 = .ok (.aload_n 0, 1) := by decide +kernel
theorem dX7_recuse_65 : decode cX7_recuse 65 = .ok (.getfield 37, 3) := by decide +kernel
theorem dX7_recuse_68 : decode cX7_recuse 68 = .ok (.getfield 97, 3) := by decide +kernel
theorem dX7_recuse_71 : decode cX7_recuse 71 = .ok (.getfield 160, 3) := by decide +kernel
theorem dX7_recuse_74 : decode cX7_recuse 74 = .ok (.iload_n 1, 1) := by decide +kernel
theorem dX7_recuse_75 : decode cX7_recuse 75 = .ok (.dup2, 1) := by decide +kernel
theorem dX7_recuse_76 : decode cX7_recuse 76 = .ok (.iaload, 1) := by decide +kernel
theorem dX7_recuse_77 : decode cX7_recuse 77 = .ok (.iconst 1, 1) := by decide +kernel
theorem dX7_recuse_78 : decode cX7_recuse 78 = .ok (.iload_n 2, 1) := by decide +kernel
theorem dX7_recuse_79 : decode cX7_recuse 79 = .ok (.ishl, 1) := by decide +kernel
theorem dX7_recuse_80 : decode cX7_recuse 80 = .ok (.ior, 1) := by decide +kernel
theorem dX7_recuse_81 : decode cX7_recuse 81 = .ok (.iastore, 1) := by decide +kernel
theorem dX7_recuse_82 : decode cX7_recuse 82 = .ok (.aload_n 0, 1) := by decide +kernel
theorem dX7_recuse_83 : decode cX7_recuse 83 = .ok (.getfield 37, 3) := by decide +kernel
theorem dX7_recuse_86 : decode cX7_recuse 86 = .ok (.iload_n 1, 1) := by decide +kernel
theorem dX7_recuse_87 : decode cX7_recuse 87 = .ok (.iload_n 2, 1) := by decide +kernel
theorem dX7_recuse_88 : decode cX7_recuse 88 = .ok (.invokevirtual 230, 3) := by decide +kernel
theorem dX7_recuse_91 : decode cX7_recuse 91 = .ok (.istore_n 3, 1) := by decide +kernel
theorem dX7_recuse_92 : decode cX7_recuse 92 = .ok (.iload_n 3, 1) := by decide +kernel
theorem dX7_recuse_93 : decode cX7_recuse 93 = .ok (.iconst (-1), 1) := by decide +kernel
theorem dX7_recuse_94 : decode cX7_recuse 94 = .ok (.if_icmp .ne 8, 3) := by decide +kernel
theorem dX7_recuse_97 : decode cX7_recuse 97 = .ok (.bipush (-2), 2) := by decide +kernel
theorem dX7_recuse_99 : decode cX7_recuse 99 = .ok (.goto 4, 3) := by decide +kernel
theorem dX7_recuse_102 : decode cX7_recuse 102 = .ok (.iload_n 3, 1) := by decide +kernel
theorem dX7_recuse_103 : decode cX7_recuse 103 = .ok (.ireturn, 1) := by decide +kernel
theorem dX7_leave_0 : decode cX7_leave 0 = .ok (.aload_n 0, 1) := by decide +kernel
theorem dX7_leave_1 : decode cX7_leave 1 = .ok (.getfield 28, 3) := by decide +kernel
theorem dX7_leave_4 : decode cX7_leave 4 = .ok (.iload_n 1, 1) := by decide +kernel
theorem dX7_leave_5 : decode cX7_leave 5 = .ok (.invokevirtual 113, 3) := by decide +kernel
theorem dX7_leave_8 : decode cX7_leave 8 = .ok (.ifCond .eq 20, 3) := by decide +kernel
theorem dX7_leave_11 : decode cX7_leave 11 = .ok (.aload_n 0, 1) := by decide +kernel
theorem dX7_leave_12 : decode cX7_leave 12 = .ok (.getfield 37, 3) := by decide +kernel
theorem dX7_leave_15 : decode cX7_leave 15 = .ok (.getfield 97, 3) := by decide +kernel
theorem dX7_leave_18 : decode cX7_leave 18 = .ok (.getfield 128, 3) := by decide +kernel
theorem dX7_leave_21 : decode cX7_leave 21 = .ok (.iload_n 1, 1) := by decide +kernel
theorem dX7_leave_22 : decode cX7_leave 22 = .ok (.invokestatic 131, 3) := by decide +kernel
theorem dX7_leave_25 : decode cX7_leave 25 = .ok (.ifCond .eq 5, 3) := by decide +kernel
theorem dX7_leave_28 : decode cX7_leave 28 = .ok (.iconst (-1), 1) := by decide +kernel
theorem dX7_leave_29 : decode cX7_leave 29 = .ok (.ireturn, 1) := by decide +kernel
theorem dX7_leave_30 : decode cX7_leave 30 = .ok (.aload_n 0, 1) := by decide +kernel
theorem dX7_leave_31 : decode cX7_leave 31 = .ok (.getfield 47, 3) := by decide +kernel
theorem dX7_leave_34 : decode cX7_leave 34 = .ok (.aload_n 0, 1) := by decide +kernel
theorem dX7_leave_35 : decode cX7_leave 35 = .ok (.getfield 37, 3) := by decide +kernel
theorem dX7_leave_38 : decode cX7_leave 38 = .ok (.getfield 97, 3) := by decide +kernel
theorem dX7_leave_41 : decode cX7_leave 41 = .ok (.invokevirtual 217, 3) := by decide +kernel
theorem dX7_leave_44 : decode cX7_leave 44 = .ok (.aload_n 0, 1) := by decide +kernel
theorem dX7_leave_45 : decode cX7_leave 45 = .ok (.getfield 47, 3) := by decide +kernel
theorem dX7_leave_48 : decode cX7_leave 48 = .ok (.invokevirtual 224, 3) := by decide +kernel
theorem dX7_leave_51 : decode cX7_leave 51 = .ok (.aload_n 0, 1) := by decide +kernel
theorem dX7_leave_52 : decode cX7_leave 52 = .ok (.getfield 37, 3) := by decide +kernel
theorem dX7_leave_55 : decode cX7_leave 55 = .ok (.getfield 97, 3) := by decide +kernel
theorem dX7_leave_58 : decode cX7_leave 58 = .ok (.dup, 1) := by decide +kernel
theorem dX7_leave_59 : decode cX7_leave 59 = .ok (.getfield 128, 3) := by decide +kernel
theorem dX7_leave_62 : decode cX7_leave 62 = .ok (.iconst 1, 1) := by decide +kernel
theorem dX7_leave_63 : decode cX7_leave 63 = .ok (.iload_n 1, 1) := by decide +kernel
theorem dX7_leave_64 : decode cX7_leave 64 = .ok (.ishl, 1) := by decide +kernel
theorem dX7_leave_65 : decode cX7_leave 65 = .ok (.ior, 1) := by decide +kernel
theorem dX7_leave_66 : decode cX7_leave 66 = .ok (.putfield 128, 3) := by decide +kernel
theorem dX7_leave_69 : decode cX7_leave 69 = .ok (.aload_n 0, 1) := by decide +kernel
theorem dX7_leave_70 : decode cX7_leave 70 = .ok (.getfield 37, 3) := by decide +kernel
theorem dX7_leave_73 : decode cX7_leave 73 = .ok (.iload_n 1, 1) := by decide +kernel
theorem dX7_leave_74 : decode cX7_leave 74 = .ok (.invokevirtual 233, 3) := by decide +kernel
theorem dX7_leave_77 : decode cX7_leave 77 = .ok (.ireturn, 1) := by decide +kernel
theorem dX7_come_0 : decode cX7_come 0 = .ok (.aload_n 0, 1) := by decide +kernel
theorem dX7_come_1 : decode cX7_come 1 = .ok (.getfield 28, 3) := by decide +kernel
theorem dX7_come_4 : decode cX7_come 4 = .ok (.iload_n 1, 1) := by decide +kernel
theorem dX7_come_5 : decode cX7_come 5 = .ok (.invokevirtual 113, 3) := by decide +kernel
theorem dX7_come_8 : decode cX7_come 8 = .ok (.ifCond .eq 20, 3) := by decide +kernel
theorem dX7_come_11 : decode cX7_come 11 = .ok (.aload_n 0, 1) := by decide +kernel
theorem dX7_come_12 : decode cX7_come 12 = .ok (.getfield 37, 3) := by decide +kernel
theorem dX7_come_15 : decode cX7_come 15 = .ok (.getfield 97, 3) := by decide +kernel
theorem dX7_come_18 : decode cX7_come 18 = .ok (.getfield 128, 3) := by decide +kernel
theorem dX7_come_21 : decode cX7_come 21 = .ok (.iload_n 1, 1) := by decide +kernel
theorem dX7_come_22 : decode cX7_come 22 = .ok (.invokestatic 131, 3) := by decide +kernel
theorem dX7_come_25 : decode cX7_come 25 = .ok (.ifCond .ne 5, 3) := by decide +kernel
theorem dX7_come_28 : decode cX7_come 28 = .ok (.iconst (-1), 1) := by decide +kernel
theorem dX7_come_29 : decode cX7_come 29 = .ok (.ireturn, 1) := by decide +kernel
theorem dX7_come_30 : decode cX7_come 30 = .ok (.aload_n 0, 1) := by decide +kernel
theorem dX7_come_31 : decode cX7_come 31 = .ok (.getfield 47, 3) := by decide +kernel
theorem dX7_come_34 : decode cX7_come 34 = .ok (.aload_n 0, 1) := by decide +kernel
theorem dX7_come_35 : decode cX7_come 35 = .ok (.getfield 37, 3) := by decide +kernel
theorem dX7_come_38 : decode cX7_come 38 = .ok (.getfield 97, 3) := by decide +kernel
theorem dX7_come_41 : decode cX7_come 41 = .ok (.invokevirtual 217, 3) := by decide +kernel
theorem dX7_come_44 : decode cX7_come 44 = .ok (.aload_n 0, 1) := by decide +kernel
theorem dX7_come_45 : decode cX7_come 45 = .ok (.getfield 47, 3) := by decide +kernel
theorem dX7_come_48 : decode cX7_come 48 = .ok (.invokevirtual 224, 3) := by decide +kernel
theorem dX7_come_51 : decode cX7_come 51 = .ok (.aload_n 0, 1) := by decide +kernel
theorem dX7_come_52 : decode cX7_come 52 = .ok (.getfield 37, 3) := by decide +kernel
theorem dX7_come_55 : decode cX7_come 55 = .ok (.getfield 97, 3) := by decide +kernel
theorem dX7_come_58 : decode cX7_come 58 = .ok (.dup, 1) := by decide +kernel
theorem dX7_come_59 : decode cX7_come 59 = .ok (.getfield 128, 3) := by decide +kernel
theorem dX7_come_62 : decode cX7_come 62 = .ok (.iconst 1, 1) := by decide +kernel
theorem dX7_come_63 : decode cX7_come 63 = .ok (.iload_n 1, 1) := by decide +kernel
theorem dX7_come_64 : decode cX7_come 64 = .ok (.ishl, 1) := by decide +kernel
theorem dX7_come_65 : decode cX7_come 65 = .ok (.iconst (-1), 1) := by decide +kernel
theorem dX7_come_66 : decode cX7_come 66 = .ok (.ixor, 1) := by decide +kernel
theorem dX7_come_67 : decode cX7_come 67 = .ok (.iand, 1) := by decide +kernel
theorem dX7_come_68 : decode cX7_come 68 = .ok (.putfield 128, 3) := by decide +kernel
theorem dX7_come_71 : decode cX7_come 71 = .ok (.aload_n 0, 1) := by decide +kernel
theorem dX7_come_72 : decode cX7_come 72 = .ok (.getfield 37, 3) := by decide +kernel
theorem dX7_come_75 : decode cX7_come 75 = .ok (.getfield 97, 3) := by decide +kernel
theorem dX7_come_78 : decode cX7_come 78 = .ok (.getfield 128, 3) := by decide +kernel
theorem dX7_come_81 : decode cX7_come 81 = .ok (.invokestatic 236, 3) := by decide +kernel
theorem dX7_come_84 : decode cX7_come 84 = .ok (.ireturn, 1) := by decide +kernel
theorem dX7_hear_0 : decode cX7_hear 0 = .ok (.aload_n 0, 1) := by decide +kernel
theorem dX7_hear_1 : decode cX7_hear 1 = .ok (.getfield 37, 3) := by decide +kernel
theorem dX7_hear_4 : decode cX7_hear 4 = .ok (.iload_n 1, 1) := by decide +kernel
theorem dX7_hear_5 : decode cX7_hear 5 = .ok (.invokevirtual 227, 3) := by decide +kernel
theorem dX7_hear_8 : decode cX7_hear 8 = .ok (.ifCond .ne 5, 3) := by decide +kernel
theorem dX7_hear_11 : decode cX7_hear 11 = .ok (.iconst (-1), 1) := by decide +kernel
theorem dX7_hear_12 : decode cX7_hear 12 = .ok (.ireturn, 1) := by decide +kernel
theorem dX7_hear_13 : decode cX7_hear 13 = .ok (.aload_n 0, 1) := by decide +kernel
theorem dX7_hear_14 : decode cX7_hear 14 = .ok (.getfield 47, 3) := by decide +kernel
theorem dX7_hear_17 : decode cX7_hear 17 = .ok (.aload_n 0, 1) := by decide +kernel
theorem dX7_hear_18 : decode cX7_hear 18 = .ok (.getfield 37, 3) := by decide +kernel
theorem dX7_hear_21 : decode cX7_hear 21 = .ok (.getfield 97, 3) := by decide +kernel
theorem dX7_hear_24 : decode cX7_hear 24 = .ok (.invokevirtual 217, 3) := by decide +kernel
theorem dX7_hear_27 : decode cX7_hear 27 = .ok (.aload_n 0, 1) := by decide +kernel
theorem dX7_hear_28 : decode cX7_hear 28 = .ok (.getfield 47, 3) := by decide +kernel
theorem dX7_hear_31 : decode cX7_hear 31 = .ok (.invokevirtual 224, 3) := by decide +kernel
theorem dX7_hear_34 : decode cX7_hear 34 = .ok (.aload_n 0, 1) := by decide +kernel
theorem dX7_hear_35 : decode cX7_hear 35 = .ok (.getfield 37, 3) := by decide +kernel
theorem dX7_hear_38 : decode cX7_hear 38 = .ok (.getfield 97, 3) := by decide +kernel
theorem dX7_hear_41 : decode cX7_hear 41 = .ok (.getfield 163, 3) := by decide +kernel
theorem dX7_hear_44 : decode cX7_hear 44 = .ok (.iload_n 1, 1) := by decide +kernel
theorem dX7_hear_45 : decode cX7_hear 45 = .ok (.iconst 2, 1) := by decide +kernel
theorem dX7_hear_46 : decode cX7_hear 46 = .ok (.iastore, 1) := by decide +kernel
theorem dX7_hear_47 : decode cX7_hear 47 = .ok (.aload_n 0, 1) := by decide +kernel
theorem dX7_hear_48 : decode cX7_hear 48 = .ok (.getfield 37, 3) := by decide +kernel
theorem dX7_hear_51 : decode cX7_hear 51 = .ok (.iconst 2, 1) := by decide +kernel
theorem dX7_hear_52 : decode cX7_hear 52 = .ok (.invokevirtual 106, 3) := by decide +kernel
theorem dX7_hear_55 : decode cX7_hear 55 = .ok (.ireturn, 1) := by decide +kernel
theorem dX7_evenness_0 : decode cX7_evenness 0 = .ok (.aload_n 0, 1) := by decide +kernel
theorem dX7_evenness_1 : decode cX7_evenness 1 = .ok (.getfield 37, 3) := by decide +kernel
theorem dX7_evenness_4 : decode cX7_evenness 4 = .ok (.iconst (-1), 1) := by decide +kernel
theorem dX7_evenness_5 : decode cX7_evenness 5 = .ok (.invokevirtual 135, 3) := by decide +kernel
theorem dX7_evenness_8 : decode cX7_evenness 8 = .ok (.aload_n 0, 1) := by decide +kernel
theorem dX7_evenness_9 : decode cX7_evenness 9 = .ok (.getfield 37, 3) := by decide +kernel
theorem dX7_evenness_12 : decode cX7_evenness 12 = .ok (.invokevirtual 241, 3) := by decide +kernel
theorem dX7_evenness_15 : decode cX7_evenness 15 = .ok (.ireturn, 1) := by decide +kernel
theorem dX7_better_0 : decode cX7_better 0 = .ok (.iload_n 1, 1) := by decide +kernel
theorem dX7_better_1 : decode cX7_better 1 = .ok (.ifCond .lt 18, 3) := by decide +kernel
theorem dX7_better_4 : decode cX7_better 4 = .ok (.iload_n 1, 1) := by decide +kernel
theorem dX7_better_5 : decode cX7_better 5 = .ok (.iconst 4, 1) := by decide +kernel
theorem dX7_better_6 : decode cX7_better 6 = .ok (.if_icmp .gt 13, 3) := by decide +kernel
theorem dX7_better_9 : decode cX7_better 9 = .ok (.aload_n 0, 1) := by decide +kernel
theorem dX7_better_10 : decode cX7_better 10 = .ok (.getfield 37, 3) := by decide +kernel
theorem dX7_better_13 : decode cX7_better 13 = .ok (.invokevirtual 244, 3) := by decide +kernel
theorem dX7_better_16 : decode cX7_better 16 = .ok (.ifCond .ne 5, 3) := by decide +kernel
theorem dX7_better_19 : decode cX7_better 19 = .ok (.iconst (-1), 1) := by decide +kernel
theorem dX7_better_20 : decode cX7_better 20 = .ok (.ireturn, 1) := by decide +kernel
theorem dX7_better_21 : decode cX7_better 21 = .ok (.iload_n 1, 1) := by decide +kernel
theorem dX7_better_22 : decode cX7_better 22 = .ok (.tableswitch 74 0 3 #[30, 41, 52, 63], 30) := by decide +kernel
theorem dX7_better_52 : decode cX7_better 52 = .ok (.aload_n 0, 1) := by decide +kernel
theorem dX7_better_53 : decode cX7_better 53 = .ok (.getfield 37, 3) := by decide +kernel
theorem dX7_better_56 : decode cX7_better 56 = .ok (.getfield 247, 3) := by decide +kernel
theorem dX7_better_59 : decode cX7_better 59 = .ok (.getfield 251, 3) := by decide +kernel
theorem dX7_better_62 : decode cX7_better 62 = .ok (.ireturn, 1) := by decide +kernel
theorem dX7_better_63 : decode cX7_better 63 = .ok (.aload_n 0, 1) := by decide +kernel
theorem dX7_better_64 : decode cX7_better 64 = .ok (.getfield 37, 3) := by decide +kernel
theorem dX7_better_67 : decode cX7_better 67 = .ok (.getfield 247, 3) := by decide +kernel
theorem dX7_better_70 : decode cX7_better 70 = .ok (.getfield 256, 3) := by decide +kernel
theorem dX7_better_73 : decode cX7_better 73 = .ok (.ireturn, 1) := by decide +kernel
theorem dX7_better_74 : decode cX7_better 74 = .ok (.aload_n 0, 1) := by decide +kernel
theorem dX7_better_75 : decode cX7_better 75 = .ok (.getfield 37, 3) := by decide +kernel
theorem dX7_better_78 : decode cX7_better 78 = .ok (.getfield 247, 3) := by decide +kernel
theorem dX7_better_81 : decode cX7_better 81 = .ok (.getfield 259, 3) := by decide +kernel
theorem dX7_better_84 : decode cX7_better 84 = .ok (.ireturn, 1) := by decide +kernel
theorem dX7_better_85 : decode cX7_better 85 = .ok (.aload_n 0, 1) := by decide +kernel
theorem dX7_better_86 : decode cX7_better 86 = .ok (.getfield 37, 3) := by decide +kernel
theorem dX7_better_89 : decode cX7_better 89 = .ok (.getfield 247, 3) := by decide +kernel
theorem dX7_better_92 : decode cX7_better 92 = .ok (.getfield 262, 3) := by decide +kernel
theorem dX7_better_95 : decode cX7_better 95 = .ok (.ireturn, 1) := by decide +kernel
theorem dX7_better_96 : decode cX7_better 96 = .ok (.aload_n 0, 1) := by decide +kernel
theorem dX7_better_97 : decode cX7_better 97 = .ok (.getfield 37, 3) := by decide +kernel
theorem dX7_better_100 : decode cX7_better 100 = .ok (.getfield 247, 3) := by decide +kernel
theorem dX7_better_103 : decode cX7_better 103 = .ok (.getfield 265, 3) := by decide +kernel
theorem dX7_better_106 : decode cX7_better 106 = .ok (.ireturn, 1) := by decide +kernel
theorem dX7_exchange_0 : decode cX7_exchange 0 = .ok (.aload_n 0, 1) := by decide +kernel
theorem dX7_exchange_1 : decode cX7_exchange 1 = .ok (.getfield 37, 3) := by decide +kernel
theorem dX7_exchange_4 : decode cX7_exchange 4 = .ok (.iload_n 1, 1) := by decide +kernel
theorem dX7_exchange_5 : decode cX7_exchange 5 = .ok (.iload_n 2, 1) := by decide +kernel
theorem dX7_exchange_6 : decode cX7_exchange 6 = .ok (.iload_n 3, 1) := by decide +kernel
theorem dX7_exchange_7 : decode cX7_exchange 7 = .ok (.iload 4, 2) := by decide +kernel
theorem dX7_exchange_9 : decode cX7_exchange 9 = .ok (.invokevirtual 268, 3) := by decide +kernel
theorem dX7_exchange_12 : decode cX7_exchange 12 = .ok (.ifCond .ne 5, 3) := by decide +kernel
theorem dX7_exchange_15 : decode cX7_exchange 15 = .ok (.iconst (-1), 1) := by decide +kernel
theorem dX7_exchange_16 : decode cX7_exchange 16 = .ok (.ireturn, 1) := by decide +kernel
theorem dX7_exchange_17 : decode cX7_exchange 17 = .ok (.aload_n 0, 1) := by decide +kernel
theorem dX7_exchange_18 : decode cX7_exchange 18 = .ok (.getfield 47, 3) := by decide +kernel
theorem dX7_exchange_21 : decode cX7_exchange 21 = .ok (.aload_n 0, 1) := by decide +kernel
theorem dX7_exchange_22 : decode cX7_exchange 22 = .ok (.getfield 37, 3) := by decide +kernel
theorem dX7_exchange_25 : decode cX7_exchange 25 = .ok (.getfield 97, 3) := by decide +kernel
theorem dX7_exchange_28 : decode cX7_exchange 28 = .ok (.invokevirtual 217, 3) := by decide +kernel
theorem dX7_exchange_31 : decode cX7_exchange 31 = .ok (.aload_n 0, 1) := by decide +kernel
theorem dX7_exchange_32 : decode cX7_exchange 32 = .ok (.getfield 47, 3) := by decide +kernel
theorem dX7_exchange_35 : decode cX7_exchange 35 = .ok (.invokevirtual 224, 3) := by decide +kernel
theorem dX7_exchange_38 : decode cX7_exchange 38 = .ok (.aload_n 0, 1) := by decide +kernel
theorem dX7_exchange_39 : decode cX7_exchange 39 = .ok (.getfield 37, 3) := by decide +kernel
theorem dX7_exchange_42 : decode cX7_exchange 42 = .ok (.iload_n 1, 1) := by decide +kernel
theorem dX7_exchange_43 : decode cX7_exchange 43 = .ok (.iload_n 2, 1) := by decide +kernel
theorem dX7_exchange_44 : decode cX7_exchange 44 = .ok (.iload_n 3, 1) := by decide +kernel
theorem dX7_exchange_45 : decode cX7_exchange 45 = .ok (.iload 4, 2) := by decide +kernel
theorem dX7_exchange_47 : decode cX7_exchange 47 = .ok (.invokevirtual 272, 3) := by decide +kernel
theorem dX7_exchange_50 : decode cX7_exchange 50 = .ok (.aload_n 0, 1) := by decide +kernel
theorem dX7_exchange_51 : decode cX7_exchange 51 = .ok (.getfield 37, 3) := by decide +kernel
theorem dX7_exchange_54 : decode cX7_exchange 54 = .ok (.iconst (-1), 1) := by decide +kernel
theorem dX7_exchange_55 : decode cX7_exchange 55 = .ok (.invokevirtual 135, 3) := by decide +kernel
theorem dX7_exchange_58 : decode cX7_exchange 58 = .ok (.aload_n 0, 1) := by decide +kernel
theorem dX7_exchange_59 : decode cX7_exchange 59 = .ok (.getfield 37, 3) := by decide +kernel
theorem dX7_exchange_62 : decode cX7_exchange 62 = .ok (.invokevirtual 241, 3) := by decide +kernel
theorem dX7_exchange_65 : decode cX7_exchange 65 = .ok (.ireturn, 1) := by decide +kernel
theorem dX7_smooth_0 : decode cX7_smooth 0 = .ok (.aload_n 0, 1) := by decide +kernel
theorem dX7_smooth_1 : decode cX7_smooth 1 = .ok (.getfield 47, 3) := by decide +kernel
theorem dX7_smooth_4 : decode cX7_smooth 4 = .ok (.aload_n 0, 1) := by decide +kernel
theorem dX7_smooth_5 : decode cX7_smooth 5 = .ok (.getfield 37, 3) := by decide +kernel
theorem dX7_smooth_8 : decode cX7_smooth 8 = .ok (.getfield 97, 3) := by decide +kernel
theorem dX7_smooth_11 : decode cX7_smooth 11 = .ok (.invokevirtual 217, 3) := by decide +kernel
theorem dX7_smooth_14 : decode cX7_smooth 14 = .ok (.iconst 0, 1) := by decide +kernel
theorem dX7_smooth_15 : decode cX7_smooth 15 = .ok (.istore_n 1, 1) := by decide +kernel
theorem dX7_smooth_16 : decode cX7_smooth 16 = .ok (.iload_n 1, 1) := by decide +kernel
theorem dX7_smooth_17 : decode cX7_smooth 17 = .ok (.bipush 40, 2) := by decide +kernel
theorem dX7_smooth_19 : decode cX7_smooth 19 = .ok (.if_icmp .ge 66, 3) := by decide +kernel
theorem dX7_smooth_22 : decode cX7_smooth 22 = .ok (.aload_n 0, 1) := by decide +kernel
theorem dX7_smooth_23 : decode cX7_smooth 23 = .ok (.getfield 37, 3) := by decide +kernel
theorem dX7_smooth_26 : decode cX7_smooth 26 = .ok (.invokevirtual 244, 3) := by decide +kernel
theorem dX7_smooth_29 : decode cX7_smooth 29 = .ok (.ifCond .eq 56, 3) := by decide +kernel
theorem dX7_smooth_32 : decode cX7_smooth 32 = .ok (.aload_n 0, 1) := by decide +kernel
theorem dX7_smooth_33 : decode cX7_smooth 33 = .ok (.getfield 37, 3) := by decide +kernel
theorem dX7_smooth_36 : decode cX7_smooth 36 = .ok (.aload_n 0, 1) := by decide +kernel
theorem dX7_smooth_37 : decode cX7_smooth 37 = .ok (.getfield 37, 3) := by decide +kernel
theorem dX7_smooth_40 : decode cX7_smooth 40 = .ok (.getfield 247, 3) := by decide +kernel
theorem dX7_smooth_43 : decode cX7_smooth 43 = .ok (.getfield 251, 3) := by decide +kernel
theorem dX7_smooth_46 : decode cX7_smooth 46 = .ok (.aload_n 0, 1) := by decide +kernel
theorem dX7_smooth_47 : decode cX7_smooth 47 = .ok (.getfield 37, 3) := by decide +kernel
theorem dX7_smooth_50 : decode cX7_smooth 50 = .ok (.getfield 247, 3) := by decide +kernel
theorem dX7_smooth_53 : decode cX7_smooth 53 = .ok (.getfield 256, 3) := by decide +kernel
theorem dX7_smooth_56 : decode cX7_smooth 56 = .ok (.aload_n 0, 1) := by decide +kernel
theorem dX7_smooth_57 : decode cX7_smooth 57 = .ok (.getfield 37, 3) := by decide +kernel
theorem dX7_smooth_60 : decode cX7_smooth 60 = .ok (.getfield 247, 3) := by decide +kernel
theorem dX7_smooth_63 : decode cX7_smooth 63 = .ok (.getfield 259, 3) := by decide +kernel
theorem dX7_smooth_66 : decode cX7_smooth 66 = .ok (.aload_n 0, 1) := by decide +kernel
theorem dX7_smooth_67 : decode cX7_smooth 67 = .ok (.getfield 37, 3) := by decide +kernel
theorem dX7_smooth_70 : decode cX7_smooth 70 = .ok (.getfield 247, 3) := by decide +kernel
theorem dX7_smooth_73 : decode cX7_smooth 73 = .ok (.getfield 262, 3) := by decide +kernel
theorem dX7_smooth_76 : decode cX7_smooth 76 = .ok (.invokevirtual 272, 3) := by decide +kernel
theorem dX7_smooth_79 : decode cX7_smooth 79 = .ok (.iinc 1 1, 3) := by decide +kernel
theorem dX7_smooth_82 : decode cX7_smooth 82 = .ok (.goto (-66), 3) := by decide +kernel
theorem dX7_smooth_85 : decode cX7_smooth 85 = .ok (.iload_n 1, 1) := by decide +kernel
theorem dX7_smooth_86 : decode cX7_smooth 86 = .ok (.ifCond .ne 5, 3) := by decide +kernel
theorem dX7_smooth_89 : decode cX7_smooth 89 = .ok (.iconst (-1), 1) := by decide +kernel
theorem dX7_smooth_90 : decode cX7_smooth 90 = .ok (.ireturn, 1) := by decide +kernel
theorem dX7_smooth_91 : decode cX7_smooth 91 = .ok (.aload_n 0, 1) := by decide +kernel
theorem dX7_smooth_92 : decode cX7_smooth 92 = .ok (.getfield 47, 3) := by decide +kernel
theorem dX7_smooth_95 : decode cX7_smooth 95 = .ok (.invokevirtual 224, 3) := by decide +kernel
theorem dX7_smooth_98 : decode cX7_smooth 98 = .ok (.iload_n 1, 1) := by decide +kernel
theorem dX7_smooth_99 : decode cX7_smooth 99 = .ok (.ireturn, 1) := by decide +kernel
theorem dX7_same_0 : decode cX7_same 0 = .ok (.iconst 0, 1) := by decide +kernel
theorem dX7_same_1 : decode cX7_same 1 = .ok (.istore_n 1, 1) := by decide +kernel
theorem dX7_same_2 : decode cX7_same 2 = .ok (.iconst 0, 1) := by decide +kernel
theorem dX7_same_3 : decode cX7_same 3 = .ok (.istore_n 2, 1) := by decide +kernel
theorem dX7_same_4 : decode cX7_same 4 = .ok (.iload_n 2, 1) := by decide +kernel
theorem dX7_same_5 : decode cX7_same 5 = .ok (.aload_n 0, 1) := by decide +kernel
theorem dX7_same_6 : decode cX7_same 6 = .ok (.getfield 28, 3) := by decide +kernel
theorem dX7_same_9 : decode cX7_same 9 = .ok (.getfield 94, 3) := by decide +kernel
theorem dX7_same_12 : decode cX7_same 12 = .ok (.if_icmp .ge 39, 3) := by decide +kernel
theorem dX7_same_15 : decode cX7_same 15 = .ok (.aload_n 0, 1) := by decide +kernel
theorem dX7_same_16 : decode cX7_same 16 = .ok (.getfield 37, 3) := by decide +kernel
theorem dX7_same_19 : decode cX7_same 19 = .ok (.getfield 97, 3) := by decide +kernel
theorem dX7_same_22 : decode cX7_same 22 = .ok (.getfield 166, 3) := by decide +kernel
theorem dX7_same_25 : decode cX7_same 25 = .ok (.iload_n 2, 1) := by decide +kernel
theorem dX7_same_26 : decode cX7_same 26 = .ok (.iaload, 1) := by decide +kernel
theorem dX7_same_27 : decode cX7_same 27 = .ok (.aload_n 0, 1) := by decide +kernel
theorem dX7_same_28 : decode cX7_same 28 = .ok (.getfield 41, 3) := by decide +kernel
theorem dX7_same_31 : decode cX7_same 31 = .ok (.getfield 97, 3) := by decide +kernel
theorem dX7_same_34 : decode cX7_same 34 = .ok (.getfield 166, 3) := by decide +kernel
theorem dX7_same_37 : decode cX7_same 37 = .ok (.iload_n 2, 1) := by decide +kernel
theorem dX7_same_38 : decode cX7_same 38 = .ok (.iaload, 1) := by decide +kernel
theorem dX7_same_39 : decode cX7_same 39 = .ok (.if_icmp .ne 6, 3) := by decide +kernel
theorem dX7_same_42 : decode cX7_same 42 = .ok (.iinc 1 1, 3) := by decide +kernel
theorem dX7_same_45 : decode cX7_same 45 = .ok (.iinc 2 1, 3) := by decide +kernel
theorem dX7_same_48 : decode cX7_same 48 = .ok (.goto (-44), 3) := by decide +kernel
theorem dX7_same_51 : decode cX7_same 51 = .ok (.iload_n 1, 1) := by decide +kernel
theorem dX7_same_52 : decode cX7_same 52 = .ok (.ireturn, 1) := by decide +kernel
theorem dX7_anew_0 : decode cX7_anew 0 = .ok (.aload_n 0, 1) := by decide +kernel
theorem dX7_anew_1 : decode cX7_anew 1 = .ok (.getfield 28, 3) := by decide +kernel
theorem dX7_anew_4 : decode cX7_anew 4 = .ok (.iload_n 1, 1) := by decide +kernel
theorem dX7_anew_5 : decode cX7_anew 5 = .ok (.invokevirtual 152, 3) := by decide +kernel
theorem dX7_anew_8 : decode cX7_anew 8 = .ok (.ifCond .eq 18, 3) := by decide +kernel
theorem dX7_anew_11 : decode cX7_anew 11 = .ok (.aload_n 0, 1) := by decide +kernel
theorem dX7_anew_12 : decode cX7_anew 12 = .ok (.getfield 41, 3) := by decide +kernel
theorem dX7_anew_15 : decode cX7_anew 15 = .ok (.getfield 97, 3) := by decide +kernel
theorem dX7_anew_18 : decode cX7_anew 18 = .ok (.getfield 166, 3) := by decide +kernel
theorem dX7_anew_21 : decode cX7_anew 21 = .ok (.iload_n 1, 1) := by decide +kernel
theorem dX7_anew_22 : decode cX7_anew 22 = .ok (.iaload, 1) := by decide +kernel
theorem dX7_anew_23 : decode cX7_anew 23 = .ok (.goto 4, 3) := by decide +kernel
theorem dX7_anew_26 : decode cX7_anew 26 = .ok (.iconst (-1), 1) := by decide +kernel
theorem dX7_anew_27 : decode cX7_anew 27 = .ok (.ireturn, 1) := by decide +kernel
theorem dX7_undo_0 : decode cX7_undo 0 = .ok (.aload_n 0, 1) := by decide +kernel
theorem dX7_undo_1 : decode cX7_undo 1 = .ok (.getfield 47, 3) := by decide +kernel
theorem dX7_undo_4 : decode cX7_undo 4 = .ok (.getfield 110, 3) := by decide +kernel
theorem dX7_undo_7 : decode cX7_undo 7 = .ok (.ifCond .ne 5, 3) := by decide +kernel
theorem dX7_undo_10 : decode cX7_undo 10 = .ok (.iconst (-1), 1) := by decide +kernel
theorem dX7_undo_11 : decode cX7_undo 11 = .ok (.ireturn, 1) := by decide +kernel
theorem dX7_undo_12 : decode cX7_undo 12 = .ok (.aload_n 0, 1) := by decide +kernel
theorem dX7_undo_13 : decode cX7_undo 13 = .ok (.getfield 47, 3) := by decide +kernel
theorem dX7_undo_16 : decode cX7_undo 16 = .ok (.aload_n 0, 1) := by decide +kernel
theorem dX7_undo_17 : decode cX7_undo 17 = .ok (.getfield 37, 3) := by decide +kernel
theorem dX7_undo_20 : decode cX7_undo 20 = .ok (.getfield 97, 3) := by decide +kernel
theorem dX7_undo_23 : decode cX7_undo 23 = .ok (.invokevirtual 276, 3) := by decide +kernel
theorem dX7_undo_26 : decode cX7_undo 26 = .ok (.aload_n 0, 1) := by decide +kernel
theorem dX7_undo_27 : decode cX7_undo 27 = .ok (.getfield 47, 3) := by decide +kernel
theorem dX7_undo_30 : decode cX7_undo 30 = .ok (.getfield 110, 3) := by decide +kernel
theorem dX7_undo_33 : decode cX7_undo 33 = .ok (.ireturn, 1) := by decide +kernel
theorem dX7_has_0 : decode cX7_has 0 = .ok (.iload_n 0, 1) := by decide +kernel
theorem dX7_has_1 : decode cX7_has 1 = .ok (.iload_n 1, 1) := by decide +kernel
theorem dX7_has_2 : decode cX7_has 2 = .ok (.ishr, 1) := by decide +kernel
theorem dX7_has_3 : decode cX7_has 3 = .ok (.iconst 1, 1) := by decide +kernel
theorem dX7_has_4 : decode cX7_has 4 = .ok (.iand, 1) := by decide +kernel
theorem dX7_has_5 : decode cX7_has 5 = .ok (.ifCond .eq 7, 3) := by decide +kernel
theorem dX7_has_8 : decode cX7_has 8 = .ok (.iconst 1, 1) := by decide +kernel
theorem dX7_has_9 : decode cX7_has 9 = .ok (.goto 4, 3) := by decide +kernel
theorem dX7_has_12 : decode cX7_has 12 = .ok (.iconst 0, 1) := by decide +kernel
theorem dX7_has_13 : decode cX7_has 13 = .ok (.ireturn, 1) := by decide +kernel
theorem dX7_pairPlace_0 : decode cX7_pairPlace 0 = .ok (.iload_n 0, 1) := by decide +kernel
theorem dX7_pairPlace_1 : decode cX7_pairPlace 1 = .ok (.iload_n 1, 1) := by decide +kernel
theorem dX7_pairPlace_2 : decode cX7_pairPlace 2 = .ok (.if_icmp .ge 12, 3) := by decide +kernel
theorem dX7_pairPlace_5 : decode cX7_pairPlace 5 = .ok (.iload_n 0, 1) := by decide +kernel
theorem dX7_pairPlace_6 : decode cX7_pairPlace 6 = .ok (.bipush 9, 2) := by decide +kernel
theorem dX7_pairPlace_8 : decode cX7_pairPlace 8 = .ok (.imul, 1) := by decide +kernel
theorem dX7_pairPlace_9 : decode cX7_pairPlace 9 = .ok (.iload_n 1, 1) := by decide +kernel
theorem dX7_pairPlace_10 : decode cX7_pairPlace 10 = .ok (.iadd, 1) := by decide +kernel
theorem dX7_pairPlace_11 : decode cX7_pairPlace 11 = .ok (.goto 9, 3) := by decide +kernel
theorem dX7_pairPlace_14 : decode cX7_pairPlace 14 = .ok (.iload_n 1, 1) := by decide +kernel
theorem dX7_pairPlace_15 : decode cX7_pairPlace 15 = .ok (.bipush 9, 2) := by decide +kernel
theorem dX7_pairPlace_17 : decode cX7_pairPlace 17 = .ok (.imul, 1) := by decide +kernel
theorem dX7_pairPlace_18 : decode cX7_pairPlace 18 = .ok (.iload_n 0, 1) := by decide +kernel
theorem dX7_pairPlace_19 : decode cX7_pairPlace 19 = .ok (.iadd, 1) := by decide +kernel
theorem dX7_pairPlace_20 : decode cX7_pairPlace 20 = .ok (.ireturn, 1) := by decide +kernel
theorem dJ6_bitCount_0f7a4_0 : decode cJ6_bitCount_0f7a4 0 = .ok (.iload_n 0, 1) := by decide +kernel
theorem dJ6_bitCount_0f7a4_1 : decode cJ6_bitCount_0f7a4 1 = .ok (.iload_n 0, 1) := by decide +kernel
theorem dJ6_bitCount_0f7a4_2 : decode cJ6_bitCount_0f7a4 2 = .ok (.iconst 1, 1) := by decide +kernel
theorem dJ6_bitCount_0f7a4_3 : decode cJ6_bitCount_0f7a4 3 = .ok (.iushr, 1) := by decide +kernel
theorem dJ6_bitCount_0f7a4_4 : decode cJ6_bitCount_0f7a4 4 = .ok (.ldc_w 265, 3) := by decide +kernel
theorem dJ6_bitCount_0f7a4_7 : decode cJ6_bitCount_0f7a4 7 = .ok (.iand, 1) := by decide +kernel
theorem dJ6_bitCount_0f7a4_8 : decode cJ6_bitCount_0f7a4 8 = .ok (.isub, 1) := by decide +kernel
theorem dJ6_bitCount_0f7a4_9 : decode cJ6_bitCount_0f7a4 9 = .ok (.istore_n 0, 1) := by decide +kernel
theorem dJ6_bitCount_0f7a4_10 : decode cJ6_bitCount_0f7a4 10 = .ok (.iload_n 0, 1) := by decide +kernel
theorem dJ6_bitCount_0f7a4_11 : decode cJ6_bitCount_0f7a4 11 = .ok (.ldc_w 266, 3) := by decide +kernel
theorem dJ6_bitCount_0f7a4_14 : decode cJ6_bitCount_0f7a4 14 = .ok (.iand, 1) := by decide +kernel
theorem dJ6_bitCount_0f7a4_15 : decode cJ6_bitCount_0f7a4 15 = .ok (.iload_n 0, 1) := by decide +kernel
theorem dJ6_bitCount_0f7a4_16 : decode cJ6_bitCount_0f7a4 16 = .ok (.iconst 2, 1) := by decide +kernel
theorem dJ6_bitCount_0f7a4_17 : decode cJ6_bitCount_0f7a4 17 = .ok (.iushr, 1) := by decide +kernel
theorem dJ6_bitCount_0f7a4_18 : decode cJ6_bitCount_0f7a4 18 = .ok (.ldc_w 266, 3) := by decide +kernel
theorem dJ6_bitCount_0f7a4_21 : decode cJ6_bitCount_0f7a4 21 = .ok (.iand, 1) := by decide +kernel
theorem dJ6_bitCount_0f7a4_22 : decode cJ6_bitCount_0f7a4 22 = .ok (.iadd, 1) := by decide +kernel
theorem dJ6_bitCount_0f7a4_23 : decode cJ6_bitCount_0f7a4 23 = .ok (.istore_n 0, 1) := by decide +kernel
theorem dJ6_bitCount_0f7a4_24 : decode cJ6_bitCount_0f7a4 24 = .ok (.iload_n 0, 1) := by decide +kernel
theorem dJ6_bitCount_0f7a4_25 : decode cJ6_bitCount_0f7a4 25 = .ok (.iload_n 0, 1) := by decide +kernel
theorem dJ6_bitCount_0f7a4_26 : decode cJ6_bitCount_0f7a4 26 = .ok (.iconst 4, 1) := by decide +kernel
theorem dJ6_bitCount_0f7a4_27 : decode cJ6_bitCount_0f7a4 27 = .ok (.iushr, 1) := by decide +kernel
theorem dJ6_bitCount_0f7a4_28 : decode cJ6_bitCount_0f7a4 28 = .ok (.iadd, 1) := by decide +kernel
theorem dJ6_bitCount_0f7a4_29 : decode cJ6_bitCount_0f7a4 29 = .ok (.ldc_w 267, 3) := by decide +kernel
theorem dJ6_bitCount_0f7a4_32 : decode cJ6_bitCount_0f7a4 32 = .ok (.iand, 1) := by decide +kernel
theorem dJ6_bitCount_0f7a4_33 : decode cJ6_bitCount_0f7a4 33 = .ok (.istore_n 0, 1) := by decide +kernel
theorem dJ6_bitCount_0f7a4_34 : decode cJ6_bitCount_0f7a4 34 = .ok (.iload_n 0, 1) := by decide +kernel
theorem dJ6_bitCount_0f7a4_35 : decode cJ6_bitCount_0f7a4 35 = .ok (.iload_n 0, 1) := by decide +kernel
theorem dJ6_bitCount_0f7a4_36 : decode cJ6_bitCount_0f7a4 36 = .ok (.bipush 8, 2) := by decide +kernel
theorem dJ6_bitCount_0f7a4_38 : decode cJ6_bitCount_0f7a4 38 = .ok (.iushr, 1) := by decide +kernel
theorem dJ6_bitCount_0f7a4_39 : decode cJ6_bitCount_0f7a4 39 = .ok (.iadd, 1) := by decide +kernel
theorem dJ6_bitCount_0f7a4_40 : decode cJ6_bitCount_0f7a4 40 = .ok (.istore_n 0, 1) := by decide +kernel
theorem dJ6_bitCount_0f7a4_41 : decode cJ6_bitCount_0f7a4 41 = .ok (.iload_n 0, 1) := by decide +kernel
theorem dJ6_bitCount_0f7a4_42 : decode cJ6_bitCount_0f7a4 42 = .ok (.iload_n 0, 1) := by decide +kernel
theorem dJ6_bitCount_0f7a4_43 : decode cJ6_bitCount_0f7a4 43 = .ok (.bipush 16, 2) := by decide +kernel
theorem dJ6_bitCount_0f7a4_45 : decode cJ6_bitCount_0f7a4 45 = .ok (.iushr, 1) := by decide +kernel
theorem dJ6_bitCount_0f7a4_46 : decode cJ6_bitCount_0f7a4 46 = .ok (.iadd, 1) := by decide +kernel
theorem dJ6_bitCount_0f7a4_47 : decode cJ6_bitCount_0f7a4 47 = .ok (.istore_n 0, 1) := by decide +kernel
theorem dJ6_bitCount_0f7a4_48 : decode cJ6_bitCount_0f7a4 48 = .ok (.iload_n 0, 1) := by decide +kernel
theorem dJ6_bitCount_0f7a4_49 : decode cJ6_bitCount_0f7a4 49 = .ok (.bipush 63, 2) := by decide +kernel
theorem dJ6_bitCount_0f7a4_51 : decode cJ6_bitCount_0f7a4 51 = .ok (.iand, 1) := by decide +kernel
theorem dJ6_bitCount_0f7a4_52 : decode cJ6_bitCount_0f7a4 52 = .ok (.ireturn, 1) := by decide +kernel
theorem dJ9_max_7cf53_0 : decode cJ9_max_7cf53 0 = .ok (.iload_n 0, 1) := by decide +kernel
theorem dJ9_max_7cf53_1 : decode cJ9_max_7cf53 1 = .ok (.iload_n 1, 1) := by decide +kernel
theorem dJ9_max_7cf53_2 : decode cJ9_max_7cf53 2 = .ok (.if_icmp .lt 7, 3) := by decide +kernel
theorem dJ9_max_7cf53_5 : decode cJ9_max_7cf53 5 = .ok (.iload_n 0, 1) := by decide +kernel
theorem dJ9_max_7cf53_6 : decode cJ9_max_7cf53 6 = .ok (.goto 4, 3) := by decide +kernel
theorem dJ9_max_7cf53_9 : decode cJ9_max_7cf53 9 = .ok (.iload_n 1, 1) := by decide +kernel
theorem dJ9_max_7cf53_10 : decode cJ9_max_7cf53 10 = .ok (.ireturn, 1) := by decide +kernel
theorem dJ9_min_7cf53_0 : decode cJ9_min_7cf53 0 = .ok (.iload_n 0, 1) := by decide +kernel
theorem dJ9_min_7cf53_1 : decode cJ9_min_7cf53 1 = .ok (.iload_n 1, 1) := by decide +kernel
theorem dJ9_min_7cf53_2 : decode cJ9_min_7cf53 2 = .ok (.if_icmp .gt 7, 3) := by decide +kernel
theorem dJ9_min_7cf53_5 : decode cJ9_min_7cf53 5 = .ok (.iload_n 0, 1) := by decide +kernel
theorem dJ9_min_7cf53_6 : decode cJ9_min_7cf53 6 = .ok (.goto 4, 3) := by decide +kernel
theorem dJ9_min_7cf53_9 : decode cJ9_min_7cf53 9 = .ok (.iload_n 1, 1) := by decide +kernel
theorem dJ9_min_7cf53_10 : decode cJ9_min_7cf53 10 = .ok (.ireturn, 1) := by decide +kernel
theorem dJ0_length_8abf5_0 : decode cJ0_length_8abf5 0 = .ok (.aload_n 0, 1) := by decide +kernel
theorem dJ0_length_8abf5_1 : decode cJ0_length_8abf5 1 = .ok (.getfield 9, 3) := by decide +kernel
theorem dJ0_length_8abf5_4 : decode cJ0_length_8abf5 4 = .ok (.arraylength, 1) := by decide +kernel
theorem dJ0_length_8abf5_5 : decode cJ0_length_8abf5 5 = .ok (.aload_n 0, 1) := by decide +kernel
theorem dJ0_length_8abf5_6 : decode cJ0_length_8abf5 6 = .ok (.invokevirtual 335, 3) := by decide +kernel
theorem dJ0_length_8abf5_9 : decode cJ0_length_8abf5 9 = .ok (.ishr, 1) := by decide +kernel
theorem dJ0_length_8abf5_10 : decode cJ0_length_8abf5 10 = .ok (.ireturn, 1) := by decide +kernel
theorem dJ0_charAt_5068e_0 : decode cJ0_charAt_5068e 0 = .ok (.aload_n 0, 1) := by decide +kernel
theorem dJ0_charAt_5068e_1 : decode cJ0_charAt_5068e 1 = .ok (.invokevirtual 492, 3) := by decide +kernel
theorem dJ0_charAt_5068e_4 : decode cJ0_charAt_5068e 4 = .ok (.ifCond .eq 12, 3) := by decide +kernel
theorem dJ0_charAt_5068e_7 : decode cJ0_charAt_5068e 7 = .ok (.aload_n 0, 1) := by decide +kernel
theorem dJ0_charAt_5068e_8 : decode cJ0_charAt_5068e 8 = .ok (.getfield 9, 3) := by decide +kernel
theorem dJ0_charAt_5068e_11 : decode cJ0_charAt_5068e 11 = .ok (.iload_n 1, 1) := by decide +kernel
theorem dJ0_charAt_5068e_12 : decode cJ0_charAt_5068e 12 = .ok (.invokestatic 495, 3) := by decide +kernel
theorem dJ0_charAt_5068e_15 : decode cJ0_charAt_5068e 15 = .ok (.ireturn, 1) := by decide +kernel
theorem dJ0_charAt_5068e_16 : decode cJ0_charAt_5068e 16 = .ok (.aload_n 0, 1) := by decide +kernel
theorem dJ0_charAt_5068e_17 : decode cJ0_charAt_5068e 17 = .ok (.getfield 9, 3) := by decide +kernel
theorem dJ0_charAt_5068e_20 : decode cJ0_charAt_5068e 20 = .ok (.iload_n 1, 1) := by decide +kernel
theorem dJ0_charAt_5068e_21 : decode cJ0_charAt_5068e 21 = .ok (.invokestatic 498, 3) := by decide +kernel
theorem dJ0_charAt_5068e_24 : decode cJ0_charAt_5068e 24 = .ok (.ireturn, 1) := by decide +kernel
theorem dJ0_coder_7d493_0 : decode cJ0_coder_7d493 0 = .ok (.getstatic 38, 3) := by decide +kernel
theorem dJ0_coder_7d493_3 : decode cJ0_coder_7d493 3 = .ok (.ifCond .eq 10, 3) := by decide +kernel
theorem dJ0_coder_7d493_6 : decode cJ0_coder_7d493 6 = .ok (.aload_n 0, 1) := by decide +kernel
theorem dJ0_coder_7d493_7 : decode cJ0_coder_7d493 7 = .ok (.getfield 15, 3) := by decide +kernel
theorem dJ0_coder_7d493_10 : decode cJ0_coder_7d493 10 = .ok (.goto 4, 3) := by decide +kernel
theorem dJ0_coder_7d493_13 : decode cJ0_coder_7d493 13 = .ok (.iconst 1, 1) := by decide +kernel
theorem dJ0_coder_7d493_14 : decode cJ0_coder_7d493 14 = .ok (.ireturn, 1) := by decide +kernel
theorem dJ0_isLatin1_aae02_0 : decode cJ0_isLatin1_aae02 0 = .ok (.getstatic 38, 3) := by decide +kernel
theorem dJ0_isLatin1_aae02_3 : decode cJ0_isLatin1_aae02 3 = .ok (.ifCond .eq 14, 3) := by decide +kernel
theorem dJ0_isLatin1_aae02_6 : decode cJ0_isLatin1_aae02 6 = .ok (.aload_n 0, 1) := by decide +kernel
theorem dJ0_isLatin1_aae02_7 : decode cJ0_isLatin1_aae02 7 = .ok (.getfield 15, 3) := by decide +kernel
theorem dJ0_isLatin1_aae02_10 : decode cJ0_isLatin1_aae02 10 = .ok (.ifCond .ne 7, 3) := by decide +kernel
theorem dJ0_isLatin1_aae02_13 : decode cJ0_isLatin1_aae02 13 = .ok (.iconst 1, 1) := by decide +kernel
theorem dJ0_isLatin1_aae02_14 : decode cJ0_isLatin1_aae02 14 = .ok (.goto 4, 3) := by decide +kernel
theorem dJ0_isLatin1_aae02_17 : decode cJ0_isLatin1_aae02 17 = .ok (.iconst 0, 1) := by decide +kernel
theorem dJ0_isLatin1_aae02_18 : decode cJ0_isLatin1_aae02 18 = .ok (.ireturn, 1) := by decide +kernel
theorem dJ0_checkIndex_df160_0 : decode cJ0_checkIndex_df160 0 = .ok (.iload_n 0, 1) := by decide +kernel
theorem dJ0_checkIndex_df160_1 : decode cJ0_checkIndex_df160 1 = .ok (.iload_n 1, 1) := by decide +kernel
theorem dJ0_checkIndex_df160_2 : decode cJ0_checkIndex_df160 2 = .ok (.getstatic 1053, 3) := by decide +kernel
theorem dJ0_checkIndex_df160_5 : decode cJ0_checkIndex_df160 5 = .ok (.invokestatic 1059, 3) := by decide +kernel
theorem dJ0_checkIndex_df160_8 : decode cJ0_checkIndex_df160 8 = .ok (.pop, 1) := by decide +kernel
theorem dJ0_checkIndex_df160_9 : decode cJ0_checkIndex_df160 9 = .ok (.return_, 1) := by decide +kernel
theorem dJ1_charAt_3b067_0 : decode cJ1_charAt_3b067 0 = .ok (.iload_n 1, 1) := by decide +kernel
theorem dJ1_charAt_3b067_1 : decode cJ1_charAt_3b067 1 = .ok (.aload_n 0, 1) := by decide +kernel
theorem dJ1_charAt_3b067_2 : decode cJ1_charAt_3b067 2 = .ok (.arraylength, 1) := by decide +kernel
theorem dJ1_charAt_3b067_3 : decode cJ1_charAt_3b067 3 = .ok (.invokestatic 9, 3) := by decide +kernel
theorem dJ1_charAt_3b067_6 : decode cJ1_charAt_3b067 6 = .ok (.aload_n 0, 1) := by decide +kernel
theorem dJ1_charAt_3b067_7 : decode cJ1_charAt_3b067 7 = .ok (.iload_n 1, 1) := by decide +kernel
theorem dJ1_charAt_3b067_8 : decode cJ1_charAt_3b067 8 = .ok (.baload, 1) := by decide +kernel
theorem dJ1_charAt_3b067_9 : decode cJ1_charAt_3b067 9 = .ok (.sipush 255, 3) := by decide +kernel
theorem dJ1_charAt_3b067_12 : decode cJ1_charAt_3b067 12 = .ok (.iand, 1) := by decide +kernel
theorem dJ1_charAt_3b067_13 : decode cJ1_charAt_3b067 13 = .ok (.i2c, 1) := by decide +kernel
theorem dJ1_charAt_3b067_14 : decode cJ1_charAt_3b067 14 = .ok (.ireturn, 1) := by decide +kernel
theorem dJ2_getChar_3b067_0 : decode cJ2_getChar_3b067 0 = .ok (.getstatic 44, 3) := by decide +kernel
theorem dJ2_getChar_3b067_3 : decode cJ2_getChar_3b067 3 = .ok (.ifCond .ne 25, 3) := by decide +kernel
theorem dJ2_getChar_3b067_6 : decode cJ2_getChar_3b067 6 = .ok (.iload_n 1, 1) := by decide +kernel
theorem dJ2_getChar_3b067_7 : decode cJ2_getChar_3b067 7 = .ok (.ifCond .lt 11, 3) := by decide +kernel
theorem dJ2_getChar_3b067_10 : decode cJ2_getChar_3b067 10 = .ok (.iload_n 1, 1) := by decide +kernel
theorem dJ2_getChar_3b067_11 : decode cJ2_getChar_3b067 11 = .ok (.aload_n 0, 1) := by decide +kernel
theorem dJ2_getChar_3b067_12 : decode cJ2_getChar_3b067 12 = .ok (.invokestatic 48, 3) := by decide +kernel
theorem dJ2_getChar_3b067_15 : decode cJ2_getChar_3b067 15 = .ok (.if_icmp .lt 13, 3) := by decide +kernel
theorem dJ2_getChar_3b067_18 : decode cJ2_getChar_3b067 18 = .ok (.new 52, 3) := by decide +kernel
theorem dJ2_getChar_3b067_21 : decode cJ2_getChar_3b067 21 = .ok (.dup, 1) := by decide +kernel
theorem dJ2_getChar_3b067_22 : decode cJ2_getChar_3b067 22 = .ok (.ldc 54, 2) := by decide +kernel
theorem dJ2_getChar_3b067_24 : decode cJ2_getChar_3b067 24 = .ok (.invokespecial 56, 3) := by decide +kernel
theorem dJ2_getChar_3b067_27 : decode cJ2_getChar_3b067 27 = .ok (.athrow, 1) := by decide +kernel
theorem dJ2_getChar_3b067_28 : decode cJ2_getChar_3b067 28 = .ok (.iload_n 1, 1) := by decide +kernel
theorem dJ2_getChar_3b067_29 : decode cJ2_getChar_3b067 29 = .ok (.iconst 1, 1) := by decide +kernel
theorem dJ2_getChar_3b067_30 : decode cJ2_getChar_3b067 30 = .ok (.ishl, 1) := by decide +kernel
theorem dJ2_getChar_3b067_31 : decode cJ2_getChar_3b067 31 = .ok (.istore_n 1, 1) := by decide +kernel
theorem dJ2_getChar_3b067_32 : decode cJ2_getChar_3b067 32 = .ok (.aload_n 0, 1) := by decide +kernel
theorem dJ2_getChar_3b067_33 : decode cJ2_getChar_3b067 33 = .ok (.iload_n 1, 1) := by decide +kernel
theorem dJ2_getChar_3b067_34 : decode cJ2_getChar_3b067 34 = .ok (.iinc 1 1, 3) := by decide +kernel
theorem dJ2_getChar_3b067_37 : decode cJ2_getChar_3b067 37 = .ok (.baload, 1) := by decide +kernel
theorem dJ2_getChar_3b067_38 : decode cJ2_getChar_3b067 38 = .ok (.sipush 255, 3) := by decide +kernel
theorem dJ2_getChar_3b067_41 : decode cJ2_getChar_3b067 41 = .ok (.iand, 1) := by decide +kernel
theorem dJ2_getChar_3b067_42 : decode cJ2_getChar_3b067 42 = .ok (.getstatic 59, 3) := by decide +kernel
theorem dJ2_getChar_3b067_45 : decode cJ2_getChar_3b067 45 = .ok (.ishl, 1) := by decide +kernel
theorem dJ2_getChar_3b067_46 : decode cJ2_getChar_3b067 46 = .ok (.aload_n 0, 1) := by decide +kernel
theorem dJ2_getChar_3b067_47 : decode cJ2_getChar_3b067 47 = .ok (.iload_n 1, 1) := by decide +kernel
theorem dJ2_getChar_3b067_48 : decode cJ2_getChar_3b067 48 = .ok (.baload, 1) := by decide +kernel
theorem dJ2_getChar_3b067_49 : decode cJ2_getChar_3b067 49 = .ok (.sipush 255, 3) := by decide +kernel
theorem dJ2_getChar_3b067_52 : decode cJ2_getChar_3b067 52 = .ok (.iand, 1) := by decide +kernel
theorem dJ2_getChar_3b067_53 : decode cJ2_getChar_3b067 53 = .ok (.getstatic 63, 3) := by decide +kernel
theorem dJ2_getChar_3b067_56 : decode cJ2_getChar_3b067 56 = .ok (.ishl, 1) := by decide +kernel
theorem dJ2_getChar_3b067_57 : decode cJ2_getChar_3b067 57 = .ok (.ior, 1) := by decide +kernel
theorem dJ2_getChar_3b067_58 : decode cJ2_getChar_3b067 58 = .ok (.i2c, 1) := by decide +kernel
theorem dJ2_getChar_3b067_59 : decode cJ2_getChar_3b067 59 = .ok (.ireturn, 1) := by decide +kernel
theorem dJ2_length_9d52b_0 : decode cJ2_length_9d52b 0 = .ok (.aload_n 0, 1) := by decide +kernel
theorem dJ2_length_9d52b_1 : decode cJ2_length_9d52b 1 = .ok (.arraylength, 1) := by decide +kernel
theorem dJ2_length_9d52b_2 : decode cJ2_length_9d52b 2 = .ok (.iconst 1, 1) := by decide +kernel
theorem dJ2_length_9d52b_3 : decode cJ2_length_9d52b 3 = .ok (.ishr, 1) := by decide +kernel
theorem dJ2_length_9d52b_4 : decode cJ2_length_9d52b 4 = .ok (.ireturn, 1) := by decide +kernel
theorem dJ2_charAt_3b067_0 : decode cJ2_charAt_3b067 0 = .ok (.iload_n 1, 1) := by decide +kernel
theorem dJ2_charAt_3b067_1 : decode cJ2_charAt_3b067 1 = .ok (.aload_n 0, 1) := by decide +kernel
theorem dJ2_charAt_3b067_2 : decode cJ2_charAt_3b067 2 = .ok (.invokestatic 67, 3) := by decide +kernel
theorem dJ2_charAt_3b067_5 : decode cJ2_charAt_3b067 5 = .ok (.aload_n 0, 1) := by decide +kernel
theorem dJ2_charAt_3b067_6 : decode cJ2_charAt_3b067 6 = .ok (.iload_n 1, 1) := by decide +kernel
theorem dJ2_charAt_3b067_7 : decode cJ2_charAt_3b067 7 = .ok (.invokestatic 71, 3) := by decide +kernel
theorem dJ2_charAt_3b067_10 : decode cJ2_charAt_3b067 10 = .ok (.ireturn, 1) := by decide +kernel
theorem dJ2_checkIndex_2214a_0 : decode cJ2_checkIndex_2214a 0 = .ok (.iload_n 0, 1) := by decide +kernel
theorem dJ2_checkIndex_2214a_1 : decode cJ2_checkIndex_2214a 1 = .ok (.aload_n 1, 1) := by decide +kernel
theorem dJ2_checkIndex_2214a_2 : decode cJ2_checkIndex_2214a 2 = .ok (.invokestatic 48, 3) := by decide +kernel
theorem dJ2_checkIndex_2214a_5 : decode cJ2_checkIndex_2214a 5 = .ok (.invokestatic 414, 3) := by decide +kernel
theorem dJ2_checkIndex_2214a_8 : decode cJ2_checkIndex_2214a 8 = .ok (.return_, 1) := by decide +kernel
theorem dJ7_fill_53178_0 : decode cJ7_fill_53178 0 = .ok (.iconst 0, 1) := by decide +kernel
theorem dJ7_fill_53178_1 : decode cJ7_fill_53178 1 = .ok (.istore_n 2, 1) := by decide +kernel
theorem dJ7_fill_53178_2 : decode cJ7_fill_53178 2 = .ok (.aload_n 0, 1) := by decide +kernel
theorem dJ7_fill_53178_3 : decode cJ7_fill_53178 3 = .ok (.arraylength, 1) := by decide +kernel
theorem dJ7_fill_53178_4 : decode cJ7_fill_53178 4 = .ok (.istore_n 3, 1) := by decide +kernel
theorem dJ7_fill_53178_5 : decode cJ7_fill_53178 5 = .ok (.iload_n 2, 1) := by decide +kernel
theorem dJ7_fill_53178_6 : decode cJ7_fill_53178 6 = .ok (.iload_n 3, 1) := by decide +kernel
theorem dJ7_fill_53178_7 : decode cJ7_fill_53178 7 = .ok (.if_icmp .ge 13, 3) := by decide +kernel
theorem dJ7_fill_53178_10 : decode cJ7_fill_53178 10 = .ok (.aload_n 0, 1) := by decide +kernel
theorem dJ7_fill_53178_11 : decode cJ7_fill_53178 11 = .ok (.iload_n 2, 1) := by decide +kernel
theorem dJ7_fill_53178_12 : decode cJ7_fill_53178 12 = .ok (.iload_n 1, 1) := by decide +kernel
theorem dJ7_fill_53178_13 : decode cJ7_fill_53178 13 = .ok (.iastore, 1) := by decide +kernel
theorem dJ7_fill_53178_14 : decode cJ7_fill_53178 14 = .ok (.iinc 2 1, 3) := by decide +kernel
theorem dJ7_fill_53178_17 : decode cJ7_fill_53178 17 = .ok (.goto (-12), 3) := by decide +kernel
theorem dJ7_fill_53178_20 : decode cJ7_fill_53178 20 = .ok (.return_, 1) := by decide +kernel
theorem dJ3_checkIndex_8e157_0 : decode cJ3_checkIndex_8e157 0 = .ok (.iload_n 0, 1) := by decide +kernel
theorem dJ3_checkIndex_8e157_1 : decode cJ3_checkIndex_8e157 1 = .ok (.ifCond .lt 8, 3) := by decide +kernel
theorem dJ3_checkIndex_8e157_4 : decode cJ3_checkIndex_8e157 4 = .ok (.iload_n 0, 1) := by decide +kernel
theorem dJ3_checkIndex_8e157_5 : decode cJ3_checkIndex_8e157 5 = .ok (.iload_n 1, 1) := by decide +kernel
theorem dJ3_checkIndex_8e157_6 : decode cJ3_checkIndex_8e157 6 = .ok (.if_icmp .lt 10, 3) := by decide +kernel
theorem dJ3_checkIndex_8e157_9 : decode cJ3_checkIndex_8e157 9 = .ok (.aload_n 2, 1) := by decide +kernel
theorem dJ3_checkIndex_8e157_10 : decode cJ3_checkIndex_8e157 10 = .ok (.iload_n 0, 1) := by decide +kernel
theorem dJ3_checkIndex_8e157_11 : decode cJ3_checkIndex_8e157 11 = .ok (.iload_n 1, 1) := by decide +kernel
theorem dJ3_checkIndex_8e157_12 : decode cJ3_checkIndex_8e157 12 = .ok (.invokestatic 95, 3) := by decide +kernel
theorem dJ3_checkIndex_8e157_15 : decode cJ3_checkIndex_8e157 15 = .ok (.athrow, 1) := by decide +kernel
theorem dJ3_checkIndex_8e157_16 : decode cJ3_checkIndex_8e157 16 = .ok (.iload_n 0, 1) := by decide +kernel
theorem dJ3_checkIndex_8e157_17 : decode cJ3_checkIndex_8e157 17 = .ok (.ireturn, 1) := by decide +kernel
