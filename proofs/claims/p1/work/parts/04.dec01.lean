theorem dX4_findFitting_39 : decode cX4_findFitting 39 = .ok (.ifCond .ne 7, 3) := by decide +kernel
theorem dX4_findFitting_42 : decode cX4_findFitting 42 = .ok (.aload_n 0, 1) := by decide +kernel
theorem dX4_findFitting_43 : decode cX4_findFitting 43 = .ok (.invokevirtual 51, 3) := by decide +kernel
theorem dX4_findFitting_46 : decode cX4_findFitting 46 = .ok (.aload_n 0, 1) := by decide +kernel
theorem dX4_findFitting_47 : decode cX4_findFitting 47 = .ok (.dup, 1) := by decide +kernel
theorem dX4_findFitting_48 : decode cX4_findFitting 48 = .ok (.getfield 29, 3) := by decide +kernel
theorem dX4_findFitting_51 : decode cX4_findFitting 51 = .ok (.iconst 1, 1) := by decide +kernel
theorem dX4_findFitting_52 : decode cX4_findFitting 52 = .ok (.iadd, 1) := by decide +kernel
theorem dX4_findFitting_53 : decode cX4_findFitting 53 = .ok (.putfield 29, 3) := by decide +kernel
theorem dX4_findFitting_56 : decode cX4_findFitting 56 = .ok (.aload_n 0, 1) := by decide +kernel
theorem dX4_findFitting_57 : decode cX4_findFitting 57 = .ok (.invokevirtual 54, 3) := by decide +kernel
theorem dX4_findFitting_60 : decode cX4_findFitting 60 = .ok (.istore_n 3, 1) := by decide +kernel
theorem dX4_findFitting_61 : decode cX4_findFitting 61 = .ok (.iinc 4 1, 3) := by decide +kernel
theorem dX4_findFitting_64 : decode cX4_findFitting 64 = .ok (.goto (-49), 3) := by decide +kernel
theorem dX4_findFitting_67 : decode cX4_findFitting 67 = .ok (.return_, 1) := by decide +kernel
theorem dX4_forgedBits_0 : decode cX4_forgedBits 0 = .ok (.aload_n 0, 1) := by decide +kernel
theorem dX4_forgedBits_1 : decode cX4_forgedBits 1 = .ok (.aload_n 1, 1) := by decide +kernel
theorem dX4_forgedBits_2 : decode cX4_forgedBits 2 = .ok (.invokevirtual 32, 3) := by decide +kernel
theorem dX4_forgedBits_5 : decode cX4_forgedBits 5 = .ok (.iconst 0, 1) := by decide +kernel
theorem dX4_forgedBits_6 : decode cX4_forgedBits 6 = .ok (.istore_n 3, 1) := by decide +kernel
theorem dX4_forgedBits_7 : decode cX4_forgedBits 7 = .ok (.iconst 1, 1) := by decide +kernel
theorem dX4_forgedBits_8 : decode cX4_forgedBits 8 = .ok (.istore 4, 2) := by decide +kernel
theorem dX4_forgedBits_10 : decode cX4_forgedBits 10 = .ok (.iconst 0, 1) := by decide +kernel
theorem dX4_forgedBits_11 : decode cX4_forgedBits 11 = .ok (.istore 5, 2) := by decide +kernel
theorem dX4_forgedBits_13 : decode cX4_forgedBits 13 = .ok (.iload 5, 2) := by decide +kernel
theorem dX4_forgedBits_15 : decode cX4_forgedBits 15 = .ok (.sipush 720, 3) := by decide +kernel
theorem dX4_forgedBits_18 : decode cX4_forgedBits 18 = .ok (.if_icmp .ge 61, 3) := by decide +kernel
theorem dX4_forgedBits_21 : decode cX4_forgedBits 21 = .ok (.iload 4, 2) := by decide +kernel
theorem dX4_forgedBits_23 : decode cX4_forgedBits 23 = .ok (.ifCond .eq 56, 3) := by decide +kernel
theorem dX4_forgedBits_26 : decode cX4_forgedBits 26 = .ok (.aload_n 0, 1) := by decide +kernel
theorem dX4_forgedBits_27 : decode cX4_forgedBits 27 = .ok (.aload_n 2, 1) := by decide +kernel
theorem dX4_forgedBits_28 : decode cX4_forgedBits 28 = .ok (.invokevirtual 65, 3) := by decide +kernel
theorem dX4_forgedBits_31 : decode cX4_forgedBits 31 = .ok (.istore 6, 2) := by decide +kernel
theorem dX4_forgedBits_33 : decode cX4_forgedBits 33 = .ok (.iload 6, 2) := by decide +kernel
theorem dX4_forgedBits_35 : decode cX4_forgedBits 35 = .ok (.ifCond .ne 18, 3) := by decide +kernel
theorem dX4_forgedBits_38 : decode cX4_forgedBits 38 = .ok (.iconst 1, 1) := by decide +kernel
theorem dX4_forgedBits_39 : decode cX4_forgedBits 39 = .ok (.aload_n 0, 1) := by decide +kernel
theorem dX4_forgedBits_40 : decode cX4_forgedBits 40 = .ok (.getfield 12, 3) := by decide +kernel
theorem dX4_forgedBits_43 : decode cX4_forgedBits 43 = .ok (.getfield 69, 3) := by decide +kernel
theorem dX4_forgedBits_46 : decode cX4_forgedBits 46 = .ok (.ishl, 1) := by decide +kernel
theorem dX4_forgedBits_47 : decode cX4_forgedBits 47 = .ok (.iconst 1, 1) := by decide +kernel
theorem dX4_forgedBits_48 : decode cX4_forgedBits 48 = .ok (.isub, 1) := by decide +kernel
theorem dX4_forgedBits_49 : decode cX4_forgedBits 49 = .ok (.istore_n 3, 1) := by decide +kernel
theorem dX4_forgedBits_50 : decode cX4_forgedBits 50 = .ok (.goto 17, 3) := by decide +kernel
theorem dX4_forgedBits_67 : decode cX4_forgedBits 67 = .ok (.aload_n 0, 1) := by decide +kernel
theorem dX4_forgedBits_68 : decode cX4_forgedBits 68 = .ok (.invokevirtual 54, 3) := by decide +kernel
theorem dX4_forgedBits_71 : decode cX4_forgedBits 71 = .ok (.istore 4, 2) := by decide +kernel
theorem dX4_forgedBits_73 : decode cX4_forgedBits 73 = .ok (.iinc 5 1, 3) := by decide +kernel
theorem dX4_forgedBits_76 : decode cX4_forgedBits 76 = .ok (.goto (-63), 3) := by decide +kernel
theorem dX4_forgedBits_79 : decode cX4_forgedBits 79 = .ok (.iload_n 3, 1) := by decide +kernel
theorem dX4_forgedBits_80 : decode cX4_forgedBits 80 = .ok (.ireturn, 1) := by decide +kernel
theorem dX4_begin_0 : decode cX4_begin 0 = .ok (.aload_n 0, 1) := by decide +kernel
theorem dX4_begin_1 : decode cX4_begin 1 = .ok (.getfield 12, 3) := by decide +kernel
theorem dX4_begin_4 : decode cX4_begin 4 = .ok (.aload_n 1, 1) := by decide +kernel
theorem dX4_begin_5 : decode cX4_begin 5 = .ok (.invokevirtual 72, 3) := by decide +kernel
theorem dX4_begin_8 : decode cX4_begin 8 = .ok (.aload_n 0, 1) := by decide +kernel
theorem dX4_begin_9 : decode cX4_begin 9 = .ok (.getfield 12, 3) := by decide +kernel
theorem dX4_begin_12 : decode cX4_begin 12 = .ok (.invokevirtual 75, 3) := by decide +kernel
theorem dX4_begin_15 : decode cX4_begin 15 = .ok (.return_, 1) := by decide +kernel
theorem dX4_choose_0 : decode cX4_choose 0 = .ok (.aload_n 0, 1) := by decide +kernel
theorem dX4_choose_1 : decode cX4_choose 1 = .ok (.getfield 12, 3) := by decide +kernel
theorem dX4_choose_4 : decode cX4_choose 4 = .ok (.getfield 78, 3) := by decide +kernel
theorem dX4_choose_7 : decode cX4_choose 7 = .ok (.iconst 0, 1) := by decide +kernel
theorem dX4_choose_8 : decode cX4_choose 8 = .ok (.aload_n 0, 1) := by decide +kernel
theorem dX4_choose_9 : decode cX4_choose 9 = .ok (.getfield 18, 3) := by decide +kernel
theorem dX4_choose_12 : decode cX4_choose 12 = .ok (.iconst 0, 1) := by decide +kernel
theorem dX4_choose_13 : decode cX4_choose 13 = .ok (.bipush 6, 2) := by decide +kernel
theorem dX4_choose_15 : decode cX4_choose 15 = .ok (.invokestatic 81, 3) := by decide +kernel
theorem dX4_choose_18 : decode cX4_choose 18 = .ok (.return_, 1) := by decide +kernel
theorem dX4_unlikeBits_0 : decode cX4_unlikeBits 0 = .ok (.iconst 0, 1) := by decide +kernel
theorem dX4_unlikeBits_1 : decode cX4_unlikeBits 1 = .ok (.istore_n 2, 1) := by decide +kernel
theorem dX4_unlikeBits_2 : decode cX4_unlikeBits 2 = .ok (.iconst 0, 1) := by decide +kernel
theorem dX4_unlikeBits_3 : decode cX4_unlikeBits 3 = .ok (.istore_n 3, 1) := by decide +kernel
theorem dX4_unlikeBits_4 : decode cX4_unlikeBits 4 = .ok (.iload_n 3, 1) := by decide +kernel
theorem dX4_unlikeBits_5 : decode cX4_unlikeBits 5 = .ok (.aload_n 0, 1) := by decide +kernel
theorem dX4_unlikeBits_6 : decode cX4_unlikeBits 6 = .ok (.getfield 12, 3) := by decide +kernel
theorem dX4_unlikeBits_9 : decode cX4_unlikeBits 9 = .ok (.getfield 69, 3) := by decide +kernel
theorem dX4_unlikeBits_12 : decode cX4_unlikeBits 12 = .ok (.if_icmp .ge 31, 3) := by decide +kernel
theorem dX4_unlikeBits_43 : decode cX4_unlikeBits 43 = .ok (.iload_n 2, 1) := by decide +kernel
theorem dX4_unlikeBits_44 : decode cX4_unlikeBits 44 = .ok (.ireturn, 1) := by decide +kernel
theorem dX4_goOn_0 : decode cX4_goOn 0 = .ok (.aload_n 0, 1) := by decide +kernel
theorem dX4_goOn_1 : decode cX4_goOn 1 = .ok (.getfield 12, 3) := by decide +kernel
theorem dX4_goOn_4 : decode cX4_goOn 4 = .ok (.getfield 78, 3) := by decide +kernel
theorem dX4_goOn_7 : decode cX4_goOn 7 = .ok (.astore_n 1, 1) := by decide +kernel
theorem dX4_goOn_8 : decode cX4_goOn 8 = .ok (.aload_n 0, 1) := by decide +kernel
theorem dX4_goOn_9 : decode cX4_goOn 9 = .ok (.getfield 12, 3) := by decide +kernel
theorem dX4_goOn_12 : decode cX4_goOn 12 = .ok (.getfield 96, 3) := by decide +kernel
theorem dX4_goOn_15 : decode cX4_goOn 15 = .ok (.ifCond .eq 7, 3) := by decide +kernel
theorem dX4_goOn_18 : decode cX4_goOn 18 = .ok (.iconst 1, 1) := by decide +kernel
theorem dX4_goOn_19 : decode cX4_goOn 19 = .ok (.goto 4, 3) := by decide +kernel
theorem dX4_goOn_23 : decode cX4_goOn 23 = .ok (.istore_n 2, 1) := by decide +kernel
theorem dX4_goOn_24 : decode cX4_goOn 24 = .ok (.aload_n 0, 1) := by decide +kernel
theorem dX4_goOn_25 : decode cX4_goOn 25 = .ok (.getfield 12, 3) := by decide +kernel
theorem dX4_goOn_28 : decode cX4_goOn 28 = .ok (.getfield 69, 3) := by decide +kernel
theorem dX4_goOn_31 : decode cX4_goOn 31 = .ok (.iconst 2, 1) := by decide +kernel
theorem dX4_goOn_32 : decode cX4_goOn 32 = .ok (.isub, 1) := by decide +kernel
theorem dX4_goOn_33 : decode cX4_goOn 33 = .ok (.istore_n 3, 1) := by decide +kernel
theorem dX4_goOn_34 : decode cX4_goOn 34 = .ok (.iload_n 3, 1) := by decide +kernel
theorem dX4_goOn_35 : decode cX4_goOn 35 = .ok (.iload_n 2, 1) := by decide +kernel
theorem dX4_goOn_36 : decode cX4_goOn 36 = .ok (.if_icmp .lt 20, 3) := by decide +kernel
theorem dX4_goOn_56 : decode cX4_goOn 56 = .ok (.iload_n 3, 1) := by decide +kernel
theorem dX4_goOn_57 : decode cX4_goOn 57 = .ok (.iload_n 2, 1) := by decide +kernel
theorem dX4_goOn_58 : decode cX4_goOn 58 = .ok (.if_icmp .ge 5, 3) := by decide +kernel
theorem dX4_goOn_61 : decode cX4_goOn 61 = .ok (.iconst 0, 1) := by decide +kernel
theorem dX4_goOn_62 : decode cX4_goOn 62 = .ok (.ireturn, 1) := by decide +kernel
theorem dX5_init_0 : decode cX5_init 0 = .ok (.aload_n 0, 1) := by decide +kernel
theorem dX5_init_1 : decode cX5_init 1 = .ok (.invokespecial 3, 3) := by decide +kernel
theorem dX5_init_4 : decode cX5_init 4 = .ok (.aload_n 0, 1) := by decide +kernel
theorem dX5_init_5 : decode cX5_init 5 = .ok (.new 9, 3) := by decide +kernel
theorem dX5_init_8 : decode cX5_init 8 = .ok (.dup, 1) := by decide +kernel
theorem dX5_init_9 : decode cX5_init 9 = .ok (.invokespecial 11, 3) := by decide +kernel
theorem dX5_init_12 : decode cX5_init 12 = .ok (.putfield 12, 3) := by decide +kernel
theorem dX5_init_15 : decode cX5_init 15 = .ok (.aload_n 0, 1) := by decide +kernel
theorem dX5_init_16 : decode cX5_init 16 = .ok (.bipush 6, 2) := by decide +kernel
theorem dX5_init_18 : decode cX5_init 18 = .ok (.newarray .int, 2) := by decide +kernel
theorem dX5_init_20 : decode cX5_init 20 = .ok (.putfield 18, 3) := by decide +kernel
theorem dX5_init_23 : decode cX5_init 23 = .ok (.aload_n 0, 1) := by decide +kernel
theorem dX5_init_24 : decode cX5_init 24 = .ok (.iconst 0, 1) := by decide +kernel
theorem dX5_init_25 : decode cX5_init 25 = .ok (.putfield 22, 3) := by decide +kernel
theorem dX5_init_28 : decode cX5_init 28 = .ok (.aload_n 0, 1) := by decide +kernel
theorem dX5_init_29 : decode cX5_init 29 = .ok (.iconst 0, 1) := by decide +kernel
theorem dX5_init_30 : decode cX5_init 30 = .ok (.putfield 26, 3) := by decide +kernel
theorem dX5_init_33 : decode cX5_init 33 = .ok (.aload_n 0, 1) := by decide +kernel
theorem dX5_init_34 : decode cX5_init 34 = .ok (.iconst 0, 1) := by decide +kernel
theorem dX5_init_35 : decode cX5_init 35 = .ok (.putfield 29, 3) := by decide +kernel
theorem dX5_init_38 : decode cX5_init 38 = .ok (.return_, 1) := by decide +kernel
theorem dX5_greatestSum_0 : decode cX5_greatestSum 0 = .ok (.aload_n 0, 1) := by decide +kernel
theorem dX5_greatestSum_1 : decode cX5_greatestSum 1 = .ok (.aload_n 1, 1) := by decide +kernel
theorem dX5_greatestSum_2 : decode cX5_greatestSum 2 = .ok (.invokevirtual 32, 3) := by decide +kernel
theorem dX5_greatestSum_5 : decode cX5_greatestSum 5 = .ok (.aload_n 0, 1) := by decide +kernel
theorem dX5_greatestSum_6 : decode cX5_greatestSum 6 = .ok (.getfield 12, 3) := by decide +kernel
theorem dX5_greatestSum_9 : decode cX5_greatestSum 9 = .ok (.iload_n 2, 1) := by decide +kernel
theorem dX5_greatestSum_10 : decode cX5_greatestSum 10 = .ok (.putfield 36, 3) := by decide +kernel
theorem dX5_greatestSum_13 : decode cX5_greatestSum 13 = .ok (.iconst 0, 1) := by decide +kernel
theorem dX5_greatestSum_14 : decode cX5_greatestSum 14 = .ok (.istore_n 3, 1) := by decide +kernel
theorem dX5_greatestSum_15 : decode cX5_greatestSum 15 = .ok (.iconst 1, 1) := by decide +kernel
theorem dX5_greatestSum_16 : decode cX5_greatestSum 16 = .ok (.istore 4, 2) := by decide +kernel
theorem dX5_greatestSum_18 : decode cX5_greatestSum 18 = .ok (.iconst 0, 1) := by decide +kernel
theorem dX5_greatestSum_19 : decode cX5_greatestSum 19 = .ok (.istore 5, 2) := by decide +kernel
theorem dX5_greatestSum_21 : decode cX5_greatestSum 21 = .ok (.iload 5, 2) := by decide +kernel
theorem dX5_greatestSum_23 : decode cX5_greatestSum 23 = .ok (.sipush 4096, 3) := by decide +kernel
theorem dX5_greatestSum_26 : decode cX5_greatestSum 26 = .ok (.if_icmp .ge 32, 3) := by decide +kernel
theorem dX5_greatestSum_29 : decode cX5_greatestSum 29 = .ok (.iload 4, 2) := by decide +kernel
theorem dX5_greatestSum_31 : decode cX5_greatestSum 31 = .ok (.ifCond .eq 27, 3) := by decide +kernel
theorem dX5_greatestSum_34 : decode cX5_greatestSum 34 = .ok (.iload_n 3, 1) := by decide +kernel
theorem dX5_greatestSum_35 : decode cX5_greatestSum 35 = .ok (.aload_n 0, 1) := by decide +kernel
theorem dX5_greatestSum_36 : decode cX5_greatestSum 36 = .ok (.getfield 12, 3) := by decide +kernel
theorem dX5_greatestSum_39 : decode cX5_greatestSum 39 = .ok (.invokestatic 39, 3) := by decide +kernel
theorem dX5_greatestSum_42 : decode cX5_greatestSum 42 = .ok (.invokestatic 45, 3) := by decide +kernel
theorem dX5_greatestSum_45 : decode cX5_greatestSum 45 = .ok (.istore_n 3, 1) := by decide +kernel
theorem dX5_greatestSum_46 : decode cX5_greatestSum 46 = .ok (.aload_n 0, 1) := by decide +kernel
theorem dX5_greatestSum_47 : decode cX5_greatestSum 47 = .ok (.invokevirtual 51, 3) := by decide +kernel
theorem dX5_greatestSum_50 : decode cX5_greatestSum 50 = .ok (.istore 4, 2) := by decide +kernel
theorem dX5_greatestSum_52 : decode cX5_greatestSum 52 = .ok (.iinc 5 1, 3) := by decide +kernel
theorem dX5_greatestSum_55 : decode cX5_greatestSum 55 = .ok (.goto (-34), 3) := by decide +kernel
theorem dX5_greatestSum_58 : decode cX5_greatestSum 58 = .ok (.iload_n 3, 1) := by decide +kernel
theorem dX5_greatestSum_59 : decode cX5_greatestSum 59 = .ok (.ireturn, 1) := by decide +kernel
theorem dX5_findRests_0 : decode cX5_findRests 0 = .ok (.aload_n 0, 1) := by decide +kernel
theorem dX5_findRests_1 : decode cX5_findRests 1 = .ok (.aload_n 1, 1) := by decide +kernel
theorem dX5_findRests_2 : decode cX5_findRests 2 = .ok (.invokevirtual 32, 3) := by decide +kernel
theorem dX5_findRests_5 : decode cX5_findRests 5 = .ok (.aload_n 0, 1) := by decide +kernel
theorem dX5_findRests_6 : decode cX5_findRests 6 = .ok (.iconst 0, 1) := by decide +kernel
theorem dX5_findRests_7 : decode cX5_findRests 7 = .ok (.putfield 22, 3) := by decide +kernel
theorem dX5_findRests_10 : decode cX5_findRests 10 = .ok (.aload_n 0, 1) := by decide +kernel
theorem dX5_findRests_11 : decode cX5_findRests 11 = .ok (.iconst 0, 1) := by decide +kernel
theorem dX5_findRests_12 : decode cX5_findRests 12 = .ok (.putfield 26, 3) := by decide +kernel
theorem dX5_findRests_15 : decode cX5_findRests 15 = .ok (.aload_n 0, 1) := by decide +kernel
theorem dX5_findRests_16 : decode cX5_findRests 16 = .ok (.iconst 0, 1) := by decide +kernel
theorem dX5_findRests_17 : decode cX5_findRests 17 = .ok (.putfield 29, 3) := by decide +kernel
theorem dX5_findRests_20 : decode cX5_findRests 20 = .ok (.iconst 1, 1) := by decide +kernel
theorem dX5_findRests_21 : decode cX5_findRests 21 = .ok (.istore_n 2, 1) := by decide +kernel
theorem dX5_findRests_22 : decode cX5_findRests 22 = .ok (.iconst 0, 1) := by decide +kernel
theorem dX5_findRests_23 : decode cX5_findRests 23 = .ok (.istore_n 3, 1) := by decide +kernel
theorem dX5_findRests_24 : decode cX5_findRests 24 = .ok (.iload_n 3, 1) := by decide +kernel
theorem dX5_findRests_25 : decode cX5_findRests 25 = .ok (.sipush 4096, 3) := by decide +kernel
theorem dX5_findRests_28 : decode cX5_findRests 28 = .ok (.if_icmp .ge 29, 3) := by decide +kernel
theorem dX5_findRests_31 : decode cX5_findRests 31 = .ok (.iload_n 2, 1) := by decide +kernel
theorem dX5_findRests_32 : decode cX5_findRests 32 = .ok (.ifCond .eq 25, 3) := by decide +kernel
theorem dX5_findRests_35 : decode cX5_findRests 35 = .ok (.aload_n 0, 1) := by decide +kernel
theorem dX5_findRests_36 : decode cX5_findRests 36 = .ok (.invokevirtual 55, 3) := by decide +kernel
theorem dX5_findRests_39 : decode cX5_findRests 39 = .ok (.ifCond .eq 7, 3) := by decide +kernel
theorem dX5_findRests_42 : decode cX5_findRests 42 = .ok (.aload_n 0, 1) := by decide +kernel
theorem dX5_findRests_43 : decode cX5_findRests 43 = .ok (.invokevirtual 58, 3) := by decide +kernel
theorem dX5_findRests_46 : decode cX5_findRests 46 = .ok (.aload_n 0, 1) := by decide +kernel
theorem dX5_findRests_47 : decode cX5_findRests 47 = .ok (.invokevirtual 51, 3) := by decide +kernel
theorem dX5_findRests_50 : decode cX5_findRests 50 = .ok (.istore_n 2, 1) := by decide +kernel
theorem dX5_findRests_51 : decode cX5_findRests 51 = .ok (.iinc 3 1, 3) := by decide +kernel
theorem dX5_findRests_54 : decode cX5_findRests 54 = .ok (.goto (-30), 3) := by decide +kernel
theorem dX5_findRests_57 : decode cX5_findRests 57 = .ok (.return_, 1) := by decide +kernel
theorem dX5_takeRest_0 : decode cX5_takeRest 0 = .ok (.aload_n 0, 1) := by decide +kernel
theorem dX5_takeRest_1 : decode cX5_takeRest 1 = .ok (.getfield 12, 3) := by decide +kernel
theorem dX5_takeRest_4 : decode cX5_takeRest 4 = .ok (.invokestatic 39, 3) := by decide +kernel
theorem dX5_takeRest_7 : decode cX5_takeRest 7 = .ok (.istore_n 1, 1) := by decide +kernel
theorem dX5_takeRest_8 : decode cX5_takeRest 8 = .ok (.aload_n 0, 1) := by decide +kernel
theorem dX5_takeRest_9 : decode cX5_takeRest 9 = .ok (.getfield 22, 3) := by decide +kernel
theorem dX5_takeRest_12 : decode cX5_takeRest 12 = .ok (.ifCond .ne 26, 3) := by decide +kernel
theorem dX5_takeRest_15 : decode cX5_takeRest 15 = .ok (.aload_n 0, 1) := by decide +kernel
theorem dX5_takeRest_16 : decode cX5_takeRest 16 = .ok (.iload_n 1, 1) := by decide +kernel
theorem dX5_takeRest_17 : decode cX5_takeRest 17 = .ok (.putfield 26, 3) := by decide +kernel
theorem dX5_takeRest_20 : decode cX5_takeRest 20 = .ok (.aload_n 0, 1) := by decide +kernel
theorem dX5_takeRest_21 : decode cX5_takeRest 21 = .ok (.getfield 12, 3) := by decide +kernel
theorem dX5_takeRest_24 : decode cX5_takeRest 24 = .ok (.getfield 61, 3) := by decide +kernel
theorem dX5_takeRest_27 : decode cX5_takeRest 27 = .ok (.iconst 0, 1) := by decide +kernel
theorem dX5_takeRest_28 : decode cX5_takeRest 28 = .ok (.aload_n 0, 1) := by decide +kernel
theorem dX5_takeRest_29 : decode cX5_takeRest 29 = .ok (.getfield 18, 3) := by decide +kernel
theorem dX5_takeRest_32 : decode cX5_takeRest 32 = .ok (.iconst 0, 1) := by decide +kernel
theorem dX5_takeRest_33 : decode cX5_takeRest 33 = .ok (.bipush 6, 2) := by decide +kernel
theorem dX5_takeRest_35 : decode cX5_takeRest 35 = .ok (.invokestatic 64, 3) := by decide +kernel
theorem dX5_takeRest_38 : decode cX5_takeRest 38 = .ok (.aload_n 0, 1) := by decide +kernel
theorem dX5_takeRest_39 : decode cX5_takeRest 39 = .ok (.dup, 1) := by decide +kernel
theorem dX5_takeRest_40 : decode cX5_takeRest 40 = .ok (.getfield 22, 3) := by decide +kernel
theorem dX5_takeRest_43 : decode cX5_takeRest 43 = .ok (.iconst 1, 1) := by decide +kernel
theorem dX5_takeRest_44 : decode cX5_takeRest 44 = .ok (.iadd, 1) := by decide +kernel
theorem dX5_takeRest_45 : decode cX5_takeRest 45 = .ok (.putfield 22, 3) := by decide +kernel
theorem dX5_takeRest_48 : decode cX5_takeRest 48 = .ok (.aload_n 0, 1) := by decide +kernel
theorem dX5_takeRest_49 : decode cX5_takeRest 49 = .ok (.aload_n 0, 1) := by decide +kernel
theorem dX5_takeRest_50 : decode cX5_takeRest 50 = .ok (.getfield 29, 3) := by decide +kernel
theorem dX5_takeRest_53 : decode cX5_takeRest 53 = .ok (.iload_n 1, 1) := by decide +kernel
theorem dX5_takeRest_54 : decode cX5_takeRest 54 = .ok (.invokestatic 45, 3) := by decide +kernel
theorem dX5_takeRest_57 : decode cX5_takeRest 57 = .ok (.putfield 29, 3) := by decide +kernel
theorem dX5_takeRest_60 : decode cX5_takeRest 60 = .ok (.return_, 1) := by decide +kernel
theorem dX5_begin_0 : decode cX5_begin 0 = .ok (.aload_n 0, 1) := by decide +kernel
theorem dX5_begin_1 : decode cX5_begin 1 = .ok (.getfield 12, 3) := by decide +kernel
theorem dX5_begin_4 : decode cX5_begin 4 = .ok (.aload_n 1, 1) := by decide +kernel
theorem dX5_begin_5 : decode cX5_begin 5 = .ok (.invokevirtual 70, 3) := by decide +kernel
theorem dX5_begin_8 : decode cX5_begin 8 = .ok (.iconst 0, 1) := by decide +kernel
theorem dX5_begin_9 : decode cX5_begin 9 = .ok (.istore_n 2, 1) := by decide +kernel
theorem dX5_begin_10 : decode cX5_begin 10 = .ok (.iload_n 2, 1) := by decide +kernel
theorem dX5_begin_11 : decode cX5_begin 11 = .ok (.aload_n 0, 1) := by decide +kernel
theorem dX5_begin_12 : decode cX5_begin 12 = .ok (.getfield 12, 3) := by decide +kernel
theorem dX5_begin_15 : decode cX5_begin 15 = .ok (.getfield 73, 3) := by decide +kernel
theorem dX5_begin_18 : decode cX5_begin 18 = .ok (.if_icmp .ge 18, 3) := by decide +kernel
theorem dX5_begin_36 : decode cX5_begin 36 = .ok (.return_, 1) := by decide +kernel
theorem dX5_goOn_0 : decode cX5_goOn 0 = .ok (.aload_n 0, 1) := by decide +kernel
theorem dX5_goOn_1 : decode cX5_goOn 1 = .ok (.getfield 12, 3) := by decide +kernel
theorem dX5_goOn_4 : decode cX5_goOn 4 = .ok (.getfield 73, 3) := by decide +kernel
theorem dX5_goOn_7 : decode cX5_goOn 7 = .ok (.iconst 1, 1) := by decide +kernel
theorem dX5_goOn_8 : decode cX5_goOn 8 = .ok (.isub, 1) := by decide +kernel
theorem dX5_goOn_9 : decode cX5_goOn 9 = .ok (.istore_n 1, 1) := by decide +kernel
theorem dX5_goOn_10 : decode cX5_goOn 10 = .ok (.iload_n 1, 1) := by decide +kernel
theorem dX5_goOn_11 : decode cX5_goOn 11 = .ok (.ifCond .lt 58, 3) := by decide +kernel
theorem dX5_goOn_69 : decode cX5_goOn 69 = .ok (.iconst 0, 1) := by decide +kernel
theorem dX5_goOn_70 : decode cX5_goOn 70 = .ok (.ireturn, 1) := by decide +kernel
theorem dX5_isAtRest_0 : decode cX5_isAtRest 0 = .ok (.iconst 0, 1) := by decide +kernel
theorem dX5_isAtRest_1 : decode cX5_isAtRest 1 = .ok (.istore_n 1, 1) := by decide +kernel
theorem dX5_isAtRest_2 : decode cX5_isAtRest 2 = .ok (.iload_n 1, 1) := by decide +kernel
theorem dX5_isAtRest_3 : decode cX5_isAtRest 3 = .ok (.aload_n 0, 1) := by decide +kernel
theorem dX5_isAtRest_4 : decode cX5_isAtRest 4 = .ok (.getfield 12, 3) := by decide +kernel
theorem dX5_isAtRest_7 : decode cX5_isAtRest 7 = .ok (.getfield 73, 3) := by decide +kernel
theorem dX5_isAtRest_10 : decode cX5_isAtRest 10 = .ok (.if_icmp .ge 19, 3) := by decide +kernel
theorem dX5_isAtRest_29 : decode cX5_isAtRest 29 = .ok (.iconst 1, 1) := by decide +kernel
theorem dX5_isAtRest_30 : decode cX5_isAtRest 30 = .ok (.ireturn, 1) := by decide +kernel
theorem dX6_goBy_0 : decode cX6_goBy 0 = .ok (.iconst 0, 1) := by decide +kernel
theorem dX6_goBy_1 : decode cX6_goBy 1 = .ok (.istore_n 1, 1) := by decide +kernel
theorem dX6_goBy_2 : decode cX6_goBy 2 = .ok (.iload_n 1, 1) := by decide +kernel
theorem dX6_goBy_3 : decode cX6_goBy 3 = .ok (.aload_n 0, 1) := by decide +kernel
theorem dX6_goBy_4 : decode cX6_goBy 4 = .ok (.getfield 9, 3) := by decide +kernel
theorem dX6_goBy_7 : decode cX6_goBy 7 = .ok (.if_icmp .ge 25, 3) := by decide +kernel
theorem dX6_goBy_32 : decode cX6_goBy 32 = .ok (.iconst 0, 1) := by decide +kernel
theorem dX6_goBy_33 : decode cX6_goBy 33 = .ok (.istore_n 1, 1) := by decide +kernel
theorem dX6_goBy_34 : decode cX6_goBy 34 = .ok (.iload_n 1, 1) := by decide +kernel
theorem dX6_goBy_35 : decode cX6_goBy 35 = .ok (.aload_n 0, 1) := by decide +kernel
theorem dX6_goBy_36 : decode cX6_goBy 36 = .ok (.getfield 9, 3) := by decide +kernel
theorem dX6_goBy_39 : decode cX6_goBy 39 = .ok (.if_icmp .ge 20, 3) := by decide +kernel
theorem dX6_goBy_59 : decode cX6_goBy 59 = .ok (.aload_n 0, 1) := by decide +kernel
theorem dX6_goBy_60 : decode cX6_goBy 60 = .ok (.dup, 1) := by decide +kernel
theorem dX6_goBy_61 : decode cX6_goBy 61 = .ok (.getfield 32, 3) := by decide +kernel
theorem dX6_goBy_64 : decode cX6_goBy 64 = .ok (.iconst 1, 1) := by decide +kernel
theorem dX6_goBy_65 : decode cX6_goBy 65 = .ok (.iadd, 1) := by decide +kernel
theorem dX6_goBy_66 : decode cX6_goBy 66 = .ok (.putfield 32, 3) := by decide +kernel
theorem dX6_goBy_69 : decode cX6_goBy 69 = .ok (.return_, 1) := by decide +kernel
theorem dX7_init_0 : decode cX7_init 0 = .ok (.aload_n 0, 1) := by decide +kernel
theorem dX7_init_1 : decode cX7_init 1 = .ok (.invokespecial 1, 3) := by decide +kernel
theorem dX7_init_4 : decode cX7_init 4 = .ok (.aload_n 0, 1) := by decide +kernel
theorem dX7_init_5 : decode cX7_init 5 = .ok (.new 7, 3) := by decide +kernel
theorem dX7_init_8 : decode cX7_init 8 = .ok (.dup, 1) := by decide +kernel
theorem dX7_init_9 : decode cX7_init 9 = .ok (.invokespecial 9, 3) := by decide +kernel
theorem dX7_init_12 : decode cX7_init 12 = .ok (.putfield 10, 3) := by decide +kernel
theorem dX7_init_15 : decode cX7_init 15 = .ok (.aload_n 0, 1) := by decide +kernel
theorem dX7_init_16 : decode cX7_init 16 = .ok (.new 7, 3) := by decide +kernel
theorem dX7_init_19 : decode cX7_init 19 = .ok (.dup, 1) := by decide +kernel
theorem dX7_init_20 : decode cX7_init 20 = .ok (.invokespecial 9, 3) := by decide +kernel
theorem dX7_init_23 : decode cX7_init 23 = .ok (.putfield 16, 3) := by decide +kernel
theorem dX7_init_26 : decode cX7_init 26 = .ok (.aload_n 0, 1) := by decide +kernel
theorem dX7_init_27 : decode cX7_init 27 = .ok (.new 19, 3) := by decide +kernel
theorem dX7_init_30 : decode cX7_init 30 = .ok (.dup, 1) := by decide +kernel
theorem dX7_init_31 : decode cX7_init 31 = .ok (.bipush 64, 2) := by decide +kernel
theorem dX7_init_33 : decode cX7_init 33 = .ok (.invokespecial 21, 3) := by decide +kernel
theorem dX7_init_36 : decode cX7_init 36 = .ok (.putfield 24, 3) := by decide +kernel
theorem dX7_init_39 : decode cX7_init 39 = .ok (.aload_n 0, 1) := by decide +kernel
theorem dX7_init_40 : decode cX7_init 40 = .ok (.new 19, 3) := by decide +kernel
theorem dX7_init_43 : decode cX7_init 43 = .ok (.dup, 1) := by decide +kernel
theorem dX7_init_44 : decode cX7_init 44 = .ok (.bipush 6, 2) := by decide +kernel
theorem dX7_init_46 : decode cX7_init 46 = .ok (.invokespecial 21, 3) := by decide +kernel
theorem dX7_init_49 : decode cX7_init 49 = .ok (.putfield 28, 3) := by decide +kernel
theorem dX7_init_52 : decode cX7_init 52 = .ok (.aload_n 0, 1) := by decide +kernel
theorem dX7_init_53 : decode cX7_init 53 = .ok (.new 31, 3) := by decide +kernel
theorem dX7_init_56 : decode cX7_init 56 = .ok (.dup, 1) := by decide +kernel
theorem dX7_init_57 : decode cX7_init 57 = .ok (.invokespecial 33, 3) := by decide +kernel
theorem dX7_init_60 : decode cX7_init 60 = .ok (.putfield 34, 3) := by decide +kernel
theorem dX7_init_63 : decode cX7_init 63 = .ok (.aload_n 0, 1) := by decide +kernel
theorem dX7_init_64 : decode cX7_init 64 = .ok (.new 38, 3) := by decide +kernel
theorem dX7_init_67 : decode cX7_init 67 = .ok (.dup, 1) := by decide +kernel
theorem dX7_init_68 : decode cX7_init 68 = .ok (.invokespecial 40, 3) := by decide +kernel
theorem dX7_init_71 : decode cX7_init 71 = .ok (.putfield 41, 3) := by decide +kernel
theorem dX7_init_74 : decode cX7_init 74 = .ok (.aload_n 0, 1) := by decide +kernel
theorem dX7_init_75 : decode cX7_init 75 = .ok (.new 45, 3) := by decide +kernel
theorem dX7_init_78 : decode cX7_init 78 = .ok (.dup, 1) := by decide +kernel
theorem dX7_init_79 : decode cX7_init 79 = .ok (.invokespecial 47, 3) := by decide +kernel
theorem dX7_init_82 : decode cX7_init 82 = .ok (.putfield 48, 3) := by decide +kernel
theorem dX7_init_85 : decode cX7_init 85 = .ok (.aload_n 0, 1) := by decide +kernel
theorem dX7_init_86 : decode cX7_init 86 = .ok (.bipush 7, 2) := by decide +kernel
theorem dX7_init_88 : decode cX7_init 88 = .ok (.newarray .int, 2) := by decide +kernel
theorem dX7_init_90 : decode cX7_init 90 = .ok (.putfield 52, 3) := by decide +kernel
theorem dX7_init_93 : decode cX7_init 93 = .ok (.aload_n 0, 1) := by decide +kernel
theorem dX7_init_94 : decode cX7_init 94 = .ok (.new 7, 3) := by decide +kernel
theorem dX7_init_97 : decode cX7_init 97 = .ok (.dup, 1) := by decide +kernel
theorem dX7_init_98 : decode cX7_init 98 = .ok (.invokespecial 9, 3) := by decide +kernel
theorem dX7_init_101 : decode cX7_init 101 = .ok (.putfield 56, 3) := by decide +kernel
theorem dX7_init_104 : decode cX7_init 104 = .ok (.aload_n 0, 1) := by decide +kernel
theorem dX7_init_105 : decode cX7_init 105 = .ok (.new 19, 3) := by decide +kernel
theorem dX7_init_108 : decode cX7_init 108 = .ok (.dup, 1) := by decide +kernel
theorem dX7_init_109 : decode cX7_init 109 = .ok (.bipush 64, 2) := by decide +kernel
theorem dX7_init_111 : decode cX7_init 111 = .ok (.invokespecial 21, 3) := by decide +kernel
theorem dX7_init_114 : decode cX7_init 114 = .ok (.putfield 59, 3) := by decide +kernel
theorem dX7_init_117 : decode cX7_init 117 = .ok (.aload_n 0, 1) := by decide +kernel
theorem dX7_init_118 : decode cX7_init 118 = .ok (.new 19, 3) := by decide +kernel
theorem dX7_init_121 : decode cX7_init 121 = .ok (.dup, 1) := by decide +kernel
theorem dX7_init_122 : decode cX7_init 122 = .ok (.bipush 6, 2) := by decide +kernel
theorem dX7_init_124 : decode cX7_init 124 = .ok (.invokespecial 21, 3) := by decide +kernel
theorem dX7_init_127 : decode cX7_init 127 = .ok (.putfield 62, 3) := by decide +kernel
theorem dX7_init_130 : decode cX7_init 130 = .ok (.aload_n 0, 1) := by decide +kernel
theorem dX7_init_131 : decode cX7_init 131 = .ok (.iconst 0, 1) := by decide +kernel
theorem dX7_init_132 : decode cX7_init 132 = .ok (.putfield 65, 3) := by decide +kernel
theorem dX7_init_135 : decode cX7_init 135 = .ok (.return_, 1) := by decide +kernel
theorem dX7_letter_0 : decode cX7_letter 0 = .ok (.iload_n 1, 1) := by decide +kernel
theorem dX7_letter_1 : decode cX7_letter 1 = .ok (.ifCond .ge 10, 3) := by decide +kernel
theorem dX7_letter_4 : decode cX7_letter 4 = .ok (.aload_n 0, 1) := by decide +kernel
theorem dX7_letter_5 : decode cX7_letter 5 = .ok (.bipush (-4), 2) := by decide +kernel
theorem dX7_letter_7 : decode cX7_letter 7 = .ok (.invokevirtual 69, 3) := by decide +kernel
theorem dX7_letter_10 : decode cX7_letter 10 = .ok (.ireturn, 1) := by decide +kernel
theorem dX7_letter_11 : decode cX7_letter 11 = .ok (.iload_n 1, 1) := by decide +kernel
theorem dX7_letter_12 : decode cX7_letter 12 = .ok (.sipush 255, 3) := by decide +kernel
theorem dX7_letter_15 : decode cX7_letter 15 = .ok (.if_icmp .gt 13, 3) := by decide +kernel
theorem dX7_letter_18 : decode cX7_letter 18 = .ok (.aload_n 0, 1) := by decide +kernel
theorem dX7_letter_19 : decode cX7_letter 19 = .ok (.getfield 24, 3) := by decide +kernel
theorem dX7_letter_22 : decode cX7_letter 22 = .ok (.invokevirtual 73, 3) := by decide +kernel
theorem dX7_letter_25 : decode cX7_letter 25 = .ok (.ifCond .eq 10, 3) := by decide +kernel
theorem dX7_letter_28 : decode cX7_letter 28 = .ok (.aload_n 0, 1) := by decide +kernel
theorem dX7_letter_29 : decode cX7_letter 29 = .ok (.bipush (-6), 2) := by decide +kernel
theorem dX7_letter_31 : decode cX7_letter 31 = .ok (.invokevirtual 69, 3) := by decide +kernel
theorem dX7_letter_34 : decode cX7_letter 34 = .ok (.ireturn, 1) := by decide +kernel
theorem dX7_letter_35 : decode cX7_letter 35 = .ok (.aload_n 0, 1) := by decide +kernel
theorem dX7_letter_36 : decode cX7_letter 36 = .ok (.getfield 24, 3) := by decide +kernel
theorem dX7_letter_39 : decode cX7_letter 39 = .ok (.iload_n 1, 1) := by decide +kernel
theorem dX7_letter_40 : decode cX7_letter 40 = .ok (.invokevirtual 77, 3) := by decide +kernel
theorem dX7_letter_43 : decode cX7_letter 43 = .ok (.aload_n 0, 1) := by decide +kernel
theorem dX7_letter_44 : decode cX7_letter 44 = .ok (.getfield 24, 3) := by decide +kernel
theorem dX7_letter_47 : decode cX7_letter 47 = .ok (.getfield 80, 3) := by decide +kernel
theorem dX7_letter_50 : decode cX7_letter 50 = .ok (.ireturn, 1) := by decide +kernel
theorem dX7_school_0 : decode cX7_school 0 = .ok (.aload_n 0, 1) := by decide +kernel
theorem dX7_school_1 : decode cX7_school 1 = .ok (.getfield 16, 3) := by decide +kernel
theorem dX7_school_4 : decode cX7_school 4 = .ok (.aload_n 0, 1) := by decide +kernel
theorem dX7_school_5 : decode cX7_school 5 = .ok (.getfield 10, 3) := by decide +kernel
theorem dX7_school_8 : decode cX7_school 8 = .ok (.invokevirtual 84, 3) := by decide +kernel
theorem dX7_school_11 : decode cX7_school 11 = .ok (.aload_n 0, 1) := by decide +kernel
theorem dX7_school_12 : decode cX7_school 12 = .ok (.getfield 34, 3) := by decide +kernel
theorem dX7_school_15 : decode cX7_school 15 = .ok (.aload_n 0, 1) := by decide +kernel
theorem dX7_school_16 : decode cX7_school 16 = .ok (.getfield 24, 3) := by decide +kernel
theorem dX7_school_19 : decode cX7_school 19 = .ok (.aload_n 0, 1) := by decide +kernel
theorem dX7_school_20 : decode cX7_school 20 = .ok (.getfield 16, 3) := by decide +kernel
theorem dX7_school_23 : decode cX7_school 23 = .ok (.invokevirtual 88, 3) := by decide +kernel
theorem dX7_school_26 : decode cX7_school 26 = .ok (.istore_n 1, 1) := by decide +kernel
theorem dX7_school_27 : decode cX7_school 27 = .ok (.iload_n 1, 1) := by decide +kernel
theorem dX7_school_28 : decode cX7_school 28 = .ok (.ifCond .lt 14, 3) := by decide +kernel
theorem dX7_school_42 : decode cX7_school 42 = .ok (.aload_n 0, 1) := by decide +kernel
theorem dX7_school_43 : decode cX7_school 43 = .ok (.getfield 24, 3) := by decide +kernel
theorem dX7_school_46 : decode cX7_school 46 = .ok (.invokevirtual 92, 3) := by decide +kernel
theorem dX7_school_49 : decode cX7_school 49 = .ok (.iload_n 1, 1) := by decide +kernel
theorem dX7_school_50 : decode cX7_school 50 = .ok (.ireturn, 1) := by decide +kernel
theorem dX7_pupil_0 : decode cX7_pupil 0 = .ok (.aload_n 0, 1) := by decide +kernel
theorem dX7_pupil_1 : decode cX7_pupil 1 = .ok (.getfield 10, 3) := by decide +kernel
theorem dX7_pupil_4 : decode cX7_pupil 4 = .ok (.iload_n 1, 1) := by decide +kernel
theorem dX7_pupil_5 : decode cX7_pupil 5 = .ok (.invokevirtual 95, 3) := by decide +kernel
theorem dX7_pupil_8 : decode cX7_pupil 8 = .ok (.ifCond .ne 9, 3) := by decide +kernel
theorem dX7_pupil_11 : decode cX7_pupil 11 = .ok (.aload_n 0, 1) := by decide +kernel
theorem dX7_pupil_12 : decode cX7_pupil 12 = .ok (.iconst (-1), 1) := by decide +kernel
theorem dX7_pupil_13 : decode cX7_pupil 13 = .ok (.invokevirtual 69, 3) := by decide +kernel
theorem dX7_pupil_16 : decode cX7_pupil 16 = .ok (.ireturn, 1) := by decide +kernel
theorem dX7_sick_0 : decode cX7_sick 0 = .ok (.aload_n 0, 1) := by decide +kernel
theorem dX7_sick_1 : decode cX7_sick 1 = .ok (.getfield 10, 3) := by decide +kernel
theorem dX7_sick_4 : decode cX7_sick 4 = .ok (.iload_n 1, 1) := by decide +kernel
theorem dX7_sick_5 : decode cX7_sick 5 = .ok (.invokevirtual 95, 3) := by decide +kernel
theorem dX7_sick_8 : decode cX7_sick 8 = .ok (.ifCond .ne 9, 3) := by decide +kernel
theorem dX7_sick_11 : decode cX7_sick 11 = .ok (.aload_n 0, 1) := by decide +kernel
theorem dX7_sick_12 : decode cX7_sick 12 = .ok (.iconst (-1), 1) := by decide +kernel
theorem dX7_sick_13 : decode cX7_sick 13 = .ok (.invokevirtual 69, 3) := by decide +kernel
theorem dX7_sick_16 : decode cX7_sick 16 = .ok (.ireturn, 1) := by decide +kernel
theorem dX7_learn_0 : decode cX7_learn 0 = .ok (.aload_n 0, 1) := by decide +kernel
theorem dX7_learn_1 : decode cX7_learn 1 = .ok (.getfield 10, 3) := by decide +kernel
