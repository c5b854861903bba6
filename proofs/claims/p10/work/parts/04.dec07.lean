theorem dX7_mendsWith_31 : decode cX7_mendsWith 31 = .ok (.if_icmp .ge 63, 3) := by decide +kernel
theorem dX7_mendsWith_34 : decode cX7_mendsWith 34 = .ok (.iload_n 3, 1) := by decide +kernel
theorem dX7_mendsWith_35 : decode cX7_mendsWith 35 = .ok (.ifCond .ne 59, 3) := by decide +kernel
theorem dX7_mendsWith_38 : decode cX7_mendsWith 38 = .ok (.iload 4, 2) := by decide +kernel
theorem dX7_mendsWith_40 : decode cX7_mendsWith 40 = .ok (.iconst 1, 1) := by decide +kernel
theorem dX7_mendsWith_41 : decode cX7_mendsWith 41 = .ok (.iadd, 1) := by decide +kernel
theorem dX7_mendsWith_42 : decode cX7_mendsWith 42 = .ok (.istore 5, 2) := by decide +kernel
theorem dX7_mendsWith_44 : decode cX7_mendsWith 44 = .ok (.iload 5, 2) := by decide +kernel
theorem dX7_mendsWith_46 : decode cX7_mendsWith 46 = .ok (.aload_n 0, 1) := by decide +kernel
theorem dX7_mendsWith_47 : decode cX7_mendsWith 47 = .ok (.getfield 170, 3) := by decide +kernel
theorem dX7_mendsWith_50 : decode cX7_mendsWith 50 = .ok (.if_icmp .ge 38, 3) := by decide +kernel
theorem dX7_mendsWith_53 : decode cX7_mendsWith 53 = .ok (.iload_n 3, 1) := by decide +kernel
theorem dX7_mendsWith_54 : decode cX7_mendsWith 54 = .ok (.ifCond .ne 34, 3) := by decide +kernel
theorem dX7_mendsWith_57 : decode cX7_mendsWith 57 = .ok (.aload_n 0, 1) := by decide +kernel
theorem dX7_mendsWith_58 : decode cX7_mendsWith 58 = .ok (.iload 4, 2) := by decide +kernel
theorem dX7_mendsWith_60 : decode cX7_mendsWith 60 = .ok (.iload 5, 2) := by decide +kernel
theorem dX7_mendsWith_62 : decode cX7_mendsWith 62 = .ok (.invokevirtual 130, 3) := by decide +kernel
theorem dX7_mendsWith_65 : decode cX7_mendsWith 65 = .ok (.aload_n 0, 1) := by decide +kernel
theorem dX7_mendsWith_66 : decode cX7_mendsWith 66 = .ok (.iload_n 1, 1) := by decide +kernel
theorem dX7_mendsWith_67 : decode cX7_mendsWith 67 = .ok (.iload_n 2, 1) := by decide +kernel
theorem dX7_mendsWith_68 : decode cX7_mendsWith 68 = .ok (.iconst 1, 1) := by decide +kernel
theorem dX7_mendsWith_69 : decode cX7_mendsWith 69 = .ok (.isub, 1) := by decide +kernel
theorem dX7_mendsWith_70 : decode cX7_mendsWith 70 = .ok (.invokestatic 209, 3) := by decide +kernel
theorem dX7_mendsWith_73 : decode cX7_mendsWith 73 = .ok (.istore_n 3, 1) := by decide +kernel
theorem dX7_mendsWith_74 : decode cX7_mendsWith 74 = .ok (.aload_n 0, 1) := by decide +kernel
theorem dX7_mendsWith_75 : decode cX7_mendsWith 75 = .ok (.iload 4, 2) := by decide +kernel
theorem dX7_mendsWith_77 : decode cX7_mendsWith 77 = .ok (.iload 5, 2) := by decide +kernel
theorem dX7_mendsWith_79 : decode cX7_mendsWith 79 = .ok (.invokevirtual 130, 3) := by decide +kernel
theorem dX7_mendsWith_82 : decode cX7_mendsWith 82 = .ok (.iinc 5 1, 3) := by decide +kernel
theorem dX7_mendsWith_85 : decode cX7_mendsWith 85 = .ok (.goto (-41), 3) := by decide +kernel
theorem dX7_mendsWith_88 : decode cX7_mendsWith 88 = .ok (.iinc 4 1, 3) := by decide +kernel
theorem dX7_mendsWith_91 : decode cX7_mendsWith 91 = .ok (.goto (-66), 3) := by decide +kernel
theorem dX7_mendsWith_94 : decode cX7_mendsWith 94 = .ok (.iload_n 3, 1) := by decide +kernel
theorem dX7_mendsWith_95 : decode cX7_mendsWith 95 = .ok (.ireturn, 1) := by decide +kernel
theorem dX7_firstUnlikeTold_0 : decode cX7_firstUnlikeTold 0 = .ok (.aload_n 0, 1) := by decide +kernel
theorem dX7_firstUnlikeTold_1 : decode cX7_firstUnlikeTold 1 = .ok (.getfield 28, 3) := by decide +kernel
theorem dX7_firstUnlikeTold_4 : decode cX7_firstUnlikeTold 4 = .ok (.getfield 80, 3) := by decide +kernel
theorem dX7_firstUnlikeTold_7 : decode cX7_firstUnlikeTold 7 = .ok (.aload_n 0, 1) := by decide +kernel
theorem dX7_firstUnlikeTold_8 : decode cX7_firstUnlikeTold 8 = .ok (.getfield 10, 3) := by decide +kernel
theorem dX7_firstUnlikeTold_11 : decode cX7_firstUnlikeTold 11 = .ok (.getfield 170, 3) := by decide +kernel
theorem dX7_firstUnlikeTold_14 : decode cX7_firstUnlikeTold 14 = .ok (.invokestatic 246, 3) := by decide +kernel
theorem dX7_firstUnlikeTold_17 : decode cX7_firstUnlikeTold 17 = .ok (.istore_n 1, 1) := by decide +kernel
theorem dX7_firstUnlikeTold_18 : decode cX7_firstUnlikeTold 18 = .ok (.iconst 0, 1) := by decide +kernel
theorem dX7_firstUnlikeTold_19 : decode cX7_firstUnlikeTold 19 = .ok (.istore_n 2, 1) := by decide +kernel
theorem dX7_firstUnlikeTold_20 : decode cX7_firstUnlikeTold 20 = .ok (.iload_n 2, 1) := by decide +kernel
theorem dX7_firstUnlikeTold_21 : decode cX7_firstUnlikeTold 21 = .ok (.iload_n 1, 1) := by decide +kernel
theorem dX7_firstUnlikeTold_22 : decode cX7_firstUnlikeTold 22 = .ok (.if_icmp .ge 31, 3) := by decide +kernel
theorem dX7_firstUnlikeTold_25 : decode cX7_firstUnlikeTold 25 = .ok (.aload_n 0, 1) := by decide +kernel
theorem dX7_firstUnlikeTold_26 : decode cX7_firstUnlikeTold 26 = .ok (.getfield 10, 3) := by decide +kernel
theorem dX7_firstUnlikeTold_29 : decode cX7_firstUnlikeTold 29 = .ok (.iload_n 2, 1) := by decide +kernel
theorem dX7_firstUnlikeTold_30 : decode cX7_firstUnlikeTold 30 = .ok (.invokestatic 156, 3) := by decide +kernel
theorem dX7_firstUnlikeTold_33 : decode cX7_firstUnlikeTold 33 = .ok (.aload_n 0, 1) := by decide +kernel
theorem dX7_firstUnlikeTold_34 : decode cX7_firstUnlikeTold 34 = .ok (.getfield 28, 3) := by decide +kernel
theorem dX7_firstUnlikeTold_37 : decode cX7_firstUnlikeTold 37 = .ok (.getfield 251, 3) := by decide +kernel
theorem dX7_firstUnlikeTold_40 : decode cX7_firstUnlikeTold 40 = .ok (.iload_n 2, 1) := by decide +kernel
theorem dX7_firstUnlikeTold_41 : decode cX7_firstUnlikeTold 41 = .ok (.iaload, 1) := by decide +kernel
theorem dX7_firstUnlikeTold_42 : decode cX7_firstUnlikeTold 42 = .ok (.if_icmp .eq 5, 3) := by decide +kernel
theorem dX7_firstUnlikeTold_45 : decode cX7_firstUnlikeTold 45 = .ok (.iload_n 2, 1) := by decide +kernel
theorem dX7_firstUnlikeTold_46 : decode cX7_firstUnlikeTold 46 = .ok (.ireturn, 1) := by decide +kernel
theorem dX7_firstUnlikeTold_47 : decode cX7_firstUnlikeTold 47 = .ok (.iinc 2 1, 3) := by decide +kernel
theorem dX7_firstUnlikeTold_50 : decode cX7_firstUnlikeTold 50 = .ok (.goto (-30), 3) := by decide +kernel
theorem dX7_firstUnlikeTold_53 : decode cX7_firstUnlikeTold 53 = .ok (.aload_n 0, 1) := by decide +kernel
theorem dX7_firstUnlikeTold_54 : decode cX7_firstUnlikeTold 54 = .ok (.getfield 28, 3) := by decide +kernel
theorem dX7_firstUnlikeTold_57 : decode cX7_firstUnlikeTold 57 = .ok (.getfield 80, 3) := by decide +kernel
theorem dX7_firstUnlikeTold_60 : decode cX7_firstUnlikeTold 60 = .ok (.aload_n 0, 1) := by decide +kernel
theorem dX7_firstUnlikeTold_61 : decode cX7_firstUnlikeTold 61 = .ok (.getfield 10, 3) := by decide +kernel
theorem dX7_firstUnlikeTold_64 : decode cX7_firstUnlikeTold 64 = .ok (.getfield 170, 3) := by decide +kernel
theorem dX7_firstUnlikeTold_67 : decode cX7_firstUnlikeTold 67 = .ok (.if_icmp .ne 8, 3) := by decide +kernel
theorem dX7_firstUnlikeTold_70 : decode cX7_firstUnlikeTold 70 = .ok (.bipush (-9), 2) := by decide +kernel
theorem dX7_firstUnlikeTold_72 : decode cX7_firstUnlikeTold 72 = .ok (.goto 4, 3) := by decide +kernel
theorem dX7_firstUnlikeTold_75 : decode cX7_firstUnlikeTold 75 = .ok (.iload_n 1, 1) := by decide +kernel
theorem dX7_firstUnlikeTold_76 : decode cX7_firstUnlikeTold 76 = .ok (.ireturn, 1) := by decide +kernel
theorem dX7_nextSeed_0 : decode cX7_nextSeed 0 = .ok (.iload_n 0, 1) := by decide +kernel
theorem dX7_nextSeed_1 : decode cX7_nextSeed 1 = .ok (.ldc 254, 2) := by decide +kernel
theorem dX7_nextSeed_3 : decode cX7_nextSeed 3 = .ok (.imul, 1) := by decide +kernel
theorem dX7_nextSeed_4 : decode cX7_nextSeed 4 = .ok (.ldc 255, 2) := by decide +kernel
theorem dX7_nextSeed_6 : decode cX7_nextSeed 6 = .ok (.iadd, 1) := by decide +kernel
theorem dX7_nextSeed_7 : decode cX7_nextSeed 7 = .ok (.ireturn, 1) := by decide +kernel
theorem dX7_drawn_0 : decode cX7_drawn 0 = .ok (.iload_n 1, 1) := by decide +kernel
theorem dX7_drawn_1 : decode cX7_drawn 1 = .ok (.ifCond .gt 7, 3) := by decide +kernel
theorem dX7_drawn_4 : decode cX7_drawn 4 = .ok (.iconst 0, 1) := by decide +kernel
theorem dX7_drawn_5 : decode cX7_drawn 5 = .ok (.goto 14, 3) := by decide +kernel
theorem dX7_drawn_8 : decode cX7_drawn 8 = .ok (.iload_n 0, 1) := by decide +kernel
theorem dX7_drawn_9 : decode cX7_drawn 9 = .ok (.ldc_w 256, 3) := by decide +kernel
theorem dX7_drawn_12 : decode cX7_drawn 12 = .ok (.iand, 1) := by decide +kernel
theorem dX7_drawn_13 : decode cX7_drawn 13 = .ok (.sipush 256, 3) := by decide +kernel
theorem dX7_drawn_16 : decode cX7_drawn 16 = .ok (.idiv, 1) := by decide +kernel
theorem dX7_drawn_17 : decode cX7_drawn 17 = .ok (.iload_n 1, 1) := by decide +kernel
theorem dX7_drawn_18 : decode cX7_drawn 18 = .ok (.irem, 1) := by decide +kernel
theorem dX7_drawn_19 : decode cX7_drawn 19 = .ok (.ireturn, 1) := by decide +kernel
theorem dJ6_bitCount_0f7a4_0 : decode cJ6_bitCount_0f7a4 0 = .ok (.iload_n 0, 1) := by decide +kernel
theorem dJ6_bitCount_0f7a4_1 : decode cJ6_bitCount_0f7a4 1 = .ok (.iload_n 0, 1) := by decide +kernel
theorem dJ6_bitCount_0f7a4_2 : decode cJ6_bitCount_0f7a4 2 = .ok (.iconst 1, 1) := by decide +kernel
theorem dJ6_bitCount_0f7a4_3 : decode cJ6_bitCount_0f7a4 3 = .ok (.iushr, 1) := by decide +kernel
theorem dJ6_bitCount_0f7a4_4 : decode cJ6_bitCount_0f7a4 4 = .ok (.ldc_w 265, 3) := by decide +kernel
theorem dJ6_bitCount_0f7a4_7 : decode cJ6_bitCount_0f7a4 7 = .ok (.iand, 1) := by decide +kernel
theorem dJ6_bitCount_0f7a4_8 : decode cJ6_bitCount_0f7a4 8 = .ok (.isub, 1) := by decide +kernel
theorem dJ6_bitCount_0f7a4_9 : decode cJ6_bitCount_0f7a4 9 = .ok (.istore_n 0, 1) := by decide +kernel
theorem dJ6_bitCount_0f7a4_10 : decode cJ6_bitCount_0f7a4 10 = .ok (.iload_n 0, 1) := by decide +kernel
theorem dJ6_bitCount_0f7a4_11 : decode cJ6_bitCount_0f7a4 11 = .ok (.ldc_w 266, 3) := by decide +kernel
theorem dJ6_bitCount_0f7a4_14 : decode cJ6_bitCount_0f7a4 14 = .ok (.iand, 1) := by decide +kernel
theorem dJ6_bitCount_0f7a4_15 : decode cJ6_bitCount_0f7a4 15 = .ok (.iload_n 0, 1) := by decide +kernel
theorem dJ6_bitCount_0f7a4_16 : decode cJ6_bitCount_0f7a4 16 = .ok (.iconst 2, 1) := by decide +kernel
theorem dJ6_bitCount_0f7a4_17 : decode cJ6_bitCount_0f7a4 17 = .ok (.iushr, 1) := by decide +kernel
theorem dJ6_bitCount_0f7a4_18 : decode cJ6_bitCount_0f7a4 18 = .ok (.ldc_w 266, 3) := by decide +kernel
theorem dJ6_bitCount_0f7a4_21 : decode cJ6_bitCount_0f7a4 21 = .ok (.iand, 1) := by decide +kernel
theorem dJ6_bitCount_0f7a4_22 : decode cJ6_bitCount_0f7a4 22 = .ok (.iadd, 1) := by decide +kernel
theorem dJ6_bitCount_0f7a4_23 : decode cJ6_bitCount_0f7a4 23 = .ok (.istore_n 0, 1) := by decide +kernel
theorem dJ6_bitCount_0f7a4_24 : decode cJ6_bitCount_0f7a4 24 = .ok (.iload_n 0, 1) := by decide +kernel
theorem dJ6_bitCount_0f7a4_25 : decode cJ6_bitCount_0f7a4 25 = .ok (.iload_n 0, 1) := by decide +kernel
theorem dJ6_bitCount_0f7a4_26 : decode cJ6_bitCount_0f7a4 26 = .ok (.iconst 4, 1) := by decide +kernel
theorem dJ6_bitCount_0f7a4_27 : decode cJ6_bitCount_0f7a4 27 = .ok (.iushr, 1) := by decide +kernel
theorem dJ6_bitCount_0f7a4_28 : decode cJ6_bitCount_0f7a4 28 = .ok (.iadd, 1) := by decide +kernel
theorem dJ6_bitCount_0f7a4_29 : decode cJ6_bitCount_0f7a4 29 = .ok (.ldc_w 267, 3) := by decide +kernel
theorem dJ6_bitCount_0f7a4_32 : decode cJ6_bitCount_0f7a4 32 = .ok (.iand, 1) := by decide +kernel
theorem dJ6_bitCount_0f7a4_33 : decode cJ6_bitCount_0f7a4 33 = .ok (.istore_n 0, 1) := by decide +kernel
theorem dJ6_bitCount_0f7a4_34 : decode cJ6_bitCount_0f7a4 34 = .ok (.iload_n 0, 1) := by decide +kernel
theorem dJ6_bitCount_0f7a4_35 : decode cJ6_bitCount_0f7a4 35 = .ok (.iload_n 0, 1) := by decide +kernel
theorem dJ6_bitCount_0f7a4_36 : decode cJ6_bitCount_0f7a4 36 = .ok (.bipush 8, 2) := by decide +kernel
theorem dJ6_bitCount_0f7a4_38 : decode cJ6_bitCount_0f7a4 38 = .ok (.iushr, 1) := by decide +kernel
theorem dJ6_bitCount_0f7a4_39 : decode cJ6_bitCount_0f7a4 39 = .ok (.iadd, 1) := by decide +kernel
theorem dJ6_bitCount_0f7a4_40 : decode cJ6_bitCount_0f7a4 40 = .ok (.istore_n 0, 1) := by decide +kernel
theorem dJ6_bitCount_0f7a4_41 : decode cJ6_bitCount_0f7a4 41 = .ok (.iload_n 0, 1) := by decide +kernel
theorem dJ6_bitCount_0f7a4_42 : decode cJ6_bitCount_0f7a4 42 = .ok (.iload_n 0, 1) := by decide +kernel
theorem dJ6_bitCount_0f7a4_43 : decode cJ6_bitCount_0f7a4 43 = .ok (.bipush 16, 2) := by decide +kernel
theorem dJ6_bitCount_0f7a4_45 : decode cJ6_bitCount_0f7a4 45 = .ok (.iushr, 1) := by decide +kernel
theorem dJ6_bitCount_0f7a4_46 : decode cJ6_bitCount_0f7a4 46 = .ok (.iadd, 1) := by decide +kernel
theorem dJ6_bitCount_0f7a4_47 : decode cJ6_bitCount_0f7a4 47 = .ok (.istore_n 0, 1) := by decide +kernel
theorem dJ6_bitCount_0f7a4_48 : decode cJ6_bitCount_0f7a4 48 = .ok (.iload_n 0, 1) := by decide +kernel
theorem dJ6_bitCount_0f7a4_49 : decode cJ6_bitCount_0f7a4 49 = .ok (.bipush 63, 2) := by decide +kernel
theorem dJ6_bitCount_0f7a4_51 : decode cJ6_bitCount_0f7a4 51 = .ok (.iand, 1) := by decide +kernel
theorem dJ6_bitCount_0f7a4_52 : decode cJ6_bitCount_0f7a4 52 = .ok (.ireturn, 1) := by decide +kernel
theorem dJ9_max_7cf53_0 : decode cJ9_max_7cf53 0 = .ok (.iload_n 0, 1) := by decide +kernel
theorem dJ9_max_7cf53_1 : decode cJ9_max_7cf53 1 = .ok (.iload_n 1, 1) := by decide +kernel
theorem dJ9_max_7cf53_2 : decode cJ9_max_7cf53 2 = .ok (.if_icmp .lt 7, 3) := by decide +kernel
theorem dJ9_max_7cf53_5 : decode cJ9_max_7cf53 5 = .ok (.iload_n 0, 1) := by decide +kernel
theorem dJ9_max_7cf53_6 : decode cJ9_max_7cf53 6 = .ok (.goto 4, 3) := by decide +kernel
theorem dJ9_max_7cf53_9 : decode cJ9_max_7cf53 9 = .ok (.iload_n 1, 1) := by decide +kernel
theorem dJ9_max_7cf53_10 : decode cJ9_max_7cf53 10 = .ok (.ireturn, 1) := by decide +kernel
theorem dJ9_min_7cf53_0 : decode cJ9_min_7cf53 0 = .ok (.iload_n 0, 1) := by decide +kernel
theorem dJ9_min_7cf53_1 : decode cJ9_min_7cf53 1 = .ok (.iload_n 1, 1) := by decide +kernel
theorem dJ9_min_7cf53_2 : decode cJ9_min_7cf53 2 = .ok (.if_icmp .gt 7, 3) := by decide +kernel
theorem dJ9_min_7cf53_5 : decode cJ9_min_7cf53 5 = .ok (.iload_n 0, 1) := by decide +kernel
theorem dJ9_min_7cf53_6 : decode cJ9_min_7cf53 6 = .ok (.goto 4, 3) := by decide +kernel
theorem dJ9_min_7cf53_9 : decode cJ9_min_7cf53 9 = .ok (.iload_n 1, 1) := by decide +kernel
theorem dJ9_min_7cf53_10 : decode cJ9_min_7cf53 10 = .ok (.ireturn, 1) := by decide +kernel
