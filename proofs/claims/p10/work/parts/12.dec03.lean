theorem dX8_swap_16 : decode cX8_swap 16 = .ok (.iload_n 1, 1) := by decide +kernel
theorem dX8_swap_17 : decode cX8_swap 17 = .ok (.iload_n 2, 1) := by decide +kernel
theorem dX8_swap_18 : decode cX8_swap 18 = .ok (.if_icmp .ne 9, 3) := by decide +kernel
theorem dX8_swap_21 : decode cX8_swap 21 = .ok (.aload_n 0, 1) := by decide +kernel
theorem dX8_swap_22 : decode cX8_swap 22 = .ok (.iconst (-1), 1) := by decide +kernel
theorem dX8_swap_23 : decode cX8_swap 23 = .ok (.invokevirtual 71, 3) := by decide +kernel
theorem dX8_swap_26 : decode cX8_swap 26 = .ok (.ireturn, 1) := by decide +kernel
theorem dX8_swap_27 : decode cX8_swap 27 = .ok (.aload_n 0, 1) := by decide +kernel
theorem dX8_swap_28 : decode cX8_swap 28 = .ok (.iload_n 1, 1) := by decide +kernel
theorem dX8_swap_29 : decode cX8_swap 29 = .ok (.iload_n 2, 1) := by decide +kernel
theorem dX8_swap_30 : decode cX8_swap 30 = .ok (.invokevirtual 95, 3) := by decide +kernel
theorem dX8_swap_33 : decode cX8_swap 33 = .ok (.iconst 1, 1) := by decide +kernel
theorem dX8_swap_34 : decode cX8_swap 34 = .ok (.ireturn, 1) := by decide +kernel
theorem dX8_law_0 : decode cX8_law 0 = .ok (.iload_n 1, 1) := by decide +kernel
theorem dX8_law_1 : decode cX8_law 1 = .ok (.ifCond .lt 9, 3) := by decide +kernel
theorem dX8_law_4 : decode cX8_law 4 = .ok (.iload_n 1, 1) := by decide +kernel
theorem dX8_law_5 : decode cX8_law 5 = .ok (.bipush 6, 2) := by decide +kernel
theorem dX8_law_7 : decode cX8_law 7 = .ok (.if_icmp .le 10, 3) := by decide +kernel
theorem dX8_law_10 : decode cX8_law 10 = .ok (.aload_n 0, 1) := by decide +kernel
theorem dX8_law_11 : decode cX8_law 11 = .ok (.bipush (-2), 2) := by decide +kernel
theorem dX8_law_13 : decode cX8_law 13 = .ok (.invokevirtual 71, 3) := by decide +kernel
theorem dX8_law_16 : decode cX8_law 16 = .ok (.ireturn, 1) := by decide +kernel
theorem dX8_law_17 : decode cX8_law 17 = .ok (.aload_n 0, 1) := by decide +kernel
theorem dX8_law_18 : decode cX8_law 18 = .ok (.getfield 13, 3) := by decide +kernel
theorem dX8_law_21 : decode cX8_law 21 = .ok (.iconst 3, 1) := by decide +kernel
theorem dX8_law_22 : decode cX8_law 22 = .ok (.iaload, 1) := by decide +kernel
theorem dX8_law_23 : decode cX8_law 23 = .ok (.istore_n 2, 1) := by decide +kernel
theorem dX8_law_24 : decode cX8_law 24 = .ok (.aload_n 0, 1) := by decide +kernel
theorem dX8_law_25 : decode cX8_law 25 = .ok (.getfield 13, 3) := by decide +kernel
theorem dX8_law_28 : decode cX8_law 28 = .ok (.iconst 3, 1) := by decide +kernel
theorem dX8_law_29 : decode cX8_law 29 = .ok (.iload_n 1, 1) := by decide +kernel
theorem dX8_law_30 : decode cX8_law 30 = .ok (.iastore, 1) := by decide +kernel
theorem dX8_law_31 : decode cX8_law 31 = .ok (.iload_n 2, 1) := by decide +kernel
theorem dX8_law_32 : decode cX8_law 32 = .ok (.ireturn, 1) := by decide +kernel
theorem dX8_pass_0 : decode cX8_pass 0 = .ok (.iload_n 1, 1) := by decide +kernel
theorem dX8_pass_1 : decode cX8_pass 1 = .ok (.ifCond .ge 10, 3) := by decide +kernel
theorem dX8_pass_4 : decode cX8_pass 4 = .ok (.aload_n 0, 1) := by decide +kernel
theorem dX8_pass_5 : decode cX8_pass 5 = .ok (.bipush (-4), 2) := by decide +kernel
theorem dX8_pass_7 : decode cX8_pass 7 = .ok (.invokevirtual 71, 3) := by decide +kernel
theorem dX8_pass_10 : decode cX8_pass 10 = .ok (.ireturn, 1) := by decide +kernel
theorem dX8_pass_11 : decode cX8_pass 11 = .ok (.iload_n 1, 1) := by decide +kernel
theorem dX8_pass_12 : decode cX8_pass 12 = .ok (.bipush 99, 2) := by decide +kernel
theorem dX8_pass_14 : decode cX8_pass 14 = .ok (.if_icmp .le 10, 3) := by decide +kernel
theorem dX8_pass_17 : decode cX8_pass 17 = .ok (.aload_n 0, 1) := by decide +kernel
theorem dX8_pass_18 : decode cX8_pass 18 = .ok (.bipush (-6), 2) := by decide +kernel
theorem dX8_pass_20 : decode cX8_pass 20 = .ok (.invokevirtual 71, 3) := by decide +kernel
theorem dX8_pass_23 : decode cX8_pass 23 = .ok (.ireturn, 1) := by decide +kernel
theorem dX8_pass_24 : decode cX8_pass 24 = .ok (.aload_n 0, 1) := by decide +kernel
theorem dX8_pass_25 : decode cX8_pass 25 = .ok (.getfield 13, 3) := by decide +kernel
theorem dX8_pass_28 : decode cX8_pass 28 = .ok (.iconst 4, 1) := by decide +kernel
theorem dX8_pass_29 : decode cX8_pass 29 = .ok (.iaload, 1) := by decide +kernel
theorem dX8_pass_30 : decode cX8_pass 30 = .ok (.istore_n 2, 1) := by decide +kernel
theorem dX8_pass_31 : decode cX8_pass 31 = .ok (.aload_n 0, 1) := by decide +kernel
theorem dX8_pass_32 : decode cX8_pass 32 = .ok (.getfield 13, 3) := by decide +kernel
theorem dX8_pass_35 : decode cX8_pass 35 = .ok (.iconst 4, 1) := by decide +kernel
theorem dX8_pass_36 : decode cX8_pass 36 = .ok (.iload_n 1, 1) := by decide +kernel
theorem dX8_pass_37 : decode cX8_pass 37 = .ok (.iastore, 1) := by decide +kernel
theorem dX8_pass_38 : decode cX8_pass 38 = .ok (.iload_n 2, 1) := by decide +kernel
theorem dX8_pass_39 : decode cX8_pass 39 = .ok (.ireturn, 1) := by decide +kernel
theorem dX8_bestTeach_0 : decode cX8_bestTeach 0 = .ok (.aload_n 0, 1) := by decide +kernel
theorem dX8_bestTeach_1 : decode cX8_bestTeach 1 = .ok (.getfield 13, 3) := by decide +kernel
theorem dX8_bestTeach_4 : decode cX8_bestTeach 4 = .ok (.bipush 60, 2) := by decide +kernel
theorem dX8_bestTeach_6 : decode cX8_bestTeach 6 = .ok (.iload_n 1, 1) := by decide +kernel
theorem dX8_bestTeach_7 : decode cX8_bestTeach 7 = .ok (.iadd, 1) := by decide +kernel
theorem dX8_bestTeach_8 : decode cX8_bestTeach 8 = .ok (.iaload, 1) := by decide +kernel
theorem dX8_bestTeach_9 : decode cX8_bestTeach 9 = .ok (.istore_n 2, 1) := by decide +kernel
theorem dX8_bestTeach_10 : decode cX8_bestTeach 10 = .ok (.iconst 0, 1) := by decide +kernel
theorem dX8_bestTeach_11 : decode cX8_bestTeach 11 = .ok (.istore_n 3, 1) := by decide +kernel
theorem dX8_bestTeach_12 : decode cX8_bestTeach 12 = .ok (.iconst (-1), 1) := by decide +kernel
theorem dX8_bestTeach_13 : decode cX8_bestTeach 13 = .ok (.istore 4, 2) := by decide +kernel
theorem dX8_bestTeach_15 : decode cX8_bestTeach 15 = .ok (.iconst 0, 1) := by decide +kernel
theorem dX8_bestTeach_16 : decode cX8_bestTeach 16 = .ok (.istore 5, 2) := by decide +kernel
theorem dX8_bestTeach_18 : decode cX8_bestTeach 18 = .ok (.iload 5, 2) := by decide +kernel
theorem dX8_bestTeach_20 : decode cX8_bestTeach 20 = .ok (.aload_n 0, 1) := by decide +kernel
theorem dX8_bestTeach_21 : decode cX8_bestTeach 21 = .ok (.getfield 13, 3) := by decide +kernel
theorem dX8_bestTeach_24 : decode cX8_bestTeach 24 = .ok (.iconst 1, 1) := by decide +kernel
theorem dX8_bestTeach_25 : decode cX8_bestTeach 25 = .ok (.iaload, 1) := by decide +kernel
theorem dX8_bestTeach_26 : decode cX8_bestTeach 26 = .ok (.if_icmp .gt 43, 3) := by decide +kernel
theorem dX8_bestTeach_29 : decode cX8_bestTeach 29 = .ok (.aload_n 0, 1) := by decide +kernel
theorem dX8_bestTeach_30 : decode cX8_bestTeach 30 = .ok (.iload_n 1, 1) := by decide +kernel
theorem dX8_bestTeach_31 : decode cX8_bestTeach 31 = .ok (.iload 5, 2) := by decide +kernel
theorem dX8_bestTeach_33 : decode cX8_bestTeach 33 = .ok (.invokevirtual 132, 3) := by decide +kernel
theorem dX8_bestTeach_36 : decode cX8_bestTeach 36 = .ok (.aload_n 0, 1) := by decide +kernel
theorem dX8_bestTeach_37 : decode cX8_bestTeach 37 = .ok (.aload_n 0, 1) := by decide +kernel
theorem dX8_bestTeach_38 : decode cX8_bestTeach 38 = .ok (.getfield 13, 3) := by decide +kernel
theorem dX8_bestTeach_41 : decode cX8_bestTeach 41 = .ok (.iconst 3, 1) := by decide +kernel
theorem dX8_bestTeach_42 : decode cX8_bestTeach 42 = .ok (.iaload, 1) := by decide +kernel
theorem dX8_bestTeach_43 : decode cX8_bestTeach 43 = .ok (.iload_n 1, 1) := by decide +kernel
theorem dX8_bestTeach_44 : decode cX8_bestTeach 44 = .ok (.invokevirtual 126, 3) := by decide +kernel
theorem dX8_bestTeach_47 : decode cX8_bestTeach 47 = .ok (.istore 6, 2) := by decide +kernel
theorem dX8_bestTeach_49 : decode cX8_bestTeach 49 = .ok (.iload 6, 2) := by decide +kernel
theorem dX8_bestTeach_51 : decode cX8_bestTeach 51 = .ok (.iload 4, 2) := by decide +kernel
theorem dX8_bestTeach_53 : decode cX8_bestTeach 53 = .ok (.if_icmp .le 10, 3) := by decide +kernel
theorem dX8_bestTeach_56 : decode cX8_bestTeach 56 = .ok (.iload 5, 2) := by decide +kernel
theorem dX8_bestTeach_58 : decode cX8_bestTeach 58 = .ok (.istore_n 3, 1) := by decide +kernel
theorem dX8_bestTeach_59 : decode cX8_bestTeach 59 = .ok (.iload 6, 2) := by decide +kernel
theorem dX8_bestTeach_61 : decode cX8_bestTeach 61 = .ok (.istore 4, 2) := by decide +kernel
theorem dX8_bestTeach_63 : decode cX8_bestTeach 63 = .ok (.iinc 5 1, 3) := by decide +kernel
theorem dX8_bestTeach_66 : decode cX8_bestTeach 66 = .ok (.goto (-48), 3) := by decide +kernel
theorem dX8_bestTeach_69 : decode cX8_bestTeach 69 = .ok (.aload_n 0, 1) := by decide +kernel
theorem dX8_bestTeach_70 : decode cX8_bestTeach 70 = .ok (.iload_n 1, 1) := by decide +kernel
theorem dX8_bestTeach_71 : decode cX8_bestTeach 71 = .ok (.iload_n 2, 1) := by decide +kernel
theorem dX8_bestTeach_72 : decode cX8_bestTeach 72 = .ok (.invokevirtual 132, 3) := by decide +kernel
theorem dX8_bestTeach_75 : decode cX8_bestTeach 75 = .ok (.iload_n 3, 1) := by decide +kernel
theorem dX8_bestTeach_76 : decode cX8_bestTeach 76 = .ok (.ireturn, 1) := by decide +kernel
theorem dX8_nextTeach_0 : decode cX8_nextTeach 0 = .ok (.aload_n 0, 1) := by decide +kernel
theorem dX8_nextTeach_1 : decode cX8_nextTeach 1 = .ok (.getfield 13, 3) := by decide +kernel
theorem dX8_nextTeach_4 : decode cX8_nextTeach 4 = .ok (.bipush 10, 2) := by decide +kernel
theorem dX8_nextTeach_6 : decode cX8_nextTeach 6 = .ok (.iload_n 1, 1) := by decide +kernel
theorem dX8_nextTeach_7 : decode cX8_nextTeach 7 = .ok (.iadd, 1) := by decide +kernel
theorem dX8_nextTeach_8 : decode cX8_nextTeach 8 = .ok (.iaload, 1) := by decide +kernel
theorem dX8_nextTeach_9 : decode cX8_nextTeach 9 = .ok (.tableswitch 95 0 4 #[35, 37, 44, 53, 89], 35) := by decide +kernel
theorem dX8_nextTeach_44 : decode cX8_nextTeach 44 = .ok (.iconst 0, 1) := by decide +kernel
theorem dX8_nextTeach_45 : decode cX8_nextTeach 45 = .ok (.ireturn, 1) := by decide +kernel
theorem dX8_nextTeach_46 : decode cX8_nextTeach 46 = .ok (.aload_n 0, 1) := by decide +kernel
theorem dX8_nextTeach_47 : decode cX8_nextTeach 47 = .ok (.getfield 13, 3) := by decide +kernel
theorem dX8_nextTeach_50 : decode cX8_nextTeach 50 = .ok (.iconst 1, 1) := by decide +kernel
theorem dX8_nextTeach_51 : decode cX8_nextTeach 51 = .ok (.iaload, 1) := by decide +kernel
theorem dX8_nextTeach_52 : decode cX8_nextTeach 52 = .ok (.ireturn, 1) := by decide +kernel
theorem dX8_nextTeach_53 : decode cX8_nextTeach 53 = .ok (.aload_n 0, 1) := by decide +kernel
theorem dX8_nextTeach_54 : decode cX8_nextTeach 54 = .ok (.getfield 13, 3) := by decide +kernel
theorem dX8_nextTeach_57 : decode cX8_nextTeach 57 = .ok (.iconst 1, 1) := by decide +kernel
theorem dX8_nextTeach_58 : decode cX8_nextTeach 58 = .ok (.iaload, 1) := by decide +kernel
theorem dX8_nextTeach_59 : decode cX8_nextTeach 59 = .ok (.iconst 2, 1) := by decide +kernel
theorem dX8_nextTeach_60 : decode cX8_nextTeach 60 = .ok (.idiv, 1) := by decide +kernel
theorem dX8_nextTeach_61 : decode cX8_nextTeach 61 = .ok (.ireturn, 1) := by decide +kernel
theorem dX8_nextTeach_62 : decode cX8_nextTeach 62 = .ok (.aload_n 0, 1) := by decide +kernel
theorem dX8_nextTeach_63 : decode cX8_nextTeach 63 = .ok (.iload_n 1, 1) := by decide +kernel
theorem dX8_nextTeach_64 : decode cX8_nextTeach 64 = .ok (.iconst (-1), 1) := by decide +kernel
theorem dX8_nextTeach_65 : decode cX8_nextTeach 65 = .ok (.invokevirtual 116, 3) := by decide +kernel
theorem dX8_nextTeach_68 : decode cX8_nextTeach 68 = .ok (.istore_n 2, 1) := by decide +kernel
theorem dX8_nextTeach_69 : decode cX8_nextTeach 69 = .ok (.iload_n 2, 1) := by decide +kernel
theorem dX8_nextTeach_70 : decode cX8_nextTeach 70 = .ok (.bipush (-9), 2) := by decide +kernel
theorem dX8_nextTeach_72 : decode cX8_nextTeach 72 = .ok (.if_icmp .eq 24, 3) := by decide +kernel
theorem dX8_nextTeach_75 : decode cX8_nextTeach 75 = .ok (.aload_n 0, 1) := by decide +kernel
theorem dX8_nextTeach_76 : decode cX8_nextTeach 76 = .ok (.getfield 13, 3) := by decide +kernel
theorem dX8_nextTeach_79 : decode cX8_nextTeach 79 = .ok (.bipush 60, 2) := by decide +kernel
theorem dX8_nextTeach_81 : decode cX8_nextTeach 81 = .ok (.iload_n 2, 1) := by decide +kernel
theorem dX8_nextTeach_82 : decode cX8_nextTeach 82 = .ok (.iadd, 1) := by decide +kernel
theorem dX8_nextTeach_83 : decode cX8_nextTeach 83 = .ok (.iaload, 1) := by decide +kernel
theorem dX8_nextTeach_84 : decode cX8_nextTeach 84 = .ok (.ifCond .le 12, 3) := by decide +kernel
theorem dX8_nextTeach_87 : decode cX8_nextTeach 87 = .ok (.aload_n 0, 1) := by decide +kernel
theorem dX8_nextTeach_88 : decode cX8_nextTeach 88 = .ok (.getfield 13, 3) := by decide +kernel
theorem dX8_nextTeach_91 : decode cX8_nextTeach 91 = .ok (.iconst 1, 1) := by decide +kernel
theorem dX8_nextTeach_92 : decode cX8_nextTeach 92 = .ok (.iaload, 1) := by decide +kernel
theorem dX8_nextTeach_93 : decode cX8_nextTeach 93 = .ok (.goto 4, 3) := by decide +kernel
theorem dX8_nextTeach_96 : decode cX8_nextTeach 96 = .ok (.iconst 0, 1) := by decide +kernel
theorem dX8_nextTeach_97 : decode cX8_nextTeach 97 = .ok (.ireturn, 1) := by decide +kernel
theorem dX8_nextTeach_98 : decode cX8_nextTeach 98 = .ok (.aload_n 0, 1) := by decide +kernel
theorem dX8_nextTeach_99 : decode cX8_nextTeach 99 = .ok (.iload_n 1, 1) := by decide +kernel
theorem dX8_nextTeach_100 : decode cX8_nextTeach 100 = .ok (.invokevirtual 135, 3) := by decide +kernel
theorem dX8_nextTeach_103 : decode cX8_nextTeach 103 = .ok (.ireturn, 1) := by decide +kernel
theorem dX8_nextTeach_104 : decode cX8_nextTeach 104 = .ok (.aload_n 0, 1) := by decide +kernel
theorem dX8_nextTeach_105 : decode cX8_nextTeach 105 = .ok (.getfield 13, 3) := by decide +kernel
theorem dX8_nextTeach_108 : decode cX8_nextTeach 108 = .ok (.bipush 60, 2) := by decide +kernel
theorem dX8_nextTeach_110 : decode cX8_nextTeach 110 = .ok (.iload_n 1, 1) := by decide +kernel
theorem dX8_nextTeach_111 : decode cX8_nextTeach 111 = .ok (.iadd, 1) := by decide +kernel
theorem dX8_nextTeach_112 : decode cX8_nextTeach 112 = .ok (.iaload, 1) := by decide +kernel
theorem dX8_nextTeach_113 : decode cX8_nextTeach 113 = .ok (.ireturn, 1) := by decide +kernel
theorem dX8_goBy_0 : decode cX8_goBy 0 = .ok (.iconst 0, 1) := by decide +kernel
theorem dX8_goBy_1 : decode cX8_goBy 1 = .ok (.istore_n 1, 1) := by decide +kernel
theorem dX8_goBy_2 : decode cX8_goBy 2 = .ok (.iload_n 1, 1) := by decide +kernel
theorem dX8_goBy_3 : decode cX8_goBy 3 = .ok (.aload_n 0, 1) := by decide +kernel
theorem dX8_goBy_4 : decode cX8_goBy 4 = .ok (.getfield 13, 3) := by decide +kernel
theorem dX8_goBy_7 : decode cX8_goBy 7 = .ok (.iconst 0, 1) := by decide +kernel
theorem dX8_goBy_8 : decode cX8_goBy 8 = .ok (.iaload, 1) := by decide +kernel
theorem dX8_goBy_9 : decode cX8_goBy 9 = .ok (.if_icmp .ge 20, 3) := by decide +kernel
theorem dX8_goBy_12 : decode cX8_goBy 12 = .ok (.aload_n 0, 1) := by decide +kernel
theorem dX8_goBy_13 : decode cX8_goBy 13 = .ok (.getfield 38, 3) := by decide +kernel
theorem dX8_goBy_16 : decode cX8_goBy 16 = .ok (.iload_n 1, 1) := by decide +kernel
theorem dX8_goBy_17 : decode cX8_goBy 17 = .ok (.aload_n 0, 1) := by decide +kernel
theorem dX8_goBy_18 : decode cX8_goBy 18 = .ok (.iload_n 1, 1) := by decide +kernel
theorem dX8_goBy_19 : decode cX8_goBy 19 = .ok (.invokevirtual 138, 3) := by decide +kernel
theorem dX8_goBy_22 : decode cX8_goBy 22 = .ok (.iastore, 1) := by decide +kernel
theorem dX8_goBy_23 : decode cX8_goBy 23 = .ok (.iinc 1 1, 3) := by decide +kernel
theorem dX8_goBy_26 : decode cX8_goBy 26 = .ok (.goto (-24), 3) := by decide +kernel
theorem dX8_goBy_29 : decode cX8_goBy 29 = .ok (.iconst 0, 1) := by decide +kernel
theorem dX8_goBy_30 : decode cX8_goBy 30 = .ok (.istore_n 1, 1) := by decide +kernel
theorem dX8_goBy_31 : decode cX8_goBy 31 = .ok (.iload_n 1, 1) := by decide +kernel
theorem dX8_goBy_32 : decode cX8_goBy 32 = .ok (.aload_n 0, 1) := by decide +kernel
theorem dX8_goBy_33 : decode cX8_goBy 33 = .ok (.getfield 13, 3) := by decide +kernel
theorem dX8_goBy_36 : decode cX8_goBy 36 = .ok (.iconst 0, 1) := by decide +kernel
theorem dX8_goBy_37 : decode cX8_goBy 37 = .ok (.iaload, 1) := by decide +kernel
theorem dX8_goBy_38 : decode cX8_goBy 38 = .ok (.if_icmp .ge 20, 3) := by decide +kernel
theorem dX8_goBy_41 : decode cX8_goBy 41 = .ok (.aload_n 0, 1) := by decide +kernel
theorem dX8_goBy_42 : decode cX8_goBy 42 = .ok (.iload_n 1, 1) := by decide +kernel
theorem dX8_goBy_43 : decode cX8_goBy 43 = .ok (.aload_n 0, 1) := by decide +kernel
theorem dX8_goBy_44 : decode cX8_goBy 44 = .ok (.getfield 38, 3) := by decide +kernel
theorem dX8_goBy_47 : decode cX8_goBy 47 = .ok (.iload_n 1, 1) := by decide +kernel
theorem dX8_goBy_48 : decode cX8_goBy 48 = .ok (.iaload, 1) := by decide +kernel
theorem dX8_goBy_49 : decode cX8_goBy 49 = .ok (.invokevirtual 132, 3) := by decide +kernel
theorem dX8_goBy_52 : decode cX8_goBy 52 = .ok (.iinc 1 1, 3) := by decide +kernel
theorem dX8_goBy_55 : decode cX8_goBy 55 = .ok (.goto (-24), 3) := by decide +kernel
theorem dX8_goBy_58 : decode cX8_goBy 58 = .ok (.aload_n 0, 1) := by decide +kernel
theorem dX8_goBy_59 : decode cX8_goBy 59 = .ok (.getfield 13, 3) := by decide +kernel
theorem dX8_goBy_62 : decode cX8_goBy 62 = .ok (.iconst 2, 1) := by decide +kernel
theorem dX8_goBy_63 : decode cX8_goBy 63 = .ok (.dup2, 1) := by decide +kernel
theorem dX8_goBy_64 : decode cX8_goBy 64 = .ok (.iaload, 1) := by decide +kernel
theorem dX8_goBy_65 : decode cX8_goBy 65 = .ok (.iconst 1, 1) := by decide +kernel
theorem dX8_goBy_66 : decode cX8_goBy 66 = .ok (.iadd, 1) := by decide +kernel
theorem dX8_goBy_67 : decode cX8_goBy 67 = .ok (.iastore, 1) := by decide +kernel
theorem dX8_goBy_68 : decode cX8_goBy 68 = .ok (.return_, 1) := by decide +kernel
theorem dX8_week_0 : decode cX8_week 0 = .ok (.aload_n 0, 1) := by decide +kernel
theorem dX8_week_1 : decode cX8_week 1 = .ok (.getfield 13, 3) := by decide +kernel
theorem dX8_week_4 : decode cX8_week 4 = .ok (.iconst 2, 1) := by decide +kernel
theorem dX8_week_5 : decode cX8_week 5 = .ok (.iaload, 1) := by decide +kernel
theorem dX8_week_6 : decode cX8_week 6 = .ok (.sipush 999, 3) := by decide +kernel
theorem dX8_week_9 : decode cX8_week 9 = .ok (.if_icmp .ne 10, 3) := by decide +kernel
theorem dX8_week_12 : decode cX8_week 12 = .ok (.aload_n 0, 1) := by decide +kernel
theorem dX8_week_13 : decode cX8_week 13 = .ok (.bipush (-6), 2) := by decide +kernel
theorem dX8_week_15 : decode cX8_week 15 = .ok (.invokevirtual 71, 3) := by decide +kernel
theorem dX8_week_18 : decode cX8_week 18 = .ok (.ireturn, 1) := by decide +kernel
theorem dX8_week_19 : decode cX8_week 19 = .ok (.aload_n 0, 1) := by decide +kernel
theorem dX8_week_20 : decode cX8_week 20 = .ok (.invokevirtual 141, 3) := by decide +kernel
theorem dX8_week_23 : decode cX8_week 23 = .ok (.aload_n 0, 1) := by decide +kernel
theorem dX8_week_24 : decode cX8_week 24 = .ok (.getfield 13, 3) := by decide +kernel
theorem dX8_week_27 : decode cX8_week 27 = .ok (.iconst 2, 1) := by decide +kernel
theorem dX8_week_28 : decode cX8_week 28 = .ok (.iaload, 1) := by decide +kernel
theorem dX8_week_29 : decode cX8_week 29 = .ok (.ireturn, 1) := by decide +kernel
theorem dX8_knows_0 : decode cX8_knows 0 = .ok (.aload_n 0, 1) := by decide +kernel
theorem dX8_knows_1 : decode cX8_knows 1 = .ok (.iload_n 1, 1) := by decide +kernel
theorem dX8_knows_2 : decode cX8_knows 2 = .ok (.invokevirtual 129, 3) := by decide +kernel
theorem dX8_knows_5 : decode cX8_knows 5 = .ok (.ifCond .eq 11, 3) := by decide +kernel
theorem dX8_knows_8 : decode cX8_knows 8 = .ok (.aload_n 0, 1) := by decide +kernel
theorem dX8_knows_9 : decode cX8_knows 9 = .ok (.iconst (-1), 1) := by decide +kernel
theorem dX8_knows_10 : decode cX8_knows 10 = .ok (.invokevirtual 71, 3) := by decide +kernel
theorem dX8_knows_13 : decode cX8_knows 13 = .ok (.goto 8, 3) := by decide +kernel
theorem dX8_knows_16 : decode cX8_knows 16 = .ok (.aload_n 0, 1) := by decide +kernel
theorem dX8_knows_17 : decode cX8_knows 17 = .ok (.iload_n 1, 1) := by decide +kernel
theorem dX8_knows_18 : decode cX8_knows 18 = .ok (.invokevirtual 120, 3) := by decide +kernel
theorem dX8_knows_21 : decode cX8_knows 21 = .ok (.ireturn, 1) := by decide +kernel
theorem dX8_mark_0 : decode cX8_mark 0 = .ok (.aload_n 0, 1) := by decide +kernel
theorem dX8_mark_1 : decode cX8_mark 1 = .ok (.iload_n 1, 1) := by decide +kernel
theorem dX8_mark_2 : decode cX8_mark 2 = .ok (.invokevirtual 129, 3) := by decide +kernel
theorem dX8_mark_5 : decode cX8_mark 5 = .ok (.ifCond .eq 11, 3) := by decide +kernel
theorem dX8_mark_8 : decode cX8_mark 8 = .ok (.aload_n 0, 1) := by decide +kernel
theorem dX8_mark_9 : decode cX8_mark 9 = .ok (.iconst (-1), 1) := by decide +kernel
theorem dX8_mark_10 : decode cX8_mark 10 = .ok (.invokevirtual 71, 3) := by decide +kernel
theorem dX8_mark_13 : decode cX8_mark 13 = .ok (.goto 14, 3) := by decide +kernel
theorem dX8_mark_16 : decode cX8_mark 16 = .ok (.aload_n 0, 1) := by decide +kernel
theorem dX8_mark_17 : decode cX8_mark 17 = .ok (.aload_n 0, 1) := by decide +kernel
theorem dX8_mark_18 : decode cX8_mark 18 = .ok (.getfield 13, 3) := by decide +kernel
theorem dX8_mark_21 : decode cX8_mark 21 = .ok (.iconst 3, 1) := by decide +kernel
theorem dX8_mark_22 : decode cX8_mark 22 = .ok (.iaload, 1) := by decide +kernel
theorem dX8_mark_23 : decode cX8_mark 23 = .ok (.iload_n 1, 1) := by decide +kernel
theorem dX8_mark_24 : decode cX8_mark 24 = .ok (.invokevirtual 126, 3) := by decide +kernel
theorem dX8_mark_27 : decode cX8_mark 27 = .ok (.ireturn, 1) := by decide +kernel
theorem dX8_passed_0 : decode cX8_passed 0 = .ok (.aload_n 0, 1) := by decide +kernel
theorem dX8_passed_1 : decode cX8_passed 1 = .ok (.invokevirtual 144, 3) := by decide +kernel
theorem dX8_passed_4 : decode cX8_passed 4 = .ok (.ireturn, 1) := by decide +kernel
theorem dX8_all_0 : decode cX8_all 0 = .ok (.aload_n 0, 1) := by decide +kernel
theorem dX8_all_1 : decode cX8_all 1 = .ok (.aload_n 0, 1) := by decide +kernel
theorem dX8_all_2 : decode cX8_all 2 = .ok (.getfield 13, 3) := by decide +kernel
theorem dX8_all_5 : decode cX8_all 5 = .ok (.iconst 3, 1) := by decide +kernel
theorem dX8_all_6 : decode cX8_all 6 = .ok (.iaload, 1) := by decide +kernel
theorem dX8_all_7 : decode cX8_all 7 = .ok (.invokevirtual 147, 3) := by decide +kernel
theorem dX8_all_10 : decode cX8_all 10 = .ok (.ireturn, 1) := by decide +kernel
theorem dX8_after_0 : decode cX8_after 0 = .ok (.iload_n 1, 1) := by decide +kernel
theorem dX8_after_1 : decode cX8_after 1 = .ok (.iconst (-1), 1) := by decide +kernel
theorem dX8_after_2 : decode cX8_after 2 = .ok (.if_icmp .lt 13, 3) := by decide +kernel
theorem dX8_after_5 : decode cX8_after 5 = .ok (.iload_n 1, 1) := by decide +kernel
theorem dX8_after_6 : decode cX8_after 6 = .ok (.aload_n 0, 1) := by decide +kernel
theorem dX8_after_7 : decode cX8_after 7 = .ok (.getfield 13, 3) := by decide +kernel
theorem dX8_after_10 : decode cX8_after 10 = .ok (.iconst 0, 1) := by decide +kernel
theorem dX8_after_11 : decode cX8_after 11 = .ok (.iaload, 1) := by decide +kernel
theorem dX8_after_12 : decode cX8_after 12 = .ok (.if_icmp .lt 9, 3) := by decide +kernel
theorem dX8_after_15 : decode cX8_after 15 = .ok (.aload_n 0, 1) := by decide +kernel
theorem dX8_after_16 : decode cX8_after 16 = .ok (.iconst (-1), 1) := by decide +kernel
theorem dX8_after_17 : decode cX8_after 17 = .ok (.invokevirtual 71, 3) := by decide +kernel
theorem dX8_after_20 : decode cX8_after 20 = .ok (.ireturn, 1) := by decide +kernel
theorem dX8_after_21 : decode cX8_after 21 = .ok (.iload_n 2, 1) := by decide +kernel
theorem dX8_after_22 : decode cX8_after 22 = .ok (.ifCond .ge 10, 3) := by decide +kernel
theorem dX8_after_25 : decode cX8_after 25 = .ok (.aload_n 0, 1) := by decide +kernel
theorem dX8_after_26 : decode cX8_after 26 = .ok (.bipush (-4), 2) := by decide +kernel
theorem dX8_after_28 : decode cX8_after 28 = .ok (.invokevirtual 71, 3) := by decide +kernel
theorem dX8_after_31 : decode cX8_after 31 = .ok (.ireturn, 1) := by decide +kernel
theorem dX8_after_32 : decode cX8_after 32 = .ok (.iload_n 2, 1) := by decide +kernel
theorem dX8_after_33 : decode cX8_after 33 = .ok (.bipush 40, 2) := by decide +kernel
theorem dX8_after_35 : decode cX8_after 35 = .ok (.if_icmp .le 10, 3) := by decide +kernel
theorem dX8_after_38 : decode cX8_after 38 = .ok (.aload_n 0, 1) := by decide +kernel
theorem dX8_after_39 : decode cX8_after 39 = .ok (.bipush (-6), 2) := by decide +kernel
theorem dX8_after_41 : decode cX8_after 41 = .ok (.invokevirtual 71, 3) := by decide +kernel
theorem dX8_after_44 : decode cX8_after 44 = .ok (.ireturn, 1) := by decide +kernel
theorem dX8_after_45 : decode cX8_after 45 = .ok (.aload_n 0, 1) := by decide +kernel
theorem dX8_after_46 : decode cX8_after 46 = .ok (.getfield 13, 3) := by decide +kernel
theorem dX8_after_49 : decode cX8_after 49 = .ok (.aload_n 0, 1) := by decide +kernel
theorem dX8_after_50 : decode cX8_after 50 = .ok (.getfield 19, 3) := by decide +kernel
theorem dX8_after_53 : decode cX8_after 53 = .ok (.invokestatic 67, 3) := by decide +kernel
theorem dX8_after_56 : decode cX8_after 56 = .ok (.iconst 0, 1) := by decide +kernel
theorem dX8_after_57 : decode cX8_after 57 = .ok (.istore_n 3, 1) := by decide +kernel
theorem dX8_after_58 : decode cX8_after 58 = .ok (.iload_n 3, 1) := by decide +kernel
theorem dX8_after_59 : decode cX8_after 59 = .ok (.iload_n 2, 1) := by decide +kernel
theorem dX8_after_60 : decode cX8_after 60 = .ok (.if_icmp .ge 13, 3) := by decide +kernel
theorem dX8_after_63 : decode cX8_after 63 = .ok (.aload_n 0, 1) := by decide +kernel
theorem dX8_after_64 : decode cX8_after 64 = .ok (.invokevirtual 141, 3) := by decide +kernel
theorem dX8_after_67 : decode cX8_after 67 = .ok (.iinc 3 1, 3) := by decide +kernel
theorem dX8_after_70 : decode cX8_after 70 = .ok (.goto (-12), 3) := by decide +kernel
theorem dX8_after_73 : decode cX8_after 73 = .ok (.iload_n 1, 1) := by decide +kernel
theorem dX8_after_74 : decode cX8_after 74 = .ok (.ifCond .ge 16, 3) := by decide +kernel
theorem dX8_after_77 : decode cX8_after 77 = .ok (.aload_n 0, 1) := by decide +kernel
theorem dX8_after_78 : decode cX8_after 78 = .ok (.aload_n 0, 1) := by decide +kernel
theorem dX8_after_79 : decode cX8_after 79 = .ok (.getfield 13, 3) := by decide +kernel
theorem dX8_after_82 : decode cX8_after 82 = .ok (.iconst 3, 1) := by decide +kernel
theorem dX8_after_83 : decode cX8_after 83 = .ok (.iaload, 1) := by decide +kernel
theorem dX8_after_84 : decode cX8_after 84 = .ok (.invokevirtual 147, 3) := by decide +kernel
theorem dX8_after_87 : decode cX8_after 87 = .ok (.goto 14, 3) := by decide +kernel
theorem dX8_after_90 : decode cX8_after 90 = .ok (.aload_n 0, 1) := by decide +kernel
theorem dX8_after_91 : decode cX8_after 91 = .ok (.aload_n 0, 1) := by decide +kernel
theorem dX8_after_92 : decode cX8_after 92 = .ok (.getfield 13, 3) := by decide +kernel
theorem dX8_after_95 : decode cX8_after 95 = .ok (.iconst 3, 1) := by decide +kernel
theorem dX8_after_96 : decode cX8_after 96 = .ok (.iaload, 1) := by decide +kernel
theorem dX8_after_97 : decode cX8_after 97 = .ok (.iload_n 1, 1) := by decide +kernel
theorem dX8_after_98 : decode cX8_after 98 = .ok (.invokevirtual 126, 3) := by decide +kernel
theorem dX8_after_101 : decode cX8_after 101 = .ok (.istore_n 3, 1) := by decide +kernel
theorem dX8_after_102 : decode cX8_after 102 = .ok (.aload_n 0, 1) := by decide +kernel
theorem dX8_after_103 : decode cX8_after 103 = .ok (.getfield 19, 3) := by decide +kernel
theorem dX8_after_106 : decode cX8_after 106 = .ok (.aload_n 0, 1) := by decide +kernel
theorem dX8_after_107 : decode cX8_after 107 = .ok (.getfield 13, 3) := by decide +kernel
theorem dX8_after_110 : decode cX8_after 110 = .ok (.invokestatic 67, 3) := by decide +kernel
theorem dX8_after_113 : decode cX8_after 113 = .ok (.iload_n 3, 1) := by decide +kernel
theorem dX8_after_114 : decode cX8_after 114 = .ok (.ireturn, 1) := by decide +kernel
theorem dX8_isAsBefore_0 : decode cX8_isAsBefore 0 = .ok (.iconst 1, 1) := by decide +kernel
theorem dX8_isAsBefore_1 : decode cX8_isAsBefore 1 = .ok (.istore_n 1, 1) := by decide +kernel
theorem dX8_isAsBefore_2 : decode cX8_isAsBefore 2 = .ok (.iconst 0, 1) := by decide +kernel
theorem dX8_isAsBefore_3 : decode cX8_isAsBefore 3 = .ok (.istore_n 2, 1) := by decide +kernel
theorem dX8_isAsBefore_4 : decode cX8_isAsBefore 4 = .ok (.iload_n 2, 1) := by decide +kernel
theorem dX8_isAsBefore_5 : decode cX8_isAsBefore 5 = .ok (.aload_n 0, 1) := by decide +kernel
theorem dX8_isAsBefore_6 : decode cX8_isAsBefore 6 = .ok (.getfield 13, 3) := by decide +kernel
theorem dX8_isAsBefore_9 : decode cX8_isAsBefore 9 = .ok (.iconst 0, 1) := by decide +kernel
theorem dX8_isAsBefore_10 : decode cX8_isAsBefore 10 = .ok (.iaload, 1) := by decide +kernel
theorem dX8_isAsBefore_11 : decode cX8_isAsBefore 11 = .ok (.if_icmp .ge 40, 3) := by decide +kernel
theorem dX8_isAsBefore_14 : decode cX8_isAsBefore 14 = .ok (.iload_n 1, 1) := by decide +kernel
theorem dX8_isAsBefore_15 : decode cX8_isAsBefore 15 = .ok (.ifCond .eq 28, 3) := by decide +kernel
theorem dX8_isAsBefore_18 : decode cX8_isAsBefore 18 = .ok (.aload_n 0, 1) := by decide +kernel
theorem dX8_isAsBefore_19 : decode cX8_isAsBefore 19 = .ok (.getfield 13, 3) := by decide +kernel
theorem dX8_isAsBefore_22 : decode cX8_isAsBefore 22 = .ok (.bipush 50, 2) := by decide +kernel
theorem dX8_isAsBefore_24 : decode cX8_isAsBefore 24 = .ok (.iload_n 2, 1) := by decide +kernel
theorem dX8_isAsBefore_25 : decode cX8_isAsBefore 25 = .ok (.iadd, 1) := by decide +kernel
theorem dX8_isAsBefore_26 : decode cX8_isAsBefore 26 = .ok (.iaload, 1) := by decide +kernel
theorem dX8_isAsBefore_27 : decode cX8_isAsBefore 27 = .ok (.aload_n 0, 1) := by decide +kernel
theorem dX8_isAsBefore_28 : decode cX8_isAsBefore 28 = .ok (.getfield 19, 3) := by decide +kernel
theorem dX8_isAsBefore_31 : decode cX8_isAsBefore 31 = .ok (.bipush 50, 2) := by decide +kernel
theorem dX8_isAsBefore_33 : decode cX8_isAsBefore 33 = .ok (.iload_n 2, 1) := by decide +kernel
theorem dX8_isAsBefore_34 : decode cX8_isAsBefore 34 = .ok (.iadd, 1) := by decide +kernel
theorem dX8_isAsBefore_35 : decode cX8_isAsBefore 35 = .ok (.iaload, 1) := by decide +kernel
theorem dX8_isAsBefore_36 : decode cX8_isAsBefore 36 = .ok (.if_icmp .ne 7, 3) := by decide +kernel
theorem dX8_isAsBefore_39 : decode cX8_isAsBefore 39 = .ok (.iconst 1, 1) := by decide +kernel
theorem dX8_isAsBefore_40 : decode cX8_isAsBefore 40 = .ok (.goto 4, 3) := by decide +kernel
theorem dX8_isAsBefore_43 : decode cX8_isAsBefore 43 = .ok (.iconst 0, 1) := by decide +kernel
theorem dX8_isAsBefore_44 : decode cX8_isAsBefore 44 = .ok (.istore_n 1, 1) := by decide +kernel
theorem dX8_isAsBefore_45 : decode cX8_isAsBefore 45 = .ok (.iinc 2 1, 3) := by decide +kernel
theorem dX8_isAsBefore_48 : decode cX8_isAsBefore 48 = .ok (.goto (-44), 3) := by decide +kernel
theorem dX8_isAsBefore_51 : decode cX8_isAsBefore 51 = .ok (.iload_n 1, 1) := by decide +kernel
theorem dX8_isAsBefore_52 : decode cX8_isAsBefore 52 = .ok (.ireturn, 1) := by decide +kernel
theorem dX8_again_0 : decode cX8_again 0 = .ok (.aload_n 0, 1) := by decide +kernel
theorem dX8_again_1 : decode cX8_again 1 = .ok (.getfield 13, 3) := by decide +kernel
theorem dX8_again_4 : decode cX8_again 4 = .ok (.aload_n 0, 1) := by decide +kernel
theorem dX8_again_5 : decode cX8_again 5 = .ok (.getfield 19, 3) := by decide +kernel
theorem dX8_again_8 : decode cX8_again 8 = .ok (.invokestatic 67, 3) := by decide +kernel
theorem dX8_again_11 : decode cX8_again 11 = .ok (.iconst 1, 1) := by decide +kernel
theorem dX8_again_12 : decode cX8_again 12 = .ok (.istore_n 1, 1) := by decide +kernel
theorem dX8_again_13 : decode cX8_again 13 = .ok (.iload_n 1, 1) := by decide +kernel
theorem dX8_again_14 : decode cX8_again 14 = .ok (.bipush 60, 2) := by decide +kernel
theorem dX8_again_16 : decode cX8_again 16 = .ok (.if_icmp .gt 23, 3) := by decide +kernel
theorem dX8_again_19 : decode cX8_again 19 = .ok (.aload_n 0, 1) := by decide +kernel
theorem dX8_again_20 : decode cX8_again 20 = .ok (.invokevirtual 141, 3) := by decide +kernel
theorem dX8_again_23 : decode cX8_again 23 = .ok (.aload_n 0, 1) := by decide +kernel
theorem dX8_again_24 : decode cX8_again 24 = .ok (.getfield 41, 3) := by decide +kernel
theorem dX8_again_27 : decode cX8_again 27 = .ok (.iload_n 1, 1) := by decide +kernel
theorem dX8_again_28 : decode cX8_again 28 = .ok (.aload_n 0, 1) := by decide +kernel
theorem dX8_again_29 : decode cX8_again 29 = .ok (.invokevirtual 150, 3) := by decide +kernel
theorem dX8_again_32 : decode cX8_again 32 = .ok (.bastore, 1) := by decide +kernel
theorem dX8_again_33 : decode cX8_again 33 = .ok (.iinc 1 1, 3) := by decide +kernel
theorem dX8_again_36 : decode cX8_again 36 = .ok (.goto (-23), 3) := by decide +kernel
theorem dX8_again_39 : decode cX8_again 39 = .ok (.aload_n 0, 1) := by decide +kernel
theorem dX8_again_40 : decode cX8_again 40 = .ok (.getfield 19, 3) := by decide +kernel
theorem dX8_again_43 : decode cX8_again 43 = .ok (.aload_n 0, 1) := by decide +kernel
theorem dX8_again_44 : decode cX8_again 44 = .ok (.getfield 13, 3) := by decide +kernel
theorem dX8_again_47 : decode cX8_again 47 = .ok (.invokestatic 67, 3) := by decide +kernel
theorem dX8_again_50 : decode cX8_again 50 = .ok (.iconst 1, 1) := by decide +kernel
theorem dX8_again_51 : decode cX8_again 51 = .ok (.istore_n 1, 1) := by decide +kernel
theorem dX8_again_52 : decode cX8_again 52 = .ok (.iload_n 1, 1) := by decide +kernel
theorem dX8_again_53 : decode cX8_again 53 = .ok (.bipush 30, 2) := by decide +kernel
theorem dX8_again_55 : decode cX8_again 55 = .ok (.if_icmp .gt 31, 3) := by decide +kernel
theorem dX8_again_58 : decode cX8_again 58 = .ok (.aload_n 0, 1) := by decide +kernel
theorem dX8_again_59 : decode cX8_again 59 = .ok (.getfield 41, 3) := by decide +kernel
theorem dX8_again_62 : decode cX8_again 62 = .ok (.iload_n 1, 1) := by decide +kernel
theorem dX8_again_63 : decode cX8_again 63 = .ok (.baload, 1) := by decide +kernel
theorem dX8_again_64 : decode cX8_again 64 = .ok (.ifCond .eq 16, 3) := by decide +kernel
theorem dX8_again_67 : decode cX8_again 67 = .ok (.aload_n 0, 1) := by decide +kernel
theorem dX8_again_68 : decode cX8_again 68 = .ok (.getfield 41, 3) := by decide +kernel
theorem dX8_again_71 : decode cX8_again 71 = .ok (.iconst 2, 1) := by decide +kernel
theorem dX8_again_72 : decode cX8_again 72 = .ok (.iload_n 1, 1) := by decide +kernel
theorem dX8_again_73 : decode cX8_again 73 = .ok (.imul, 1) := by decide +kernel
theorem dX8_again_74 : decode cX8_again 74 = .ok (.baload, 1) := by decide +kernel
theorem dX8_again_75 : decode cX8_again 75 = .ok (.ifCond .eq 5, 3) := by decide +kernel
theorem dX8_again_78 : decode cX8_again 78 = .ok (.iload_n 1, 1) := by decide +kernel
theorem dX8_again_79 : decode cX8_again 79 = .ok (.ireturn, 1) := by decide +kernel
theorem dX8_again_80 : decode cX8_again 80 = .ok (.iinc 1 1, 3) := by decide +kernel
theorem dX8_again_83 : decode cX8_again 83 = .ok (.goto (-31), 3) := by decide +kernel
