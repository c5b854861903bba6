theorem dX7_learn_17 : decode cX7_learn 17 = .ok (.iload_n 2, 1) := by decide +kernel
theorem dX7_learn_18 : decode cX7_learn 18 = .ok (.ifCond .ge 10, 3) := by decide +kernel
theorem dX7_learn_21 : decode cX7_learn 21 = .ok (.aload_n 0, 1) := by decide +kernel
theorem dX7_learn_22 : decode cX7_learn 22 = .ok (.bipush (-4), 2) := by decide +kernel
theorem dX7_learn_24 : decode cX7_learn 24 = .ok (.invokevirtual 69, 3) := by decide +kernel
theorem dX7_learn_27 : decode cX7_learn 27 = .ok (.ireturn, 1) := by decide +kernel
theorem dX7_learn_28 : decode cX7_learn 28 = .ok (.iload_n 2, 1) := by decide +kernel
theorem dX7_learn_29 : decode cX7_learn 29 = .ok (.aload_n 0, 1) := by decide +kernel
theorem dX7_learn_30 : decode cX7_learn 30 = .ok (.getfield 10, 3) := by decide +kernel
theorem dX7_learn_33 : decode cX7_learn 33 = .ok (.getfield 123, 3) := by decide +kernel
theorem dX7_learn_36 : decode cX7_learn 36 = .ok (.if_icmp .le 10, 3) := by decide +kernel
theorem dX7_learn_39 : decode cX7_learn 39 = .ok (.aload_n 0, 1) := by decide +kernel
theorem dX7_learn_40 : decode cX7_learn 40 = .ok (.bipush (-6), 2) := by decide +kernel
theorem dX7_learn_42 : decode cX7_learn 42 = .ok (.invokevirtual 69, 3) := by decide +kernel
theorem dX7_learn_45 : decode cX7_learn 45 = .ok (.ireturn, 1) := by decide +kernel
theorem dX7_learn_46 : decode cX7_learn 46 = .ok (.aload_n 0, 1) := by decide +kernel
theorem dX7_learn_47 : decode cX7_learn 47 = .ok (.getfield 10, 3) := by decide +kernel
theorem dX7_learn_50 : decode cX7_learn 50 = .ok (.getfield 111, 3) := by decide +kernel
theorem dX7_learn_53 : decode cX7_learn 53 = .ok (.iload_n 1, 1) := by decide +kernel
theorem dX7_learn_54 : decode cX7_learn 54 = .ok (.iaload, 1) := by decide +kernel
theorem dX7_learn_55 : decode cX7_learn 55 = .ok (.istore_n 3, 1) := by decide +kernel
theorem dX7_learn_56 : decode cX7_learn 56 = .ok (.aload_n 0, 1) := by decide +kernel
theorem dX7_learn_57 : decode cX7_learn 57 = .ok (.getfield 10, 3) := by decide +kernel
theorem dX7_learn_60 : decode cX7_learn 60 = .ok (.iload_n 1, 1) := by decide +kernel
theorem dX7_learn_61 : decode cX7_learn 61 = .ok (.iload_n 2, 1) := by decide +kernel
theorem dX7_learn_62 : decode cX7_learn 62 = .ok (.invokevirtual 126, 3) := by decide +kernel
theorem dX7_learn_65 : decode cX7_learn 65 = .ok (.iload_n 3, 1) := by decide +kernel
theorem dX7_learn_66 : decode cX7_learn 66 = .ok (.ireturn, 1) := by decide +kernel
theorem dX7_swap_0 : decode cX7_swap 0 = .ok (.aload_n 0, 1) := by decide +kernel
theorem dX7_swap_1 : decode cX7_swap 1 = .ok (.getfield 10, 3) := by decide +kernel
theorem dX7_swap_4 : decode cX7_swap 4 = .ok (.iload_n 1, 1) := by decide +kernel
theorem dX7_swap_5 : decode cX7_swap 5 = .ok (.invokevirtual 95, 3) := by decide +kernel
theorem dX7_swap_8 : decode cX7_swap 8 = .ok (.ifCond .eq 19, 3) := by decide +kernel
theorem dX7_swap_11 : decode cX7_swap 11 = .ok (.aload_n 0, 1) := by decide +kernel
theorem dX7_swap_12 : decode cX7_swap 12 = .ok (.getfield 10, 3) := by decide +kernel
theorem dX7_swap_15 : decode cX7_swap 15 = .ok (.iload_n 2, 1) := by decide +kernel
theorem dX7_swap_16 : decode cX7_swap 16 = .ok (.invokevirtual 95, 3) := by decide +kernel
theorem dX7_swap_19 : decode cX7_swap 19 = .ok (.ifCond .eq 8, 3) := by decide +kernel
theorem dX7_swap_22 : decode cX7_swap 22 = .ok (.iload_n 1, 1) := by decide +kernel
theorem dX7_swap_23 : decode cX7_swap 23 = .ok (.iload_n 2, 1) := by decide +kernel
theorem dX7_swap_24 : decode cX7_swap 24 = .ok (.if_icmp .ne 9, 3) := by decide +kernel
theorem dX7_swap_27 : decode cX7_swap 27 = .ok (.aload_n 0, 1) := by decide +kernel
theorem dX7_swap_28 : decode cX7_swap 28 = .ok (.iconst (-1), 1) := by decide +kernel
theorem dX7_swap_29 : decode cX7_swap 29 = .ok (.invokevirtual 69, 3) := by decide +kernel
theorem dX7_swap_32 : decode cX7_swap 32 = .ok (.ireturn, 1) := by decide +kernel
theorem dX7_swap_33 : decode cX7_swap 33 = .ok (.aload_n 0, 1) := by decide +kernel
theorem dX7_swap_34 : decode cX7_swap 34 = .ok (.getfield 10, 3) := by decide +kernel
theorem dX7_swap_37 : decode cX7_swap 37 = .ok (.iload_n 1, 1) := by decide +kernel
theorem dX7_swap_38 : decode cX7_swap 38 = .ok (.iload_n 2, 1) := by decide +kernel
theorem dX7_swap_39 : decode cX7_swap 39 = .ok (.invokevirtual 130, 3) := by decide +kernel
theorem dX7_swap_42 : decode cX7_swap 42 = .ok (.iconst 1, 1) := by decide +kernel
theorem dX7_swap_43 : decode cX7_swap 43 = .ok (.ireturn, 1) := by decide +kernel
theorem dX7_law_0 : decode cX7_law 0 = .ok (.iload_n 1, 1) := by decide +kernel
theorem dX7_law_1 : decode cX7_law 1 = .ok (.invokestatic 133, 3) := by decide +kernel
theorem dX7_law_4 : decode cX7_law 4 = .ok (.ifCond .ne 10, 3) := by decide +kernel
theorem dX7_law_7 : decode cX7_law 7 = .ok (.aload_n 0, 1) := by decide +kernel
theorem dX7_law_8 : decode cX7_law 8 = .ok (.bipush (-2), 2) := by decide +kernel
theorem dX7_law_10 : decode cX7_law 10 = .ok (.invokevirtual 69, 3) := by decide +kernel
theorem dX7_law_13 : decode cX7_law 13 = .ok (.ireturn, 1) := by decide +kernel
theorem dX7_law_14 : decode cX7_law 14 = .ok (.aload_n 0, 1) := by decide +kernel
theorem dX7_law_15 : decode cX7_law 15 = .ok (.getfield 10, 3) := by decide +kernel
theorem dX7_law_18 : decode cX7_law 18 = .ok (.getfield 136, 3) := by decide +kernel
theorem dX7_law_21 : decode cX7_law 21 = .ok (.istore_n 2, 1) := by decide +kernel
theorem dX7_law_22 : decode cX7_law 22 = .ok (.aload_n 0, 1) := by decide +kernel
theorem dX7_law_23 : decode cX7_law 23 = .ok (.getfield 10, 3) := by decide +kernel
theorem dX7_law_26 : decode cX7_law 26 = .ok (.iload_n 1, 1) := by decide +kernel
theorem dX7_law_27 : decode cX7_law 27 = .ok (.putfield 136, 3) := by decide +kernel
theorem dX7_law_30 : decode cX7_law 30 = .ok (.iload_n 2, 1) := by decide +kernel
theorem dX7_law_31 : decode cX7_law 31 = .ok (.ireturn, 1) := by decide +kernel
theorem dX7_pass_0 : decode cX7_pass 0 = .ok (.iload_n 1, 1) := by decide +kernel
theorem dX7_pass_1 : decode cX7_pass 1 = .ok (.ifCond .ge 10, 3) := by decide +kernel
theorem dX7_pass_4 : decode cX7_pass 4 = .ok (.aload_n 0, 1) := by decide +kernel
theorem dX7_pass_5 : decode cX7_pass 5 = .ok (.bipush (-4), 2) := by decide +kernel
theorem dX7_pass_7 : decode cX7_pass 7 = .ok (.invokevirtual 69, 3) := by decide +kernel
theorem dX7_pass_10 : decode cX7_pass 10 = .ok (.ireturn, 1) := by decide +kernel
theorem dX7_pass_11 : decode cX7_pass 11 = .ok (.iload_n 1, 1) := by decide +kernel
theorem dX7_pass_12 : decode cX7_pass 12 = .ok (.bipush 99, 2) := by decide +kernel
theorem dX7_pass_14 : decode cX7_pass 14 = .ok (.if_icmp .le 10, 3) := by decide +kernel
theorem dX7_pass_17 : decode cX7_pass 17 = .ok (.aload_n 0, 1) := by decide +kernel
theorem dX7_pass_18 : decode cX7_pass 18 = .ok (.bipush (-6), 2) := by decide +kernel
theorem dX7_pass_20 : decode cX7_pass 20 = .ok (.invokevirtual 69, 3) := by decide +kernel
theorem dX7_pass_23 : decode cX7_pass 23 = .ok (.ireturn, 1) := by decide +kernel
theorem dX7_pass_24 : decode cX7_pass 24 = .ok (.aload_n 0, 1) := by decide +kernel
theorem dX7_pass_25 : decode cX7_pass 25 = .ok (.getfield 10, 3) := by decide +kernel
theorem dX7_pass_28 : decode cX7_pass 28 = .ok (.getfield 139, 3) := by decide +kernel
theorem dX7_pass_31 : decode cX7_pass 31 = .ok (.istore_n 2, 1) := by decide +kernel
theorem dX7_pass_32 : decode cX7_pass 32 = .ok (.aload_n 0, 1) := by decide +kernel
theorem dX7_pass_33 : decode cX7_pass 33 = .ok (.getfield 10, 3) := by decide +kernel
theorem dX7_pass_36 : decode cX7_pass 36 = .ok (.iload_n 1, 1) := by decide +kernel
theorem dX7_pass_37 : decode cX7_pass 37 = .ok (.putfield 139, 3) := by decide +kernel
theorem dX7_pass_40 : decode cX7_pass 40 = .ok (.iload_n 2, 1) := by decide +kernel
theorem dX7_pass_41 : decode cX7_pass 41 = .ok (.ireturn, 1) := by decide +kernel
theorem dX7_week_0 : decode cX7_week 0 = .ok (.aload_n 0, 1) := by decide +kernel
theorem dX7_week_1 : decode cX7_week 1 = .ok (.getfield 10, 3) := by decide +kernel
theorem dX7_week_4 : decode cX7_week 4 = .ok (.getfield 142, 3) := by decide +kernel
theorem dX7_week_7 : decode cX7_week 7 = .ok (.sipush 999, 3) := by decide +kernel
theorem dX7_week_10 : decode cX7_week 10 = .ok (.if_icmp .lt 10, 3) := by decide +kernel
theorem dX7_week_13 : decode cX7_week 13 = .ok (.aload_n 0, 1) := by decide +kernel
theorem dX7_week_14 : decode cX7_week 14 = .ok (.bipush (-6), 2) := by decide +kernel
theorem dX7_week_16 : decode cX7_week 16 = .ok (.invokevirtual 69, 3) := by decide +kernel
theorem dX7_week_19 : decode cX7_week 19 = .ok (.ireturn, 1) := by decide +kernel
theorem dX7_week_20 : decode cX7_week 20 = .ok (.aload_n 0, 1) := by decide +kernel
theorem dX7_week_21 : decode cX7_week 21 = .ok (.getfield 10, 3) := by decide +kernel
theorem dX7_week_24 : decode cX7_week 24 = .ok (.invokestatic 145, 3) := by decide +kernel
theorem dX7_week_27 : decode cX7_week 27 = .ok (.aload_n 0, 1) := by decide +kernel
theorem dX7_week_28 : decode cX7_week 28 = .ok (.getfield 10, 3) := by decide +kernel
theorem dX7_week_31 : decode cX7_week 31 = .ok (.getfield 142, 3) := by decide +kernel
theorem dX7_week_34 : decode cX7_week 34 = .ok (.ireturn, 1) := by decide +kernel
theorem dX7_knows_0 : decode cX7_knows 0 = .ok (.aload_n 0, 1) := by decide +kernel
theorem dX7_knows_1 : decode cX7_knows 1 = .ok (.getfield 10, 3) := by decide +kernel
theorem dX7_knows_4 : decode cX7_knows 4 = .ok (.iload_n 1, 1) := by decide +kernel
theorem dX7_knows_5 : decode cX7_knows 5 = .ok (.invokevirtual 95, 3) := by decide +kernel
theorem dX7_knows_8 : decode cX7_knows 8 = .ok (.ifCond .ne 9, 3) := by decide +kernel
theorem dX7_knows_11 : decode cX7_knows 11 = .ok (.aload_n 0, 1) := by decide +kernel
theorem dX7_knows_12 : decode cX7_knows 12 = .ok (.iconst (-1), 1) := by decide +kernel
theorem dX7_knows_13 : decode cX7_knows 13 = .ok (.invokevirtual 69, 3) := by decide +kernel
theorem dX7_knows_16 : decode cX7_knows 16 = .ok (.ireturn, 1) := by decide +kernel
theorem dX7_knows_17 : decode cX7_knows 17 = .ok (.aload_n 0, 1) := by decide +kernel
theorem dX7_knows_18 : decode cX7_knows 18 = .ok (.getfield 10, 3) := by decide +kernel
theorem dX7_knows_21 : decode cX7_knows 21 = .ok (.iload_n 1, 1) := by decide +kernel
theorem dX7_knows_22 : decode cX7_knows 22 = .ok (.invokestatic 150, 3) := by decide +kernel
theorem dX7_knows_25 : decode cX7_knows 25 = .ok (.ireturn, 1) := by decide +kernel
theorem dX7_mark_0 : decode cX7_mark 0 = .ok (.aload_n 0, 1) := by decide +kernel
theorem dX7_mark_1 : decode cX7_mark 1 = .ok (.getfield 10, 3) := by decide +kernel
theorem dX7_mark_4 : decode cX7_mark 4 = .ok (.iload_n 1, 1) := by decide +kernel
theorem dX7_mark_5 : decode cX7_mark 5 = .ok (.invokevirtual 95, 3) := by decide +kernel
theorem dX7_mark_8 : decode cX7_mark 8 = .ok (.ifCond .ne 9, 3) := by decide +kernel
theorem dX7_mark_11 : decode cX7_mark 11 = .ok (.aload_n 0, 1) := by decide +kernel
theorem dX7_mark_12 : decode cX7_mark 12 = .ok (.iconst (-1), 1) := by decide +kernel
theorem dX7_mark_13 : decode cX7_mark 13 = .ok (.invokevirtual 69, 3) := by decide +kernel
theorem dX7_mark_16 : decode cX7_mark 16 = .ok (.ireturn, 1) := by decide +kernel
theorem dX7_mark_17 : decode cX7_mark 17 = .ok (.aload_n 0, 1) := by decide +kernel
theorem dX7_mark_18 : decode cX7_mark 18 = .ok (.getfield 10, 3) := by decide +kernel
theorem dX7_mark_21 : decode cX7_mark 21 = .ok (.iload_n 1, 1) := by decide +kernel
theorem dX7_mark_22 : decode cX7_mark 22 = .ok (.invokestatic 156, 3) := by decide +kernel
theorem dX7_mark_25 : decode cX7_mark 25 = .ok (.ireturn, 1) := by decide +kernel
theorem dX7_passed_0 : decode cX7_passed 0 = .ok (.aload_n 0, 1) := by decide +kernel
theorem dX7_passed_1 : decode cX7_passed 1 = .ok (.getfield 10, 3) := by decide +kernel
theorem dX7_passed_4 : decode cX7_passed 4 = .ok (.invokestatic 159, 3) := by decide +kernel
theorem dX7_passed_7 : decode cX7_passed 7 = .ok (.ireturn, 1) := by decide +kernel
theorem dX7_all_0 : decode cX7_all 0 = .ok (.aload_n 0, 1) := by decide +kernel
theorem dX7_all_1 : decode cX7_all 1 = .ok (.getfield 10, 3) := by decide +kernel
theorem dX7_all_4 : decode cX7_all 4 = .ok (.invokestatic 163, 3) := by decide +kernel
theorem dX7_all_7 : decode cX7_all 7 = .ok (.ireturn, 1) := by decide +kernel
theorem dX7_after_0 : decode cX7_after 0 = .ok (.iload_n 1, 1) := by decide +kernel
theorem dX7_after_1 : decode cX7_after 1 = .ok (.iconst (-1), 1) := by decide +kernel
theorem dX7_after_2 : decode cX7_after 2 = .ok (.if_icmp .eq 20, 3) := by decide +kernel
theorem dX7_after_5 : decode cX7_after 5 = .ok (.aload_n 0, 1) := by decide +kernel
theorem dX7_after_6 : decode cX7_after 6 = .ok (.getfield 10, 3) := by decide +kernel
theorem dX7_after_9 : decode cX7_after 9 = .ok (.iload_n 1, 1) := by decide +kernel
theorem dX7_after_10 : decode cX7_after 10 = .ok (.invokevirtual 95, 3) := by decide +kernel
theorem dX7_after_13 : decode cX7_after 13 = .ok (.ifCond .ne 9, 3) := by decide +kernel
theorem dX7_after_16 : decode cX7_after 16 = .ok (.aload_n 0, 1) := by decide +kernel
theorem dX7_after_17 : decode cX7_after 17 = .ok (.iconst (-1), 1) := by decide +kernel
theorem dX7_after_18 : decode cX7_after 18 = .ok (.invokevirtual 69, 3) := by decide +kernel
theorem dX7_after_21 : decode cX7_after 21 = .ok (.ireturn, 1) := by decide +kernel
theorem dX7_after_22 : decode cX7_after 22 = .ok (.iload_n 2, 1) := by decide +kernel
theorem dX7_after_23 : decode cX7_after 23 = .ok (.ifCond .ge 10, 3) := by decide +kernel
theorem dX7_after_26 : decode cX7_after 26 = .ok (.aload_n 0, 1) := by decide +kernel
theorem dX7_after_27 : decode cX7_after 27 = .ok (.bipush (-4), 2) := by decide +kernel
theorem dX7_after_29 : decode cX7_after 29 = .ok (.invokevirtual 69, 3) := by decide +kernel
theorem dX7_after_32 : decode cX7_after 32 = .ok (.ireturn, 1) := by decide +kernel
theorem dX7_after_33 : decode cX7_after 33 = .ok (.iload_n 2, 1) := by decide +kernel
theorem dX7_after_34 : decode cX7_after 34 = .ok (.bipush 40, 2) := by decide +kernel
theorem dX7_after_36 : decode cX7_after 36 = .ok (.if_icmp .le 10, 3) := by decide +kernel
theorem dX7_after_39 : decode cX7_after 39 = .ok (.aload_n 0, 1) := by decide +kernel
theorem dX7_after_40 : decode cX7_after 40 = .ok (.bipush (-6), 2) := by decide +kernel
theorem dX7_after_42 : decode cX7_after 42 = .ok (.invokevirtual 69, 3) := by decide +kernel
theorem dX7_after_45 : decode cX7_after 45 = .ok (.ireturn, 1) := by decide +kernel
theorem dX7_after_46 : decode cX7_after 46 = .ok (.aload_n 0, 1) := by decide +kernel
theorem dX7_after_47 : decode cX7_after 47 = .ok (.getfield 16, 3) := by decide +kernel
theorem dX7_after_50 : decode cX7_after 50 = .ok (.aload_n 0, 1) := by decide +kernel
theorem dX7_after_51 : decode cX7_after 51 = .ok (.getfield 10, 3) := by decide +kernel
theorem dX7_after_54 : decode cX7_after 54 = .ok (.invokevirtual 84, 3) := by decide +kernel
theorem dX7_after_57 : decode cX7_after 57 = .ok (.iconst 0, 1) := by decide +kernel
theorem dX7_after_58 : decode cX7_after 58 = .ok (.istore_n 3, 1) := by decide +kernel
theorem dX7_after_59 : decode cX7_after 59 = .ok (.iload_n 3, 1) := by decide +kernel
theorem dX7_after_60 : decode cX7_after 60 = .ok (.iload_n 2, 1) := by decide +kernel
theorem dX7_after_61 : decode cX7_after 61 = .ok (.if_icmp .ge 16, 3) := by decide +kernel
theorem dX7_after_64 : decode cX7_after 64 = .ok (.aload_n 0, 1) := by decide +kernel
theorem dX7_after_65 : decode cX7_after 65 = .ok (.getfield 16, 3) := by decide +kernel
theorem dX7_after_68 : decode cX7_after 68 = .ok (.invokestatic 145, 3) := by decide +kernel
theorem dX7_after_71 : decode cX7_after 71 = .ok (.iinc 3 1, 3) := by decide +kernel
theorem dX7_after_74 : decode cX7_after 74 = .ok (.goto (-15), 3) := by decide +kernel
theorem dX7_after_77 : decode cX7_after 77 = .ok (.iload_n 1, 1) := by decide +kernel
theorem dX7_after_78 : decode cX7_after 78 = .ok (.iconst (-1), 1) := by decide +kernel
theorem dX7_after_79 : decode cX7_after 79 = .ok (.if_icmp .ne 13, 3) := by decide +kernel
theorem dX7_after_82 : decode cX7_after 82 = .ok (.aload_n 0, 1) := by decide +kernel
theorem dX7_after_83 : decode cX7_after 83 = .ok (.getfield 16, 3) := by decide +kernel
theorem dX7_after_86 : decode cX7_after 86 = .ok (.invokestatic 163, 3) := by decide +kernel
theorem dX7_after_89 : decode cX7_after 89 = .ok (.goto 11, 3) := by decide +kernel
theorem dX7_after_92 : decode cX7_after 92 = .ok (.aload_n 0, 1) := by decide +kernel
theorem dX7_after_93 : decode cX7_after 93 = .ok (.getfield 16, 3) := by decide +kernel
theorem dX7_after_96 : decode cX7_after 96 = .ok (.iload_n 1, 1) := by decide +kernel
theorem dX7_after_97 : decode cX7_after 97 = .ok (.invokestatic 156, 3) := by decide +kernel
theorem dX7_after_100 : decode cX7_after 100 = .ok (.ireturn, 1) := by decide +kernel
theorem dX7_again_0 : decode cX7_again 0 = .ok (.aload_n 0, 1) := by decide +kernel
theorem dX7_again_1 : decode cX7_again 1 = .ok (.getfield 16, 3) := by decide +kernel
theorem dX7_again_4 : decode cX7_again 4 = .ok (.aload_n 0, 1) := by decide +kernel
theorem dX7_again_5 : decode cX7_again 5 = .ok (.getfield 10, 3) := by decide +kernel
theorem dX7_again_8 : decode cX7_again 8 = .ok (.invokevirtual 84, 3) := by decide +kernel
theorem dX7_again_11 : decode cX7_again 11 = .ok (.iconst 1, 1) := by decide +kernel
theorem dX7_again_12 : decode cX7_again 12 = .ok (.istore_n 1, 1) := by decide +kernel
theorem dX7_again_13 : decode cX7_again 13 = .ok (.iload_n 1, 1) := by decide +kernel
theorem dX7_again_14 : decode cX7_again 14 = .ok (.bipush 30, 2) := by decide +kernel
theorem dX7_again_16 : decode cX7_again 16 = .ok (.if_icmp .gt 32, 3) := by decide +kernel
theorem dX7_again_19 : decode cX7_again 19 = .ok (.aload_n 0, 1) := by decide +kernel
theorem dX7_again_20 : decode cX7_again 20 = .ok (.getfield 16, 3) := by decide +kernel
theorem dX7_again_23 : decode cX7_again 23 = .ok (.invokestatic 145, 3) := by decide +kernel
theorem dX7_again_26 : decode cX7_again 26 = .ok (.aload_n 0, 1) := by decide +kernel
theorem dX7_again_27 : decode cX7_again 27 = .ok (.getfield 16, 3) := by decide +kernel
theorem dX7_again_30 : decode cX7_again 30 = .ok (.aload_n 0, 1) := by decide +kernel
theorem dX7_again_31 : decode cX7_again 31 = .ok (.getfield 10, 3) := by decide +kernel
theorem dX7_again_34 : decode cX7_again 34 = .ok (.invokevirtual 166, 3) := by decide +kernel
theorem dX7_again_37 : decode cX7_again 37 = .ok (.ifCond .eq 5, 3) := by decide +kernel
theorem dX7_again_40 : decode cX7_again 40 = .ok (.iload_n 1, 1) := by decide +kernel
theorem dX7_again_41 : decode cX7_again 41 = .ok (.ireturn, 1) := by decide +kernel
theorem dX7_again_42 : decode cX7_again 42 = .ok (.iinc 1 1, 3) := by decide +kernel
theorem dX7_again_45 : decode cX7_again 45 = .ok (.goto (-32), 3) := by decide +kernel
theorem dX7_again_48 : decode cX7_again 48 = .ok (.bipush (-9), 2) := by decide +kernel
theorem dX7_again_50 : decode cX7_again 50 = .ok (.ireturn, 1) := by decide +kernel
theorem dX7_best_0 : decode cX7_best 0 = .ok (.iload_n 1, 1) := by decide +kernel
theorem dX7_best_1 : decode cX7_best 1 = .ok (.ifCond .lt 8, 3) := by decide +kernel
theorem dX7_best_4 : decode cX7_best 4 = .ok (.iload_n 1, 1) := by decide +kernel
theorem dX7_best_5 : decode cX7_best 5 = .ok (.iconst 1, 1) := by decide +kernel
theorem dX7_best_6 : decode cX7_best 6 = .ok (.if_icmp .le 10, 3) := by decide +kernel
theorem dX7_best_9 : decode cX7_best 9 = .ok (.aload_n 0, 1) := by decide +kernel
theorem dX7_best_10 : decode cX7_best 10 = .ok (.bipush (-2), 2) := by decide +kernel
theorem dX7_best_12 : decode cX7_best 12 = .ok (.invokevirtual 69, 3) := by decide +kernel
theorem dX7_best_15 : decode cX7_best 15 = .ok (.ireturn, 1) := by decide +kernel
theorem dX7_best_16 : decode cX7_best 16 = .ok (.aload_n 0, 1) := by decide +kernel
theorem dX7_best_17 : decode cX7_best 17 = .ok (.getfield 10, 3) := by decide +kernel
theorem dX7_best_20 : decode cX7_best 20 = .ok (.getfield 170, 3) := by decide +kernel
theorem dX7_best_23 : decode cX7_best 23 = .ok (.ifCond .ne 10, 3) := by decide +kernel
theorem dX7_best_26 : decode cX7_best 26 = .ok (.aload_n 0, 1) := by decide +kernel
theorem dX7_best_27 : decode cX7_best 27 = .ok (.bipush (-3), 2) := by decide +kernel
theorem dX7_best_29 : decode cX7_best 29 = .ok (.invokevirtual 69, 3) := by decide +kernel
theorem dX7_best_32 : decode cX7_best 32 = .ok (.ireturn, 1) := by decide +kernel
theorem dX7_best_33 : decode cX7_best 33 = .ok (.aload_n 0, 1) := by decide +kernel
theorem dX7_best_34 : decode cX7_best 34 = .ok (.getfield 41, 3) := by decide +kernel
theorem dX7_best_37 : decode cX7_best 37 = .ok (.aload_n 0, 1) := by decide +kernel
theorem dX7_best_38 : decode cX7_best 38 = .ok (.getfield 10, 3) := by decide +kernel
theorem dX7_best_41 : decode cX7_best 41 = .ok (.invokevirtual 173, 3) := by decide +kernel
theorem dX7_best_44 : decode cX7_best 44 = .ok (.iload_n 1, 1) := by decide +kernel
theorem dX7_best_45 : decode cX7_best 45 = .ok (.ifCond .ne 13, 3) := by decide +kernel
theorem dX7_best_48 : decode cX7_best 48 = .ok (.aload_n 0, 1) := by decide +kernel
theorem dX7_best_49 : decode cX7_best 49 = .ok (.getfield 41, 3) := by decide +kernel
theorem dX7_best_52 : decode cX7_best 52 = .ok (.getfield 176, 3) := by decide +kernel
theorem dX7_best_55 : decode cX7_best 55 = .ok (.goto 10, 3) := by decide +kernel
theorem dX7_best_58 : decode cX7_best 58 = .ok (.aload_n 0, 1) := by decide +kernel
theorem dX7_best_59 : decode cX7_best 59 = .ok (.getfield 41, 3) := by decide +kernel
theorem dX7_best_62 : decode cX7_best 62 = .ok (.getfield 179, 3) := by decide +kernel
theorem dX7_best_65 : decode cX7_best 65 = .ok (.ireturn, 1) := by decide +kernel
theorem dX7_bestSeat_0 : decode cX7_bestSeat 0 = .ok (.iload_n 1, 1) := by decide +kernel
theorem dX7_bestSeat_1 : decode cX7_bestSeat 1 = .ok (.ifCond .ge 10, 3) := by decide +kernel
theorem dX7_bestSeat_4 : decode cX7_bestSeat 4 = .ok (.aload_n 0, 1) := by decide +kernel
theorem dX7_bestSeat_5 : decode cX7_bestSeat 5 = .ok (.bipush (-4), 2) := by decide +kernel
theorem dX7_bestSeat_7 : decode cX7_bestSeat 7 = .ok (.invokevirtual 69, 3) := by decide +kernel
theorem dX7_bestSeat_10 : decode cX7_bestSeat 10 = .ok (.ireturn, 1) := by decide +kernel
theorem dX7_bestSeat_11 : decode cX7_bestSeat 11 = .ok (.iload_n 1, 1) := by decide +kernel
theorem dX7_bestSeat_12 : decode cX7_bestSeat 12 = .ok (.aload_n 0, 1) := by decide +kernel
theorem dX7_bestSeat_13 : decode cX7_bestSeat 13 = .ok (.getfield 10, 3) := by decide +kernel
theorem dX7_bestSeat_16 : decode cX7_bestSeat 16 = .ok (.getfield 170, 3) := by decide +kernel
theorem dX7_bestSeat_19 : decode cX7_bestSeat 19 = .ok (.if_icmp .lt 6, 3) := by decide +kernel
theorem dX7_bestSeat_22 : decode cX7_bestSeat 22 = .ok (.bipush (-9), 2) := by decide +kernel
theorem dX7_bestSeat_24 : decode cX7_bestSeat 24 = .ok (.ireturn, 1) := by decide +kernel
theorem dX7_bestSeat_25 : decode cX7_bestSeat 25 = .ok (.aload_n 0, 1) := by decide +kernel
theorem dX7_bestSeat_26 : decode cX7_bestSeat 26 = .ok (.getfield 41, 3) := by decide +kernel
theorem dX7_bestSeat_29 : decode cX7_bestSeat 29 = .ok (.aload_n 0, 1) := by decide +kernel
theorem dX7_bestSeat_30 : decode cX7_bestSeat 30 = .ok (.getfield 10, 3) := by decide +kernel
theorem dX7_bestSeat_33 : decode cX7_bestSeat 33 = .ok (.invokevirtual 173, 3) := by decide +kernel
theorem dX7_bestSeat_36 : decode cX7_bestSeat 36 = .ok (.aload_n 0, 1) := by decide +kernel
theorem dX7_bestSeat_37 : decode cX7_bestSeat 37 = .ok (.getfield 41, 3) := by decide +kernel
theorem dX7_bestSeat_40 : decode cX7_bestSeat 40 = .ok (.getfield 182, 3) := by decide +kernel
theorem dX7_bestSeat_43 : decode cX7_bestSeat 43 = .ok (.iload_n 1, 1) := by decide +kernel
theorem dX7_bestSeat_44 : decode cX7_bestSeat 44 = .ok (.iaload, 1) := by decide +kernel
theorem dX7_bestSeat_45 : decode cX7_bestSeat 45 = .ok (.ireturn, 1) := by decide +kernel
theorem dX7_sumLeast_0 : decode cX7_sumLeast 0 = .ok (.aload_n 0, 1) := by decide +kernel
theorem dX7_sumLeast_1 : decode cX7_sumLeast 1 = .ok (.getfield 10, 3) := by decide +kernel
theorem dX7_sumLeast_4 : decode cX7_sumLeast 4 = .ok (.getfield 170, 3) := by decide +kernel
theorem dX7_sumLeast_7 : decode cX7_sumLeast 7 = .ok (.ifCond .ne 10, 3) := by decide +kernel
theorem dX7_sumLeast_10 : decode cX7_sumLeast 10 = .ok (.aload_n 0, 1) := by decide +kernel
theorem dX7_sumLeast_11 : decode cX7_sumLeast 11 = .ok (.bipush (-3), 2) := by decide +kernel
theorem dX7_sumLeast_13 : decode cX7_sumLeast 13 = .ok (.invokevirtual 69, 3) := by decide +kernel
theorem dX7_sumLeast_16 : decode cX7_sumLeast 16 = .ok (.ireturn, 1) := by decide +kernel
theorem dX7_sumLeast_17 : decode cX7_sumLeast 17 = .ok (.aload_n 0, 1) := by decide +kernel
theorem dX7_sumLeast_18 : decode cX7_sumLeast 18 = .ok (.getfield 41, 3) := by decide +kernel
theorem dX7_sumLeast_21 : decode cX7_sumLeast 21 = .ok (.aload_n 0, 1) := by decide +kernel
theorem dX7_sumLeast_22 : decode cX7_sumLeast 22 = .ok (.getfield 10, 3) := by decide +kernel
theorem dX7_sumLeast_25 : decode cX7_sumLeast 25 = .ok (.invokevirtual 185, 3) := by decide +kernel
theorem dX7_sumLeast_28 : decode cX7_sumLeast 28 = .ok (.ireturn, 1) := by decide +kernel
theorem dX7_rests_0 : decode cX7_rests 0 = .ok (.iload_n 1, 1) := by decide +kernel
theorem dX7_rests_1 : decode cX7_rests 1 = .ok (.ifCond .lt 8, 3) := by decide +kernel
theorem dX7_rests_4 : decode cX7_rests 4 = .ok (.iload_n 1, 1) := by decide +kernel
theorem dX7_rests_5 : decode cX7_rests 5 = .ok (.iconst 1, 1) := by decide +kernel
theorem dX7_rests_6 : decode cX7_rests 6 = .ok (.if_icmp .le 10, 3) := by decide +kernel
theorem dX7_rests_9 : decode cX7_rests 9 = .ok (.aload_n 0, 1) := by decide +kernel
theorem dX7_rests_10 : decode cX7_rests 10 = .ok (.bipush (-2), 2) := by decide +kernel
theorem dX7_rests_12 : decode cX7_rests 12 = .ok (.invokevirtual 69, 3) := by decide +kernel
theorem dX7_rests_15 : decode cX7_rests 15 = .ok (.ireturn, 1) := by decide +kernel
theorem dX7_rests_16 : decode cX7_rests 16 = .ok (.aload_n 0, 1) := by decide +kernel
theorem dX7_rests_17 : decode cX7_rests 17 = .ok (.getfield 48, 3) := by decide +kernel
theorem dX7_rests_20 : decode cX7_rests 20 = .ok (.aload_n 0, 1) := by decide +kernel
theorem dX7_rests_21 : decode cX7_rests 21 = .ok (.getfield 10, 3) := by decide +kernel
theorem dX7_rests_24 : decode cX7_rests 24 = .ok (.invokevirtual 188, 3) := by decide +kernel
theorem dX7_rests_27 : decode cX7_rests 27 = .ok (.iload_n 1, 1) := by decide +kernel
theorem dX7_rests_28 : decode cX7_rests 28 = .ok (.ifCond .ne 11, 3) := by decide +kernel
theorem dX7_rests_31 : decode cX7_rests 31 = .ok (.aload_n 0, 1) := by decide +kernel
theorem dX7_rests_32 : decode cX7_rests 32 = .ok (.getfield 48, 3) := by decide +kernel
theorem dX7_rests_35 : decode cX7_rests 35 = .ok (.getfield 191, 3) := by decide +kernel
theorem dX7_rests_38 : decode cX7_rests 38 = .ok (.ireturn, 1) := by decide +kernel
theorem dX7_rests_39 : decode cX7_rests 39 = .ok (.aload_n 0, 1) := by decide +kernel
theorem dX7_rests_40 : decode cX7_rests 40 = .ok (.getfield 48, 3) := by decide +kernel
theorem dX7_rests_43 : decode cX7_rests 43 = .ok (.getfield 191, 3) := by decide +kernel
theorem dX7_rests_46 : decode cX7_rests 46 = .ok (.ifCond .ne 8, 3) := by decide +kernel
theorem dX7_rests_49 : decode cX7_rests 49 = .ok (.bipush (-9), 2) := by decide +kernel
theorem dX7_rests_51 : decode cX7_rests 51 = .ok (.goto 10, 3) := by decide +kernel
theorem dX7_rests_54 : decode cX7_rests 54 = .ok (.aload_n 0, 1) := by decide +kernel
theorem dX7_rests_55 : decode cX7_rests 55 = .ok (.getfield 48, 3) := by decide +kernel
theorem dX7_rests_58 : decode cX7_rests 58 = .ok (.getfield 194, 3) := by decide +kernel
theorem dX7_rests_61 : decode cX7_rests 61 = .ok (.ireturn, 1) := by decide +kernel
theorem dX7_rest_0 : decode cX7_rest 0 = .ok (.aload_n 0, 1) := by decide +kernel
theorem dX7_rest_1 : decode cX7_rest 1 = .ok (.getfield 10, 3) := by decide +kernel
theorem dX7_rest_4 : decode cX7_rest 4 = .ok (.iload_n 1, 1) := by decide +kernel
theorem dX7_rest_5 : decode cX7_rest 5 = .ok (.invokevirtual 95, 3) := by decide +kernel
theorem dX7_rest_8 : decode cX7_rest 8 = .ok (.ifCond .ne 9, 3) := by decide +kernel
theorem dX7_rest_11 : decode cX7_rest 11 = .ok (.aload_n 0, 1) := by decide +kernel
theorem dX7_rest_12 : decode cX7_rest 12 = .ok (.iconst (-1), 1) := by decide +kernel
theorem dX7_rest_13 : decode cX7_rest 13 = .ok (.invokevirtual 69, 3) := by decide +kernel
theorem dX7_rest_16 : decode cX7_rest 16 = .ok (.ireturn, 1) := by decide +kernel
theorem dX7_rest_17 : decode cX7_rest 17 = .ok (.aload_n 0, 1) := by decide +kernel
theorem dX7_rest_18 : decode cX7_rest 18 = .ok (.getfield 48, 3) := by decide +kernel
theorem dX7_rest_21 : decode cX7_rest 21 = .ok (.aload_n 0, 1) := by decide +kernel
theorem dX7_rest_22 : decode cX7_rest 22 = .ok (.getfield 10, 3) := by decide +kernel
theorem dX7_rest_25 : decode cX7_rest 25 = .ok (.invokevirtual 188, 3) := by decide +kernel
theorem dX7_rest_28 : decode cX7_rest 28 = .ok (.aload_n 0, 1) := by decide +kernel
theorem dX7_rest_29 : decode cX7_rest 29 = .ok (.getfield 48, 3) := by decide +kernel
theorem dX7_rest_32 : decode cX7_rest 32 = .ok (.getfield 191, 3) := by decide +kernel
theorem dX7_rest_35 : decode cX7_rest 35 = .ok (.ifCond .ne 8, 3) := by decide +kernel
theorem dX7_rest_38 : decode cX7_rest 38 = .ok (.bipush (-9), 2) := by decide +kernel
theorem dX7_rest_40 : decode cX7_rest 40 = .ok (.goto 12, 3) := by decide +kernel
theorem dX7_rest_43 : decode cX7_rest 43 = .ok (.aload_n 0, 1) := by decide +kernel
theorem dX7_rest_44 : decode cX7_rest 44 = .ok (.getfield 48, 3) := by decide +kernel
theorem dX7_rest_47 : decode cX7_rest 47 = .ok (.getfield 197, 3) := by decide +kernel
theorem dX7_rest_50 : decode cX7_rest 50 = .ok (.iload_n 1, 1) := by decide +kernel
theorem dX7_rest_51 : decode cX7_rest 51 = .ok (.iaload, 1) := by decide +kernel
theorem dX7_rest_52 : decode cX7_rest 52 = .ok (.ireturn, 1) := by decide +kernel
theorem dX7_good_0 : decode cX7_good 0 = .ok (.aload_n 0, 1) := by decide +kernel
theorem dX7_good_1 : decode cX7_good 1 = .ok (.getfield 48, 3) := by decide +kernel
theorem dX7_good_4 : decode cX7_good 4 = .ok (.aload_n 0, 1) := by decide +kernel
theorem dX7_good_5 : decode cX7_good 5 = .ok (.getfield 10, 3) := by decide +kernel
theorem dX7_good_8 : decode cX7_good 8 = .ok (.aload_n 0, 1) := by decide +kernel
theorem dX7_good_9 : decode cX7_good 9 = .ok (.getfield 10, 3) := by decide +kernel
theorem dX7_good_12 : decode cX7_good 12 = .ok (.getfield 136, 3) := by decide +kernel
theorem dX7_good_15 : decode cX7_good 15 = .ok (.invokevirtual 200, 3) := by decide +kernel
theorem dX7_good_18 : decode cX7_good 18 = .ok (.ireturn, 1) := by decide +kernel
theorem dX7_far_0 : decode cX7_far 0 = .ok (.aload_n 0, 1) := by decide +kernel
theorem dX7_far_1 : decode cX7_far 1 = .ok (.getfield 48, 3) := by decide +kernel
theorem dX7_far_4 : decode cX7_far 4 = .ok (.aload_n 0, 1) := by decide +kernel
theorem dX7_far_5 : decode cX7_far 5 = .ok (.getfield 10, 3) := by decide +kernel
theorem dX7_far_8 : decode cX7_far 8 = .ok (.invokevirtual 188, 3) := by decide +kernel
theorem dX7_far_11 : decode cX7_far 11 = .ok (.aload_n 0, 1) := by decide +kernel
theorem dX7_far_12 : decode cX7_far 12 = .ok (.getfield 48, 3) := by decide +kernel
theorem dX7_far_15 : decode cX7_far 15 = .ok (.getfield 191, 3) := by decide +kernel
theorem dX7_far_18 : decode cX7_far 18 = .ok (.ifCond .ne 6, 3) := by decide +kernel
theorem dX7_far_21 : decode cX7_far 21 = .ok (.bipush (-9), 2) := by decide +kernel
theorem dX7_far_23 : decode cX7_far 23 = .ok (.ireturn, 1) := by decide +kernel
theorem dX7_far_24 : decode cX7_far 24 = .ok (.aload_n 0, 1) := by decide +kernel
theorem dX7_far_25 : decode cX7_far 25 = .ok (.getfield 48, 3) := by decide +kernel
theorem dX7_far_28 : decode cX7_far 28 = .ok (.aload_n 0, 1) := by decide +kernel
theorem dX7_far_29 : decode cX7_far 29 = .ok (.getfield 10, 3) := by decide +kernel
theorem dX7_far_32 : decode cX7_far 32 = .ok (.aload_n 0, 1) := by decide +kernel
theorem dX7_far_33 : decode cX7_far 33 = .ok (.getfield 10, 3) := by decide +kernel
theorem dX7_far_36 : decode cX7_far 36 = .ok (.getfield 136, 3) := by decide +kernel
theorem dX7_far_39 : decode cX7_far 39 = .ok (.invokevirtual 200, 3) := by decide +kernel
theorem dX7_far_42 : decode cX7_far 42 = .ok (.aload_n 0, 1) := by decide +kernel
theorem dX7_far_43 : decode cX7_far 43 = .ok (.getfield 48, 3) := by decide +kernel
theorem dX7_far_46 : decode cX7_far 46 = .ok (.getfield 202, 3) := by decide +kernel
theorem dX7_far_49 : decode cX7_far 49 = .ok (.isub, 1) := by decide +kernel
theorem dX7_far_50 : decode cX7_far 50 = .ok (.ireturn, 1) := by decide +kernel
theorem dX7_byLaw_0 : decode cX7_byLaw 0 = .ok (.iload_n 1, 1) := by decide +kernel
theorem dX7_byLaw_1 : decode cX7_byLaw 1 = .ok (.invokestatic 133, 3) := by decide +kernel
theorem dX7_byLaw_4 : decode cX7_byLaw 4 = .ok (.ifCond .ne 10, 3) := by decide +kernel
theorem dX7_byLaw_7 : decode cX7_byLaw 7 = .ok (.aload_n 0, 1) := by decide +kernel
theorem dX7_byLaw_8 : decode cX7_byLaw 8 = .ok (.bipush (-2), 2) := by decide +kernel
theorem dX7_byLaw_10 : decode cX7_byLaw 10 = .ok (.invokevirtual 69, 3) := by decide +kernel
theorem dX7_byLaw_13 : decode cX7_byLaw 13 = .ok (.ireturn, 1) := by decide +kernel
theorem dX7_byLaw_14 : decode cX7_byLaw 14 = .ok (.aload_n 0, 1) := by decide +kernel
theorem dX7_byLaw_15 : decode cX7_byLaw 15 = .ok (.getfield 48, 3) := by decide +kernel
theorem dX7_byLaw_18 : decode cX7_byLaw 18 = .ok (.aload_n 0, 1) := by decide +kernel
theorem dX7_byLaw_19 : decode cX7_byLaw 19 = .ok (.getfield 10, 3) := by decide +kernel
theorem dX7_byLaw_22 : decode cX7_byLaw 22 = .ok (.iload_n 1, 1) := by decide +kernel
theorem dX7_byLaw_23 : decode cX7_byLaw 23 = .ok (.invokevirtual 200, 3) := by decide +kernel
theorem dX7_byLaw_26 : decode cX7_byLaw 26 = .ok (.ireturn, 1) := by decide +kernel
theorem dX7_hour_0 : decode cX7_hour 0 = .ok (.aload_n 0, 1) := by decide +kernel
theorem dX7_hour_1 : decode cX7_hour 1 = .ok (.getfield 10, 3) := by decide +kernel
theorem dX7_hour_4 : decode cX7_hour 4 = .ok (.iload_n 1, 1) := by decide +kernel
theorem dX7_hour_5 : decode cX7_hour 5 = .ok (.invokevirtual 95, 3) := by decide +kernel
theorem dX7_hour_8 : decode cX7_hour 8 = .ok (.ifCond .ne 9, 3) := by decide +kernel
theorem dX7_hour_11 : decode cX7_hour 11 = .ok (.aload_n 0, 1) := by decide +kernel
