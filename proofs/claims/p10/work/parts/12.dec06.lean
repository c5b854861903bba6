theorem dX8_isMended_56 : decode cX8_isMended 56 = .ok (.invokevirtual 208, 3) := by decide +kernel
theorem dX8_isMended_59 : decode cX8_isMended 59 = .ok (.istore 5, 2) := by decide +kernel
theorem dX8_isMended_61 : decode cX8_isMended 61 = .ok (.aload_n 0, 1) := by decide +kernel
theorem dX8_isMended_62 : decode cX8_isMended 62 = .ok (.iload_n 3, 1) := by decide +kernel
theorem dX8_isMended_63 : decode cX8_isMended 63 = .ok (.iload 4, 2) := by decide +kernel
theorem dX8_isMended_65 : decode cX8_isMended 65 = .ok (.invokevirtual 95, 3) := by decide +kernel
theorem dX8_isMended_68 : decode cX8_isMended 68 = .ok (.iload 5, 2) := by decide +kernel
theorem dX8_isMended_70 : decode cX8_isMended 70 = .ok (.ifCond .eq 5, 3) := by decide +kernel
theorem dX8_isMended_73 : decode cX8_isMended 73 = .ok (.iconst 1, 1) := by decide +kernel
theorem dX8_isMended_74 : decode cX8_isMended 74 = .ok (.ireturn, 1) := by decide +kernel
theorem dX8_isMended_75 : decode cX8_isMended 75 = .ok (.iinc 4 1, 3) := by decide +kernel
theorem dX8_isMended_78 : decode cX8_isMended 78 = .ok (.goto (-45), 3) := by decide +kernel
theorem dX8_isMended_81 : decode cX8_isMended 81 = .ok (.iinc 3 1, 3) := by decide +kernel
theorem dX8_isMended_84 : decode cX8_isMended 84 = .ok (.goto (-70), 3) := by decide +kernel
theorem dX8_isMended_87 : decode cX8_isMended 87 = .ok (.iconst 0, 1) := by decide +kernel
theorem dX8_isMended_88 : decode cX8_isMended 88 = .ok (.ireturn, 1) := by decide +kernel
theorem dX8_mends_0 : decode cX8_mends 0 = .ok (.iload_n 1, 1) := by decide +kernel
theorem dX8_mends_1 : decode cX8_mends 1 = .ok (.ifCond .lt 15, 3) := by decide +kernel
theorem dX8_mends_4 : decode cX8_mends 4 = .ok (.iload_n 1, 1) := by decide +kernel
theorem dX8_mends_5 : decode cX8_mends 5 = .ok (.iconst 1, 1) := by decide +kernel
theorem dX8_mends_6 : decode cX8_mends 6 = .ok (.aload_n 0, 1) := by decide +kernel
theorem dX8_mends_7 : decode cX8_mends 7 = .ok (.getfield 13, 3) := by decide +kernel
theorem dX8_mends_10 : decode cX8_mends 10 = .ok (.iconst 0, 1) := by decide +kernel
theorem dX8_mends_11 : decode cX8_mends 11 = .ok (.iaload, 1) := by decide +kernel
theorem dX8_mends_12 : decode cX8_mends 12 = .ok (.ishl, 1) := by decide +kernel
theorem dX8_mends_13 : decode cX8_mends 13 = .ok (.if_icmp .lt 9, 3) := by decide +kernel
theorem dX8_mends_16 : decode cX8_mends 16 = .ok (.aload_n 0, 1) := by decide +kernel
theorem dX8_mends_17 : decode cX8_mends 17 = .ok (.iconst (-1), 1) := by decide +kernel
theorem dX8_mends_18 : decode cX8_mends 18 = .ok (.invokevirtual 71, 3) := by decide +kernel
theorem dX8_mends_21 : decode cX8_mends 21 = .ok (.ireturn, 1) := by decide +kernel
theorem dX8_mends_22 : decode cX8_mends 22 = .ok (.iconst 0, 1) := by decide +kernel
theorem dX8_mends_23 : decode cX8_mends 23 = .ok (.istore_n 2, 1) := by decide +kernel
theorem dX8_mends_24 : decode cX8_mends 24 = .ok (.iload_n 2, 1) := by decide +kernel
theorem dX8_mends_25 : decode cX8_mends 25 = .ok (.iconst 3, 1) := by decide +kernel
theorem dX8_mends_26 : decode cX8_mends 26 = .ok (.if_icmp .ge 20, 3) := by decide +kernel
theorem dX8_mends_29 : decode cX8_mends 29 = .ok (.aload_n 0, 1) := by decide +kernel
theorem dX8_mends_30 : decode cX8_mends 30 = .ok (.iload_n 1, 1) := by decide +kernel
theorem dX8_mends_31 : decode cX8_mends 31 = .ok (.iload_n 2, 1) := by decide +kernel
theorem dX8_mends_32 : decode cX8_mends 32 = .ok (.invokevirtual 208, 3) := by decide +kernel
theorem dX8_mends_35 : decode cX8_mends 35 = .ok (.ifCond .eq 5, 3) := by decide +kernel
theorem dX8_mends_38 : decode cX8_mends 38 = .ok (.iload_n 2, 1) := by decide +kernel
theorem dX8_mends_39 : decode cX8_mends 39 = .ok (.ireturn, 1) := by decide +kernel
theorem dX8_mends_40 : decode cX8_mends 40 = .ok (.iinc 2 1, 3) := by decide +kernel
theorem dX8_mends_43 : decode cX8_mends 43 = .ok (.goto (-19), 3) := by decide +kernel
theorem dX8_mends_46 : decode cX8_mends 46 = .ok (.bipush (-9), 2) := by decide +kernel
theorem dX8_mends_48 : decode cX8_mends 48 = .ok (.ireturn, 1) := by decide +kernel
theorem dX8_row_0 : decode cX8_row 0 = .ok (.iload_n 1, 1) := by decide +kernel
theorem dX8_row_1 : decode cX8_row 1 = .ok (.ifCond .ge 10, 3) := by decide +kernel
theorem dX8_row_4 : decode cX8_row 4 = .ok (.aload_n 0, 1) := by decide +kernel
theorem dX8_row_5 : decode cX8_row 5 = .ok (.bipush (-4), 2) := by decide +kernel
theorem dX8_row_7 : decode cX8_row 7 = .ok (.invokevirtual 71, 3) := by decide +kernel
theorem dX8_row_10 : decode cX8_row 10 = .ok (.ireturn, 1) := by decide +kernel
theorem dX8_row_11 : decode cX8_row 11 = .ok (.iload_n 1, 1) := by decide +kernel
theorem dX8_row_12 : decode cX8_row 12 = .ok (.bipush 99, 2) := by decide +kernel
theorem dX8_row_14 : decode cX8_row 14 = .ok (.if_icmp .gt 12, 3) := by decide +kernel
theorem dX8_row_17 : decode cX8_row 17 = .ok (.aload_n 0, 1) := by decide +kernel
theorem dX8_row_18 : decode cX8_row 18 = .ok (.getfield 178, 3) := by decide +kernel
theorem dX8_row_21 : decode cX8_row 21 = .ok (.bipush 6, 2) := by decide +kernel
theorem dX8_row_23 : decode cX8_row 23 = .ok (.if_icmp .ne 10, 3) := by decide +kernel
theorem dX8_row_26 : decode cX8_row 26 = .ok (.aload_n 0, 1) := by decide +kernel
theorem dX8_row_27 : decode cX8_row 27 = .ok (.bipush (-6), 2) := by decide +kernel
theorem dX8_row_29 : decode cX8_row 29 = .ok (.invokevirtual 71, 3) := by decide +kernel
theorem dX8_row_32 : decode cX8_row 32 = .ok (.ireturn, 1) := by decide +kernel
theorem dX8_row_33 : decode cX8_row 33 = .ok (.aload_n 0, 1) := by decide +kernel
theorem dX8_row_34 : decode cX8_row 34 = .ok (.getfield 60, 3) := by decide +kernel
theorem dX8_row_37 : decode cX8_row 37 = .ok (.aload_n 0, 1) := by decide +kernel
theorem dX8_row_38 : decode cX8_row 38 = .ok (.getfield 178, 3) := by decide +kernel
theorem dX8_row_41 : decode cX8_row 41 = .ok (.iload_n 1, 1) := by decide +kernel
theorem dX8_row_42 : decode cX8_row 42 = .ok (.iastore, 1) := by decide +kernel
theorem dX8_row_43 : decode cX8_row 43 = .ok (.aload_n 0, 1) := by decide +kernel
theorem dX8_row_44 : decode cX8_row 44 = .ok (.dup, 1) := by decide +kernel
theorem dX8_row_45 : decode cX8_row 45 = .ok (.getfield 178, 3) := by decide +kernel
theorem dX8_row_48 : decode cX8_row 48 = .ok (.iconst 1, 1) := by decide +kernel
theorem dX8_row_49 : decode cX8_row 49 = .ok (.iadd, 1) := by decide +kernel
theorem dX8_row_50 : decode cX8_row 50 = .ok (.putfield 178, 3) := by decide +kernel
theorem dX8_row_53 : decode cX8_row 53 = .ok (.aload_n 0, 1) := by decide +kernel
theorem dX8_row_54 : decode cX8_row 54 = .ok (.getfield 178, 3) := by decide +kernel
theorem dX8_row_57 : decode cX8_row 57 = .ok (.ireturn, 1) := by decide +kernel
theorem dX8_fitting_0 : decode cX8_fitting 0 = .ok (.iload_n 1, 1) := by decide +kernel
theorem dX8_fitting_1 : decode cX8_fitting 1 = .ok (.iconst (-1), 1) := by decide +kernel
theorem dX8_fitting_2 : decode cX8_fitting 2 = .ok (.if_icmp .ge 10, 3) := by decide +kernel
theorem dX8_fitting_5 : decode cX8_fitting 5 = .ok (.aload_n 0, 1) := by decide +kernel
theorem dX8_fitting_6 : decode cX8_fitting 6 = .ok (.bipush (-4), 2) := by decide +kernel
theorem dX8_fitting_8 : decode cX8_fitting 8 = .ok (.invokevirtual 71, 3) := by decide +kernel
theorem dX8_fitting_11 : decode cX8_fitting 11 = .ok (.ireturn, 1) := by decide +kernel
theorem dX8_fitting_12 : decode cX8_fitting 12 = .ok (.aload_n 0, 1) := by decide +kernel
theorem dX8_fitting_13 : decode cX8_fitting 13 = .ok (.getfield 178, 3) := by decide +kernel
theorem dX8_fitting_16 : decode cX8_fitting 16 = .ok (.aload_n 0, 1) := by decide +kernel
theorem dX8_fitting_17 : decode cX8_fitting 17 = .ok (.getfield 13, 3) := by decide +kernel
theorem dX8_fitting_20 : decode cX8_fitting 20 = .ok (.iconst 0, 1) := by decide +kernel
theorem dX8_fitting_21 : decode cX8_fitting 21 = .ok (.iaload, 1) := by decide +kernel
theorem dX8_fitting_22 : decode cX8_fitting 22 = .ok (.if_icmp .eq 10, 3) := by decide +kernel
theorem dX8_fitting_25 : decode cX8_fitting 25 = .ok (.aload_n 0, 1) := by decide +kernel
theorem dX8_fitting_26 : decode cX8_fitting 26 = .ok (.bipush (-3), 2) := by decide +kernel
theorem dX8_fitting_28 : decode cX8_fitting 28 = .ok (.invokevirtual 71, 3) := by decide +kernel
theorem dX8_fitting_31 : decode cX8_fitting 31 = .ok (.ireturn, 1) := by decide +kernel
theorem dX8_fitting_32 : decode cX8_fitting 32 = .ok (.aload_n 0, 1) := by decide +kernel
theorem dX8_fitting_33 : decode cX8_fitting 33 = .ok (.invokevirtual 181, 3) := by decide +kernel
theorem dX8_fitting_36 : decode cX8_fitting 36 = .ok (.iload_n 1, 1) := by decide +kernel
theorem dX8_fitting_37 : decode cX8_fitting 37 = .ok (.ifCond .ge 10, 3) := by decide +kernel
theorem dX8_fitting_40 : decode cX8_fitting 40 = .ok (.aload_n 0, 1) := by decide +kernel
theorem dX8_fitting_41 : decode cX8_fitting 41 = .ok (.getfield 163, 3) := by decide +kernel
theorem dX8_fitting_44 : decode cX8_fitting 44 = .ok (.goto 31, 3) := by decide +kernel
theorem dX8_fitting_47 : decode cX8_fitting 47 = .ok (.aload_n 0, 1) := by decide +kernel
theorem dX8_fitting_48 : decode cX8_fitting 48 = .ok (.getfield 163, 3) := by decide +kernel
theorem dX8_fitting_51 : decode cX8_fitting 51 = .ok (.ifCond .le 22, 3) := by decide +kernel
theorem dX8_fitting_54 : decode cX8_fitting 54 = .ok (.iload_n 1, 1) := by decide +kernel
theorem dX8_fitting_55 : decode cX8_fitting 55 = .ok (.aload_n 0, 1) := by decide +kernel
theorem dX8_fitting_56 : decode cX8_fitting 56 = .ok (.getfield 13, 3) := by decide +kernel
theorem dX8_fitting_59 : decode cX8_fitting 59 = .ok (.iconst 0, 1) := by decide +kernel
theorem dX8_fitting_60 : decode cX8_fitting 60 = .ok (.iaload, 1) := by decide +kernel
theorem dX8_fitting_61 : decode cX8_fitting 61 = .ok (.if_icmp .ge 12, 3) := by decide +kernel
theorem dX8_fitting_64 : decode cX8_fitting 64 = .ok (.aload_n 0, 1) := by decide +kernel
theorem dX8_fitting_65 : decode cX8_fitting 65 = .ok (.getfield 51, 3) := by decide +kernel
theorem dX8_fitting_68 : decode cX8_fitting 68 = .ok (.iload_n 1, 1) := by decide +kernel
theorem dX8_fitting_69 : decode cX8_fitting 69 = .ok (.iaload, 1) := by decide +kernel
theorem dX8_fitting_70 : decode cX8_fitting 70 = .ok (.goto 5, 3) := by decide +kernel
theorem dX8_fitting_73 : decode cX8_fitting 73 = .ok (.bipush (-9), 2) := by decide +kernel
theorem dX8_fitting_75 : decode cX8_fitting 75 = .ok (.ireturn, 1) := by decide +kernel
theorem dX8_forged_0 : decode cX8_forged 0 = .ok (.aload_n 0, 1) := by decide +kernel
theorem dX8_forged_1 : decode cX8_forged 1 = .ok (.getfield 178, 3) := by decide +kernel
theorem dX8_forged_4 : decode cX8_forged 4 = .ok (.aload_n 0, 1) := by decide +kernel
theorem dX8_forged_5 : decode cX8_forged 5 = .ok (.getfield 13, 3) := by decide +kernel
theorem dX8_forged_8 : decode cX8_forged 8 = .ok (.iconst 0, 1) := by decide +kernel
theorem dX8_forged_9 : decode cX8_forged 9 = .ok (.iaload, 1) := by decide +kernel
theorem dX8_forged_10 : decode cX8_forged 10 = .ok (.if_icmp .eq 10, 3) := by decide +kernel
theorem dX8_forged_13 : decode cX8_forged 13 = .ok (.aload_n 0, 1) := by decide +kernel
theorem dX8_forged_14 : decode cX8_forged 14 = .ok (.bipush (-3), 2) := by decide +kernel
theorem dX8_forged_16 : decode cX8_forged 16 = .ok (.invokevirtual 71, 3) := by decide +kernel
theorem dX8_forged_19 : decode cX8_forged 19 = .ok (.ireturn, 1) := by decide +kernel
theorem dX8_forged_20 : decode cX8_forged 20 = .ok (.aload_n 0, 1) := by decide +kernel
theorem dX8_forged_21 : decode cX8_forged 21 = .ok (.invokevirtual 181, 3) := by decide +kernel
theorem dX8_forged_24 : decode cX8_forged 24 = .ok (.aload_n 0, 1) := by decide +kernel
theorem dX8_forged_25 : decode cX8_forged 25 = .ok (.getfield 169, 3) := by decide +kernel
theorem dX8_forged_28 : decode cX8_forged 28 = .ok (.ireturn, 1) := by decide +kernel
theorem dX8_judge_0 : decode cX8_judge 0 = .ok (.aload_n 0, 1) := by decide +kernel
theorem dX8_judge_1 : decode cX8_judge 1 = .ok (.getfield 178, 3) := by decide +kernel
theorem dX8_judge_4 : decode cX8_judge 4 = .ok (.istore_n 1, 1) := by decide +kernel
theorem dX8_judge_5 : decode cX8_judge 5 = .ok (.aload_n 0, 1) := by decide +kernel
theorem dX8_judge_6 : decode cX8_judge 6 = .ok (.iconst 0, 1) := by decide +kernel
theorem dX8_judge_7 : decode cX8_judge 7 = .ok (.putfield 178, 3) := by decide +kernel
theorem dX8_judge_10 : decode cX8_judge 10 = .ok (.iconst 0, 1) := by decide +kernel
theorem dX8_judge_11 : decode cX8_judge 11 = .ok (.istore_n 2, 1) := by decide +kernel
theorem dX8_judge_12 : decode cX8_judge 12 = .ok (.iload_n 2, 1) := by decide +kernel
theorem dX8_judge_13 : decode cX8_judge 13 = .ok (.iload_n 1, 1) := by decide +kernel
theorem dX8_judge_14 : decode cX8_judge 14 = .ok (.if_icmp .ge 43, 3) := by decide +kernel
theorem dX8_judge_17 : decode cX8_judge 17 = .ok (.iload_n 2, 1) := by decide +kernel
theorem dX8_judge_18 : decode cX8_judge 18 = .ok (.aload_n 0, 1) := by decide +kernel
theorem dX8_judge_19 : decode cX8_judge 19 = .ok (.getfield 13, 3) := by decide +kernel
theorem dX8_judge_22 : decode cX8_judge 22 = .ok (.iconst 0, 1) := by decide +kernel
theorem dX8_judge_23 : decode cX8_judge 23 = .ok (.iaload, 1) := by decide +kernel
theorem dX8_judge_24 : decode cX8_judge 24 = .ok (.if_icmp .ne 5, 3) := by decide +kernel
theorem dX8_judge_27 : decode cX8_judge 27 = .ok (.iload_n 2, 1) := by decide +kernel
theorem dX8_judge_28 : decode cX8_judge 28 = .ok (.ireturn, 1) := by decide +kernel
theorem dX8_judge_29 : decode cX8_judge 29 = .ok (.aload_n 0, 1) := by decide +kernel
theorem dX8_judge_30 : decode cX8_judge 30 = .ok (.getfield 60, 3) := by decide +kernel
theorem dX8_judge_33 : decode cX8_judge 33 = .ok (.iload_n 2, 1) := by decide +kernel
theorem dX8_judge_34 : decode cX8_judge 34 = .ok (.iaload, 1) := by decide +kernel
theorem dX8_judge_35 : decode cX8_judge 35 = .ok (.aload_n 0, 1) := by decide +kernel
theorem dX8_judge_36 : decode cX8_judge 36 = .ok (.aload_n 0, 1) := by decide +kernel
theorem dX8_judge_37 : decode cX8_judge 37 = .ok (.getfield 13, 3) := by decide +kernel
theorem dX8_judge_40 : decode cX8_judge 40 = .ok (.iconst 3, 1) := by decide +kernel
theorem dX8_judge_41 : decode cX8_judge 41 = .ok (.iaload, 1) := by decide +kernel
theorem dX8_judge_42 : decode cX8_judge 42 = .ok (.iload_n 2, 1) := by decide +kernel
theorem dX8_judge_43 : decode cX8_judge 43 = .ok (.invokevirtual 126, 3) := by decide +kernel
theorem dX8_judge_46 : decode cX8_judge 46 = .ok (.if_icmp .eq 5, 3) := by decide +kernel
theorem dX8_judge_49 : decode cX8_judge 49 = .ok (.iload_n 2, 1) := by decide +kernel
theorem dX8_judge_50 : decode cX8_judge 50 = .ok (.ireturn, 1) := by decide +kernel
theorem dX8_judge_51 : decode cX8_judge 51 = .ok (.iinc 2 1, 3) := by decide +kernel
theorem dX8_judge_54 : decode cX8_judge 54 = .ok (.goto (-42), 3) := by decide +kernel
theorem dX8_judge_57 : decode cX8_judge 57 = .ok (.iload_n 1, 1) := by decide +kernel
theorem dX8_judge_58 : decode cX8_judge 58 = .ok (.aload_n 0, 1) := by decide +kernel
theorem dX8_judge_59 : decode cX8_judge 59 = .ok (.getfield 13, 3) := by decide +kernel
theorem dX8_judge_62 : decode cX8_judge 62 = .ok (.iconst 0, 1) := by decide +kernel
theorem dX8_judge_63 : decode cX8_judge 63 = .ok (.iaload, 1) := by decide +kernel
theorem dX8_judge_64 : decode cX8_judge 64 = .ok (.if_icmp .ge 7, 3) := by decide +kernel
theorem dX8_judge_67 : decode cX8_judge 67 = .ok (.iload_n 1, 1) := by decide +kernel
theorem dX8_judge_68 : decode cX8_judge 68 = .ok (.goto 5, 3) := by decide +kernel
theorem dX8_judge_71 : decode cX8_judge 71 = .ok (.bipush (-9), 2) := by decide +kernel
theorem dX8_judge_73 : decode cX8_judge 73 = .ok (.ireturn, 1) := by decide +kernel
theorem dX8_draw_0 : decode cX8_draw 0 = .ok (.aload_n 0, 1) := by decide +kernel
theorem dX8_draw_1 : decode cX8_draw 1 = .ok (.aload_n 0, 1) := by decide +kernel
theorem dX8_draw_2 : decode cX8_draw 2 = .ok (.getfield 212, 3) := by decide +kernel
theorem dX8_draw_5 : decode cX8_draw 5 = .ok (.ldc 215, 2) := by decide +kernel
theorem dX8_draw_7 : decode cX8_draw 7 = .ok (.imul, 1) := by decide +kernel
theorem dX8_draw_8 : decode cX8_draw 8 = .ok (.ldc 216, 2) := by decide +kernel
theorem dX8_draw_10 : decode cX8_draw 10 = .ok (.iadd, 1) := by decide +kernel
theorem dX8_draw_11 : decode cX8_draw 11 = .ok (.putfield 212, 3) := by decide +kernel
theorem dX8_draw_14 : decode cX8_draw 14 = .ok (.aload_n 0, 1) := by decide +kernel
theorem dX8_draw_15 : decode cX8_draw 15 = .ok (.getfield 212, 3) := by decide +kernel
theorem dX8_draw_18 : decode cX8_draw 18 = .ok (.ldc 217, 2) := by decide +kernel
theorem dX8_draw_20 : decode cX8_draw 20 = .ok (.iand, 1) := by decide +kernel
theorem dX8_draw_21 : decode cX8_draw 21 = .ok (.sipush 256, 3) := by decide +kernel
theorem dX8_draw_24 : decode cX8_draw 24 = .ok (.idiv, 1) := by decide +kernel
theorem dX8_draw_25 : decode cX8_draw 25 = .ok (.aload_n 0, 1) := by decide +kernel
theorem dX8_draw_26 : decode cX8_draw 26 = .ok (.getfield 13, 3) := by decide +kernel
theorem dX8_draw_29 : decode cX8_draw 29 = .ok (.iconst 0, 1) := by decide +kernel
theorem dX8_draw_30 : decode cX8_draw 30 = .ok (.iaload, 1) := by decide +kernel
theorem dX8_draw_31 : decode cX8_draw 31 = .ok (.irem, 1) := by decide +kernel
theorem dX8_draw_32 : decode cX8_draw 32 = .ok (.ireturn, 1) := by decide +kernel
theorem dX8_seeds_0 : decode cX8_seeds 0 = .ok (.iload_n 1, 1) := by decide +kernel
theorem dX8_seeds_1 : decode cX8_seeds 1 = .ok (.iconst 1, 1) := by decide +kernel
theorem dX8_seeds_2 : decode cX8_seeds 2 = .ok (.if_icmp .ge 10, 3) := by decide +kernel
theorem dX8_seeds_5 : decode cX8_seeds 5 = .ok (.aload_n 0, 1) := by decide +kernel
theorem dX8_seeds_6 : decode cX8_seeds 6 = .ok (.bipush (-4), 2) := by decide +kernel
theorem dX8_seeds_8 : decode cX8_seeds 8 = .ok (.invokevirtual 71, 3) := by decide +kernel
theorem dX8_seeds_11 : decode cX8_seeds 11 = .ok (.ireturn, 1) := by decide +kernel
theorem dX8_seeds_12 : decode cX8_seeds 12 = .ok (.iload_n 1, 1) := by decide +kernel
theorem dX8_seeds_13 : decode cX8_seeds 13 = .ok (.bipush 20, 2) := by decide +kernel
theorem dX8_seeds_15 : decode cX8_seeds 15 = .ok (.if_icmp .le 10, 3) := by decide +kernel
theorem dX8_seeds_18 : decode cX8_seeds 18 = .ok (.aload_n 0, 1) := by decide +kernel
theorem dX8_seeds_19 : decode cX8_seeds 19 = .ok (.bipush (-6), 2) := by decide +kernel
theorem dX8_seeds_21 : decode cX8_seeds 21 = .ok (.invokevirtual 71, 3) := by decide +kernel
theorem dX8_seeds_24 : decode cX8_seeds 24 = .ok (.ireturn, 1) := by decide +kernel
theorem dX8_seeds_25 : decode cX8_seeds 25 = .ok (.aload_n 0, 1) := by decide +kernel
theorem dX8_seeds_26 : decode cX8_seeds 26 = .ok (.getfield 13, 3) := by decide +kernel
theorem dX8_seeds_29 : decode cX8_seeds 29 = .ok (.iconst 0, 1) := by decide +kernel
theorem dX8_seeds_30 : decode cX8_seeds 30 = .ok (.iaload, 1) := by decide +kernel
theorem dX8_seeds_31 : decode cX8_seeds 31 = .ok (.ifCond .ne 10, 3) := by decide +kernel
theorem dX8_seeds_34 : decode cX8_seeds 34 = .ok (.aload_n 0, 1) := by decide +kernel
theorem dX8_seeds_35 : decode cX8_seeds 35 = .ok (.bipush (-3), 2) := by decide +kernel
theorem dX8_seeds_37 : decode cX8_seeds 37 = .ok (.invokevirtual 71, 3) := by decide +kernel
theorem dX8_seeds_40 : decode cX8_seeds 40 = .ok (.ireturn, 1) := by decide +kernel
theorem dX8_seeds_41 : decode cX8_seeds 41 = .ok (.aload_n 0, 1) := by decide +kernel
theorem dX8_seeds_42 : decode cX8_seeds 42 = .ok (.getfield 13, 3) := by decide +kernel
theorem dX8_seeds_45 : decode cX8_seeds 45 = .ok (.aload_n 0, 1) := by decide +kernel
theorem dX8_seeds_46 : decode cX8_seeds 46 = .ok (.getfield 22, 3) := by decide +kernel
theorem dX8_seeds_49 : decode cX8_seeds 49 = .ok (.invokestatic 67, 3) := by decide +kernel
theorem dX8_seeds_52 : decode cX8_seeds 52 = .ok (.aload_n 0, 1) := by decide +kernel
theorem dX8_seeds_53 : decode cX8_seeds 53 = .ok (.iload_n 2, 1) := by decide +kernel
theorem dX8_seeds_54 : decode cX8_seeds 54 = .ok (.putfield 212, 3) := by decide +kernel
theorem dX8_seeds_57 : decode cX8_seeds 57 = .ok (.iconst 0, 1) := by decide +kernel
theorem dX8_seeds_58 : decode cX8_seeds 58 = .ok (.istore_n 3, 1) := by decide +kernel
theorem dX8_seeds_59 : decode cX8_seeds 59 = .ok (.iconst 0, 1) := by decide +kernel
theorem dX8_seeds_60 : decode cX8_seeds 60 = .ok (.istore 4, 2) := by decide +kernel
theorem dX8_seeds_62 : decode cX8_seeds 62 = .ok (.iload 4, 2) := by decide +kernel
theorem dX8_seeds_64 : decode cX8_seeds 64 = .ok (.iload_n 1, 1) := by decide +kernel
theorem dX8_seeds_65 : decode cX8_seeds 65 = .ok (.if_icmp .ge 50, 3) := by decide +kernel
theorem dX8_seeds_68 : decode cX8_seeds 68 = .ok (.aload_n 0, 1) := by decide +kernel
theorem dX8_seeds_69 : decode cX8_seeds 69 = .ok (.invokevirtual 218, 3) := by decide +kernel
theorem dX8_seeds_72 : decode cX8_seeds 72 = .ok (.istore 5, 2) := by decide +kernel
theorem dX8_seeds_74 : decode cX8_seeds 74 = .ok (.aload_n 0, 1) := by decide +kernel
theorem dX8_seeds_75 : decode cX8_seeds 75 = .ok (.invokevirtual 218, 3) := by decide +kernel
theorem dX8_seeds_78 : decode cX8_seeds 78 = .ok (.istore 6, 2) := by decide +kernel
theorem dX8_seeds_80 : decode cX8_seeds 80 = .ok (.iload 5, 2) := by decide +kernel
theorem dX8_seeds_82 : decode cX8_seeds 82 = .ok (.iload 6, 2) := by decide +kernel
theorem dX8_seeds_84 : decode cX8_seeds 84 = .ok (.if_icmp .eq 11, 3) := by decide +kernel
theorem dX8_seeds_87 : decode cX8_seeds 87 = .ok (.aload_n 0, 1) := by decide +kernel
theorem dX8_seeds_88 : decode cX8_seeds 88 = .ok (.iload 5, 2) := by decide +kernel
theorem dX8_seeds_90 : decode cX8_seeds 90 = .ok (.iload 6, 2) := by decide +kernel
theorem dX8_seeds_92 : decode cX8_seeds 92 = .ok (.invokevirtual 95, 3) := by decide +kernel
theorem dX8_seeds_95 : decode cX8_seeds 95 = .ok (.aload_n 0, 1) := by decide +kernel
theorem dX8_seeds_96 : decode cX8_seeds 96 = .ok (.invokevirtual 141, 3) := by decide +kernel
theorem dX8_seeds_99 : decode cX8_seeds 99 = .ok (.iload_n 3, 1) := by decide +kernel
theorem dX8_seeds_100 : decode cX8_seeds 100 = .ok (.aload_n 0, 1) := by decide +kernel
theorem dX8_seeds_101 : decode cX8_seeds 101 = .ok (.invokevirtual 144, 3) := by decide +kernel
theorem dX8_seeds_104 : decode cX8_seeds 104 = .ok (.invokestatic 154, 3) := by decide +kernel
theorem dX8_seeds_107 : decode cX8_seeds 107 = .ok (.iadd, 1) := by decide +kernel
theorem dX8_seeds_108 : decode cX8_seeds 108 = .ok (.istore_n 3, 1) := by decide +kernel
theorem dX8_seeds_109 : decode cX8_seeds 109 = .ok (.iinc 4 1, 3) := by decide +kernel
theorem dX8_seeds_112 : decode cX8_seeds 112 = .ok (.goto (-50), 3) := by decide +kernel
theorem dX8_seeds_115 : decode cX8_seeds 115 = .ok (.aload_n 0, 1) := by decide +kernel
theorem dX8_seeds_116 : decode cX8_seeds 116 = .ok (.getfield 22, 3) := by decide +kernel
theorem dX8_seeds_119 : decode cX8_seeds 119 = .ok (.aload_n 0, 1) := by decide +kernel
theorem dX8_seeds_120 : decode cX8_seeds 120 = .ok (.getfield 13, 3) := by decide +kernel
theorem dX8_seeds_123 : decode cX8_seeds 123 = .ok (.invokestatic 67, 3) := by decide +kernel
theorem dX8_seeds_126 : decode cX8_seeds 126 = .ok (.iload_n 3, 1) := by decide +kernel
theorem dX8_seeds_127 : decode cX8_seeds 127 = .ok (.ireturn, 1) := by decide +kernel
theorem dX8_count_0 : decode cX8_count 0 = .ok (.iload_n 1, 1) := by decide +kernel
theorem dX8_count_1 : decode cX8_count 1 = .ok (.ifCond .lt 18, 3) := by decide +kernel
theorem dX8_count_4 : decode cX8_count 4 = .ok (.iload_n 1, 1) := by decide +kernel
theorem dX8_count_5 : decode cX8_count 5 = .ok (.bipush 6, 2) := by decide +kernel
theorem dX8_count_7 : decode cX8_count 7 = .ok (.if_icmp .ge 12, 3) := by decide +kernel
theorem dX8_count_10 : decode cX8_count 10 = .ok (.aload_n 0, 1) := by decide +kernel
theorem dX8_count_11 : decode cX8_count 11 = .ok (.getfield 13, 3) := by decide +kernel
theorem dX8_count_14 : decode cX8_count 14 = .ok (.iload_n 1, 1) := by decide +kernel
theorem dX8_count_15 : decode cX8_count 15 = .ok (.iaload, 1) := by decide +kernel
theorem dX8_count_16 : decode cX8_count 16 = .ok (.goto 55, 3) := by decide +kernel
theorem dX8_count_19 : decode cX8_count 19 = .ok (.iload_n 1, 1) := by decide +kernel
theorem dX8_count_20 : decode cX8_count 20 = .ok (.bipush 6, 2) := by decide +kernel
theorem dX8_count_22 : decode cX8_count 22 = .ok (.if_icmp .ne 10, 3) := by decide +kernel
theorem dX8_count_25 : decode cX8_count 25 = .ok (.aload_n 0, 1) := by decide +kernel
theorem dX8_count_26 : decode cX8_count 26 = .ok (.getfield 178, 3) := by decide +kernel
theorem dX8_count_29 : decode cX8_count 29 = .ok (.goto 42, 3) := by decide +kernel
theorem dX8_count_32 : decode cX8_count 32 = .ok (.iload_n 1, 1) := by decide +kernel
theorem dX8_count_33 : decode cX8_count 33 = .ok (.bipush 7, 2) := by decide +kernel
theorem dX8_count_35 : decode cX8_count 35 = .ok (.if_icmp .ne 10, 3) := by decide +kernel
theorem dX8_count_38 : decode cX8_count 38 = .ok (.aload_n 0, 1) := by decide +kernel
theorem dX8_count_39 : decode cX8_count 39 = .ok (.getfield 75, 3) := by decide +kernel
theorem dX8_count_42 : decode cX8_count 42 = .ok (.goto 29, 3) := by decide +kernel
theorem dX8_count_45 : decode cX8_count 45 = .ok (.iload_n 1, 1) := by decide +kernel
theorem dX8_count_46 : decode cX8_count 46 = .ok (.bipush 11, 2) := by decide +kernel
theorem dX8_count_48 : decode cX8_count 48 = .ok (.if_icmp .lt 21, 3) := by decide +kernel
theorem dX8_count_51 : decode cX8_count 51 = .ok (.iload_n 1, 1) := by decide +kernel
theorem dX8_count_52 : decode cX8_count 52 = .ok (.bipush 16, 2) := by decide +kernel
theorem dX8_count_54 : decode cX8_count 54 = .ok (.if_icmp .gt 15, 3) := by decide +kernel
theorem dX8_count_57 : decode cX8_count 57 = .ok (.aload_n 0, 1) := by decide +kernel
theorem dX8_count_58 : decode cX8_count 58 = .ok (.getfield 1, 3) := by decide +kernel
theorem dX8_count_61 : decode cX8_count 61 = .ok (.iload_n 1, 1) := by decide +kernel
theorem dX8_count_62 : decode cX8_count 62 = .ok (.bipush 10, 2) := by decide +kernel
theorem dX8_count_64 : decode cX8_count 64 = .ok (.isub, 1) := by decide +kernel
theorem dX8_count_65 : decode cX8_count 65 = .ok (.iaload, 1) := by decide +kernel
theorem dX8_count_66 : decode cX8_count 66 = .ok (.goto 5, 3) := by decide +kernel
theorem dX8_count_69 : decode cX8_count 69 = .ok (.bipush (-9), 2) := by decide +kernel
theorem dX8_count_71 : decode cX8_count 71 = .ok (.ireturn, 1) := by decide +kernel
