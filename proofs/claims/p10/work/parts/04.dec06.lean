theorem dX7_hour_12 : decode cX7_hour 12 = .ok (.iconst (-1), 1) := by decide +kernel
theorem dX7_hour_13 : decode cX7_hour 13 = .ok (.invokevirtual 69, 3) := by decide +kernel
theorem dX7_hour_16 : decode cX7_hour 16 = .ok (.ireturn, 1) := by decide +kernel
theorem dX7_hour_17 : decode cX7_hour 17 = .ok (.iload_n 2, 1) := by decide +kernel
theorem dX7_hour_18 : decode cX7_hour 18 = .ok (.ifCond .lt 8, 3) := by decide +kernel
theorem dX7_hour_21 : decode cX7_hour 21 = .ok (.iload_n 2, 1) := by decide +kernel
theorem dX7_hour_22 : decode cX7_hour 22 = .ok (.iconst 1, 1) := by decide +kernel
theorem dX7_hour_23 : decode cX7_hour 23 = .ok (.if_icmp .le 10, 3) := by decide +kernel
theorem dX7_hour_26 : decode cX7_hour 26 = .ok (.aload_n 0, 1) := by decide +kernel
theorem dX7_hour_27 : decode cX7_hour 27 = .ok (.bipush (-2), 2) := by decide +kernel
theorem dX7_hour_29 : decode cX7_hour 29 = .ok (.invokevirtual 69, 3) := by decide +kernel
theorem dX7_hour_32 : decode cX7_hour 32 = .ok (.ireturn, 1) := by decide +kernel
theorem dX7_hour_33 : decode cX7_hour 33 = .ok (.aload_n 0, 1) := by decide +kernel
theorem dX7_hour_34 : decode cX7_hour 34 = .ok (.getfield 16, 3) := by decide +kernel
theorem dX7_hour_37 : decode cX7_hour 37 = .ok (.aload_n 0, 1) := by decide +kernel
theorem dX7_hour_38 : decode cX7_hour 38 = .ok (.getfield 10, 3) := by decide +kernel
theorem dX7_hour_41 : decode cX7_hour 41 = .ok (.invokevirtual 84, 3) := by decide +kernel
theorem dX7_hour_44 : decode cX7_hour 44 = .ok (.aload_n 0, 1) := by decide +kernel
theorem dX7_hour_45 : decode cX7_hour 45 = .ok (.getfield 16, 3) := by decide +kernel
theorem dX7_hour_48 : decode cX7_hour 48 = .ok (.getfield 111, 3) := by decide +kernel
theorem dX7_hour_51 : decode cX7_hour 51 = .ok (.iload_n 1, 1) := by decide +kernel
theorem dX7_hour_52 : decode cX7_hour 52 = .ok (.dup2, 1) := by decide +kernel
theorem dX7_hour_53 : decode cX7_hour 53 = .ok (.iaload, 1) := by decide +kernel
theorem dX7_hour_54 : decode cX7_hour 54 = .ok (.iconst 1, 1) := by decide +kernel
theorem dX7_hour_55 : decode cX7_hour 55 = .ok (.iadd, 1) := by decide +kernel
theorem dX7_hour_56 : decode cX7_hour 56 = .ok (.iastore, 1) := by decide +kernel
theorem dX7_hour_57 : decode cX7_hour 57 = .ok (.iload_n 2, 1) := by decide +kernel
theorem dX7_hour_58 : decode cX7_hour 58 = .ok (.ifCond .ne 19, 3) := by decide +kernel
theorem dX7_hour_61 : decode cX7_hour 61 = .ok (.aload_n 0, 1) := by decide +kernel
theorem dX7_hour_62 : decode cX7_hour 62 = .ok (.getfield 16, 3) := by decide +kernel
theorem dX7_hour_65 : decode cX7_hour 65 = .ok (.invokestatic 163, 3) := by decide +kernel
theorem dX7_hour_68 : decode cX7_hour 68 = .ok (.aload_n 0, 1) := by decide +kernel
theorem dX7_hour_69 : decode cX7_hour 69 = .ok (.getfield 10, 3) := by decide +kernel
theorem dX7_hour_72 : decode cX7_hour 72 = .ok (.invokestatic 163, 3) := by decide +kernel
theorem dX7_hour_75 : decode cX7_hour 75 = .ok (.isub, 1) := by decide +kernel
theorem dX7_hour_76 : decode cX7_hour 76 = .ok (.ireturn, 1) := by decide +kernel
theorem dX7_hour_77 : decode cX7_hour 77 = .ok (.aload_n 0, 1) := by decide +kernel
theorem dX7_hour_78 : decode cX7_hour 78 = .ok (.getfield 16, 3) := by decide +kernel
theorem dX7_hour_81 : decode cX7_hour 81 = .ok (.aload_n 0, 1) := by decide +kernel
theorem dX7_hour_82 : decode cX7_hour 82 = .ok (.getfield 10, 3) := by decide +kernel
theorem dX7_hour_85 : decode cX7_hour 85 = .ok (.invokestatic 205, 3) := by decide +kernel
theorem dX7_hour_88 : decode cX7_hour 88 = .ok (.ireturn, 1) := by decide +kernel
theorem dX7_mends_0 : decode cX7_mends 0 = .ok (.iload_n 1, 1) := by decide +kernel
theorem dX7_mends_1 : decode cX7_mends 1 = .ok (.ifCond .lt 16, 3) := by decide +kernel
theorem dX7_mends_4 : decode cX7_mends 4 = .ok (.iload_n 1, 1) := by decide +kernel
theorem dX7_mends_5 : decode cX7_mends 5 = .ok (.iconst 1, 1) := by decide +kernel
theorem dX7_mends_6 : decode cX7_mends 6 = .ok (.aload_n 0, 1) := by decide +kernel
theorem dX7_mends_7 : decode cX7_mends 7 = .ok (.getfield 10, 3) := by decide +kernel
theorem dX7_mends_10 : decode cX7_mends 10 = .ok (.getfield 170, 3) := by decide +kernel
theorem dX7_mends_13 : decode cX7_mends 13 = .ok (.ishl, 1) := by decide +kernel
theorem dX7_mends_14 : decode cX7_mends 14 = .ok (.if_icmp .lt 9, 3) := by decide +kernel
theorem dX7_mends_17 : decode cX7_mends 17 = .ok (.aload_n 0, 1) := by decide +kernel
theorem dX7_mends_18 : decode cX7_mends 18 = .ok (.iconst (-1), 1) := by decide +kernel
theorem dX7_mends_19 : decode cX7_mends 19 = .ok (.invokevirtual 69, 3) := by decide +kernel
theorem dX7_mends_22 : decode cX7_mends 22 = .ok (.ireturn, 1) := by decide +kernel
theorem dX7_mends_23 : decode cX7_mends 23 = .ok (.aload_n 0, 1) := by decide +kernel
theorem dX7_mends_24 : decode cX7_mends 24 = .ok (.getfield 16, 3) := by decide +kernel
theorem dX7_mends_27 : decode cX7_mends 27 = .ok (.aload_n 0, 1) := by decide +kernel
theorem dX7_mends_28 : decode cX7_mends 28 = .ok (.getfield 10, 3) := by decide +kernel
theorem dX7_mends_31 : decode cX7_mends 31 = .ok (.invokevirtual 84, 3) := by decide +kernel
theorem dX7_mends_34 : decode cX7_mends 34 = .ok (.iconst 0, 1) := by decide +kernel
theorem dX7_mends_35 : decode cX7_mends 35 = .ok (.istore_n 2, 1) := by decide +kernel
theorem dX7_mends_36 : decode cX7_mends 36 = .ok (.iload_n 2, 1) := by decide +kernel
theorem dX7_mends_37 : decode cX7_mends 37 = .ok (.iconst 2, 1) := by decide +kernel
theorem dX7_mends_38 : decode cX7_mends 38 = .ok (.if_icmp .gt 23, 3) := by decide +kernel
theorem dX7_mends_41 : decode cX7_mends 41 = .ok (.aload_n 0, 1) := by decide +kernel
theorem dX7_mends_42 : decode cX7_mends 42 = .ok (.getfield 16, 3) := by decide +kernel
theorem dX7_mends_45 : decode cX7_mends 45 = .ok (.iload_n 1, 1) := by decide +kernel
theorem dX7_mends_46 : decode cX7_mends 46 = .ok (.iload_n 2, 1) := by decide +kernel
theorem dX7_mends_47 : decode cX7_mends 47 = .ok (.invokestatic 209, 3) := by decide +kernel
theorem dX7_mends_50 : decode cX7_mends 50 = .ok (.ifCond .eq 5, 3) := by decide +kernel
theorem dX7_mends_53 : decode cX7_mends 53 = .ok (.iload_n 2, 1) := by decide +kernel
theorem dX7_mends_54 : decode cX7_mends 54 = .ok (.ireturn, 1) := by decide +kernel
theorem dX7_mends_55 : decode cX7_mends 55 = .ok (.iinc 2 1, 3) := by decide +kernel
theorem dX7_mends_58 : decode cX7_mends 58 = .ok (.goto (-22), 3) := by decide +kernel
theorem dX7_mends_61 : decode cX7_mends 61 = .ok (.bipush (-9), 2) := by decide +kernel
theorem dX7_mends_63 : decode cX7_mends 63 = .ok (.ireturn, 1) := by decide +kernel
theorem dX7_row_0 : decode cX7_row 0 = .ok (.iload_n 1, 1) := by decide +kernel
theorem dX7_row_1 : decode cX7_row 1 = .ok (.ifCond .ge 10, 3) := by decide +kernel
theorem dX7_row_4 : decode cX7_row 4 = .ok (.aload_n 0, 1) := by decide +kernel
theorem dX7_row_5 : decode cX7_row 5 = .ok (.bipush (-4), 2) := by decide +kernel
theorem dX7_row_7 : decode cX7_row 7 = .ok (.invokevirtual 69, 3) := by decide +kernel
theorem dX7_row_10 : decode cX7_row 10 = .ok (.ireturn, 1) := by decide +kernel
theorem dX7_row_11 : decode cX7_row 11 = .ok (.iload_n 1, 1) := by decide +kernel
theorem dX7_row_12 : decode cX7_row 12 = .ok (.bipush 99, 2) := by decide +kernel
theorem dX7_row_14 : decode cX7_row 14 = .ok (.if_icmp .gt 13, 3) := by decide +kernel
theorem dX7_row_17 : decode cX7_row 17 = .ok (.aload_n 0, 1) := by decide +kernel
theorem dX7_row_18 : decode cX7_row 18 = .ok (.getfield 28, 3) := by decide +kernel
theorem dX7_row_21 : decode cX7_row 21 = .ok (.invokevirtual 73, 3) := by decide +kernel
theorem dX7_row_24 : decode cX7_row 24 = .ok (.ifCond .eq 10, 3) := by decide +kernel
theorem dX7_row_27 : decode cX7_row 27 = .ok (.aload_n 0, 1) := by decide +kernel
theorem dX7_row_28 : decode cX7_row 28 = .ok (.bipush (-6), 2) := by decide +kernel
theorem dX7_row_30 : decode cX7_row 30 = .ok (.invokevirtual 69, 3) := by decide +kernel
theorem dX7_row_33 : decode cX7_row 33 = .ok (.ireturn, 1) := by decide +kernel
theorem dX7_row_34 : decode cX7_row 34 = .ok (.aload_n 0, 1) := by decide +kernel
theorem dX7_row_35 : decode cX7_row 35 = .ok (.getfield 28, 3) := by decide +kernel
theorem dX7_row_38 : decode cX7_row 38 = .ok (.iload_n 1, 1) := by decide +kernel
theorem dX7_row_39 : decode cX7_row 39 = .ok (.invokevirtual 77, 3) := by decide +kernel
theorem dX7_row_42 : decode cX7_row 42 = .ok (.aload_n 0, 1) := by decide +kernel
theorem dX7_row_43 : decode cX7_row 43 = .ok (.getfield 28, 3) := by decide +kernel
theorem dX7_row_46 : decode cX7_row 46 = .ok (.getfield 80, 3) := by decide +kernel
theorem dX7_row_49 : decode cX7_row 49 = .ok (.ireturn, 1) := by decide +kernel
theorem dX7_fitting_0 : decode cX7_fitting 0 = .ok (.iload_n 1, 1) := by decide +kernel
theorem dX7_fitting_1 : decode cX7_fitting 1 = .ok (.iconst (-1), 1) := by decide +kernel
theorem dX7_fitting_2 : decode cX7_fitting 2 = .ok (.if_icmp .ge 10, 3) := by decide +kernel
theorem dX7_fitting_5 : decode cX7_fitting 5 = .ok (.aload_n 0, 1) := by decide +kernel
theorem dX7_fitting_6 : decode cX7_fitting 6 = .ok (.bipush (-4), 2) := by decide +kernel
theorem dX7_fitting_8 : decode cX7_fitting 8 = .ok (.invokevirtual 69, 3) := by decide +kernel
theorem dX7_fitting_11 : decode cX7_fitting 11 = .ok (.ireturn, 1) := by decide +kernel
theorem dX7_fitting_12 : decode cX7_fitting 12 = .ok (.aload_n 0, 1) := by decide +kernel
theorem dX7_fitting_13 : decode cX7_fitting 13 = .ok (.getfield 28, 3) := by decide +kernel
theorem dX7_fitting_16 : decode cX7_fitting 16 = .ok (.getfield 80, 3) := by decide +kernel
theorem dX7_fitting_19 : decode cX7_fitting 19 = .ok (.aload_n 0, 1) := by decide +kernel
theorem dX7_fitting_20 : decode cX7_fitting 20 = .ok (.getfield 10, 3) := by decide +kernel
theorem dX7_fitting_23 : decode cX7_fitting 23 = .ok (.getfield 170, 3) := by decide +kernel
theorem dX7_fitting_26 : decode cX7_fitting 26 = .ok (.if_icmp .eq 10, 3) := by decide +kernel
theorem dX7_fitting_29 : decode cX7_fitting 29 = .ok (.aload_n 0, 1) := by decide +kernel
theorem dX7_fitting_30 : decode cX7_fitting 30 = .ok (.bipush (-3), 2) := by decide +kernel
theorem dX7_fitting_32 : decode cX7_fitting 32 = .ok (.invokevirtual 69, 3) := by decide +kernel
theorem dX7_fitting_35 : decode cX7_fitting 35 = .ok (.ireturn, 1) := by decide +kernel
theorem dX7_fitting_36 : decode cX7_fitting 36 = .ok (.aload_n 0, 1) := by decide +kernel
theorem dX7_fitting_37 : decode cX7_fitting 37 = .ok (.getfield 41, 3) := by decide +kernel
theorem dX7_fitting_40 : decode cX7_fitting 40 = .ok (.aload_n 0, 1) := by decide +kernel
theorem dX7_fitting_41 : decode cX7_fitting 41 = .ok (.getfield 10, 3) := by decide +kernel
theorem dX7_fitting_44 : decode cX7_fitting 44 = .ok (.aload_n 0, 1) := by decide +kernel
theorem dX7_fitting_45 : decode cX7_fitting 45 = .ok (.getfield 28, 3) := by decide +kernel
theorem dX7_fitting_48 : decode cX7_fitting 48 = .ok (.invokevirtual 213, 3) := by decide +kernel
theorem dX7_fitting_51 : decode cX7_fitting 51 = .ok (.iload_n 1, 1) := by decide +kernel
theorem dX7_fitting_52 : decode cX7_fitting 52 = .ok (.iconst (-1), 1) := by decide +kernel
theorem dX7_fitting_53 : decode cX7_fitting 53 = .ok (.if_icmp .ne 11, 3) := by decide +kernel
theorem dX7_fitting_56 : decode cX7_fitting 56 = .ok (.aload_n 0, 1) := by decide +kernel
theorem dX7_fitting_57 : decode cX7_fitting 57 = .ok (.getfield 41, 3) := by decide +kernel
theorem dX7_fitting_60 : decode cX7_fitting 60 = .ok (.getfield 217, 3) := by decide +kernel
theorem dX7_fitting_63 : decode cX7_fitting 63 = .ok (.ireturn, 1) := by decide +kernel
theorem dX7_fitting_64 : decode cX7_fitting 64 = .ok (.aload_n 0, 1) := by decide +kernel
theorem dX7_fitting_65 : decode cX7_fitting 65 = .ok (.getfield 41, 3) := by decide +kernel
theorem dX7_fitting_68 : decode cX7_fitting 68 = .ok (.getfield 217, 3) := by decide +kernel
theorem dX7_fitting_71 : decode cX7_fitting 71 = .ok (.ifCond .eq 14, 3) := by decide +kernel
theorem dX7_fitting_74 : decode cX7_fitting 74 = .ok (.iload_n 1, 1) := by decide +kernel
theorem dX7_fitting_75 : decode cX7_fitting 75 = .ok (.aload_n 0, 1) := by decide +kernel
theorem dX7_fitting_76 : decode cX7_fitting 76 = .ok (.getfield 10, 3) := by decide +kernel
theorem dX7_fitting_79 : decode cX7_fitting 79 = .ok (.getfield 170, 3) := by decide +kernel
theorem dX7_fitting_82 : decode cX7_fitting 82 = .ok (.if_icmp .lt 8, 3) := by decide +kernel
theorem dX7_fitting_85 : decode cX7_fitting 85 = .ok (.bipush (-9), 2) := by decide +kernel
theorem dX7_fitting_87 : decode cX7_fitting 87 = .ok (.goto 12, 3) := by decide +kernel
theorem dX7_fitting_90 : decode cX7_fitting 90 = .ok (.aload_n 0, 1) := by decide +kernel
theorem dX7_fitting_91 : decode cX7_fitting 91 = .ok (.getfield 41, 3) := by decide +kernel
theorem dX7_fitting_94 : decode cX7_fitting 94 = .ok (.getfield 182, 3) := by decide +kernel
theorem dX7_fitting_97 : decode cX7_fitting 97 = .ok (.iload_n 1, 1) := by decide +kernel
theorem dX7_fitting_98 : decode cX7_fitting 98 = .ok (.iaload, 1) := by decide +kernel
theorem dX7_fitting_99 : decode cX7_fitting 99 = .ok (.ireturn, 1) := by decide +kernel
theorem dX7_forged_0 : decode cX7_forged 0 = .ok (.aload_n 0, 1) := by decide +kernel
theorem dX7_forged_1 : decode cX7_forged 1 = .ok (.getfield 28, 3) := by decide +kernel
theorem dX7_forged_4 : decode cX7_forged 4 = .ok (.getfield 80, 3) := by decide +kernel
theorem dX7_forged_7 : decode cX7_forged 7 = .ok (.aload_n 0, 1) := by decide +kernel
theorem dX7_forged_8 : decode cX7_forged 8 = .ok (.getfield 10, 3) := by decide +kernel
theorem dX7_forged_11 : decode cX7_forged 11 = .ok (.getfield 170, 3) := by decide +kernel
theorem dX7_forged_14 : decode cX7_forged 14 = .ok (.if_icmp .eq 10, 3) := by decide +kernel
theorem dX7_forged_17 : decode cX7_forged 17 = .ok (.aload_n 0, 1) := by decide +kernel
theorem dX7_forged_18 : decode cX7_forged 18 = .ok (.bipush (-3), 2) := by decide +kernel
theorem dX7_forged_20 : decode cX7_forged 20 = .ok (.invokevirtual 69, 3) := by decide +kernel
theorem dX7_forged_23 : decode cX7_forged 23 = .ok (.ireturn, 1) := by decide +kernel
theorem dX7_forged_24 : decode cX7_forged 24 = .ok (.aload_n 0, 1) := by decide +kernel
theorem dX7_forged_25 : decode cX7_forged 25 = .ok (.getfield 41, 3) := by decide +kernel
theorem dX7_forged_28 : decode cX7_forged 28 = .ok (.aload_n 0, 1) := by decide +kernel
theorem dX7_forged_29 : decode cX7_forged 29 = .ok (.getfield 10, 3) := by decide +kernel
theorem dX7_forged_32 : decode cX7_forged 32 = .ok (.aload_n 0, 1) := by decide +kernel
theorem dX7_forged_33 : decode cX7_forged 33 = .ok (.getfield 28, 3) := by decide +kernel
theorem dX7_forged_36 : decode cX7_forged 36 = .ok (.invokevirtual 220, 3) := by decide +kernel
theorem dX7_forged_39 : decode cX7_forged 39 = .ok (.ireturn, 1) := by decide +kernel
theorem dX7_judge_0 : decode cX7_judge 0 = .ok (.aload_n 0, 1) := by decide +kernel
theorem dX7_judge_1 : decode cX7_judge 1 = .ok (.invokevirtual 224, 3) := by decide +kernel
theorem dX7_judge_4 : decode cX7_judge 4 = .ok (.istore_n 1, 1) := by decide +kernel
theorem dX7_judge_5 : decode cX7_judge 5 = .ok (.aload_n 0, 1) := by decide +kernel
theorem dX7_judge_6 : decode cX7_judge 6 = .ok (.getfield 28, 3) := by decide +kernel
theorem dX7_judge_9 : decode cX7_judge 9 = .ok (.invokevirtual 92, 3) := by decide +kernel
theorem dX7_judge_12 : decode cX7_judge 12 = .ok (.iload_n 1, 1) := by decide +kernel
theorem dX7_judge_13 : decode cX7_judge 13 = .ok (.ireturn, 1) := by decide +kernel
theorem dX7_seeds_0 : decode cX7_seeds 0 = .ok (.iload_n 1, 1) := by decide +kernel
theorem dX7_seeds_1 : decode cX7_seeds 1 = .ok (.iconst 1, 1) := by decide +kernel
theorem dX7_seeds_2 : decode cX7_seeds 2 = .ok (.if_icmp .ge 10, 3) := by decide +kernel
theorem dX7_seeds_5 : decode cX7_seeds 5 = .ok (.aload_n 0, 1) := by decide +kernel
theorem dX7_seeds_6 : decode cX7_seeds 6 = .ok (.bipush (-4), 2) := by decide +kernel
theorem dX7_seeds_8 : decode cX7_seeds 8 = .ok (.invokevirtual 69, 3) := by decide +kernel
theorem dX7_seeds_11 : decode cX7_seeds 11 = .ok (.ireturn, 1) := by decide +kernel
theorem dX7_seeds_12 : decode cX7_seeds 12 = .ok (.iload_n 1, 1) := by decide +kernel
theorem dX7_seeds_13 : decode cX7_seeds 13 = .ok (.bipush 20, 2) := by decide +kernel
theorem dX7_seeds_15 : decode cX7_seeds 15 = .ok (.if_icmp .le 10, 3) := by decide +kernel
theorem dX7_seeds_18 : decode cX7_seeds 18 = .ok (.aload_n 0, 1) := by decide +kernel
theorem dX7_seeds_19 : decode cX7_seeds 19 = .ok (.bipush (-6), 2) := by decide +kernel
theorem dX7_seeds_21 : decode cX7_seeds 21 = .ok (.invokevirtual 69, 3) := by decide +kernel
theorem dX7_seeds_24 : decode cX7_seeds 24 = .ok (.ireturn, 1) := by decide +kernel
theorem dX7_seeds_25 : decode cX7_seeds 25 = .ok (.aload_n 0, 1) := by decide +kernel
theorem dX7_seeds_26 : decode cX7_seeds 26 = .ok (.getfield 10, 3) := by decide +kernel
theorem dX7_seeds_29 : decode cX7_seeds 29 = .ok (.getfield 170, 3) := by decide +kernel
theorem dX7_seeds_32 : decode cX7_seeds 32 = .ok (.ifCond .ne 10, 3) := by decide +kernel
theorem dX7_seeds_35 : decode cX7_seeds 35 = .ok (.aload_n 0, 1) := by decide +kernel
theorem dX7_seeds_36 : decode cX7_seeds 36 = .ok (.bipush (-3), 2) := by decide +kernel
theorem dX7_seeds_38 : decode cX7_seeds 38 = .ok (.invokevirtual 69, 3) := by decide +kernel
theorem dX7_seeds_41 : decode cX7_seeds 41 = .ok (.ireturn, 1) := by decide +kernel
theorem dX7_seeds_42 : decode cX7_seeds 42 = .ok (.aload_n 0, 1) := by decide +kernel
theorem dX7_seeds_43 : decode cX7_seeds 43 = .ok (.getfield 16, 3) := by decide +kernel
theorem dX7_seeds_46 : decode cX7_seeds 46 = .ok (.aload_n 0, 1) := by decide +kernel
theorem dX7_seeds_47 : decode cX7_seeds 47 = .ok (.getfield 10, 3) := by decide +kernel
theorem dX7_seeds_50 : decode cX7_seeds 50 = .ok (.invokevirtual 84, 3) := by decide +kernel
theorem dX7_seeds_53 : decode cX7_seeds 53 = .ok (.iload_n 2, 1) := by decide +kernel
theorem dX7_seeds_54 : decode cX7_seeds 54 = .ok (.istore_n 3, 1) := by decide +kernel
theorem dX7_seeds_55 : decode cX7_seeds 55 = .ok (.iconst 0, 1) := by decide +kernel
theorem dX7_seeds_56 : decode cX7_seeds 56 = .ok (.istore 4, 2) := by decide +kernel
theorem dX7_seeds_58 : decode cX7_seeds 58 = .ok (.iconst 0, 1) := by decide +kernel
theorem dX7_seeds_59 : decode cX7_seeds 59 = .ok (.istore 5, 2) := by decide +kernel
theorem dX7_seeds_61 : decode cX7_seeds 61 = .ok (.iload 5, 2) := by decide +kernel
theorem dX7_seeds_63 : decode cX7_seeds 63 = .ok (.iload_n 1, 1) := by decide +kernel
theorem dX7_seeds_64 : decode cX7_seeds 64 = .ok (.if_icmp .ge 78, 3) := by decide +kernel
theorem dX7_seeds_67 : decode cX7_seeds 67 = .ok (.iload_n 3, 1) := by decide +kernel
theorem dX7_seeds_68 : decode cX7_seeds 68 = .ok (.invokestatic 228, 3) := by decide +kernel
theorem dX7_seeds_71 : decode cX7_seeds 71 = .ok (.istore_n 3, 1) := by decide +kernel
theorem dX7_seeds_72 : decode cX7_seeds 72 = .ok (.iload_n 3, 1) := by decide +kernel
theorem dX7_seeds_73 : decode cX7_seeds 73 = .ok (.aload_n 0, 1) := by decide +kernel
theorem dX7_seeds_74 : decode cX7_seeds 74 = .ok (.getfield 10, 3) := by decide +kernel
theorem dX7_seeds_77 : decode cX7_seeds 77 = .ok (.getfield 170, 3) := by decide +kernel
theorem dX7_seeds_80 : decode cX7_seeds 80 = .ok (.invokestatic 231, 3) := by decide +kernel
theorem dX7_seeds_83 : decode cX7_seeds 83 = .ok (.istore 6, 2) := by decide +kernel
theorem dX7_seeds_85 : decode cX7_seeds 85 = .ok (.iload_n 3, 1) := by decide +kernel
theorem dX7_seeds_86 : decode cX7_seeds 86 = .ok (.invokestatic 228, 3) := by decide +kernel
theorem dX7_seeds_89 : decode cX7_seeds 89 = .ok (.istore_n 3, 1) := by decide +kernel
theorem dX7_seeds_90 : decode cX7_seeds 90 = .ok (.iload_n 3, 1) := by decide +kernel
theorem dX7_seeds_91 : decode cX7_seeds 91 = .ok (.aload_n 0, 1) := by decide +kernel
theorem dX7_seeds_92 : decode cX7_seeds 92 = .ok (.getfield 10, 3) := by decide +kernel
theorem dX7_seeds_95 : decode cX7_seeds 95 = .ok (.getfield 170, 3) := by decide +kernel
theorem dX7_seeds_98 : decode cX7_seeds 98 = .ok (.invokestatic 231, 3) := by decide +kernel
theorem dX7_seeds_101 : decode cX7_seeds 101 = .ok (.istore 7, 2) := by decide +kernel
theorem dX7_seeds_103 : decode cX7_seeds 103 = .ok (.aload_n 0, 1) := by decide +kernel
theorem dX7_seeds_104 : decode cX7_seeds 104 = .ok (.getfield 16, 3) := by decide +kernel
theorem dX7_seeds_107 : decode cX7_seeds 107 = .ok (.iload 6, 2) := by decide +kernel
theorem dX7_seeds_109 : decode cX7_seeds 109 = .ok (.iload 7, 2) := by decide +kernel
theorem dX7_seeds_111 : decode cX7_seeds 111 = .ok (.invokevirtual 130, 3) := by decide +kernel
theorem dX7_seeds_114 : decode cX7_seeds 114 = .ok (.aload_n 0, 1) := by decide +kernel
theorem dX7_seeds_115 : decode cX7_seeds 115 = .ok (.getfield 16, 3) := by decide +kernel
theorem dX7_seeds_118 : decode cX7_seeds 118 = .ok (.invokestatic 145, 3) := by decide +kernel
theorem dX7_seeds_121 : decode cX7_seeds 121 = .ok (.iload 4, 2) := by decide +kernel
theorem dX7_seeds_123 : decode cX7_seeds 123 = .ok (.aload_n 0, 1) := by decide +kernel
theorem dX7_seeds_124 : decode cX7_seeds 124 = .ok (.getfield 16, 3) := by decide +kernel
theorem dX7_seeds_127 : decode cX7_seeds 127 = .ok (.invokestatic 159, 3) := by decide +kernel
theorem dX7_seeds_130 : decode cX7_seeds 130 = .ok (.invokestatic 235, 3) := by decide +kernel
theorem dX7_seeds_133 : decode cX7_seeds 133 = .ok (.iadd, 1) := by decide +kernel
theorem dX7_seeds_134 : decode cX7_seeds 134 = .ok (.istore 4, 2) := by decide +kernel
theorem dX7_seeds_136 : decode cX7_seeds 136 = .ok (.iinc 5 1, 3) := by decide +kernel
theorem dX7_seeds_139 : decode cX7_seeds 139 = .ok (.goto (-78), 3) := by decide +kernel
theorem dX7_seeds_142 : decode cX7_seeds 142 = .ok (.iload 4, 2) := by decide +kernel
theorem dX7_seeds_144 : decode cX7_seeds 144 = .ok (.ireturn, 1) := by decide +kernel
theorem dX7_image_0 : decode cX7_image 0 = .ok (.aload_n 0, 1) := by decide +kernel
theorem dX7_image_1 : decode cX7_image 1 = .ok (.getfield 56, 3) := by decide +kernel
theorem dX7_image_4 : decode cX7_image 4 = .ok (.aload_n 0, 1) := by decide +kernel
theorem dX7_image_5 : decode cX7_image 5 = .ok (.getfield 10, 3) := by decide +kernel
theorem dX7_image_8 : decode cX7_image 8 = .ok (.invokevirtual 84, 3) := by decide +kernel
theorem dX7_image_11 : decode cX7_image 11 = .ok (.aload_n 0, 1) := by decide +kernel
theorem dX7_image_12 : decode cX7_image 12 = .ok (.getfield 59, 3) := by decide +kernel
theorem dX7_image_15 : decode cX7_image 15 = .ok (.aload_n 0, 1) := by decide +kernel
theorem dX7_image_16 : decode cX7_image 16 = .ok (.getfield 24, 3) := by decide +kernel
theorem dX7_image_19 : decode cX7_image 19 = .ok (.invokevirtual 240, 3) := by decide +kernel
theorem dX7_image_22 : decode cX7_image 22 = .ok (.aload_n 0, 1) := by decide +kernel
theorem dX7_image_23 : decode cX7_image 23 = .ok (.getfield 62, 3) := by decide +kernel
theorem dX7_image_26 : decode cX7_image 26 = .ok (.aload_n 0, 1) := by decide +kernel
theorem dX7_image_27 : decode cX7_image 27 = .ok (.getfield 28, 3) := by decide +kernel
theorem dX7_image_30 : decode cX7_image 30 = .ok (.invokevirtual 240, 3) := by decide +kernel
theorem dX7_image_33 : decode cX7_image 33 = .ok (.aload_n 0, 1) := by decide +kernel
theorem dX7_image_34 : decode cX7_image 34 = .ok (.iconst 1, 1) := by decide +kernel
theorem dX7_image_35 : decode cX7_image 35 = .ok (.putfield 65, 3) := by decide +kernel
theorem dX7_image_38 : decode cX7_image 38 = .ok (.aload_n 0, 1) := by decide +kernel
theorem dX7_image_39 : decode cX7_image 39 = .ok (.getfield 10, 3) := by decide +kernel
theorem dX7_image_42 : decode cX7_image 42 = .ok (.getfield 142, 3) := by decide +kernel
theorem dX7_image_45 : decode cX7_image 45 = .ok (.ireturn, 1) := by decide +kernel
theorem dX7_on_0 : decode cX7_on 0 = .ok (.aload_n 0, 1) := by decide +kernel
theorem dX7_on_1 : decode cX7_on 1 = .ok (.getfield 65, 3) := by decide +kernel
theorem dX7_on_4 : decode cX7_on 4 = .ok (.ifCond .ne 10, 3) := by decide +kernel
theorem dX7_on_7 : decode cX7_on 7 = .ok (.aload_n 0, 1) := by decide +kernel
theorem dX7_on_8 : decode cX7_on 8 = .ok (.bipush (-3), 2) := by decide +kernel
theorem dX7_on_10 : decode cX7_on 10 = .ok (.invokevirtual 69, 3) := by decide +kernel
theorem dX7_on_13 : decode cX7_on 13 = .ok (.ireturn, 1) := by decide +kernel
theorem dX7_on_14 : decode cX7_on 14 = .ok (.aload_n 0, 1) := by decide +kernel
theorem dX7_on_15 : decode cX7_on 15 = .ok (.getfield 10, 3) := by decide +kernel
theorem dX7_on_18 : decode cX7_on 18 = .ok (.aload_n 0, 1) := by decide +kernel
theorem dX7_on_19 : decode cX7_on 19 = .ok (.getfield 56, 3) := by decide +kernel
theorem dX7_on_22 : decode cX7_on 22 = .ok (.invokevirtual 84, 3) := by decide +kernel
theorem dX7_on_25 : decode cX7_on 25 = .ok (.aload_n 0, 1) := by decide +kernel
theorem dX7_on_26 : decode cX7_on 26 = .ok (.getfield 24, 3) := by decide +kernel
theorem dX7_on_29 : decode cX7_on 29 = .ok (.aload_n 0, 1) := by decide +kernel
theorem dX7_on_30 : decode cX7_on 30 = .ok (.getfield 59, 3) := by decide +kernel
theorem dX7_on_33 : decode cX7_on 33 = .ok (.invokevirtual 240, 3) := by decide +kernel
theorem dX7_on_36 : decode cX7_on 36 = .ok (.aload_n 0, 1) := by decide +kernel
theorem dX7_on_37 : decode cX7_on 37 = .ok (.getfield 28, 3) := by decide +kernel
theorem dX7_on_40 : decode cX7_on 40 = .ok (.aload_n 0, 1) := by decide +kernel
theorem dX7_on_41 : decode cX7_on 41 = .ok (.getfield 62, 3) := by decide +kernel
theorem dX7_on_44 : decode cX7_on 44 = .ok (.invokevirtual 240, 3) := by decide +kernel
theorem dX7_on_47 : decode cX7_on 47 = .ok (.aload_n 0, 1) := by decide +kernel
theorem dX7_on_48 : decode cX7_on 48 = .ok (.getfield 10, 3) := by decide +kernel
theorem dX7_on_51 : decode cX7_on 51 = .ok (.getfield 142, 3) := by decide +kernel
theorem dX7_on_54 : decode cX7_on 54 = .ok (.ireturn, 1) := by decide +kernel
theorem dX7_count_0 : decode cX7_count 0 = .ok (.iload_n 1, 1) := by decide +kernel
theorem dX7_count_1 : decode cX7_count 1 = .ok (.tableswitch 119 0 7 #[47, 55, 63, 71, 79, 87, 103, 111], 47) := by decide +kernel
theorem dX7_count_48 : decode cX7_count 48 = .ok (.aload_n 0, 1) := by decide +kernel
theorem dX7_count_49 : decode cX7_count 49 = .ok (.getfield 10, 3) := by decide +kernel
theorem dX7_count_52 : decode cX7_count 52 = .ok (.getfield 170, 3) := by decide +kernel
theorem dX7_count_55 : decode cX7_count 55 = .ok (.ireturn, 1) := by decide +kernel
theorem dX7_count_56 : decode cX7_count 56 = .ok (.aload_n 0, 1) := by decide +kernel
theorem dX7_count_57 : decode cX7_count 57 = .ok (.getfield 10, 3) := by decide +kernel
theorem dX7_count_60 : decode cX7_count 60 = .ok (.getfield 123, 3) := by decide +kernel
theorem dX7_count_63 : decode cX7_count 63 = .ok (.ireturn, 1) := by decide +kernel
theorem dX7_count_64 : decode cX7_count 64 = .ok (.aload_n 0, 1) := by decide +kernel
theorem dX7_count_65 : decode cX7_count 65 = .ok (.getfield 10, 3) := by decide +kernel
theorem dX7_count_68 : decode cX7_count 68 = .ok (.getfield 142, 3) := by decide +kernel
theorem dX7_count_71 : decode cX7_count 71 = .ok (.ireturn, 1) := by decide +kernel
theorem dX7_count_72 : decode cX7_count 72 = .ok (.aload_n 0, 1) := by decide +kernel
theorem dX7_count_73 : decode cX7_count 73 = .ok (.getfield 10, 3) := by decide +kernel
theorem dX7_count_76 : decode cX7_count 76 = .ok (.getfield 136, 3) := by decide +kernel
theorem dX7_count_79 : decode cX7_count 79 = .ok (.ireturn, 1) := by decide +kernel
theorem dX7_count_80 : decode cX7_count 80 = .ok (.aload_n 0, 1) := by decide +kernel
theorem dX7_count_81 : decode cX7_count 81 = .ok (.getfield 10, 3) := by decide +kernel
theorem dX7_count_84 : decode cX7_count 84 = .ok (.getfield 139, 3) := by decide +kernel
theorem dX7_count_87 : decode cX7_count 87 = .ok (.ireturn, 1) := by decide +kernel
theorem dX7_count_88 : decode cX7_count 88 = .ok (.aload_n 0, 1) := by decide +kernel
theorem dX7_count_89 : decode cX7_count 89 = .ok (.getfield 10, 3) := by decide +kernel
theorem dX7_count_92 : decode cX7_count 92 = .ok (.getfield 243, 3) := by decide +kernel
theorem dX7_count_95 : decode cX7_count 95 = .ok (.ifCond .eq 7, 3) := by decide +kernel
theorem dX7_count_98 : decode cX7_count 98 = .ok (.iconst 1, 1) := by decide +kernel
theorem dX7_count_99 : decode cX7_count 99 = .ok (.goto 4, 3) := by decide +kernel
theorem dX7_count_102 : decode cX7_count 102 = .ok (.iconst 0, 1) := by decide +kernel
theorem dX7_count_103 : decode cX7_count 103 = .ok (.ireturn, 1) := by decide +kernel
theorem dX7_count_104 : decode cX7_count 104 = .ok (.aload_n 0, 1) := by decide +kernel
theorem dX7_count_105 : decode cX7_count 105 = .ok (.getfield 28, 3) := by decide +kernel
theorem dX7_count_108 : decode cX7_count 108 = .ok (.getfield 80, 3) := by decide +kernel
theorem dX7_count_111 : decode cX7_count 111 = .ok (.ireturn, 1) := by decide +kernel
theorem dX7_count_112 : decode cX7_count 112 = .ok (.aload_n 0, 1) := by decide +kernel
theorem dX7_count_113 : decode cX7_count 113 = .ok (.getfield 24, 3) := by decide +kernel
theorem dX7_count_116 : decode cX7_count 116 = .ok (.getfield 80, 3) := by decide +kernel
theorem dX7_count_119 : decode cX7_count 119 = .ok (.ireturn, 1) := by decide +kernel
theorem dX7_count_120 : decode cX7_count 120 = .ok (.iload_n 1, 1) := by decide +kernel
theorem dX7_count_121 : decode cX7_count 121 = .ok (.bipush 11, 2) := by decide +kernel
theorem dX7_count_123 : decode cX7_count 123 = .ok (.if_icmp .lt 21, 3) := by decide +kernel
theorem dX7_count_126 : decode cX7_count 126 = .ok (.iload_n 1, 1) := by decide +kernel
theorem dX7_count_127 : decode cX7_count 127 = .ok (.bipush 16, 2) := by decide +kernel
theorem dX7_count_129 : decode cX7_count 129 = .ok (.if_icmp .gt 15, 3) := by decide +kernel
theorem dX7_count_132 : decode cX7_count 132 = .ok (.aload_n 0, 1) := by decide +kernel
theorem dX7_count_133 : decode cX7_count 133 = .ok (.getfield 52, 3) := by decide +kernel
theorem dX7_count_136 : decode cX7_count 136 = .ok (.iload_n 1, 1) := by decide +kernel
theorem dX7_count_137 : decode cX7_count 137 = .ok (.bipush 10, 2) := by decide +kernel
theorem dX7_count_139 : decode cX7_count 139 = .ok (.isub, 1) := by decide +kernel
theorem dX7_count_140 : decode cX7_count 140 = .ok (.iaload, 1) := by decide +kernel
theorem dX7_count_141 : decode cX7_count 141 = .ok (.goto 5, 3) := by decide +kernel
theorem dX7_count_144 : decode cX7_count 144 = .ok (.bipush (-9), 2) := by decide +kernel
theorem dX7_count_146 : decode cX7_count 146 = .ok (.ireturn, 1) := by decide +kernel
theorem dX7_refuse_0 : decode cX7_refuse 0 = .ok (.iload_n 1, 1) := by decide +kernel
theorem dX7_refuse_1 : decode cX7_refuse 1 = .ok (.ineg, 1) := by decide +kernel
theorem dX7_refuse_2 : decode cX7_refuse 2 = .ok (.ifCond .lt 24, 3) := by decide +kernel
theorem dX7_refuse_5 : decode cX7_refuse 5 = .ok (.iload_n 1, 1) := by decide +kernel
theorem dX7_refuse_6 : decode cX7_refuse 6 = .ok (.ineg, 1) := by decide +kernel
theorem dX7_refuse_7 : decode cX7_refuse 7 = .ok (.aload_n 0, 1) := by decide +kernel
theorem dX7_refuse_8 : decode cX7_refuse 8 = .ok (.getfield 52, 3) := by decide +kernel
theorem dX7_refuse_11 : decode cX7_refuse 11 = .ok (.arraylength, 1) := by decide +kernel
theorem dX7_refuse_12 : decode cX7_refuse 12 = .ok (.if_icmp .ge 14, 3) := by decide +kernel
theorem dX7_refuse_15 : decode cX7_refuse 15 = .ok (.aload_n 0, 1) := by decide +kernel
theorem dX7_refuse_16 : decode cX7_refuse 16 = .ok (.getfield 52, 3) := by decide +kernel
theorem dX7_refuse_19 : decode cX7_refuse 19 = .ok (.iload_n 1, 1) := by decide +kernel
theorem dX7_refuse_20 : decode cX7_refuse 20 = .ok (.ineg, 1) := by decide +kernel
theorem dX7_refuse_21 : decode cX7_refuse 21 = .ok (.dup2, 1) := by decide +kernel
theorem dX7_refuse_22 : decode cX7_refuse 22 = .ok (.iaload, 1) := by decide +kernel
theorem dX7_refuse_23 : decode cX7_refuse 23 = .ok (.iconst 1, 1) := by decide +kernel
theorem dX7_refuse_24 : decode cX7_refuse 24 = .ok (.iadd, 1) := by decide +kernel
theorem dX7_refuse_25 : decode cX7_refuse 25 = .ok (.iastore, 1) := by decide +kernel
theorem dX7_refuse_26 : decode cX7_refuse 26 = .ok (.iload_n 1, 1) := by decide +kernel
theorem dX7_refuse_27 : decode cX7_refuse 27 = .ok (.ireturn, 1) := by decide +kernel
theorem dX7_isLaw_0 : decode cX7_isLaw 0 = .ok (.iload_n 0, 1) := by decide +kernel
theorem dX7_isLaw_1 : decode cX7_isLaw 1 = .ok (.ifCond .lt 13, 3) := by decide +kernel
theorem dX7_isLaw_4 : decode cX7_isLaw 4 = .ok (.iload_n 0, 1) := by decide +kernel
theorem dX7_isLaw_5 : decode cX7_isLaw 5 = .ok (.bipush 6, 2) := by decide +kernel
theorem dX7_isLaw_7 : decode cX7_isLaw 7 = .ok (.if_icmp .gt 7, 3) := by decide +kernel
theorem dX7_isLaw_10 : decode cX7_isLaw 10 = .ok (.iconst 1, 1) := by decide +kernel
theorem dX7_isLaw_11 : decode cX7_isLaw 11 = .ok (.goto 4, 3) := by decide +kernel
theorem dX7_isLaw_14 : decode cX7_isLaw 14 = .ok (.iconst 0, 1) := by decide +kernel
theorem dX7_isLaw_15 : decode cX7_isLaw 15 = .ok (.ireturn, 1) := by decide +kernel
theorem dX7_mendsWith_0 : decode cX7_mendsWith 0 = .ok (.iload_n 2, 1) := by decide +kernel
theorem dX7_mendsWith_1 : decode cX7_mendsWith 1 = .ok (.ifCond .gt 19, 3) := by decide +kernel
theorem dX7_mendsWith_4 : decode cX7_mendsWith 4 = .ok (.aload_n 0, 1) := by decide +kernel
theorem dX7_mendsWith_5 : decode cX7_mendsWith 5 = .ok (.invokestatic 159, 3) := by decide +kernel
theorem dX7_mendsWith_8 : decode cX7_mendsWith 8 = .ok (.iload_n 1, 1) := by decide +kernel
theorem dX7_mendsWith_9 : decode cX7_mendsWith 9 = .ok (.iand, 1) := by decide +kernel
theorem dX7_mendsWith_10 : decode cX7_mendsWith 10 = .ok (.iload_n 1, 1) := by decide +kernel
theorem dX7_mendsWith_11 : decode cX7_mendsWith 11 = .ok (.if_icmp .ne 7, 3) := by decide +kernel
theorem dX7_mendsWith_14 : decode cX7_mendsWith 14 = .ok (.iconst 1, 1) := by decide +kernel
theorem dX7_mendsWith_15 : decode cX7_mendsWith 15 = .ok (.goto 4, 3) := by decide +kernel
theorem dX7_mendsWith_18 : decode cX7_mendsWith 18 = .ok (.iconst 0, 1) := by decide +kernel
theorem dX7_mendsWith_19 : decode cX7_mendsWith 19 = .ok (.ireturn, 1) := by decide +kernel
theorem dX7_mendsWith_20 : decode cX7_mendsWith 20 = .ok (.iconst 0, 1) := by decide +kernel
theorem dX7_mendsWith_21 : decode cX7_mendsWith 21 = .ok (.istore_n 3, 1) := by decide +kernel
theorem dX7_mendsWith_22 : decode cX7_mendsWith 22 = .ok (.iconst 0, 1) := by decide +kernel
theorem dX7_mendsWith_23 : decode cX7_mendsWith 23 = .ok (.istore 4, 2) := by decide +kernel
theorem dX7_mendsWith_25 : decode cX7_mendsWith 25 = .ok (.iload 4, 2) := by decide +kernel
theorem dX7_mendsWith_27 : decode cX7_mendsWith 27 = .ok (.aload_n 0, 1) := by decide +kernel
theorem dX7_mendsWith_28 : decode cX7_mendsWith 28 = .ok (.getfield 170, 3) := by decide +kernel
