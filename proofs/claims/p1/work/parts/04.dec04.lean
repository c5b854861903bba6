theorem dX8_oneOf_3 : decode cX8_oneOf 3 = .ok (.istore_n 3, 1) := by decide +kernel
theorem dX8_oneOf_4 : decode cX8_oneOf 4 = .ok (.iload_n 3, 1) := by decide +kernel
theorem dX8_oneOf_5 : decode cX8_oneOf 5 = .ok (.aload_n 1, 1) := by decide +kernel
theorem dX8_oneOf_6 : decode cX8_oneOf 6 = .ok (.arraylength, 1) := by decide +kernel
theorem dX8_oneOf_7 : decode cX8_oneOf 7 = .ok (.if_icmp .ge 48, 3) := by decide +kernel
theorem dX8_oneOf_10 : decode cX8_oneOf 10 = .ok (.aload_n 0, 1) := by decide +kernel
theorem dX8_oneOf_11 : decode cX8_oneOf 11 = .ok (.getfield 79, 3) := by decide +kernel
theorem dX8_oneOf_14 : decode cX8_oneOf 14 = .ok (.ifCond .eq 41, 3) := by decide +kernel
theorem dX8_oneOf_17 : decode cX8_oneOf 17 = .ok (.iload_n 2, 1) := by decide +kernel
theorem dX8_oneOf_18 : decode cX8_oneOf 18 = .ok (.ifCond .ge 37, 3) := by decide +kernel
theorem dX8_oneOf_21 : decode cX8_oneOf 21 = .ok (.aload_n 0, 1) := by decide +kernel
theorem dX8_oneOf_22 : decode cX8_oneOf 22 = .ok (.getfield 82, 3) := by decide +kernel
theorem dX8_oneOf_25 : decode cX8_oneOf 25 = .ok (.aload_n 0, 1) := by decide +kernel
theorem dX8_oneOf_26 : decode cX8_oneOf 26 = .ok (.getfield 75, 3) := by decide +kernel
theorem dX8_oneOf_29 : decode cX8_oneOf 29 = .ok (.if_icmp .ge 20, 3) := by decide +kernel
theorem dX8_oneOf_49 : decode cX8_oneOf 49 = .ok (.iinc 3 1, 3) := by decide +kernel
theorem dX8_oneOf_52 : decode cX8_oneOf 52 = .ok (.goto (-48), 3) := by decide +kernel
theorem dX8_oneOf_55 : decode cX8_oneOf 55 = .ok (.iload_n 2, 1) := by decide +kernel
theorem dX8_oneOf_56 : decode cX8_oneOf 56 = .ok (.ifCond .ge 10, 3) := by decide +kernel
theorem dX8_oneOf_59 : decode cX8_oneOf 59 = .ok (.aload_n 0, 1) := by decide +kernel
theorem dX8_oneOf_60 : decode cX8_oneOf 60 = .ok (.iconst 0, 1) := by decide +kernel
theorem dX8_oneOf_61 : decode cX8_oneOf 61 = .ok (.putfield 79, 3) := by decide +kernel
theorem dX8_oneOf_64 : decode cX8_oneOf 64 = .ok (.iconst 0, 1) := by decide +kernel
theorem dX8_oneOf_65 : decode cX8_oneOf 65 = .ok (.ireturn, 1) := by decide +kernel
theorem dX8_figures_0 : decode cX8_figures 0 = .ok (.iconst 0, 1) := by decide +kernel
theorem dX8_figures_1 : decode cX8_figures 1 = .ok (.istore_n 2, 1) := by decide +kernel
theorem dX8_figures_2 : decode cX8_figures 2 = .ok (.iconst 0, 1) := by decide +kernel
theorem dX8_figures_3 : decode cX8_figures 3 = .ok (.istore_n 3, 1) := by decide +kernel
theorem dX8_figures_4 : decode cX8_figures 4 = .ok (.aload_n 0, 1) := by decide +kernel
theorem dX8_figures_5 : decode cX8_figures 5 = .ok (.getfield 79, 3) := by decide +kernel
theorem dX8_figures_8 : decode cX8_figures 8 = .ok (.ifCond .eq 81, 3) := by decide +kernel
theorem dX8_figures_89 : decode cX8_figures 89 = .ok (.iload_n 3, 1) := by decide +kernel
theorem dX8_figures_90 : decode cX8_figures 90 = .ok (.ifCond .ne 8, 3) := by decide +kernel
theorem dX8_figures_93 : decode cX8_figures 93 = .ok (.aload_n 0, 1) := by decide +kernel
theorem dX8_figures_94 : decode cX8_figures 94 = .ok (.iconst 0, 1) := by decide +kernel
theorem dX8_figures_95 : decode cX8_figures 95 = .ok (.putfield 79, 3) := by decide +kernel
theorem dX8_figures_98 : decode cX8_figures 98 = .ok (.iload_n 2, 1) := by decide +kernel
theorem dX8_figures_99 : decode cX8_figures 99 = .ok (.ireturn, 1) := by decide +kernel
theorem dX8_statement_0 : decode cX8_statement 0 = .ok (.aload_n 0, 1) := by decide +kernel
theorem dX8_statement_1 : decode cX8_statement 1 = .ok (.aload_n 0, 1) := by decide +kernel
theorem dX8_statement_2 : decode cX8_statement 2 = .ok (.aload_n 0, 1) := by decide +kernel
theorem dX8_statement_3 : decode cX8_statement 3 = .ok (.getfield 28, 3) := by decide +kernel
theorem dX8_statement_6 : decode cX8_statement 6 = .ok (.invokevirtual 85, 3) := by decide +kernel
theorem dX8_statement_9 : decode cX8_statement 9 = .ok (.putfield 89, 3) := by decide +kernel
theorem dX8_statement_12 : decode cX8_statement 12 = .ok (.aload_n 0, 1) := by decide +kernel
theorem dX8_statement_13 : decode cX8_statement 13 = .ok (.getfield 89, 3) := by decide +kernel
theorem dX8_statement_16 : decode cX8_statement 16 = .ok (.ifCond .ne 42, 3) := by decide +kernel
theorem dX8_statement_19 : decode cX8_statement 19 = .ok (.aload_n 0, 1) := by decide +kernel
theorem dX8_statement_20 : decode cX8_statement 20 = .ok (.getfield 35, 3) := by decide +kernel
theorem dX8_statement_23 : decode cX8_statement 23 = .ok (.iconst 0, 1) := by decide +kernel
theorem dX8_statement_24 : decode cX8_statement 24 = .ok (.aload_n 0, 1) := by decide +kernel
theorem dX8_statement_25 : decode cX8_statement 25 = .ok (.aload_n 0, 1) := by decide +kernel
theorem dX8_statement_26 : decode cX8_statement 26 = .ok (.getfield 32, 3) := by decide +kernel
theorem dX8_statement_29 : decode cX8_statement 29 = .ok (.invokevirtual 85, 3) := by decide +kernel
theorem dX8_statement_32 : decode cX8_statement 32 = .ok (.iastore, 1) := by decide +kernel
theorem dX8_statement_33 : decode cX8_statement 33 = .ok (.aload_n 0, 1) := by decide +kernel
theorem dX8_statement_34 : decode cX8_statement 34 = .ok (.getfield 35, 3) := by decide +kernel
theorem dX8_statement_37 : decode cX8_statement 37 = .ok (.iconst 1, 1) := by decide +kernel
theorem dX8_statement_38 : decode cX8_statement 38 = .ok (.aload_n 0, 1) := by decide +kernel
theorem dX8_statement_39 : decode cX8_statement 39 = .ok (.iconst 1, 1) := by decide +kernel
theorem dX8_statement_40 : decode cX8_statement 40 = .ok (.invokevirtual 92, 3) := by decide +kernel
theorem dX8_statement_43 : decode cX8_statement 43 = .ok (.iastore, 1) := by decide +kernel
theorem dX8_statement_44 : decode cX8_statement 44 = .ok (.aload_n 0, 1) := by decide +kernel
theorem dX8_statement_45 : decode cX8_statement 45 = .ok (.getfield 35, 3) := by decide +kernel
theorem dX8_statement_48 : decode cX8_statement 48 = .ok (.iconst 2, 1) := by decide +kernel
theorem dX8_statement_49 : decode cX8_statement 49 = .ok (.aload_n 0, 1) := by decide +kernel
theorem dX8_statement_50 : decode cX8_statement 50 = .ok (.iconst 1, 1) := by decide +kernel
theorem dX8_statement_51 : decode cX8_statement 51 = .ok (.invokevirtual 92, 3) := by decide +kernel
theorem dX8_statement_54 : decode cX8_statement 54 = .ok (.iastore, 1) := by decide +kernel
theorem dX8_statement_55 : decode cX8_statement 55 = .ok (.goto 76, 3) := by decide +kernel
theorem dX8_statement_131 : decode cX8_statement 131 = .ok (.aload_n 0, 1) := by decide +kernel
theorem dX8_statement_132 : decode cX8_statement 132 = .ok (.getfield 79, 3) := by decide +kernel
theorem dX8_statement_135 : decode cX8_statement 135 = .ok (.ifCond .eq 41, 3) := by decide +kernel
theorem dX8_statement_176 : decode cX8_statement 176 = .ok (.aload_n 0, 1) := by decide +kernel
theorem dX8_statement_177 : decode cX8_statement 177 = .ok (.iconst 0, 1) := by decide +kernel
theorem dX8_statement_178 : decode cX8_statement 178 = .ok (.putfield 79, 3) := by decide +kernel
theorem dX8_statement_181 : decode cX8_statement 181 = .ok (.return_, 1) := by decide +kernel
theorem dX8_read_0 : decode cX8_read 0 = .ok (.iconst 0, 1) := by decide +kernel
theorem dX8_read_1 : decode cX8_read 1 = .ok (.istore_n 1, 1) := by decide +kernel
theorem dX8_read_2 : decode cX8_read 2 = .ok (.aload_n 0, 1) := by decide +kernel
theorem dX8_read_3 : decode cX8_read 3 = .ok (.iconst 0, 1) := by decide +kernel
theorem dX8_read_4 : decode cX8_read 4 = .ok (.putfield 82, 3) := by decide +kernel
theorem dX8_read_7 : decode cX8_read 7 = .ok (.aload_n 0, 1) := by decide +kernel
theorem dX8_read_8 : decode cX8_read 8 = .ok (.iconst 1, 1) := by decide +kernel
theorem dX8_read_9 : decode cX8_read 9 = .ok (.putfield 79, 3) := by decide +kernel
theorem dX8_read_12 : decode cX8_read 12 = .ok (.aload_n 0, 1) := by decide +kernel
theorem dX8_read_13 : decode cX8_read 13 = .ok (.invokevirtual 99, 3) := by decide +kernel
theorem dX8_read_16 : decode cX8_read 16 = .ok (.iinc 1 1, 3) := by decide +kernel
theorem dX8_read_19 : decode cX8_read 19 = .ok (.aload_n 0, 1) := by decide +kernel
theorem dX8_read_20 : decode cX8_read 20 = .ok (.getfield 79, 3) := by decide +kernel
theorem dX8_read_23 : decode cX8_read 23 = .ok (.ifCond .eq 14, 3) := by decide +kernel
theorem dX8_read_37 : decode cX8_read 37 = .ok (.aload_n 0, 1) := by decide +kernel
theorem dX8_read_38 : decode cX8_read 38 = .ok (.getfield 79, 3) := by decide +kernel
theorem dX8_read_41 : decode cX8_read 41 = .ok (.ifCond .ne 12, 3) := by decide +kernel
theorem dX8_read_44 : decode cX8_read 44 = .ok (.sipush (-1000), 3) := by decide +kernel
theorem dX8_read_47 : decode cX8_read 47 = .ok (.aload_n 0, 1) := by decide +kernel
theorem dX8_read_48 : decode cX8_read 48 = .ok (.getfield 82, 3) := by decide +kernel
theorem dX8_read_51 : decode cX8_read 51 = .ok (.isub, 1) := by decide +kernel
theorem dX8_read_52 : decode cX8_read 52 = .ok (.ireturn, 1) := by decide +kernel
theorem dX8_school_0 : decode cX8_school 0 = .ok (.aload_n 0, 1) := by decide +kernel
theorem dX8_school_1 : decode cX8_school 1 = .ok (.invokevirtual 109, 3) := by decide +kernel
theorem dX8_school_4 : decode cX8_school 4 = .ok (.istore_n 1, 1) := by decide +kernel
theorem dX8_school_5 : decode cX8_school 5 = .ok (.aload_n 0, 1) := by decide +kernel
theorem dX8_school_6 : decode cX8_school 6 = .ok (.iconst 0, 1) := by decide +kernel
theorem dX8_school_7 : decode cX8_school 7 = .ok (.putfield 75, 3) := by decide +kernel
theorem dX8_school_10 : decode cX8_school 10 = .ok (.iload_n 1, 1) := by decide +kernel
theorem dX8_school_11 : decode cX8_school 11 = .ok (.ireturn, 1) := by decide +kernel
theorem dX8_together_0 : decode cX8_together 0 = .ok (.iconst 0, 1) := by decide +kernel
theorem dX8_together_1 : decode cX8_together 1 = .ok (.istore_n 2, 1) := by decide +kernel
theorem dX8_together_2 : decode cX8_together 2 = .ok (.iconst 0, 1) := by decide +kernel
theorem dX8_together_3 : decode cX8_together 3 = .ok (.istore_n 3, 1) := by decide +kernel
theorem dX8_together_4 : decode cX8_together 4 = .ok (.iload_n 3, 1) := by decide +kernel
theorem dX8_together_5 : decode cX8_together 5 = .ok (.aload_n 0, 1) := by decide +kernel
theorem dX8_together_6 : decode cX8_together 6 = .ok (.getfield 13, 3) := by decide +kernel
theorem dX8_together_9 : decode cX8_together 9 = .ok (.iconst 0, 1) := by decide +kernel
theorem dX8_together_10 : decode cX8_together 10 = .ok (.iaload, 1) := by decide +kernel
theorem dX8_together_11 : decode cX8_together 11 = .ok (.if_icmp .ge 18, 3) := by decide +kernel
theorem dX8_together_29 : decode cX8_together 29 = .ok (.iload_n 2, 1) := by decide +kernel
theorem dX8_together_30 : decode cX8_together 30 = .ok (.ireturn, 1) := by decide +kernel
theorem dX8_whoPass_0 : decode cX8_whoPass 0 = .ok (.iconst 0, 1) := by decide +kernel
theorem dX8_whoPass_1 : decode cX8_whoPass 1 = .ok (.istore_n 1, 1) := by decide +kernel
theorem dX8_whoPass_2 : decode cX8_whoPass 2 = .ok (.iconst 0, 1) := by decide +kernel
theorem dX8_whoPass_3 : decode cX8_whoPass 3 = .ok (.istore_n 2, 1) := by decide +kernel
theorem dX8_whoPass_4 : decode cX8_whoPass 4 = .ok (.iload_n 2, 1) := by decide +kernel
theorem dX8_whoPass_5 : decode cX8_whoPass 5 = .ok (.aload_n 0, 1) := by decide +kernel
theorem dX8_whoPass_6 : decode cX8_whoPass 6 = .ok (.getfield 13, 3) := by decide +kernel
theorem dX8_whoPass_9 : decode cX8_whoPass 9 = .ok (.iconst 0, 1) := by decide +kernel
theorem dX8_whoPass_10 : decode cX8_whoPass 10 = .ok (.iaload, 1) := by decide +kernel
theorem dX8_whoPass_11 : decode cX8_whoPass 11 = .ok (.if_icmp .ge 39, 3) := by decide +kernel
theorem dX8_whoPass_50 : decode cX8_whoPass 50 = .ok (.iload_n 1, 1) := by decide +kernel
theorem dX8_whoPass_51 : decode cX8_whoPass 51 = .ok (.ireturn, 1) := by decide +kernel
theorem dX8_bits_0 : decode cX8_bits 0 = .ok (.iconst 0, 1) := by decide +kernel
theorem dX8_bits_1 : decode cX8_bits 1 = .ok (.istore_n 1, 1) := by decide +kernel
theorem dX8_bits_2 : decode cX8_bits 2 = .ok (.iconst 0, 1) := by decide +kernel
theorem dX8_bits_3 : decode cX8_bits 3 = .ok (.istore_n 2, 1) := by decide +kernel
theorem dX8_bits_4 : decode cX8_bits 4 = .ok (.iload_n 2, 1) := by decide +kernel
theorem dX8_bits_5 : decode cX8_bits 5 = .ok (.bipush 6, 2) := by decide +kernel
theorem dX8_bits_7 : decode cX8_bits 7 = .ok (.if_icmp .ge 17, 3) := by decide +kernel
theorem dX8_bits_10 : decode cX8_bits 10 = .ok (.iload_n 1, 1) := by decide +kernel
theorem dX8_bits_11 : decode cX8_bits 11 = .ok (.iload_n 0, 1) := by decide +kernel
theorem dX8_bits_12 : decode cX8_bits 12 = .ok (.iload_n 2, 1) := by decide +kernel
theorem dX8_bits_13 : decode cX8_bits 13 = .ok (.ishr, 1) := by decide +kernel
theorem dX8_bits_14 : decode cX8_bits 14 = .ok (.iconst 1, 1) := by decide +kernel
theorem dX8_bits_15 : decode cX8_bits 15 = .ok (.iand, 1) := by decide +kernel
theorem dX8_bits_16 : decode cX8_bits 16 = .ok (.iadd, 1) := by decide +kernel
theorem dX8_bits_17 : decode cX8_bits 17 = .ok (.istore_n 1, 1) := by decide +kernel
theorem dX8_bits_18 : decode cX8_bits 18 = .ok (.iinc 2 1, 3) := by decide +kernel
theorem dX8_bits_21 : decode cX8_bits 21 = .ok (.goto (-17), 3) := by decide +kernel
theorem dX8_bits_24 : decode cX8_bits 24 = .ok (.iload_n 1, 1) := by decide +kernel
theorem dX8_bits_25 : decode cX8_bits 25 = .ok (.ireturn, 1) := by decide +kernel
theorem dX8_isNobody_0 : decode cX8_isNobody 0 = .ok (.iload_n 1, 1) := by decide +kernel
theorem dX8_isNobody_1 : decode cX8_isNobody 1 = .ok (.ifCond .lt 13, 3) := by decide +kernel
theorem dX8_isNobody_4 : decode cX8_isNobody 4 = .ok (.iload_n 1, 1) := by decide +kernel
theorem dX8_isNobody_5 : decode cX8_isNobody 5 = .ok (.aload_n 0, 1) := by decide +kernel
theorem dX8_isNobody_6 : decode cX8_isNobody 6 = .ok (.getfield 13, 3) := by decide +kernel
theorem dX8_isNobody_9 : decode cX8_isNobody 9 = .ok (.iconst 0, 1) := by decide +kernel
theorem dX8_isNobody_10 : decode cX8_isNobody 10 = .ok (.iaload, 1) := by decide +kernel
theorem dX8_isNobody_11 : decode cX8_isNobody 11 = .ok (.if_icmp .lt 7, 3) := by decide +kernel
theorem dX8_isNobody_14 : decode cX8_isNobody 14 = .ok (.iconst 1, 1) := by decide +kernel
theorem dX8_isNobody_15 : decode cX8_isNobody 15 = .ok (.goto 4, 3) := by decide +kernel
theorem dX8_isNobody_19 : decode cX8_isNobody 19 = .ok (.ireturn, 1) := by decide +kernel
theorem dX8_pupil_0 : decode cX8_pupil 0 = .ok (.aload_n 0, 1) := by decide +kernel
theorem dX8_pupil_1 : decode cX8_pupil 1 = .ok (.iload_n 1, 1) := by decide +kernel
theorem dX8_pupil_2 : decode cX8_pupil 2 = .ok (.invokevirtual 129, 3) := by decide +kernel
theorem dX8_pupil_5 : decode cX8_pupil 5 = .ok (.ifCond .eq 9, 3) := by decide +kernel
theorem dX8_pupil_8 : decode cX8_pupil 8 = .ok (.aload_n 0, 1) := by decide +kernel
theorem dX8_pupil_9 : decode cX8_pupil 9 = .ok (.iconst (-1), 1) := by decide +kernel
theorem dX8_pupil_10 : decode cX8_pupil 10 = .ok (.invokevirtual 71, 3) := by decide +kernel
theorem dX8_pupil_13 : decode cX8_pupil 13 = .ok (.ireturn, 1) := by decide +kernel
theorem dX8_sick_0 : decode cX8_sick 0 = .ok (.aload_n 0, 1) := by decide +kernel
theorem dX8_sick_1 : decode cX8_sick 1 = .ok (.iload_n 1, 1) := by decide +kernel
theorem dX8_sick_2 : decode cX8_sick 2 = .ok (.invokevirtual 129, 3) := by decide +kernel
theorem dX8_sick_5 : decode cX8_sick 5 = .ok (.ifCond .eq 9, 3) := by decide +kernel
theorem dX8_sick_8 : decode cX8_sick 8 = .ok (.aload_n 0, 1) := by decide +kernel
theorem dX8_sick_9 : decode cX8_sick 9 = .ok (.iconst (-1), 1) := by decide +kernel
theorem dX8_sick_10 : decode cX8_sick 10 = .ok (.invokevirtual 71, 3) := by decide +kernel
theorem dX8_sick_13 : decode cX8_sick 13 = .ok (.ireturn, 1) := by decide +kernel
theorem dX8_learn_0 : decode cX8_learn 0 = .ok (.aload_n 0, 1) := by decide +kernel
theorem dX8_learn_1 : decode cX8_learn 1 = .ok (.iload_n 1, 1) := by decide +kernel
theorem dX8_learn_2 : decode cX8_learn 2 = .ok (.invokevirtual 129, 3) := by decide +kernel
theorem dX8_learn_5 : decode cX8_learn 5 = .ok (.ifCond .eq 9, 3) := by decide +kernel
theorem dX8_learn_8 : decode cX8_learn 8 = .ok (.aload_n 0, 1) := by decide +kernel
theorem dX8_learn_9 : decode cX8_learn 9 = .ok (.iconst (-1), 1) := by decide +kernel
theorem dX8_learn_10 : decode cX8_learn 10 = .ok (.invokevirtual 71, 3) := by decide +kernel
theorem dX8_learn_13 : decode cX8_learn 13 = .ok (.ireturn, 1) := by decide +kernel
theorem dX8_swap_0 : decode cX8_swap 0 = .ok (.aload_n 0, 1) := by decide +kernel
theorem dX8_swap_1 : decode cX8_swap 1 = .ok (.iload_n 1, 1) := by decide +kernel
theorem dX8_swap_2 : decode cX8_swap 2 = .ok (.invokevirtual 129, 3) := by decide +kernel
theorem dX8_swap_5 : decode cX8_swap 5 = .ok (.ifCond .ne 16, 3) := by decide +kernel
theorem dX8_swap_21 : decode cX8_swap 21 = .ok (.aload_n 0, 1) := by decide +kernel
theorem dX8_swap_22 : decode cX8_swap 22 = .ok (.iconst (-1), 1) := by decide +kernel
theorem dX8_swap_23 : decode cX8_swap 23 = .ok (.invokevirtual 71, 3) := by decide +kernel
theorem dX8_swap_26 : decode cX8_swap 26 = .ok (.ireturn, 1) := by decide +kernel
theorem dX8_law_0 : decode cX8_law 0 = .ok (.iload_n 1, 1) := by decide +kernel
theorem dX8_law_1 : decode cX8_law 1 = .ok (.ifCond .lt 9, 3) := by decide +kernel
theorem dX8_law_4 : decode cX8_law 4 = .ok (.iload_n 1, 1) := by decide +kernel
theorem dX8_law_5 : decode cX8_law 5 = .ok (.bipush 6, 2) := by decide +kernel
theorem dX8_law_7 : decode cX8_law 7 = .ok (.if_icmp .le 10, 3) := by decide +kernel
theorem dX8_law_10 : decode cX8_law 10 = .ok (.aload_n 0, 1) := by decide +kernel
theorem dX8_law_11 : decode cX8_law 11 = .ok (.bipush (-2), 2) := by decide +kernel
theorem dX8_law_13 : decode cX8_law 13 = .ok (.invokevirtual 71, 3) := by decide +kernel
theorem dX8_law_16 : decode cX8_law 16 = .ok (.ireturn, 1) := by decide +kernel
theorem dX8_law_17 : decode cX8_law 17 = .ok (.aload_n 0, 1) := by decide +kernel
theorem dX8_law_18 : decode cX8_law 18 = .ok (.getfield 13, 3) := by decide +kernel
theorem dX8_law_21 : decode cX8_law 21 = .ok (.iconst 3, 1) := by decide +kernel
theorem dX8_law_22 : decode cX8_law 22 = .ok (.iaload, 1) := by decide +kernel
theorem dX8_law_23 : decode cX8_law 23 = .ok (.istore_n 2, 1) := by decide +kernel
theorem dX8_law_24 : decode cX8_law 24 = .ok (.aload_n 0, 1) := by decide +kernel
theorem dX8_law_25 : decode cX8_law 25 = .ok (.getfield 13, 3) := by decide +kernel
theorem dX8_law_28 : decode cX8_law 28 = .ok (.iconst 3, 1) := by decide +kernel
theorem dX8_law_29 : decode cX8_law 29 = .ok (.iload_n 1, 1) := by decide +kernel
theorem dX8_law_30 : decode cX8_law 30 = .ok (.iastore, 1) := by decide +kernel
theorem dX8_law_31 : decode cX8_law 31 = .ok (.iload_n 2, 1) := by decide +kernel
theorem dX8_law_32 : decode cX8_law 32 = .ok (.ireturn, 1) := by decide +kernel
theorem dX8_pass_0 : decode cX8_pass 0 = .ok (.iload_n 1, 1) := by decide +kernel
theorem dX8_pass_1 : decode cX8_pass 1 = .ok (.ifCond .ge 10, 3) := by decide +kernel
theorem dX8_pass_4 : decode cX8_pass 4 = .ok (.aload_n 0, 1) := by decide +kernel
theorem dX8_pass_5 : decode cX8_pass 5 = .ok (.bipush (-4), 2) := by decide +kernel
theorem dX8_pass_7 : decode cX8_pass 7 = .ok (.invokevirtual 71, 3) := by decide +kernel
theorem dX8_pass_10 : decode cX8_pass 10 = .ok (.ireturn, 1) := by decide +kernel
theorem dX8_pass_11 : decode cX8_pass 11 = .ok (.iload_n 1, 1) := by decide +kernel
theorem dX8_pass_12 : decode cX8_pass 12 = .ok (.bipush 99, 2) := by decide +kernel
theorem dX8_pass_14 : decode cX8_pass 14 = .ok (.if_icmp .le 10, 3) := by decide +kernel
theorem dX8_pass_17 : decode cX8_pass 17 = .ok (.aload_n 0, 1) := by decide +kernel
theorem dX8_pass_18 : decode cX8_pass 18 = .ok (.bipush (-6), 2) := by decide +kernel
theorem dX8_pass_20 : decode cX8_pass 20 = .ok (.invokevirtual 71, 3) := by decide +kernel
theorem dX8_pass_23 : decode cX8_pass 23 = .ok (.ireturn, 1) := by decide +kernel
theorem dX8_pass_24 : decode cX8_pass 24 = .ok (.aload_n 0, 1) := by decide +kernel
theorem dX8_pass_25 : decode cX8_pass 25 = .ok (.getfield 13, 3) := by decide +kernel
theorem dX8_pass_28 : decode cX8_pass 28 = .ok (.iconst 4, 1) := by decide +kernel
theorem dX8_pass_29 : decode cX8_pass 29 = .ok (.iaload, 1) := by decide +kernel
theorem dX8_pass_30 : decode cX8_pass 30 = .ok (.istore_n 2, 1) := by decide +kernel
theorem dX8_pass_31 : decode cX8_pass 31 = .ok (.aload_n 0, 1) := by decide +kernel
theorem dX8_pass_32 : decode cX8_pass 32 = .ok (.getfield 13, 3) := by decide +kernel
theorem dX8_pass_35 : decode cX8_pass 35 = .ok (.iconst 4, 1) := by decide +kernel
theorem dX8_pass_36 : decode cX8_pass 36 = .ok (.iload_n 1, 1) := by decide +kernel
theorem dX8_pass_37 : decode cX8_pass 37 = .ok (.iastore, 1) := by decide +kernel
theorem dX8_pass_38 : decode cX8_pass 38 = .ok (.iload_n 2, 1) := by decide +kernel
theorem dX8_pass_39 : decode cX8_pass 39 = .ok (.ireturn, 1) := by decide +kernel
theorem dX8_goBy_0 : decode cX8_goBy 0 = .ok (.iconst 0, 1) := by decide +kernel
theorem dX8_goBy_1 : decode cX8_goBy 1 = .ok (.istore_n 1, 1) := by decide +kernel
theorem dX8_goBy_2 : decode cX8_goBy 2 = .ok (.iload_n 1, 1) := by decide +kernel
theorem dX8_goBy_3 : decode cX8_goBy 3 = .ok (.aload_n 0, 1) := by decide +kernel
theorem dX8_goBy_4 : decode cX8_goBy 4 = .ok (.getfield 13, 3) := by decide +kernel
theorem dX8_goBy_7 : decode cX8_goBy 7 = .ok (.iconst 0, 1) := by decide +kernel
theorem dX8_goBy_8 : decode cX8_goBy 8 = .ok (.iaload, 1) := by decide +kernel
theorem dX8_goBy_9 : decode cX8_goBy 9 = .ok (.if_icmp .ge 20, 3) := by decide +kernel
theorem dX8_goBy_29 : decode cX8_goBy 29 = .ok (.iconst 0, 1) := by decide +kernel
theorem dX8_goBy_30 : decode cX8_goBy 30 = .ok (.istore_n 1, 1) := by decide +kernel
theorem dX8_goBy_31 : decode cX8_goBy 31 = .ok (.iload_n 1, 1) := by decide +kernel
theorem dX8_goBy_32 : decode cX8_goBy 32 = .ok (.aload_n 0, 1) := by decide +kernel
theorem dX8_goBy_33 : decode cX8_goBy 33 = .ok (.getfield 13, 3) := by decide +kernel
theorem dX8_goBy_36 : decode cX8_goBy 36 = .ok (.iconst 0, 1) := by decide +kernel
theorem dX8_goBy_37 : decode cX8_goBy 37 = .ok (.iaload, 1) := by decide +kernel
theorem dX8_goBy_38 : decode cX8_goBy 38 = .ok (.if_icmp .ge 20, 3) := by decide +kernel
theorem dX8_goBy_58 : decode cX8_goBy 58 = .ok (.aload_n 0, 1) := by decide +kernel
theorem dX8_goBy_59 : decode cX8_goBy 59 = .ok (.getfield 13, 3) := by decide +kernel
theorem dX8_goBy_62 : decode cX8_goBy 62 = .ok (.iconst 2, 1) := by decide +kernel
theorem dX8_goBy_63 : decode cX8_goBy 63 = .ok (.dup2, 1) := by decide +kernel
theorem dX8_goBy_64 : decode cX8_goBy 64 = .ok (.iaload, 1) := by decide +kernel
theorem dX8_goBy_65 : decode cX8_goBy 65 = .ok (.iconst 1, 1) := by decide +kernel
theorem dX8_goBy_66 : decode cX8_goBy 66 = .ok (.iadd, 1) := by decide +kernel
theorem dX8_goBy_67 : decode cX8_goBy 67 = .ok (.iastore, 1) := by decide +kernel
theorem dX8_goBy_68 : decode cX8_goBy 68 = .ok (.return_, 1) := by decide +kernel
theorem dX8_week_0 : decode cX8_week 0 = .ok (.aload_n 0, 1) := by decide +kernel
theorem dX8_week_1 : decode cX8_week 1 = .ok (.getfield 13, 3) := by decide +kernel
theorem dX8_week_4 : decode cX8_week 4 = .ok (.iconst 2, 1) := by decide +kernel
theorem dX8_week_5 : decode cX8_week 5 = .ok (.iaload, 1) := by decide +kernel
theorem dX8_week_6 : decode cX8_week 6 = .ok (.sipush 999, 3) := by decide +kernel
theorem dX8_week_9 : decode cX8_week 9 = .ok (.if_icmp .ne 10, 3) := by decide +kernel
theorem dX8_week_19 : decode cX8_week 19 = .ok (.aload_n 0, 1) := by decide +kernel
theorem dX8_week_20 : decode cX8_week 20 = .ok (.invokevirtual 141, 3) := by decide +kernel
theorem dX8_week_23 : decode cX8_week 23 = .ok (.aload_n 0, 1) := by decide +kernel
theorem dX8_week_24 : decode cX8_week 24 = .ok (.getfield 13, 3) := by decide +kernel
theorem dX8_week_27 : decode cX8_week 27 = .ok (.iconst 2, 1) := by decide +kernel
theorem dX8_week_28 : decode cX8_week 28 = .ok (.iaload, 1) := by decide +kernel
theorem dX8_week_29 : decode cX8_week 29 = .ok (.ireturn, 1) := by decide +kernel
theorem dX8_knows_0 : decode cX8_knows 0 = .ok (.aload_n 0, 1) := by decide +kernel
theorem dX8_knows_1 : decode cX8_knows 1 = .ok (.iload_n 1, 1) := by decide +kernel
theorem dX8_knows_2 : decode cX8_knows 2 = .ok (.invokevirtual 129, 3) := by decide +kernel
theorem dX8_knows_5 : decode cX8_knows 5 = .ok (.ifCond .eq 11, 3) := by decide +kernel
theorem dX8_knows_8 : decode cX8_knows 8 = .ok (.aload_n 0, 1) := by decide +kernel
theorem dX8_knows_9 : decode cX8_knows 9 = .ok (.iconst (-1), 1) := by decide +kernel
theorem dX8_knows_10 : decode cX8_knows 10 = .ok (.invokevirtual 71, 3) := by decide +kernel
theorem dX8_knows_13 : decode cX8_knows 13 = .ok (.goto 8, 3) := by decide +kernel
theorem dX8_knows_21 : decode cX8_knows 21 = .ok (.ireturn, 1) := by decide +kernel
theorem dX8_mark_0 : decode cX8_mark 0 = .ok (.aload_n 0, 1) := by decide +kernel
theorem dX8_mark_1 : decode cX8_mark 1 = .ok (.iload_n 1, 1) := by decide +kernel
theorem dX8_mark_2 : decode cX8_mark 2 = .ok (.invokevirtual 129, 3) := by decide +kernel
theorem dX8_mark_5 : decode cX8_mark 5 = .ok (.ifCond .eq 11, 3) := by decide +kernel
theorem dX8_mark_8 : decode cX8_mark 8 = .ok (.aload_n 0, 1) := by decide +kernel
theorem dX8_mark_9 : decode cX8_mark 9 = .ok (.iconst (-1), 1) := by decide +kernel
theorem dX8_mark_10 : decode cX8_mark 10 = .ok (.invokevirtual 71, 3) := by decide +kernel
theorem dX8_mark_13 : decode cX8_mark 13 = .ok (.goto 14, 3) := by decide +kernel
theorem dX8_mark_27 : decode cX8_mark 27 = .ok (.ireturn, 1) := by decide +kernel
theorem dX8_passed_0 : decode cX8_passed 0 = .ok (.aload_n 0, 1) := by decide +kernel
theorem dX8_passed_1 : decode cX8_passed 1 = .ok (.invokevirtual 144, 3) := by decide +kernel
theorem dX8_passed_4 : decode cX8_passed 4 = .ok (.ireturn, 1) := by decide +kernel
theorem dX8_all_0 : decode cX8_all 0 = .ok (.aload_n 0, 1) := by decide +kernel
theorem dX8_all_1 : decode cX8_all 1 = .ok (.aload_n 0, 1) := by decide +kernel
theorem dX8_all_2 : decode cX8_all 2 = .ok (.getfield 13, 3) := by decide +kernel
theorem dX8_all_5 : decode cX8_all 5 = .ok (.iconst 3, 1) := by decide +kernel
theorem dX8_all_6 : decode cX8_all 6 = .ok (.iaload, 1) := by decide +kernel
theorem dX8_all_7 : decode cX8_all 7 = .ok (.invokevirtual 147, 3) := by decide +kernel
theorem dX8_all_10 : decode cX8_all 10 = .ok (.ireturn, 1) := by decide +kernel
theorem dX8_after_0 : decode cX8_after 0 = .ok (.iload_n 1, 1) := by decide +kernel
theorem dX8_after_1 : decode cX8_after 1 = .ok (.iconst (-1), 1) := by decide +kernel
theorem dX8_after_2 : decode cX8_after 2 = .ok (.if_icmp .lt 13, 3) := by decide +kernel
theorem dX8_after_5 : decode cX8_after 5 = .ok (.iload_n 1, 1) := by decide +kernel
theorem dX8_after_6 : decode cX8_after 6 = .ok (.aload_n 0, 1) := by decide +kernel
theorem dX8_after_7 : decode cX8_after 7 = .ok (.getfield 13, 3) := by decide +kernel
theorem dX8_after_10 : decode cX8_after 10 = .ok (.iconst 0, 1) := by decide +kernel
theorem dX8_after_11 : decode cX8_after 11 = .ok (.iaload, 1) := by decide +kernel
theorem dX8_after_12 : decode cX8_after 12 = .ok (.if_icmp .lt 9, 3) := by decide +kernel
theorem dX8_after_15 : decode cX8_after 15 = .ok (.aload_n 0, 1) := by decide +kernel
theorem dX8_after_16 : decode cX8_after 16 = .ok (.iconst (-1), 1) := by decide +kernel
theorem dX8_after_17 : decode cX8_after 17 = .ok (.invokevirtual 71, 3) := by decide +kernel
theorem dX8_after_20 : decode cX8_after 20 = .ok (.ireturn, 1) := by decide +kernel
theorem dX8_after_21 : decode cX8_after 21 = .ok (.iload_n 2, 1) := by decide +kernel
theorem dX8_after_22 : decode cX8_after 22 = .ok (.ifCond .ge 10, 3) := by decide +kernel
theorem dX8_after_25 : decode cX8_after 25 = .ok (.aload_n 0, 1) := by decide +kernel
theorem dX8_after_26 : decode cX8_after 26 = .ok (.bipush (-4), 2) := by decide +kernel
theorem dX8_after_28 : decode cX8_after 28 = .ok (.invokevirtual 71, 3) := by decide +kernel
theorem dX8_after_31 : decode cX8_after 31 = .ok (.ireturn, 1) := by decide +kernel
theorem dX8_after_32 : decode cX8_after 32 = .ok (.iload_n 2, 1) := by decide +kernel
theorem dX8_after_33 : decode cX8_after 33 = .ok (.bipush 40, 2) := by decide +kernel
theorem dX8_after_35 : decode cX8_after 35 = .ok (.if_icmp .le 10, 3) := by decide +kernel
theorem dX8_after_38 : decode cX8_after 38 = .ok (.aload_n 0, 1) := by decide +kernel
theorem dX8_after_39 : decode cX8_after 39 = .ok (.bipush (-6), 2) := by decide +kernel
theorem dX8_after_41 : decode cX8_after 41 = .ok (.invokevirtual 71, 3) := by decide +kernel
theorem dX8_after_44 : decode cX8_after 44 = .ok (.ireturn, 1) := by decide +kernel
theorem dX8_after_45 : decode cX8_after 45 = .ok (.aload_n 0, 1) := by decide +kernel
theorem dX8_after_46 : decode cX8_after 46 = .ok (.getfield 13, 3) := by decide +kernel
theorem dX8_after_49 : decode cX8_after 49 = .ok (.aload_n 0, 1) := by decide +kernel
theorem dX8_after_50 : decode cX8_after 50 = .ok (.getfield 19, 3) := by decide +kernel
theorem dX8_after_53 : decode cX8_after 53 = .ok (.invokestatic 67, 3) := by decide +kernel
theorem dX8_after_56 : decode cX8_after 56 = .ok (.iconst 0, 1) := by decide +kernel
theorem dX8_after_57 : decode cX8_after 57 = .ok (.istore_n 3, 1) := by decide +kernel
theorem dX8_after_58 : decode cX8_after 58 = .ok (.iload_n 3, 1) := by decide +kernel
theorem dX8_after_59 : decode cX8_after 59 = .ok (.iload_n 2, 1) := by decide +kernel
theorem dX8_after_60 : decode cX8_after 60 = .ok (.if_icmp .ge 13, 3) := by decide +kernel
theorem dX8_after_63 : decode cX8_after 63 = .ok (.aload_n 0, 1) := by decide +kernel
theorem dX8_after_64 : decode cX8_after 64 = .ok (.invokevirtual 141, 3) := by decide +kernel
theorem dX8_after_67 : decode cX8_after 67 = .ok (.iinc 3 1, 3) := by decide +kernel
theorem dX8_after_70 : decode cX8_after 70 = .ok (.goto (-12), 3) := by decide +kernel
theorem dX8_after_73 : decode cX8_after 73 = .ok (.iload_n 1, 1) := by decide +kernel
theorem dX8_after_74 : decode cX8_after 74 = .ok (.ifCond .ge 16, 3) := by decide +kernel
theorem dX8_after_77 : decode cX8_after 77 = .ok (.aload_n 0, 1) := by decide +kernel
theorem dX8_after_78 : decode cX8_after 78 = .ok (.aload_n 0, 1) := by decide +kernel
theorem dX8_after_79 : decode cX8_after 79 = .ok (.getfield 13, 3) := by decide +kernel
theorem dX8_after_82 : decode cX8_after 82 = .ok (.iconst 3, 1) := by decide +kernel
theorem dX8_after_83 : decode cX8_after 83 = .ok (.iaload, 1) := by decide +kernel
theorem dX8_after_84 : decode cX8_after 84 = .ok (.invokevirtual 147, 3) := by decide +kernel
theorem dX8_after_87 : decode cX8_after 87 = .ok (.goto 14, 3) := by decide +kernel
theorem dX8_after_101 : decode cX8_after 101 = .ok (.istore_n 3, 1) := by decide +kernel
theorem dX8_after_102 : decode cX8_after 102 = .ok (.aload_n 0, 1) := by decide +kernel
theorem dX8_after_103 : decode cX8_after 103 = .ok (.getfield 19, 3) := by decide +kernel
theorem dX8_after_106 : decode cX8_after 106 = .ok (.aload_n 0, 1) := by decide +kernel
theorem dX8_after_107 : decode cX8_after 107 = .ok (.getfield 13, 3) := by decide +kernel
theorem dX8_after_110 : decode cX8_after 110 = .ok (.invokestatic 67, 3) := by decide +kernel
theorem dX8_after_113 : decode cX8_after 113 = .ok (.iload_n 3, 1) := by decide +kernel
theorem dX8_after_114 : decode cX8_after 114 = .ok (.ireturn, 1) := by decide +kernel
theorem dX8_isAsBefore_0 : decode cX8_isAsBefore 0 = .ok (.iconst 1, 1) := by decide +kernel
theorem dX8_isAsBefore_1 : decode cX8_isAsBefore 1 = .ok (.istore_n 1, 1) := by decide +kernel
theorem dX8_isAsBefore_2 : decode cX8_isAsBefore 2 = .ok (.iconst 0, 1) := by decide +kernel
theorem dX8_isAsBefore_3 : decode cX8_isAsBefore 3 = .ok (.istore_n 2, 1) := by decide +kernel
theorem dX8_isAsBefore_4 : decode cX8_isAsBefore 4 = .ok (.iload_n 2, 1) := by decide +kernel
theorem dX8_isAsBefore_5 : decode cX8_isAsBefore 5 = .ok (.aload_n 0, 1) := by decide +kernel
theorem dX8_isAsBefore_6 : decode cX8_isAsBefore 6 = .ok (.getfield 13, 3) := by decide +kernel
theorem dX8_isAsBefore_9 : decode cX8_isAsBefore 9 = .ok (.iconst 0, 1) := by decide +kernel
theorem dX8_isAsBefore_10 : decode cX8_isAsBefore 10 = .ok (.iaload, 1) := by decide +kernel
theorem dX8_isAsBefore_11 : decode cX8_isAsBefore 11 = .ok (.if_icmp .ge 40, 3) := by decide +kernel
theorem dX8_isAsBefore_51 : decode cX8_isAsBefore 51 = .ok (.iload_n 1, 1) := by decide +kernel
theorem dX8_isAsBefore_52 : decode cX8_isAsBefore 52 = .ok (.ireturn, 1) := by decide +kernel
theorem dX8_again_0 : decode cX8_again 0 = .ok (.aload_n 0, 1) := by decide +kernel
theorem dX8_again_1 : decode cX8_again 1 = .ok (.getfield 13, 3) := by decide +kernel
theorem dX8_again_4 : decode cX8_again 4 = .ok (.aload_n 0, 1) := by decide +kernel
theorem dX8_again_5 : decode cX8_again 5 = .ok (.getfield 19, 3) := by decide +kernel
theorem dX8_again_8 : decode cX8_again 8 = .ok (.invokestatic 67, 3) := by decide +kernel
theorem dX8_again_11 : decode cX8_again 11 = .ok (.iconst 1, 1) := by decide +kernel
theorem dX8_again_12 : decode cX8_again 12 = .ok (.istore_n 1, 1) := by decide +kernel
theorem dX8_again_13 : decode cX8_again 13 = .ok (.iload_n 1, 1) := by decide +kernel
theorem dX8_again_14 : decode cX8_again 14 = .ok (.bipush 60, 2) := by decide +kernel
theorem dX8_again_16 : decode cX8_again 16 = .ok (.if_icmp .gt 23, 3) := by decide +kernel
theorem dX8_again_19 : decode cX8_again 19 = .ok (.aload_n 0, 1) := by decide +kernel
theorem dX8_again_20 : decode cX8_again 20 = .ok (.invokevirtual 141, 3) := by decide +kernel
theorem dX8_again_23 : decode cX8_again 23 = .ok (.aload_n 0, 1) := by decide +kernel
theorem dX8_again_24 : decode cX8_again 24 = .ok (.getfield 41, 3) := by decide +kernel
theorem dX8_again_27 : decode cX8_again 27 = .ok (.iload_n 1, 1) := by decide +kernel
theorem dX8_again_28 : decode cX8_again 28 = .ok (.aload_n 0, 1) := by decide +kernel
theorem dX8_again_29 : decode cX8_again 29 = .ok (.invokevirtual 150, 3) := by decide +kernel
theorem dX8_again_32 : decode cX8_again 32 = .ok (.bastore, 1) := by decide +kernel
theorem dX8_again_33 : decode cX8_again 33 = .ok (.iinc 1 1, 3) := by decide +kernel
theorem dX8_again_36 : decode cX8_again 36 = .ok (.goto (-23), 3) := by decide +kernel
theorem dX8_again_39 : decode cX8_again 39 = .ok (.aload_n 0, 1) := by decide +kernel
theorem dX8_again_40 : decode cX8_again 40 = .ok (.getfield 19, 3) := by decide +kernel
theorem dX8_again_43 : decode cX8_again 43 = .ok (.aload_n 0, 1) := by decide +kernel
theorem dX8_again_44 : decode cX8_again 44 = .ok (.getfield 13, 3) := by decide +kernel
theorem dX8_again_47 : decode cX8_again 47 = .ok (.invokestatic 67, 3) := by decide +kernel
theorem dX8_again_50 : decode cX8_again 50 = .ok (.iconst 1, 1) := by decide +kernel
