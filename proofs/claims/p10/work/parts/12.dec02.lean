theorem dX8_beside_33 : decode cX8_beside 33 = .ok (.if_icmp .lt 6, 3) := by decide +kernel
theorem dX8_beside_36 : decode cX8_beside 36 = .ok (.bipush (-9), 2) := by decide +kernel
theorem dX8_beside_38 : decode cX8_beside 38 = .ok (.ireturn, 1) := by decide +kernel
theorem dX8_beside_39 : decode cX8_beside 39 = .ok (.aload_n 0, 1) := by decide +kernel
theorem dX8_beside_40 : decode cX8_beside 40 = .ok (.getfield 13, 3) := by decide +kernel
theorem dX8_beside_43 : decode cX8_beside 43 = .ok (.bipush 70, 2) := by decide +kernel
theorem dX8_beside_45 : decode cX8_beside 45 = .ok (.iload 4, 2) := by decide +kernel
theorem dX8_beside_47 : decode cX8_beside 47 = .ok (.iload_n 3, 1) := by decide +kernel
theorem dX8_beside_48 : decode cX8_beside 48 = .ok (.iadd, 1) := by decide +kernel
theorem dX8_beside_49 : decode cX8_beside 49 = .ok (.iload_n 3, 1) := by decide +kernel
theorem dX8_beside_50 : decode cX8_beside 50 = .ok (.irem, 1) := by decide +kernel
theorem dX8_beside_51 : decode cX8_beside 51 = .ok (.iadd, 1) := by decide +kernel
theorem dX8_beside_52 : decode cX8_beside 52 = .ok (.iaload, 1) := by decide +kernel
theorem dX8_beside_53 : decode cX8_beside 53 = .ok (.ireturn, 1) := by decide +kernel
theorem dX8_known_0 : decode cX8_known 0 = .ok (.aload_n 0, 1) := by decide +kernel
theorem dX8_known_1 : decode cX8_known 1 = .ok (.getfield 13, 3) := by decide +kernel
theorem dX8_known_4 : decode cX8_known 4 = .ok (.bipush 40, 2) := by decide +kernel
theorem dX8_known_6 : decode cX8_known 6 = .ok (.iload_n 1, 1) := by decide +kernel
theorem dX8_known_7 : decode cX8_known 7 = .ok (.iadd, 1) := by decide +kernel
theorem dX8_known_8 : decode cX8_known 8 = .ok (.iaload, 1) := by decide +kernel
theorem dX8_known_9 : decode cX8_known 9 = .ok (.iconst 1, 1) := by decide +kernel
theorem dX8_known_10 : decode cX8_known 10 = .ok (.if_icmp .ne 5, 3) := by decide +kernel
theorem dX8_known_13 : decode cX8_known 13 = .ok (.iconst 0, 1) := by decide +kernel
theorem dX8_known_14 : decode cX8_known 14 = .ok (.ireturn, 1) := by decide +kernel
theorem dX8_known_15 : decode cX8_known 15 = .ok (.aload_n 0, 1) := by decide +kernel
theorem dX8_known_16 : decode cX8_known 16 = .ok (.iload_n 1, 1) := by decide +kernel
theorem dX8_known_17 : decode cX8_known 17 = .ok (.iconst (-1), 1) := by decide +kernel
theorem dX8_known_18 : decode cX8_known 18 = .ok (.invokevirtual 116, 3) := by decide +kernel
theorem dX8_known_21 : decode cX8_known 21 = .ok (.istore_n 2, 1) := by decide +kernel
theorem dX8_known_22 : decode cX8_known 22 = .ok (.iload_n 2, 1) := by decide +kernel
theorem dX8_known_23 : decode cX8_known 23 = .ok (.bipush (-9), 2) := by decide +kernel
theorem dX8_known_25 : decode cX8_known 25 = .ok (.if_icmp .eq 16, 3) := by decide +kernel
theorem dX8_known_28 : decode cX8_known 28 = .ok (.aload_n 0, 1) := by decide +kernel
theorem dX8_known_29 : decode cX8_known 29 = .ok (.getfield 13, 3) := by decide +kernel
theorem dX8_known_32 : decode cX8_known 32 = .ok (.bipush 40, 2) := by decide +kernel
theorem dX8_known_34 : decode cX8_known 34 = .ok (.iload_n 2, 1) := by decide +kernel
theorem dX8_known_35 : decode cX8_known 35 = .ok (.iadd, 1) := by decide +kernel
theorem dX8_known_36 : decode cX8_known 36 = .ok (.iaload, 1) := by decide +kernel
theorem dX8_known_37 : decode cX8_known 37 = .ok (.iconst 1, 1) := by decide +kernel
theorem dX8_known_38 : decode cX8_known 38 = .ok (.if_icmp .ne 7, 3) := by decide +kernel
theorem dX8_known_41 : decode cX8_known 41 = .ok (.iconst 0, 1) := by decide +kernel
theorem dX8_known_42 : decode cX8_known 42 = .ok (.goto 22, 3) := by decide +kernel
theorem dX8_known_45 : decode cX8_known 45 = .ok (.aload_n 0, 1) := by decide +kernel
theorem dX8_known_46 : decode cX8_known 46 = .ok (.getfield 13, 3) := by decide +kernel
theorem dX8_known_49 : decode cX8_known 49 = .ok (.bipush 30, 2) := by decide +kernel
theorem dX8_known_51 : decode cX8_known 51 = .ok (.iload_n 2, 1) := by decide +kernel
theorem dX8_known_52 : decode cX8_known 52 = .ok (.iadd, 1) := by decide +kernel
theorem dX8_known_53 : decode cX8_known 53 = .ok (.iaload, 1) := by decide +kernel
theorem dX8_known_54 : decode cX8_known 54 = .ok (.aload_n 0, 1) := by decide +kernel
theorem dX8_known_55 : decode cX8_known 55 = .ok (.getfield 13, 3) := by decide +kernel
theorem dX8_known_58 : decode cX8_known 58 = .ok (.bipush 60, 2) := by decide +kernel
theorem dX8_known_60 : decode cX8_known 60 = .ok (.iload_n 2, 1) := by decide +kernel
theorem dX8_known_61 : decode cX8_known 61 = .ok (.iadd, 1) := by decide +kernel
theorem dX8_known_62 : decode cX8_known 62 = .ok (.iaload, 1) := by decide +kernel
theorem dX8_known_63 : decode cX8_known 63 = .ok (.imul, 1) := by decide +kernel
theorem dX8_known_64 : decode cX8_known 64 = .ok (.istore_n 3, 1) := by decide +kernel
theorem dX8_known_65 : decode cX8_known 65 = .ok (.aload_n 0, 1) := by decide +kernel
theorem dX8_known_66 : decode cX8_known 66 = .ok (.getfield 13, 3) := by decide +kernel
theorem dX8_known_69 : decode cX8_known 69 = .ok (.bipush 20, 2) := by decide +kernel
theorem dX8_known_71 : decode cX8_known 71 = .ok (.iload_n 1, 1) := by decide +kernel
theorem dX8_known_72 : decode cX8_known 72 = .ok (.iadd, 1) := by decide +kernel
theorem dX8_known_73 : decode cX8_known 73 = .ok (.iaload, 1) := by decide +kernel
theorem dX8_known_74 : decode cX8_known 74 = .ok (.aload_n 0, 1) := by decide +kernel
theorem dX8_known_75 : decode cX8_known 75 = .ok (.getfield 13, 3) := by decide +kernel
theorem dX8_known_78 : decode cX8_known 78 = .ok (.bipush 50, 2) := by decide +kernel
theorem dX8_known_80 : decode cX8_known 80 = .ok (.iload_n 1, 1) := by decide +kernel
theorem dX8_known_81 : decode cX8_known 81 = .ok (.iadd, 1) := by decide +kernel
theorem dX8_known_82 : decode cX8_known 82 = .ok (.iaload, 1) := by decide +kernel
theorem dX8_known_83 : decode cX8_known 83 = .ok (.imul, 1) := by decide +kernel
theorem dX8_known_84 : decode cX8_known 84 = .ok (.iload_n 3, 1) := by decide +kernel
theorem dX8_known_85 : decode cX8_known 85 = .ok (.iadd, 1) := by decide +kernel
theorem dX8_known_86 : decode cX8_known 86 = .ok (.ireturn, 1) := by decide +kernel
theorem dX8_knownBeside_0 : decode cX8_knownBeside 0 = .ok (.aload_n 0, 1) := by decide +kernel
theorem dX8_knownBeside_1 : decode cX8_knownBeside 1 = .ok (.iload_n 1, 1) := by decide +kernel
theorem dX8_knownBeside_2 : decode cX8_knownBeside 2 = .ok (.iload_n 2, 1) := by decide +kernel
theorem dX8_knownBeside_3 : decode cX8_knownBeside 3 = .ok (.invokevirtual 116, 3) := by decide +kernel
theorem dX8_knownBeside_6 : decode cX8_knownBeside 6 = .ok (.istore_n 3, 1) := by decide +kernel
theorem dX8_knownBeside_7 : decode cX8_knownBeside 7 = .ok (.iload_n 3, 1) := by decide +kernel
theorem dX8_knownBeside_8 : decode cX8_knownBeside 8 = .ok (.bipush (-9), 2) := by decide +kernel
theorem dX8_knownBeside_10 : decode cX8_knownBeside 10 = .ok (.if_icmp .ne 7, 3) := by decide +kernel
theorem dX8_knownBeside_13 : decode cX8_knownBeside 13 = .ok (.iconst 0, 1) := by decide +kernel
theorem dX8_knownBeside_14 : decode cX8_knownBeside 14 = .ok (.goto 8, 3) := by decide +kernel
theorem dX8_knownBeside_17 : decode cX8_knownBeside 17 = .ok (.aload_n 0, 1) := by decide +kernel
theorem dX8_knownBeside_18 : decode cX8_knownBeside 18 = .ok (.iload_n 3, 1) := by decide +kernel
theorem dX8_knownBeside_19 : decode cX8_knownBeside 19 = .ok (.invokevirtual 120, 3) := by decide +kernel
theorem dX8_knownBeside_22 : decode cX8_knownBeside 22 = .ok (.ireturn, 1) := by decide +kernel
theorem dX8_marked_0 : decode cX8_marked 0 = .ok (.iconst 0, 1) := by decide +kernel
theorem dX8_marked_1 : decode cX8_marked 1 = .ok (.istore_n 3, 1) := by decide +kernel
theorem dX8_marked_2 : decode cX8_marked 2 = .ok (.iconst (-1), 1) := by decide +kernel
theorem dX8_marked_3 : decode cX8_marked 3 = .ok (.istore 4, 2) := by decide +kernel
theorem dX8_marked_5 : decode cX8_marked 5 = .ok (.iload_n 1, 1) := by decide +kernel
theorem dX8_marked_6 : decode cX8_marked 6 = .ok (.tableswitch 85 0 4 #[34, 40, 47, 54, 70], 34) := by decide +kernel
theorem dX8_marked_40 : decode cX8_marked 40 = .ok (.aload_n 0, 1) := by decide +kernel
theorem dX8_marked_41 : decode cX8_marked 41 = .ok (.iload_n 2, 1) := by decide +kernel
theorem dX8_marked_42 : decode cX8_marked 42 = .ok (.invokevirtual 120, 3) := by decide +kernel
theorem dX8_marked_45 : decode cX8_marked 45 = .ok (.ireturn, 1) := by decide +kernel
theorem dX8_marked_46 : decode cX8_marked 46 = .ok (.aload_n 0, 1) := by decide +kernel
theorem dX8_marked_47 : decode cX8_marked 47 = .ok (.iload_n 2, 1) := by decide +kernel
theorem dX8_marked_48 : decode cX8_marked 48 = .ok (.iconst 1, 1) := by decide +kernel
theorem dX8_marked_49 : decode cX8_marked 49 = .ok (.invokevirtual 123, 3) := by decide +kernel
theorem dX8_marked_52 : decode cX8_marked 52 = .ok (.ireturn, 1) := by decide +kernel
theorem dX8_marked_53 : decode cX8_marked 53 = .ok (.aload_n 0, 1) := by decide +kernel
theorem dX8_marked_54 : decode cX8_marked 54 = .ok (.iload_n 2, 1) := by decide +kernel
theorem dX8_marked_55 : decode cX8_marked 55 = .ok (.iconst (-1), 1) := by decide +kernel
theorem dX8_marked_56 : decode cX8_marked 56 = .ok (.invokevirtual 123, 3) := by decide +kernel
theorem dX8_marked_59 : decode cX8_marked 59 = .ok (.ireturn, 1) := by decide +kernel
theorem dX8_marked_60 : decode cX8_marked 60 = .ok (.aload_n 0, 1) := by decide +kernel
theorem dX8_marked_61 : decode cX8_marked 61 = .ok (.iload_n 2, 1) := by decide +kernel
theorem dX8_marked_62 : decode cX8_marked 62 = .ok (.iconst 1, 1) := by decide +kernel
theorem dX8_marked_63 : decode cX8_marked 63 = .ok (.invokevirtual 123, 3) := by decide +kernel
theorem dX8_marked_66 : decode cX8_marked 66 = .ok (.aload_n 0, 1) := by decide +kernel
theorem dX8_marked_67 : decode cX8_marked 67 = .ok (.iload_n 2, 1) := by decide +kernel
theorem dX8_marked_68 : decode cX8_marked 68 = .ok (.iconst (-1), 1) := by decide +kernel
theorem dX8_marked_69 : decode cX8_marked 69 = .ok (.invokevirtual 123, 3) := by decide +kernel
theorem dX8_marked_72 : decode cX8_marked 72 = .ok (.iadd, 1) := by decide +kernel
theorem dX8_marked_73 : decode cX8_marked 73 = .ok (.iconst 2, 1) := by decide +kernel
theorem dX8_marked_74 : decode cX8_marked 74 = .ok (.idiv, 1) := by decide +kernel
theorem dX8_marked_75 : decode cX8_marked 75 = .ok (.ireturn, 1) := by decide +kernel
theorem dX8_marked_76 : decode cX8_marked 76 = .ok (.aload_n 0, 1) := by decide +kernel
theorem dX8_marked_77 : decode cX8_marked 77 = .ok (.iload_n 2, 1) := by decide +kernel
theorem dX8_marked_78 : decode cX8_marked 78 = .ok (.iconst 1, 1) := by decide +kernel
theorem dX8_marked_79 : decode cX8_marked 79 = .ok (.invokevirtual 123, 3) := by decide +kernel
theorem dX8_marked_82 : decode cX8_marked 82 = .ok (.aload_n 0, 1) := by decide +kernel
theorem dX8_marked_83 : decode cX8_marked 83 = .ok (.iload_n 2, 1) := by decide +kernel
theorem dX8_marked_84 : decode cX8_marked 84 = .ok (.invokevirtual 120, 3) := by decide +kernel
theorem dX8_marked_87 : decode cX8_marked 87 = .ok (.iadd, 1) := by decide +kernel
theorem dX8_marked_88 : decode cX8_marked 88 = .ok (.iconst 2, 1) := by decide +kernel
theorem dX8_marked_89 : decode cX8_marked 89 = .ok (.idiv, 1) := by decide +kernel
theorem dX8_marked_90 : decode cX8_marked 90 = .ok (.ireturn, 1) := by decide +kernel
theorem dX8_marked_91 : decode cX8_marked 91 = .ok (.iconst 0, 1) := by decide +kernel
theorem dX8_marked_92 : decode cX8_marked 92 = .ok (.istore 5, 2) := by decide +kernel
theorem dX8_marked_94 : decode cX8_marked 94 = .ok (.iload 5, 2) := by decide +kernel
theorem dX8_marked_96 : decode cX8_marked 96 = .ok (.aload_n 0, 1) := by decide +kernel
theorem dX8_marked_97 : decode cX8_marked 97 = .ok (.getfield 13, 3) := by decide +kernel
theorem dX8_marked_100 : decode cX8_marked 100 = .ok (.iconst 0, 1) := by decide +kernel
theorem dX8_marked_101 : decode cX8_marked 101 = .ok (.iaload, 1) := by decide +kernel
theorem dX8_marked_102 : decode cX8_marked 102 = .ok (.if_icmp .ge 43, 3) := by decide +kernel
theorem dX8_marked_105 : decode cX8_marked 105 = .ok (.aload_n 0, 1) := by decide +kernel
theorem dX8_marked_106 : decode cX8_marked 106 = .ok (.iload 5, 2) := by decide +kernel
theorem dX8_marked_108 : decode cX8_marked 108 = .ok (.invokevirtual 120, 3) := by decide +kernel
theorem dX8_marked_111 : decode cX8_marked 111 = .ok (.istore 6, 2) := by decide +kernel
theorem dX8_marked_113 : decode cX8_marked 113 = .ok (.iload_n 3, 1) := by decide +kernel
theorem dX8_marked_114 : decode cX8_marked 114 = .ok (.iload 6, 2) := by decide +kernel
theorem dX8_marked_116 : decode cX8_marked 116 = .ok (.iadd, 1) := by decide +kernel
theorem dX8_marked_117 : decode cX8_marked 117 = .ok (.istore_n 3, 1) := by decide +kernel
theorem dX8_marked_118 : decode cX8_marked 118 = .ok (.iload 4, 2) := by decide +kernel
theorem dX8_marked_120 : decode cX8_marked 120 = .ok (.ifCond .lt 10, 3) := by decide +kernel
theorem dX8_marked_123 : decode cX8_marked 123 = .ok (.iload 6, 2) := by decide +kernel
theorem dX8_marked_125 : decode cX8_marked 125 = .ok (.iload 4, 2) := by decide +kernel
theorem dX8_marked_127 : decode cX8_marked 127 = .ok (.if_icmp .ge 8, 3) := by decide +kernel
theorem dX8_marked_130 : decode cX8_marked 130 = .ok (.iload 6, 2) := by decide +kernel
theorem dX8_marked_132 : decode cX8_marked 132 = .ok (.goto 5, 3) := by decide +kernel
theorem dX8_marked_135 : decode cX8_marked 135 = .ok (.iload 4, 2) := by decide +kernel
theorem dX8_marked_137 : decode cX8_marked 137 = .ok (.istore 4, 2) := by decide +kernel
theorem dX8_marked_139 : decode cX8_marked 139 = .ok (.iinc 5 1, 3) := by decide +kernel
theorem dX8_marked_142 : decode cX8_marked 142 = .ok (.goto (-48), 3) := by decide +kernel
theorem dX8_marked_145 : decode cX8_marked 145 = .ok (.iload_n 1, 1) := by decide +kernel
theorem dX8_marked_146 : decode cX8_marked 146 = .ok (.iconst 5, 1) := by decide +kernel
theorem dX8_marked_147 : decode cX8_marked 147 = .ok (.if_icmp .ne 14, 3) := by decide +kernel
theorem dX8_marked_150 : decode cX8_marked 150 = .ok (.iload_n 3, 1) := by decide +kernel
theorem dX8_marked_151 : decode cX8_marked 151 = .ok (.aload_n 0, 1) := by decide +kernel
theorem dX8_marked_152 : decode cX8_marked 152 = .ok (.getfield 13, 3) := by decide +kernel
theorem dX8_marked_155 : decode cX8_marked 155 = .ok (.iconst 0, 1) := by decide +kernel
theorem dX8_marked_156 : decode cX8_marked 156 = .ok (.iaload, 1) := by decide +kernel
theorem dX8_marked_157 : decode cX8_marked 157 = .ok (.idiv, 1) := by decide +kernel
theorem dX8_marked_158 : decode cX8_marked 158 = .ok (.goto 5, 3) := by decide +kernel
theorem dX8_marked_161 : decode cX8_marked 161 = .ok (.iload 4, 2) := by decide +kernel
theorem dX8_marked_163 : decode cX8_marked 163 = .ok (.ireturn, 1) := by decide +kernel
theorem dX8_together_0 : decode cX8_together 0 = .ok (.iconst 0, 1) := by decide +kernel
theorem dX8_together_1 : decode cX8_together 1 = .ok (.istore_n 2, 1) := by decide +kernel
theorem dX8_together_2 : decode cX8_together 2 = .ok (.iconst 0, 1) := by decide +kernel
theorem dX8_together_3 : decode cX8_together 3 = .ok (.istore_n 3, 1) := by decide +kernel
theorem dX8_together_4 : decode cX8_together 4 = .ok (.iload_n 3, 1) := by decide +kernel
theorem dX8_together_5 : decode cX8_together 5 = .ok (.aload_n 0, 1) := by decide +kernel
theorem dX8_together_6 : decode cX8_together 6 = .ok (.getfield 13, 3) := by decide +kernel
theorem dX8_together_9 : decode cX8_together 9 = .ok (.iconst 0, 1) := by decide +kernel
theorem dX8_together_10 : decode cX8_together 10 = .ok (.iaload, 1) := by decide +kernel
theorem dX8_together_11 : decode cX8_together 11 = .ok (.if_icmp .ge 18, 3) := by decide +kernel
theorem dX8_together_14 : decode cX8_together 14 = .ok (.iload_n 2, 1) := by decide +kernel
theorem dX8_together_15 : decode cX8_together 15 = .ok (.aload_n 0, 1) := by decide +kernel
theorem dX8_together_16 : decode cX8_together 16 = .ok (.iload_n 1, 1) := by decide +kernel
theorem dX8_together_17 : decode cX8_together 17 = .ok (.iload_n 3, 1) := by decide +kernel
theorem dX8_together_18 : decode cX8_together 18 = .ok (.invokevirtual 126, 3) := by decide +kernel
theorem dX8_together_21 : decode cX8_together 21 = .ok (.iadd, 1) := by decide +kernel
theorem dX8_together_22 : decode cX8_together 22 = .ok (.istore_n 2, 1) := by decide +kernel
theorem dX8_together_23 : decode cX8_together 23 = .ok (.iinc 3 1, 3) := by decide +kernel
theorem dX8_together_26 : decode cX8_together 26 = .ok (.goto (-22), 3) := by decide +kernel
theorem dX8_together_29 : decode cX8_together 29 = .ok (.iload_n 2, 1) := by decide +kernel
theorem dX8_together_30 : decode cX8_together 30 = .ok (.ireturn, 1) := by decide +kernel
theorem dX8_whoPass_0 : decode cX8_whoPass 0 = .ok (.iconst 0, 1) := by decide +kernel
theorem dX8_whoPass_1 : decode cX8_whoPass 1 = .ok (.istore_n 1, 1) := by decide +kernel
theorem dX8_whoPass_2 : decode cX8_whoPass 2 = .ok (.iconst 0, 1) := by decide +kernel
theorem dX8_whoPass_3 : decode cX8_whoPass 3 = .ok (.istore_n 2, 1) := by decide +kernel
theorem dX8_whoPass_4 : decode cX8_whoPass 4 = .ok (.iload_n 2, 1) := by decide +kernel
theorem dX8_whoPass_5 : decode cX8_whoPass 5 = .ok (.aload_n 0, 1) := by decide +kernel
theorem dX8_whoPass_6 : decode cX8_whoPass 6 = .ok (.getfield 13, 3) := by decide +kernel
theorem dX8_whoPass_9 : decode cX8_whoPass 9 = .ok (.iconst 0, 1) := by decide +kernel
theorem dX8_whoPass_10 : decode cX8_whoPass 10 = .ok (.iaload, 1) := by decide +kernel
theorem dX8_whoPass_11 : decode cX8_whoPass 11 = .ok (.if_icmp .ge 39, 3) := by decide +kernel
theorem dX8_whoPass_14 : decode cX8_whoPass 14 = .ok (.iload_n 1, 1) := by decide +kernel
theorem dX8_whoPass_15 : decode cX8_whoPass 15 = .ok (.aload_n 0, 1) := by decide +kernel
theorem dX8_whoPass_16 : decode cX8_whoPass 16 = .ok (.aload_n 0, 1) := by decide +kernel
theorem dX8_whoPass_17 : decode cX8_whoPass 17 = .ok (.getfield 13, 3) := by decide +kernel
theorem dX8_whoPass_20 : decode cX8_whoPass 20 = .ok (.iconst 3, 1) := by decide +kernel
theorem dX8_whoPass_21 : decode cX8_whoPass 21 = .ok (.iaload, 1) := by decide +kernel
theorem dX8_whoPass_22 : decode cX8_whoPass 22 = .ok (.iload_n 2, 1) := by decide +kernel
theorem dX8_whoPass_23 : decode cX8_whoPass 23 = .ok (.invokevirtual 126, 3) := by decide +kernel
theorem dX8_whoPass_26 : decode cX8_whoPass 26 = .ok (.aload_n 0, 1) := by decide +kernel
theorem dX8_whoPass_27 : decode cX8_whoPass 27 = .ok (.getfield 13, 3) := by decide +kernel
theorem dX8_whoPass_30 : decode cX8_whoPass 30 = .ok (.iconst 4, 1) := by decide +kernel
theorem dX8_whoPass_31 : decode cX8_whoPass 31 = .ok (.iaload, 1) := by decide +kernel
theorem dX8_whoPass_32 : decode cX8_whoPass 32 = .ok (.if_icmp .lt 9, 3) := by decide +kernel
theorem dX8_whoPass_35 : decode cX8_whoPass 35 = .ok (.iconst 1, 1) := by decide +kernel
theorem dX8_whoPass_36 : decode cX8_whoPass 36 = .ok (.iload_n 2, 1) := by decide +kernel
theorem dX8_whoPass_37 : decode cX8_whoPass 37 = .ok (.ishl, 1) := by decide +kernel
theorem dX8_whoPass_38 : decode cX8_whoPass 38 = .ok (.goto 4, 3) := by decide +kernel
theorem dX8_whoPass_41 : decode cX8_whoPass 41 = .ok (.iconst 0, 1) := by decide +kernel
theorem dX8_whoPass_42 : decode cX8_whoPass 42 = .ok (.ior, 1) := by decide +kernel
theorem dX8_whoPass_43 : decode cX8_whoPass 43 = .ok (.istore_n 1, 1) := by decide +kernel
theorem dX8_whoPass_44 : decode cX8_whoPass 44 = .ok (.iinc 2 1, 3) := by decide +kernel
theorem dX8_whoPass_47 : decode cX8_whoPass 47 = .ok (.goto (-43), 3) := by decide +kernel
theorem dX8_whoPass_50 : decode cX8_whoPass 50 = .ok (.iload_n 1, 1) := by decide +kernel
theorem dX8_whoPass_51 : decode cX8_whoPass 51 = .ok (.ireturn, 1) := by decide +kernel
theorem dX8_bits_0 : decode cX8_bits 0 = .ok (.iconst 0, 1) := by decide +kernel
theorem dX8_bits_1 : decode cX8_bits 1 = .ok (.istore_n 1, 1) := by decide +kernel
theorem dX8_bits_2 : decode cX8_bits 2 = .ok (.iconst 0, 1) := by decide +kernel
theorem dX8_bits_3 : decode cX8_bits 3 = .ok (.istore_n 2, 1) := by decide +kernel
theorem dX8_bits_4 : decode cX8_bits 4 = .ok (.iload_n 2, 1) := by decide +kernel
theorem dX8_bits_5 : decode cX8_bits 5 = .ok (.bipush 6, 2) := by decide +kernel
theorem dX8_bits_7 : decode cX8_bits 7 = .ok (.if_icmp .ge 17, 3) := by decide +kernel
theorem dX8_bits_10 : decode cX8_bits 10 = .ok (.iload_n 1, 1) := by decide +kernel
theorem dX8_bits_11 : decode cX8_bits 11 = .ok (.iload_n 0, 1) := by decide +kernel
theorem dX8_bits_12 : decode cX8_bits 12 = .ok (.iload_n 2, 1) := by decide +kernel
theorem dX8_bits_13 : decode cX8_bits 13 = .ok (.ishr, 1) := by decide +kernel
theorem dX8_bits_14 : decode cX8_bits 14 = .ok (.iconst 1, 1) := by decide +kernel
theorem dX8_bits_15 : decode cX8_bits 15 = .ok (.iand, 1) := by decide +kernel
theorem dX8_bits_16 : decode cX8_bits 16 = .ok (.iadd, 1) := by decide +kernel
theorem dX8_bits_17 : decode cX8_bits 17 = .ok (.istore_n 1, 1) := by decide +kernel
theorem dX8_bits_18 : decode cX8_bits 18 = .ok (.iinc 2 1, 3) := by decide +kernel
theorem dX8_bits_21 : decode cX8_bits 21 = .ok (.goto (-17), 3) := by decide +kernel
theorem dX8_bits_24 : decode cX8_bits 24 = .ok (.iload_n 1, 1) := by decide +kernel
theorem dX8_bits_25 : decode cX8_bits 25 = .ok (.ireturn, 1) := by decide +kernel
theorem dX8_isNobody_0 : decode cX8_isNobody 0 = .ok (.iload_n 1, 1) := by decide +kernel
theorem dX8_isNobody_1 : decode cX8_isNobody 1 = .ok (.ifCond .lt 13, 3) := by decide +kernel
theorem dX8_isNobody_4 : decode cX8_isNobody 4 = .ok (.iload_n 1, 1) := by decide +kernel
theorem dX8_isNobody_5 : decode cX8_isNobody 5 = .ok (.aload_n 0, 1) := by decide +kernel
theorem dX8_isNobody_6 : decode cX8_isNobody 6 = .ok (.getfield 13, 3) := by decide +kernel
theorem dX8_isNobody_9 : decode cX8_isNobody 9 = .ok (.iconst 0, 1) := by decide +kernel
theorem dX8_isNobody_10 : decode cX8_isNobody 10 = .ok (.iaload, 1) := by decide +kernel
theorem dX8_isNobody_11 : decode cX8_isNobody 11 = .ok (.if_icmp .lt 7, 3) := by decide +kernel
theorem dX8_isNobody_14 : decode cX8_isNobody 14 = .ok (.iconst 1, 1) := by decide +kernel
theorem dX8_isNobody_15 : decode cX8_isNobody 15 = .ok (.goto 4, 3) := by decide +kernel
theorem dX8_isNobody_18 : decode cX8_isNobody 18 = .ok (.iconst 0, 1) := by decide +kernel
theorem dX8_isNobody_19 : decode cX8_isNobody 19 = .ok (.ireturn, 1) := by decide +kernel
theorem dX8_pupil_0 : decode cX8_pupil 0 = .ok (.aload_n 0, 1) := by decide +kernel
theorem dX8_pupil_1 : decode cX8_pupil 1 = .ok (.iload_n 1, 1) := by decide +kernel
theorem dX8_pupil_2 : decode cX8_pupil 2 = .ok (.invokevirtual 129, 3) := by decide +kernel
theorem dX8_pupil_5 : decode cX8_pupil 5 = .ok (.ifCond .eq 9, 3) := by decide +kernel
theorem dX8_pupil_8 : decode cX8_pupil 8 = .ok (.aload_n 0, 1) := by decide +kernel
theorem dX8_pupil_9 : decode cX8_pupil 9 = .ok (.iconst (-1), 1) := by decide +kernel
theorem dX8_pupil_10 : decode cX8_pupil 10 = .ok (.invokevirtual 71, 3) := by decide +kernel
theorem dX8_pupil_13 : decode cX8_pupil 13 = .ok (.ireturn, 1) := by decide +kernel
theorem dX8_pupil_14 : decode cX8_pupil 14 = .ok (.iload_n 2, 1) := by decide +kernel
theorem dX8_pupil_15 : decode cX8_pupil 15 = .ok (.ifCond .lt 9, 3) := by decide +kernel
theorem dX8_pupil_18 : decode cX8_pupil 18 = .ok (.iload_n 2, 1) := by decide +kernel
theorem dX8_pupil_19 : decode cX8_pupil 19 = .ok (.bipush 7, 2) := by decide +kernel
theorem dX8_pupil_21 : decode cX8_pupil 21 = .ok (.if_icmp .le 10, 3) := by decide +kernel
theorem dX8_pupil_24 : decode cX8_pupil 24 = .ok (.aload_n 0, 1) := by decide +kernel
theorem dX8_pupil_25 : decode cX8_pupil 25 = .ok (.bipush (-2), 2) := by decide +kernel
theorem dX8_pupil_27 : decode cX8_pupil 27 = .ok (.invokevirtual 71, 3) := by decide +kernel
theorem dX8_pupil_30 : decode cX8_pupil 30 = .ok (.ireturn, 1) := by decide +kernel
theorem dX8_pupil_31 : decode cX8_pupil 31 = .ok (.iload_n 2, 1) := by decide +kernel
theorem dX8_pupil_32 : decode cX8_pupil 32 = .ok (.bipush 6, 2) := by decide +kernel
theorem dX8_pupil_34 : decode cX8_pupil 34 = .ok (.if_icmp .ne 11, 3) := by decide +kernel
theorem dX8_pupil_37 : decode cX8_pupil 37 = .ok (.aload_n 0, 1) := by decide +kernel
theorem dX8_pupil_38 : decode cX8_pupil 38 = .ok (.iload_n 1, 1) := by decide +kernel
theorem dX8_pupil_39 : decode cX8_pupil 39 = .ok (.invokevirtual 113, 3) := by decide +kernel
theorem dX8_pupil_42 : decode cX8_pupil 42 = .ok (.goto 32, 3) := by decide +kernel
theorem dX8_pupil_45 : decode cX8_pupil 45 = .ok (.iload_n 2, 1) := by decide +kernel
theorem dX8_pupil_46 : decode cX8_pupil 46 = .ok (.bipush 7, 2) := by decide +kernel
theorem dX8_pupil_48 : decode cX8_pupil 48 = .ok (.if_icmp .ne 12, 3) := by decide +kernel
theorem dX8_pupil_51 : decode cX8_pupil 51 = .ok (.aload_n 0, 1) := by decide +kernel
theorem dX8_pupil_52 : decode cX8_pupil 52 = .ok (.iload_n 1, 1) := by decide +kernel
theorem dX8_pupil_53 : decode cX8_pupil 53 = .ok (.iconst 1, 1) := by decide +kernel
theorem dX8_pupil_54 : decode cX8_pupil 54 = .ok (.invokevirtual 116, 3) := by decide +kernel
theorem dX8_pupil_57 : decode cX8_pupil 57 = .ok (.goto 17, 3) := by decide +kernel
theorem dX8_pupil_60 : decode cX8_pupil 60 = .ok (.aload_n 0, 1) := by decide +kernel
theorem dX8_pupil_61 : decode cX8_pupil 61 = .ok (.getfield 13, 3) := by decide +kernel
theorem dX8_pupil_64 : decode cX8_pupil 64 = .ok (.bipush 10, 2) := by decide +kernel
theorem dX8_pupil_66 : decode cX8_pupil 66 = .ok (.bipush 10, 2) := by decide +kernel
theorem dX8_pupil_68 : decode cX8_pupil 68 = .ok (.iload_n 2, 1) := by decide +kernel
theorem dX8_pupil_69 : decode cX8_pupil 69 = .ok (.imul, 1) := by decide +kernel
theorem dX8_pupil_70 : decode cX8_pupil 70 = .ok (.iadd, 1) := by decide +kernel
theorem dX8_pupil_71 : decode cX8_pupil 71 = .ok (.iload_n 1, 1) := by decide +kernel
theorem dX8_pupil_72 : decode cX8_pupil 72 = .ok (.iadd, 1) := by decide +kernel
theorem dX8_pupil_73 : decode cX8_pupil 73 = .ok (.iaload, 1) := by decide +kernel
theorem dX8_pupil_74 : decode cX8_pupil 74 = .ok (.ireturn, 1) := by decide +kernel
theorem dX8_sick_0 : decode cX8_sick 0 = .ok (.aload_n 0, 1) := by decide +kernel
theorem dX8_sick_1 : decode cX8_sick 1 = .ok (.iload_n 1, 1) := by decide +kernel
theorem dX8_sick_2 : decode cX8_sick 2 = .ok (.invokevirtual 129, 3) := by decide +kernel
theorem dX8_sick_5 : decode cX8_sick 5 = .ok (.ifCond .eq 9, 3) := by decide +kernel
theorem dX8_sick_8 : decode cX8_sick 8 = .ok (.aload_n 0, 1) := by decide +kernel
theorem dX8_sick_9 : decode cX8_sick 9 = .ok (.iconst (-1), 1) := by decide +kernel
theorem dX8_sick_10 : decode cX8_sick 10 = .ok (.invokevirtual 71, 3) := by decide +kernel
theorem dX8_sick_13 : decode cX8_sick 13 = .ok (.ireturn, 1) := by decide +kernel
theorem dX8_sick_14 : decode cX8_sick 14 = .ok (.iload_n 2, 1) := by decide +kernel
theorem dX8_sick_15 : decode cX8_sick 15 = .ok (.ifCond .lt 8, 3) := by decide +kernel
theorem dX8_sick_18 : decode cX8_sick 18 = .ok (.iload_n 2, 1) := by decide +kernel
theorem dX8_sick_19 : decode cX8_sick 19 = .ok (.iconst 1, 1) := by decide +kernel
theorem dX8_sick_20 : decode cX8_sick 20 = .ok (.if_icmp .le 10, 3) := by decide +kernel
theorem dX8_sick_23 : decode cX8_sick 23 = .ok (.aload_n 0, 1) := by decide +kernel
theorem dX8_sick_24 : decode cX8_sick 24 = .ok (.bipush (-2), 2) := by decide +kernel
theorem dX8_sick_26 : decode cX8_sick 26 = .ok (.invokevirtual 71, 3) := by decide +kernel
theorem dX8_sick_29 : decode cX8_sick 29 = .ok (.ireturn, 1) := by decide +kernel
theorem dX8_sick_30 : decode cX8_sick 30 = .ok (.aload_n 0, 1) := by decide +kernel
theorem dX8_sick_31 : decode cX8_sick 31 = .ok (.getfield 13, 3) := by decide +kernel
theorem dX8_sick_34 : decode cX8_sick 34 = .ok (.bipush 40, 2) := by decide +kernel
theorem dX8_sick_36 : decode cX8_sick 36 = .ok (.iload_n 1, 1) := by decide +kernel
theorem dX8_sick_37 : decode cX8_sick 37 = .ok (.iadd, 1) := by decide +kernel
theorem dX8_sick_38 : decode cX8_sick 38 = .ok (.iaload, 1) := by decide +kernel
theorem dX8_sick_39 : decode cX8_sick 39 = .ok (.istore_n 3, 1) := by decide +kernel
theorem dX8_sick_40 : decode cX8_sick 40 = .ok (.aload_n 0, 1) := by decide +kernel
theorem dX8_sick_41 : decode cX8_sick 41 = .ok (.getfield 13, 3) := by decide +kernel
theorem dX8_sick_44 : decode cX8_sick 44 = .ok (.bipush 40, 2) := by decide +kernel
theorem dX8_sick_46 : decode cX8_sick 46 = .ok (.iload_n 1, 1) := by decide +kernel
theorem dX8_sick_47 : decode cX8_sick 47 = .ok (.iadd, 1) := by decide +kernel
theorem dX8_sick_48 : decode cX8_sick 48 = .ok (.iload_n 2, 1) := by decide +kernel
theorem dX8_sick_49 : decode cX8_sick 49 = .ok (.iastore, 1) := by decide +kernel
theorem dX8_sick_50 : decode cX8_sick 50 = .ok (.iload_n 3, 1) := by decide +kernel
theorem dX8_sick_51 : decode cX8_sick 51 = .ok (.ireturn, 1) := by decide +kernel
theorem dX8_teach_0 : decode cX8_teach 0 = .ok (.aload_n 0, 1) := by decide +kernel
theorem dX8_teach_1 : decode cX8_teach 1 = .ok (.getfield 13, 3) := by decide +kernel
theorem dX8_teach_4 : decode cX8_teach 4 = .ok (.bipush 60, 2) := by decide +kernel
theorem dX8_teach_6 : decode cX8_teach 6 = .ok (.iload_n 1, 1) := by decide +kernel
theorem dX8_teach_7 : decode cX8_teach 7 = .ok (.iadd, 1) := by decide +kernel
theorem dX8_teach_8 : decode cX8_teach 8 = .ok (.iload_n 2, 1) := by decide +kernel
theorem dX8_teach_9 : decode cX8_teach 9 = .ok (.iastore, 1) := by decide +kernel
theorem dX8_teach_10 : decode cX8_teach 10 = .ok (.aload_n 0, 1) := by decide +kernel
theorem dX8_teach_11 : decode cX8_teach 11 = .ok (.getfield 13, 3) := by decide +kernel
theorem dX8_teach_14 : decode cX8_teach 14 = .ok (.bipush 50, 2) := by decide +kernel
theorem dX8_teach_16 : decode cX8_teach 16 = .ok (.iload_n 1, 1) := by decide +kernel
theorem dX8_teach_17 : decode cX8_teach 17 = .ok (.iadd, 1) := by decide +kernel
theorem dX8_teach_18 : decode cX8_teach 18 = .ok (.aload_n 0, 1) := by decide +kernel
theorem dX8_teach_19 : decode cX8_teach 19 = .ok (.getfield 13, 3) := by decide +kernel
theorem dX8_teach_22 : decode cX8_teach 22 = .ok (.iconst 1, 1) := by decide +kernel
theorem dX8_teach_23 : decode cX8_teach 23 = .ok (.iaload, 1) := by decide +kernel
theorem dX8_teach_24 : decode cX8_teach 24 = .ok (.iload_n 2, 1) := by decide +kernel
theorem dX8_teach_25 : decode cX8_teach 25 = .ok (.isub, 1) := by decide +kernel
theorem dX8_teach_26 : decode cX8_teach 26 = .ok (.iastore, 1) := by decide +kernel
theorem dX8_teach_27 : decode cX8_teach 27 = .ok (.return_, 1) := by decide +kernel
theorem dX8_learn_0 : decode cX8_learn 0 = .ok (.aload_n 0, 1) := by decide +kernel
theorem dX8_learn_1 : decode cX8_learn 1 = .ok (.iload_n 1, 1) := by decide +kernel
theorem dX8_learn_2 : decode cX8_learn 2 = .ok (.invokevirtual 129, 3) := by decide +kernel
theorem dX8_learn_5 : decode cX8_learn 5 = .ok (.ifCond .eq 9, 3) := by decide +kernel
theorem dX8_learn_8 : decode cX8_learn 8 = .ok (.aload_n 0, 1) := by decide +kernel
theorem dX8_learn_9 : decode cX8_learn 9 = .ok (.iconst (-1), 1) := by decide +kernel
theorem dX8_learn_10 : decode cX8_learn 10 = .ok (.invokevirtual 71, 3) := by decide +kernel
theorem dX8_learn_13 : decode cX8_learn 13 = .ok (.ireturn, 1) := by decide +kernel
theorem dX8_learn_14 : decode cX8_learn 14 = .ok (.iload_n 2, 1) := by decide +kernel
theorem dX8_learn_15 : decode cX8_learn 15 = .ok (.ifCond .ge 10, 3) := by decide +kernel
theorem dX8_learn_18 : decode cX8_learn 18 = .ok (.aload_n 0, 1) := by decide +kernel
theorem dX8_learn_19 : decode cX8_learn 19 = .ok (.bipush (-4), 2) := by decide +kernel
theorem dX8_learn_21 : decode cX8_learn 21 = .ok (.invokevirtual 71, 3) := by decide +kernel
theorem dX8_learn_24 : decode cX8_learn 24 = .ok (.ireturn, 1) := by decide +kernel
theorem dX8_learn_25 : decode cX8_learn 25 = .ok (.iload_n 2, 1) := by decide +kernel
theorem dX8_learn_26 : decode cX8_learn 26 = .ok (.aload_n 0, 1) := by decide +kernel
theorem dX8_learn_27 : decode cX8_learn 27 = .ok (.getfield 13, 3) := by decide +kernel
theorem dX8_learn_30 : decode cX8_learn 30 = .ok (.iconst 1, 1) := by decide +kernel
theorem dX8_learn_31 : decode cX8_learn 31 = .ok (.iaload, 1) := by decide +kernel
theorem dX8_learn_32 : decode cX8_learn 32 = .ok (.if_icmp .le 10, 3) := by decide +kernel
theorem dX8_learn_35 : decode cX8_learn 35 = .ok (.aload_n 0, 1) := by decide +kernel
theorem dX8_learn_36 : decode cX8_learn 36 = .ok (.bipush (-6), 2) := by decide +kernel
theorem dX8_learn_38 : decode cX8_learn 38 = .ok (.invokevirtual 71, 3) := by decide +kernel
theorem dX8_learn_41 : decode cX8_learn 41 = .ok (.ireturn, 1) := by decide +kernel
theorem dX8_learn_42 : decode cX8_learn 42 = .ok (.aload_n 0, 1) := by decide +kernel
theorem dX8_learn_43 : decode cX8_learn 43 = .ok (.getfield 13, 3) := by decide +kernel
theorem dX8_learn_46 : decode cX8_learn 46 = .ok (.bipush 50, 2) := by decide +kernel
theorem dX8_learn_48 : decode cX8_learn 48 = .ok (.iload_n 1, 1) := by decide +kernel
theorem dX8_learn_49 : decode cX8_learn 49 = .ok (.iadd, 1) := by decide +kernel
theorem dX8_learn_50 : decode cX8_learn 50 = .ok (.iaload, 1) := by decide +kernel
theorem dX8_learn_51 : decode cX8_learn 51 = .ok (.istore_n 3, 1) := by decide +kernel
theorem dX8_learn_52 : decode cX8_learn 52 = .ok (.aload_n 0, 1) := by decide +kernel
theorem dX8_learn_53 : decode cX8_learn 53 = .ok (.iload_n 1, 1) := by decide +kernel
theorem dX8_learn_54 : decode cX8_learn 54 = .ok (.aload_n 0, 1) := by decide +kernel
theorem dX8_learn_55 : decode cX8_learn 55 = .ok (.getfield 13, 3) := by decide +kernel
theorem dX8_learn_58 : decode cX8_learn 58 = .ok (.iconst 1, 1) := by decide +kernel
theorem dX8_learn_59 : decode cX8_learn 59 = .ok (.iaload, 1) := by decide +kernel
theorem dX8_learn_60 : decode cX8_learn 60 = .ok (.iload_n 2, 1) := by decide +kernel
theorem dX8_learn_61 : decode cX8_learn 61 = .ok (.isub, 1) := by decide +kernel
theorem dX8_learn_62 : decode cX8_learn 62 = .ok (.invokevirtual 132, 3) := by decide +kernel
theorem dX8_learn_65 : decode cX8_learn 65 = .ok (.iload_n 3, 1) := by decide +kernel
theorem dX8_learn_66 : decode cX8_learn 66 = .ok (.ireturn, 1) := by decide +kernel
theorem dX8_swap_0 : decode cX8_swap 0 = .ok (.aload_n 0, 1) := by decide +kernel
theorem dX8_swap_1 : decode cX8_swap 1 = .ok (.iload_n 1, 1) := by decide +kernel
theorem dX8_swap_2 : decode cX8_swap 2 = .ok (.invokevirtual 129, 3) := by decide +kernel
theorem dX8_swap_5 : decode cX8_swap 5 = .ok (.ifCond .ne 16, 3) := by decide +kernel
theorem dX8_swap_8 : decode cX8_swap 8 = .ok (.aload_n 0, 1) := by decide +kernel
theorem dX8_swap_9 : decode cX8_swap 9 = .ok (.iload_n 2, 1) := by decide +kernel
theorem dX8_swap_10 : decode cX8_swap 10 = .ok (.invokevirtual 129, 3) := by decide +kernel
theorem dX8_swap_13 : decode cX8_swap 13 = .ok (.ifCond .ne 8, 3) := by decide +kernel
