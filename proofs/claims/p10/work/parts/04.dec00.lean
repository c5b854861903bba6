theorem dX0_knowsOf_0 : decode cX0_knowsOf 0 = .ok (.iload_n 1, 1) := by decide +kernel
theorem dX0_knowsOf_1 : decode cX0_knowsOf 1 = .ok (.ifCond .lt 21, 3) := by decide +kernel
theorem dX0_knowsOf_4 : decode cX0_knowsOf 4 = .ok (.iload_n 1, 1) := by decide +kernel
theorem dX0_knowsOf_5 : decode cX0_knowsOf 5 = .ok (.aload_n 0, 1) := by decide +kernel
theorem dX0_knowsOf_6 : decode cX0_knowsOf 6 = .ok (.getfield 9, 3) := by decide +kernel
theorem dX0_knowsOf_9 : decode cX0_knowsOf 9 = .ok (.if_icmp .ge 13, 3) := by decide +kernel
theorem dX0_knowsOf_12 : decode cX0_knowsOf 12 = .ok (.aload_n 0, 1) := by decide +kernel
theorem dX0_knowsOf_13 : decode cX0_knowsOf 13 = .ok (.getfield 15, 3) := by decide +kernel
theorem dX0_knowsOf_16 : decode cX0_knowsOf 16 = .ok (.iload_n 1, 1) := by decide +kernel
theorem dX0_knowsOf_17 : decode cX0_knowsOf 17 = .ok (.iaload, 1) := by decide +kernel
theorem dX0_knowsOf_18 : decode cX0_knowsOf 18 = .ok (.iconst 1, 1) := by decide +kernel
theorem dX0_knowsOf_19 : decode cX0_knowsOf 19 = .ok (.if_icmp .ne 5, 3) := by decide +kernel
theorem dX0_knowsOf_22 : decode cX0_knowsOf 22 = .ok (.iconst 0, 1) := by decide +kernel
theorem dX0_knowsOf_23 : decode cX0_knowsOf 23 = .ok (.ireturn, 1) := by decide +kernel
theorem dX0_knowsOf_24 : decode cX0_knowsOf 24 = .ok (.aload_n 0, 1) := by decide +kernel
theorem dX0_knowsOf_25 : decode cX0_knowsOf 25 = .ok (.getfield 19, 3) := by decide +kernel
theorem dX0_knowsOf_28 : decode cX0_knowsOf 28 = .ok (.iload_n 1, 1) := by decide +kernel
theorem dX0_knowsOf_29 : decode cX0_knowsOf 29 = .ok (.iaload, 1) := by decide +kernel
theorem dX0_knowsOf_30 : decode cX0_knowsOf 30 = .ok (.istore_n 2, 1) := by decide +kernel
theorem dX0_knowsOf_31 : decode cX0_knowsOf 31 = .ok (.iload_n 2, 1) := by decide +kernel
theorem dX0_knowsOf_32 : decode cX0_knowsOf 32 = .ok (.ifCond .lt 21, 3) := by decide +kernel
theorem dX0_knowsOf_35 : decode cX0_knowsOf 35 = .ok (.iload_n 2, 1) := by decide +kernel
theorem dX0_knowsOf_36 : decode cX0_knowsOf 36 = .ok (.aload_n 0, 1) := by decide +kernel
theorem dX0_knowsOf_37 : decode cX0_knowsOf 37 = .ok (.getfield 9, 3) := by decide +kernel
theorem dX0_knowsOf_40 : decode cX0_knowsOf 40 = .ok (.if_icmp .ge 13, 3) := by decide +kernel
theorem dX0_knowsOf_43 : decode cX0_knowsOf 43 = .ok (.aload_n 0, 1) := by decide +kernel
theorem dX0_knowsOf_44 : decode cX0_knowsOf 44 = .ok (.getfield 15, 3) := by decide +kernel
theorem dX0_knowsOf_47 : decode cX0_knowsOf 47 = .ok (.iload_n 2, 1) := by decide +kernel
theorem dX0_knowsOf_48 : decode cX0_knowsOf 48 = .ok (.iaload, 1) := by decide +kernel
theorem dX0_knowsOf_49 : decode cX0_knowsOf 49 = .ok (.iconst 1, 1) := by decide +kernel
theorem dX0_knowsOf_50 : decode cX0_knowsOf 50 = .ok (.if_icmp .ne 7, 3) := by decide +kernel
theorem dX0_knowsOf_53 : decode cX0_knowsOf 53 = .ok (.iconst 1, 1) := by decide +kernel
theorem dX0_knowsOf_54 : decode cX0_knowsOf 54 = .ok (.goto 4, 3) := by decide +kernel
theorem dX0_knowsOf_57 : decode cX0_knowsOf 57 = .ok (.iconst 0, 1) := by decide +kernel
theorem dX0_knowsOf_58 : decode cX0_knowsOf 58 = .ok (.istore_n 3, 1) := by decide +kernel
theorem dX0_knowsOf_59 : decode cX0_knowsOf 59 = .ok (.iload_n 3, 1) := by decide +kernel
theorem dX0_knowsOf_60 : decode cX0_knowsOf 60 = .ok (.ifCond .eq 7, 3) := by decide +kernel
theorem dX0_knowsOf_63 : decode cX0_knowsOf 63 = .ok (.iconst 0, 1) := by decide +kernel
theorem dX0_knowsOf_64 : decode cX0_knowsOf 64 = .ok (.goto 16, 3) := by decide +kernel
theorem dX0_knowsOf_67 : decode cX0_knowsOf 67 = .ok (.aload_n 0, 1) := by decide +kernel
theorem dX0_knowsOf_68 : decode cX0_knowsOf 68 = .ok (.getfield 22, 3) := by decide +kernel
theorem dX0_knowsOf_71 : decode cX0_knowsOf 71 = .ok (.iload_n 2, 1) := by decide +kernel
theorem dX0_knowsOf_72 : decode cX0_knowsOf 72 = .ok (.iaload, 1) := by decide +kernel
theorem dX0_knowsOf_73 : decode cX0_knowsOf 73 = .ok (.aload_n 0, 1) := by decide +kernel
theorem dX0_knowsOf_74 : decode cX0_knowsOf 74 = .ok (.getfield 25, 3) := by decide +kernel
theorem dX0_knowsOf_77 : decode cX0_knowsOf 77 = .ok (.iload_n 2, 1) := by decide +kernel
theorem dX0_knowsOf_78 : decode cX0_knowsOf 78 = .ok (.iaload, 1) := by decide +kernel
theorem dX0_knowsOf_79 : decode cX0_knowsOf 79 = .ok (.imul, 1) := by decide +kernel
theorem dX0_knowsOf_80 : decode cX0_knowsOf 80 = .ok (.istore 4, 2) := by decide +kernel
theorem dX0_knowsOf_82 : decode cX0_knowsOf 82 = .ok (.aload_n 0, 1) := by decide +kernel
theorem dX0_knowsOf_83 : decode cX0_knowsOf 83 = .ok (.getfield 28, 3) := by decide +kernel
theorem dX0_knowsOf_86 : decode cX0_knowsOf 86 = .ok (.iload_n 1, 1) := by decide +kernel
theorem dX0_knowsOf_87 : decode cX0_knowsOf 87 = .ok (.iaload, 1) := by decide +kernel
theorem dX0_knowsOf_88 : decode cX0_knowsOf 88 = .ok (.aload_n 0, 1) := by decide +kernel
theorem dX0_knowsOf_89 : decode cX0_knowsOf 89 = .ok (.getfield 31, 3) := by decide +kernel
theorem dX0_knowsOf_92 : decode cX0_knowsOf 92 = .ok (.iload_n 1, 1) := by decide +kernel
theorem dX0_knowsOf_93 : decode cX0_knowsOf 93 = .ok (.iaload, 1) := by decide +kernel
theorem dX0_knowsOf_94 : decode cX0_knowsOf 94 = .ok (.imul, 1) := by decide +kernel
theorem dX0_knowsOf_95 : decode cX0_knowsOf 95 = .ok (.iload 4, 2) := by decide +kernel
theorem dX0_knowsOf_97 : decode cX0_knowsOf 97 = .ok (.iadd, 1) := by decide +kernel
theorem dX0_knowsOf_98 : decode cX0_knowsOf 98 = .ok (.ireturn, 1) := by decide +kernel
theorem dX0_markOf_0 : decode cX0_markOf 0 = .ok (.aload_n 0, 1) := by decide +kernel
theorem dX0_markOf_1 : decode cX0_markOf 1 = .ok (.iload_n 1, 1) := by decide +kernel
theorem dX0_markOf_2 : decode cX0_markOf 2 = .ok (.invokevirtual 34, 3) := by decide +kernel
theorem dX0_markOf_5 : decode cX0_markOf 5 = .ok (.ifCond .ne 5, 3) := by decide +kernel
theorem dX0_markOf_8 : decode cX0_markOf 8 = .ok (.iconst 0, 1) := by decide +kernel
theorem dX0_markOf_9 : decode cX0_markOf 9 = .ok (.ireturn, 1) := by decide +kernel
theorem dX0_markOf_10 : decode cX0_markOf 10 = .ok (.aload_n 0, 1) := by decide +kernel
theorem dX0_markOf_11 : decode cX0_markOf 11 = .ok (.getfield 38, 3) := by decide +kernel
theorem dX0_markOf_14 : decode cX0_markOf 14 = .ok (.tableswitch 114 0 5 #[38, 44, 55, 66, 90, 109], 38) := by decide +kernel
theorem dX0_markOf_52 : decode cX0_markOf 52 = .ok (.aload_n 0, 1) := by decide +kernel
theorem dX0_markOf_53 : decode cX0_markOf 53 = .ok (.iload_n 1, 1) := by decide +kernel
theorem dX0_markOf_54 : decode cX0_markOf 54 = .ok (.invokestatic 41, 3) := by decide +kernel
theorem dX0_markOf_57 : decode cX0_markOf 57 = .ok (.ireturn, 1) := by decide +kernel
theorem dX0_markOf_58 : decode cX0_markOf 58 = .ok (.aload_n 0, 1) := by decide +kernel
theorem dX0_markOf_59 : decode cX0_markOf 59 = .ok (.aload_n 0, 1) := by decide +kernel
theorem dX0_markOf_60 : decode cX0_markOf 60 = .ok (.getfield 47, 3) := by decide +kernel
theorem dX0_markOf_63 : decode cX0_markOf 63 = .ok (.iload_n 1, 1) := by decide +kernel
theorem dX0_markOf_64 : decode cX0_markOf 64 = .ok (.iaload, 1) := by decide +kernel
theorem dX0_markOf_65 : decode cX0_markOf 65 = .ok (.invokestatic 41, 3) := by decide +kernel
theorem dX0_markOf_68 : decode cX0_markOf 68 = .ok (.ireturn, 1) := by decide +kernel
theorem dX0_markOf_69 : decode cX0_markOf 69 = .ok (.aload_n 0, 1) := by decide +kernel
theorem dX0_markOf_70 : decode cX0_markOf 70 = .ok (.aload_n 0, 1) := by decide +kernel
theorem dX0_markOf_71 : decode cX0_markOf 71 = .ok (.getfield 19, 3) := by decide +kernel
theorem dX0_markOf_74 : decode cX0_markOf 74 = .ok (.iload_n 1, 1) := by decide +kernel
theorem dX0_markOf_75 : decode cX0_markOf 75 = .ok (.iaload, 1) := by decide +kernel
theorem dX0_markOf_76 : decode cX0_markOf 76 = .ok (.invokestatic 41, 3) := by decide +kernel
theorem dX0_markOf_79 : decode cX0_markOf 79 = .ok (.ireturn, 1) := by decide +kernel
theorem dX0_markOf_80 : decode cX0_markOf 80 = .ok (.aload_n 0, 1) := by decide +kernel
theorem dX0_markOf_81 : decode cX0_markOf 81 = .ok (.aload_n 0, 1) := by decide +kernel
theorem dX0_markOf_82 : decode cX0_markOf 82 = .ok (.getfield 47, 3) := by decide +kernel
theorem dX0_markOf_85 : decode cX0_markOf 85 = .ok (.iload_n 1, 1) := by decide +kernel
theorem dX0_markOf_86 : decode cX0_markOf 86 = .ok (.iaload, 1) := by decide +kernel
theorem dX0_markOf_87 : decode cX0_markOf 87 = .ok (.invokestatic 41, 3) := by decide +kernel
theorem dX0_markOf_90 : decode cX0_markOf 90 = .ok (.aload_n 0, 1) := by decide +kernel
theorem dX0_markOf_91 : decode cX0_markOf 91 = .ok (.aload_n 0, 1) := by decide +kernel
theorem dX0_markOf_92 : decode cX0_markOf 92 = .ok (.getfield 19, 3) := by decide +kernel
theorem dX0_markOf_95 : decode cX0_markOf 95 = .ok (.iload_n 1, 1) := by decide +kernel
theorem dX0_markOf_96 : decode cX0_markOf 96 = .ok (.iaload, 1) := by decide +kernel
theorem dX0_markOf_97 : decode cX0_markOf 97 = .ok (.invokestatic 41, 3) := by decide +kernel
theorem dX0_markOf_100 : decode cX0_markOf 100 = .ok (.iadd, 1) := by decide +kernel
theorem dX0_markOf_101 : decode cX0_markOf 101 = .ok (.iconst 2, 1) := by decide +kernel
theorem dX0_markOf_102 : decode cX0_markOf 102 = .ok (.idiv, 1) := by decide +kernel
theorem dX0_markOf_103 : decode cX0_markOf 103 = .ok (.ireturn, 1) := by decide +kernel
theorem dX0_markOf_104 : decode cX0_markOf 104 = .ok (.aload_n 0, 1) := by decide +kernel
theorem dX0_markOf_105 : decode cX0_markOf 105 = .ok (.aload_n 0, 1) := by decide +kernel
theorem dX0_markOf_106 : decode cX0_markOf 106 = .ok (.getfield 47, 3) := by decide +kernel
theorem dX0_markOf_109 : decode cX0_markOf 109 = .ok (.iload_n 1, 1) := by decide +kernel
theorem dX0_markOf_110 : decode cX0_markOf 110 = .ok (.iaload, 1) := by decide +kernel
theorem dX0_markOf_111 : decode cX0_markOf 111 = .ok (.invokestatic 41, 3) := by decide +kernel
theorem dX0_markOf_114 : decode cX0_markOf 114 = .ok (.aload_n 0, 1) := by decide +kernel
theorem dX0_markOf_115 : decode cX0_markOf 115 = .ok (.iload_n 1, 1) := by decide +kernel
theorem dX0_markOf_116 : decode cX0_markOf 116 = .ok (.invokestatic 41, 3) := by decide +kernel
theorem dX0_markOf_119 : decode cX0_markOf 119 = .ok (.iadd, 1) := by decide +kernel
theorem dX0_markOf_120 : decode cX0_markOf 120 = .ok (.iconst 2, 1) := by decide +kernel
theorem dX0_markOf_121 : decode cX0_markOf 121 = .ok (.idiv, 1) := by decide +kernel
theorem dX0_markOf_122 : decode cX0_markOf 122 = .ok (.ireturn, 1) := by decide +kernel
theorem dX0_markOf_123 : decode cX0_markOf 123 = .ok (.aload_n 0, 1) := by decide +kernel
theorem dX0_markOf_124 : decode cX0_markOf 124 = .ok (.invokestatic 50, 3) := by decide +kernel
theorem dX0_markOf_127 : decode cX0_markOf 127 = .ok (.ireturn, 1) := by decide +kernel
theorem dX0_markOf_128 : decode cX0_markOf 128 = .ok (.aload_n 0, 1) := by decide +kernel
theorem dX0_markOf_129 : decode cX0_markOf 129 = .ok (.invokestatic 54, 3) := by decide +kernel
theorem dX0_markOf_132 : decode cX0_markOf 132 = .ok (.ireturn, 1) := by decide +kernel
theorem dX0_meanOfKnows_0 : decode cX0_meanOfKnows 0 = .ok (.iconst 0, 1) := by decide +kernel
theorem dX0_meanOfKnows_1 : decode cX0_meanOfKnows 1 = .ok (.istore_n 1, 1) := by decide +kernel
theorem dX0_meanOfKnows_2 : decode cX0_meanOfKnows 2 = .ok (.iconst 0, 1) := by decide +kernel
theorem dX0_meanOfKnows_3 : decode cX0_meanOfKnows 3 = .ok (.istore_n 2, 1) := by decide +kernel
theorem dX0_meanOfKnows_4 : decode cX0_meanOfKnows 4 = .ok (.iload_n 2, 1) := by decide +kernel
theorem dX0_meanOfKnows_5 : decode cX0_meanOfKnows 5 = .ok (.aload_n 0, 1) := by decide +kernel
theorem dX0_meanOfKnows_6 : decode cX0_meanOfKnows 6 = .ok (.getfield 9, 3) := by decide +kernel
theorem dX0_meanOfKnows_9 : decode cX0_meanOfKnows 9 = .ok (.if_icmp .ge 17, 3) := by decide +kernel
theorem dX0_meanOfKnows_12 : decode cX0_meanOfKnows 12 = .ok (.iload_n 1, 1) := by decide +kernel
theorem dX0_meanOfKnows_13 : decode cX0_meanOfKnows 13 = .ok (.aload_n 0, 1) := by decide +kernel
theorem dX0_meanOfKnows_14 : decode cX0_meanOfKnows 14 = .ok (.iload_n 2, 1) := by decide +kernel
theorem dX0_meanOfKnows_15 : decode cX0_meanOfKnows 15 = .ok (.invokestatic 41, 3) := by decide +kernel
theorem dX0_meanOfKnows_18 : decode cX0_meanOfKnows 18 = .ok (.iadd, 1) := by decide +kernel
theorem dX0_meanOfKnows_19 : decode cX0_meanOfKnows 19 = .ok (.istore_n 1, 1) := by decide +kernel
theorem dX0_meanOfKnows_20 : decode cX0_meanOfKnows 20 = .ok (.iinc 2 1, 3) := by decide +kernel
theorem dX0_meanOfKnows_23 : decode cX0_meanOfKnows 23 = .ok (.goto (-19), 3) := by decide +kernel
theorem dX0_meanOfKnows_26 : decode cX0_meanOfKnows 26 = .ok (.aload_n 0, 1) := by decide +kernel
theorem dX0_meanOfKnows_27 : decode cX0_meanOfKnows 27 = .ok (.getfield 9, 3) := by decide +kernel
theorem dX0_meanOfKnows_30 : decode cX0_meanOfKnows 30 = .ok (.ifCond .gt 7, 3) := by decide +kernel
theorem dX0_meanOfKnows_33 : decode cX0_meanOfKnows 33 = .ok (.iconst 0, 1) := by decide +kernel
theorem dX0_meanOfKnows_34 : decode cX0_meanOfKnows 34 = .ok (.goto 9, 3) := by decide +kernel
theorem dX0_meanOfKnows_37 : decode cX0_meanOfKnows 37 = .ok (.iload_n 1, 1) := by decide +kernel
theorem dX0_meanOfKnows_38 : decode cX0_meanOfKnows 38 = .ok (.aload_n 0, 1) := by decide +kernel
theorem dX0_meanOfKnows_39 : decode cX0_meanOfKnows 39 = .ok (.getfield 9, 3) := by decide +kernel
theorem dX0_meanOfKnows_42 : decode cX0_meanOfKnows 42 = .ok (.idiv, 1) := by decide +kernel
theorem dX0_meanOfKnows_43 : decode cX0_meanOfKnows 43 = .ok (.ireturn, 1) := by decide +kernel
theorem dX0_leastOfKnows_0 : decode cX0_leastOfKnows 0 = .ok (.aload_n 0, 1) := by decide +kernel
theorem dX0_leastOfKnows_1 : decode cX0_leastOfKnows 1 = .ok (.iconst 0, 1) := by decide +kernel
theorem dX0_leastOfKnows_2 : decode cX0_leastOfKnows 2 = .ok (.invokestatic 41, 3) := by decide +kernel
theorem dX0_leastOfKnows_5 : decode cX0_leastOfKnows 5 = .ok (.istore_n 1, 1) := by decide +kernel
theorem dX0_leastOfKnows_6 : decode cX0_leastOfKnows 6 = .ok (.iconst 1, 1) := by decide +kernel
theorem dX0_leastOfKnows_7 : decode cX0_leastOfKnows 7 = .ok (.istore_n 2, 1) := by decide +kernel
theorem dX0_leastOfKnows_8 : decode cX0_leastOfKnows 8 = .ok (.iload_n 2, 1) := by decide +kernel
theorem dX0_leastOfKnows_9 : decode cX0_leastOfKnows 9 = .ok (.aload_n 0, 1) := by decide +kernel
theorem dX0_leastOfKnows_10 : decode cX0_leastOfKnows 10 = .ok (.getfield 9, 3) := by decide +kernel
theorem dX0_leastOfKnows_13 : decode cX0_leastOfKnows 13 = .ok (.if_icmp .ge 19, 3) := by decide +kernel
theorem dX0_leastOfKnows_16 : decode cX0_leastOfKnows 16 = .ok (.iload_n 1, 1) := by decide +kernel
theorem dX0_leastOfKnows_17 : decode cX0_leastOfKnows 17 = .ok (.aload_n 0, 1) := by decide +kernel
theorem dX0_leastOfKnows_18 : decode cX0_leastOfKnows 18 = .ok (.iload_n 2, 1) := by decide +kernel
theorem dX0_leastOfKnows_19 : decode cX0_leastOfKnows 19 = .ok (.invokestatic 41, 3) := by decide +kernel
theorem dX0_leastOfKnows_22 : decode cX0_leastOfKnows 22 = .ok (.invokestatic 57, 3) := by decide +kernel
theorem dX0_leastOfKnows_25 : decode cX0_leastOfKnows 25 = .ok (.istore_n 1, 1) := by decide +kernel
theorem dX0_leastOfKnows_26 : decode cX0_leastOfKnows 26 = .ok (.iinc 2 1, 3) := by decide +kernel
theorem dX0_leastOfKnows_29 : decode cX0_leastOfKnows 29 = .ok (.goto (-21), 3) := by decide +kernel
theorem dX0_leastOfKnows_32 : decode cX0_leastOfKnows 32 = .ok (.iload_n 1, 1) := by decide +kernel
theorem dX0_leastOfKnows_33 : decode cX0_leastOfKnows 33 = .ok (.ireturn, 1) := by decide +kernel
theorem dX0_sumOfMarks_0 : decode cX0_sumOfMarks 0 = .ok (.aload_n 0, 1) := by decide +kernel
theorem dX0_sumOfMarks_1 : decode cX0_sumOfMarks 1 = .ok (.getfield 38, 3) := by decide +kernel
theorem dX0_sumOfMarks_4 : decode cX0_sumOfMarks 4 = .ok (.iconst 5, 1) := by decide +kernel
theorem dX0_sumOfMarks_5 : decode cX0_sumOfMarks 5 = .ok (.if_icmp .eq 12, 3) := by decide +kernel
theorem dX0_sumOfMarks_8 : decode cX0_sumOfMarks 8 = .ok (.aload_n 0, 1) := by decide +kernel
theorem dX0_sumOfMarks_9 : decode cX0_sumOfMarks 9 = .ok (.getfield 38, 3) := by decide +kernel
theorem dX0_sumOfMarks_12 : decode cX0_sumOfMarks 12 = .ok (.bipush 6, 2) := by decide +kernel
theorem dX0_sumOfMarks_14 : decode cX0_sumOfMarks 14 = .ok (.if_icmp .ne 14, 3) := by decide +kernel
theorem dX0_sumOfMarks_17 : decode cX0_sumOfMarks 17 = .ok (.aload_n 0, 1) := by decide +kernel
theorem dX0_sumOfMarks_18 : decode cX0_sumOfMarks 18 = .ok (.getfield 9, 3) := by decide +kernel
theorem dX0_sumOfMarks_21 : decode cX0_sumOfMarks 21 = .ok (.aload_n 0, 1) := by decide +kernel
theorem dX0_sumOfMarks_22 : decode cX0_sumOfMarks 22 = .ok (.iconst 0, 1) := by decide +kernel
theorem dX0_sumOfMarks_23 : decode cX0_sumOfMarks 23 = .ok (.invokestatic 63, 3) := by decide +kernel
theorem dX0_sumOfMarks_26 : decode cX0_sumOfMarks 26 = .ok (.imul, 1) := by decide +kernel
theorem dX0_sumOfMarks_27 : decode cX0_sumOfMarks 27 = .ok (.ireturn, 1) := by decide +kernel
theorem dX0_sumOfMarks_28 : decode cX0_sumOfMarks 28 = .ok (.iconst 0, 1) := by decide +kernel
theorem dX0_sumOfMarks_29 : decode cX0_sumOfMarks 29 = .ok (.istore_n 1, 1) := by decide +kernel
theorem dX0_sumOfMarks_30 : decode cX0_sumOfMarks 30 = .ok (.iconst 0, 1) := by decide +kernel
theorem dX0_sumOfMarks_31 : decode cX0_sumOfMarks 31 = .ok (.istore_n 2, 1) := by decide +kernel
theorem dX0_sumOfMarks_32 : decode cX0_sumOfMarks 32 = .ok (.iload_n 2, 1) := by decide +kernel
theorem dX0_sumOfMarks_33 : decode cX0_sumOfMarks 33 = .ok (.aload_n 0, 1) := by decide +kernel
theorem dX0_sumOfMarks_34 : decode cX0_sumOfMarks 34 = .ok (.getfield 9, 3) := by decide +kernel
theorem dX0_sumOfMarks_37 : decode cX0_sumOfMarks 37 = .ok (.if_icmp .ge 17, 3) := by decide +kernel
theorem dX0_sumOfMarks_40 : decode cX0_sumOfMarks 40 = .ok (.iload_n 1, 1) := by decide +kernel
theorem dX0_sumOfMarks_41 : decode cX0_sumOfMarks 41 = .ok (.aload_n 0, 1) := by decide +kernel
theorem dX0_sumOfMarks_42 : decode cX0_sumOfMarks 42 = .ok (.iload_n 2, 1) := by decide +kernel
theorem dX0_sumOfMarks_43 : decode cX0_sumOfMarks 43 = .ok (.invokestatic 63, 3) := by decide +kernel
theorem dX0_sumOfMarks_46 : decode cX0_sumOfMarks 46 = .ok (.iadd, 1) := by decide +kernel
theorem dX0_sumOfMarks_47 : decode cX0_sumOfMarks 47 = .ok (.istore_n 1, 1) := by decide +kernel
theorem dX0_sumOfMarks_48 : decode cX0_sumOfMarks 48 = .ok (.iinc 2 1, 3) := by decide +kernel
theorem dX0_sumOfMarks_51 : decode cX0_sumOfMarks 51 = .ok (.goto (-19), 3) := by decide +kernel
theorem dX0_sumOfMarks_54 : decode cX0_sumOfMarks 54 = .ok (.iload_n 1, 1) := by decide +kernel
theorem dX0_sumOfMarks_55 : decode cX0_sumOfMarks 55 = .ok (.ireturn, 1) := by decide +kernel
theorem dX0_passedBits_0 : decode cX0_passedBits 0 = .ok (.iconst 0, 1) := by decide +kernel
theorem dX0_passedBits_1 : decode cX0_passedBits 1 = .ok (.istore_n 1, 1) := by decide +kernel
theorem dX0_passedBits_2 : decode cX0_passedBits 2 = .ok (.iconst 0, 1) := by decide +kernel
theorem dX0_passedBits_3 : decode cX0_passedBits 3 = .ok (.istore_n 2, 1) := by decide +kernel
theorem dX0_passedBits_4 : decode cX0_passedBits 4 = .ok (.iload_n 2, 1) := by decide +kernel
theorem dX0_passedBits_5 : decode cX0_passedBits 5 = .ok (.aload_n 0, 1) := by decide +kernel
theorem dX0_passedBits_6 : decode cX0_passedBits 6 = .ok (.getfield 9, 3) := by decide +kernel
theorem dX0_passedBits_9 : decode cX0_passedBits 9 = .ok (.if_icmp .ge 27, 3) := by decide +kernel
theorem dX0_passedBits_12 : decode cX0_passedBits 12 = .ok (.aload_n 0, 1) := by decide +kernel
theorem dX0_passedBits_13 : decode cX0_passedBits 13 = .ok (.iload_n 2, 1) := by decide +kernel
theorem dX0_passedBits_14 : decode cX0_passedBits 14 = .ok (.invokestatic 63, 3) := by decide +kernel
theorem dX0_passedBits_17 : decode cX0_passedBits 17 = .ok (.aload_n 0, 1) := by decide +kernel
theorem dX0_passedBits_18 : decode cX0_passedBits 18 = .ok (.getfield 66, 3) := by decide +kernel
theorem dX0_passedBits_21 : decode cX0_passedBits 21 = .ok (.if_icmp .lt 9, 3) := by decide +kernel
theorem dX0_passedBits_24 : decode cX0_passedBits 24 = .ok (.iload_n 1, 1) := by decide +kernel
theorem dX0_passedBits_25 : decode cX0_passedBits 25 = .ok (.iconst 1, 1) := by decide +kernel
theorem dX0_passedBits_26 : decode cX0_passedBits 26 = .ok (.iload_n 2, 1) := by decide +kernel
theorem dX0_passedBits_27 : decode cX0_passedBits 27 = .ok (.ishl, 1) := by decide +kernel
theorem dX0_passedBits_28 : decode cX0_passedBits 28 = .ok (.ior, 1) := by decide +kernel
theorem dX0_passedBits_29 : decode cX0_passedBits 29 = .ok (.istore_n 1, 1) := by decide +kernel
theorem dX0_passedBits_30 : decode cX0_passedBits 30 = .ok (.iinc 2 1, 3) := by decide +kernel
theorem dX0_passedBits_33 : decode cX0_passedBits 33 = .ok (.goto (-29), 3) := by decide +kernel
theorem dX0_passedBits_36 : decode cX0_passedBits 36 = .ok (.iload_n 1, 1) := by decide +kernel
theorem dX0_passedBits_37 : decode cX0_passedBits 37 = .ok (.ireturn, 1) := by decide +kernel
theorem dX0_greaterBits_0 : decode cX0_greaterBits 0 = .ok (.iconst 0, 1) := by decide +kernel
theorem dX0_greaterBits_1 : decode cX0_greaterBits 1 = .ok (.istore_n 2, 1) := by decide +kernel
theorem dX0_greaterBits_2 : decode cX0_greaterBits 2 = .ok (.iconst 0, 1) := by decide +kernel
theorem dX0_greaterBits_3 : decode cX0_greaterBits 3 = .ok (.istore_n 3, 1) := by decide +kernel
theorem dX0_greaterBits_4 : decode cX0_greaterBits 4 = .ok (.iload_n 3, 1) := by decide +kernel
theorem dX0_greaterBits_5 : decode cX0_greaterBits 5 = .ok (.aload_n 0, 1) := by decide +kernel
theorem dX0_greaterBits_6 : decode cX0_greaterBits 6 = .ok (.getfield 9, 3) := by decide +kernel
theorem dX0_greaterBits_9 : decode cX0_greaterBits 9 = .ok (.if_icmp .ge 28, 3) := by decide +kernel
theorem dX0_greaterBits_12 : decode cX0_greaterBits 12 = .ok (.aload_n 0, 1) := by decide +kernel
theorem dX0_greaterBits_13 : decode cX0_greaterBits 13 = .ok (.iload_n 3, 1) := by decide +kernel
theorem dX0_greaterBits_14 : decode cX0_greaterBits 14 = .ok (.invokestatic 63, 3) := by decide +kernel
theorem dX0_greaterBits_17 : decode cX0_greaterBits 17 = .ok (.aload_n 1, 1) := by decide +kernel
theorem dX0_greaterBits_18 : decode cX0_greaterBits 18 = .ok (.iload_n 3, 1) := by decide +kernel
theorem dX0_greaterBits_19 : decode cX0_greaterBits 19 = .ok (.invokestatic 63, 3) := by decide +kernel
theorem dX0_greaterBits_22 : decode cX0_greaterBits 22 = .ok (.if_icmp .le 9, 3) := by decide +kernel
theorem dX0_greaterBits_25 : decode cX0_greaterBits 25 = .ok (.iload_n 2, 1) := by decide +kernel
theorem dX0_greaterBits_26 : decode cX0_greaterBits 26 = .ok (.iconst 1, 1) := by decide +kernel
theorem dX0_greaterBits_27 : decode cX0_greaterBits 27 = .ok (.iload_n 3, 1) := by decide +kernel
theorem dX0_greaterBits_28 : decode cX0_greaterBits 28 = .ok (.ishl, 1) := by decide +kernel
theorem dX0_greaterBits_29 : decode cX0_greaterBits 29 = .ok (.ior, 1) := by decide +kernel
theorem dX0_greaterBits_30 : decode cX0_greaterBits 30 = .ok (.istore_n 2, 1) := by decide +kernel
theorem dX0_greaterBits_31 : decode cX0_greaterBits 31 = .ok (.iinc 3 1, 3) := by decide +kernel
theorem dX0_greaterBits_34 : decode cX0_greaterBits 34 = .ok (.goto (-30), 3) := by decide +kernel
theorem dX0_greaterBits_37 : decode cX0_greaterBits 37 = .ok (.iload_n 2, 1) := by decide +kernel
theorem dX0_greaterBits_38 : decode cX0_greaterBits 38 = .ok (.ireturn, 1) := by decide +kernel
theorem dX1_init_0 : decode cX1_init 0 = .ok (.aload_n 0, 1) := by decide +kernel
theorem dX1_init_1 : decode cX1_init 1 = .ok (.invokespecial 1, 3) := by decide +kernel
theorem dX1_init_4 : decode cX1_init 4 = .ok (.aload_n 0, 1) := by decide +kernel
theorem dX1_init_5 : decode cX1_init 5 = .ok (.iconst 0, 1) := by decide +kernel
theorem dX1_init_6 : decode cX1_init 6 = .ok (.iload_n 1, 1) := by decide +kernel
theorem dX1_init_7 : decode cX1_init 7 = .ok (.invokestatic 7, 3) := by decide +kernel
theorem dX1_init_10 : decode cX1_init 10 = .ok (.newarray .int, 2) := by decide +kernel
theorem dX1_init_12 : decode cX1_init 12 = .ok (.putfield 13, 3) := by decide +kernel
theorem dX1_init_15 : decode cX1_init 15 = .ok (.aload_n 0, 1) := by decide +kernel
theorem dX1_init_16 : decode cX1_init 16 = .ok (.iconst 0, 1) := by decide +kernel
theorem dX1_init_17 : decode cX1_init 17 = .ok (.putfield 19, 3) := by decide +kernel
theorem dX1_init_20 : decode cX1_init 20 = .ok (.return_, 1) := by decide +kernel
theorem dX1_isFull_0 : decode cX1_isFull 0 = .ok (.aload_n 0, 1) := by decide +kernel
theorem dX1_isFull_1 : decode cX1_isFull 1 = .ok (.getfield 19, 3) := by decide +kernel
theorem dX1_isFull_4 : decode cX1_isFull 4 = .ok (.aload_n 0, 1) := by decide +kernel
theorem dX1_isFull_5 : decode cX1_isFull 5 = .ok (.getfield 13, 3) := by decide +kernel
theorem dX1_isFull_8 : decode cX1_isFull 8 = .ok (.arraylength, 1) := by decide +kernel
theorem dX1_isFull_9 : decode cX1_isFull 9 = .ok (.if_icmp .lt 7, 3) := by decide +kernel
theorem dX1_isFull_12 : decode cX1_isFull 12 = .ok (.iconst 1, 1) := by decide +kernel
theorem dX1_isFull_13 : decode cX1_isFull 13 = .ok (.goto 4, 3) := by decide +kernel
theorem dX1_isFull_16 : decode cX1_isFull 16 = .ok (.iconst 0, 1) := by decide +kernel
theorem dX1_isFull_17 : decode cX1_isFull 17 = .ok (.ireturn, 1) := by decide +kernel
theorem dX1_add_0 : decode cX1_add 0 = .ok (.aload_n 0, 1) := by decide +kernel
theorem dX1_add_1 : decode cX1_add 1 = .ok (.invokevirtual 23, 3) := by decide +kernel
theorem dX1_add_4 : decode cX1_add 4 = .ok (.ifCond .ne 23, 3) := by decide +kernel
theorem dX1_add_7 : decode cX1_add 7 = .ok (.aload_n 0, 1) := by decide +kernel
theorem dX1_add_8 : decode cX1_add 8 = .ok (.getfield 13, 3) := by decide +kernel
theorem dX1_add_11 : decode cX1_add 11 = .ok (.aload_n 0, 1) := by decide +kernel
theorem dX1_add_12 : decode cX1_add 12 = .ok (.getfield 19, 3) := by decide +kernel
theorem dX1_add_15 : decode cX1_add 15 = .ok (.iload_n 1, 1) := by decide +kernel
theorem dX1_add_16 : decode cX1_add 16 = .ok (.iastore, 1) := by decide +kernel
theorem dX1_add_17 : decode cX1_add 17 = .ok (.aload_n 0, 1) := by decide +kernel
theorem dX1_add_18 : decode cX1_add 18 = .ok (.dup, 1) := by decide +kernel
theorem dX1_add_19 : decode cX1_add 19 = .ok (.getfield 19, 3) := by decide +kernel
theorem dX1_add_22 : decode cX1_add 22 = .ok (.iconst 1, 1) := by decide +kernel
theorem dX1_add_23 : decode cX1_add 23 = .ok (.iadd, 1) := by decide +kernel
theorem dX1_add_24 : decode cX1_add 24 = .ok (.putfield 19, 3) := by decide +kernel
theorem dX1_add_27 : decode cX1_add 27 = .ok (.return_, 1) := by decide +kernel
theorem dX1_at_0 : decode cX1_at 0 = .ok (.iload_n 1, 1) := by decide +kernel
theorem dX1_at_1 : decode cX1_at 1 = .ok (.ifCond .lt 20, 3) := by decide +kernel
theorem dX1_at_4 : decode cX1_at 4 = .ok (.iload_n 1, 1) := by decide +kernel
theorem dX1_at_5 : decode cX1_at 5 = .ok (.aload_n 0, 1) := by decide +kernel
theorem dX1_at_6 : decode cX1_at 6 = .ok (.getfield 19, 3) := by decide +kernel
theorem dX1_at_9 : decode cX1_at 9 = .ok (.if_icmp .ge 12, 3) := by decide +kernel
theorem dX1_at_12 : decode cX1_at 12 = .ok (.aload_n 0, 1) := by decide +kernel
theorem dX1_at_13 : decode cX1_at 13 = .ok (.getfield 13, 3) := by decide +kernel
theorem dX1_at_16 : decode cX1_at 16 = .ok (.iload_n 1, 1) := by decide +kernel
theorem dX1_at_17 : decode cX1_at 17 = .ok (.iaload, 1) := by decide +kernel
theorem dX1_at_18 : decode cX1_at 18 = .ok (.goto 4, 3) := by decide +kernel
theorem dX1_at_21 : decode cX1_at 21 = .ok (.iconst (-1), 1) := by decide +kernel
theorem dX1_at_22 : decode cX1_at 22 = .ok (.ireturn, 1) := by decide +kernel
theorem dX1_clear_0 : decode cX1_clear 0 = .ok (.aload_n 0, 1) := by decide +kernel
theorem dX1_clear_1 : decode cX1_clear 1 = .ok (.iconst 0, 1) := by decide +kernel
theorem dX1_clear_2 : decode cX1_clear 2 = .ok (.putfield 19, 3) := by decide +kernel
theorem dX1_clear_5 : decode cX1_clear 5 = .ok (.return_, 1) := by decide +kernel
theorem dX1_copyFrom_0 : decode cX1_copyFrom 0 = .ok (.aload_n 0, 1) := by decide +kernel
theorem dX1_copyFrom_1 : decode cX1_copyFrom 1 = .ok (.aload_n 1, 1) := by decide +kernel
theorem dX1_copyFrom_2 : decode cX1_copyFrom 2 = .ok (.getfield 19, 3) := by decide +kernel
theorem dX1_copyFrom_5 : decode cX1_copyFrom 5 = .ok (.aload_n 0, 1) := by decide +kernel
theorem dX1_copyFrom_6 : decode cX1_copyFrom 6 = .ok (.getfield 13, 3) := by decide +kernel
theorem dX1_copyFrom_9 : decode cX1_copyFrom 9 = .ok (.arraylength, 1) := by decide +kernel
theorem dX1_copyFrom_10 : decode cX1_copyFrom 10 = .ok (.invokestatic 27, 3) := by decide +kernel
theorem dX1_copyFrom_13 : decode cX1_copyFrom 13 = .ok (.putfield 19, 3) := by decide +kernel
theorem dX1_copyFrom_16 : decode cX1_copyFrom 16 = .ok (.aload_n 1, 1) := by decide +kernel
theorem dX1_copyFrom_17 : decode cX1_copyFrom 17 = .ok (.getfield 13, 3) := by decide +kernel
theorem dX1_copyFrom_20 : decode cX1_copyFrom 20 = .ok (.iconst 0, 1) := by decide +kernel
theorem dX1_copyFrom_21 : decode cX1_copyFrom 21 = .ok (.aload_n 0, 1) := by decide +kernel
theorem dX1_copyFrom_22 : decode cX1_copyFrom 22 = .ok (.getfield 13, 3) := by decide +kernel
theorem dX1_copyFrom_25 : decode cX1_copyFrom 25 = .ok (.iconst 0, 1) := by decide +kernel
theorem dX1_copyFrom_26 : decode cX1_copyFrom 26 = .ok (.aload_n 0, 1) := by decide +kernel
theorem dX1_copyFrom_27 : decode cX1_copyFrom 27 = .ok (.getfield 19, 3) := by decide +kernel
theorem dX1_copyFrom_30 : decode cX1_copyFrom 30 = .ok (.invokestatic 30, 3) := by decide +kernel
theorem dX1_copyFrom_33 : decode cX1_copyFrom 33 = .ok (.return_, 1) := by decide +kernel
theorem dX2_init_0 : decode cX2_init 0 = .ok (.aload_n 0, 1) := by decide +kernel
theorem dX2_init_1 : decode cX2_init 1 = .ok (.invokespecial 3, 3) := by decide +kernel
theorem dX2_init_4 : decode cX2_init 4 = .ok (.aload_n 0, 1) := by decide +kernel
theorem dX2_init_5 : decode cX2_init 5 = .ok (.new 9, 3) := by decide +kernel
theorem dX2_init_8 : decode cX2_init 8 = .ok (.dup, 1) := by decide +kernel
theorem dX2_init_9 : decode cX2_init 9 = .ok (.iconst 0, 1) := by decide +kernel
theorem dX2_init_10 : decode cX2_init 10 = .ok (.invokespecial 11, 3) := by decide +kernel
theorem dX2_init_13 : decode cX2_init 13 = .ok (.putfield 14, 3) := by decide +kernel
theorem dX2_init_16 : decode cX2_init 16 = .ok (.aload_n 0, 1) := by decide +kernel
theorem dX2_init_17 : decode cX2_init 17 = .ok (.iconst 0, 1) := by decide +kernel
theorem dX2_init_18 : decode cX2_init 18 = .ok (.putfield 20, 3) := by decide +kernel
theorem dX2_init_21 : decode cX2_init 21 = .ok (.return_, 1) := by decide +kernel
theorem dX2_read_0 : decode cX2_read 0 = .ok (.aload_n 0, 1) := by decide +kernel
theorem dX2_read_1 : decode cX2_read 1 = .ok (.aload_n 1, 1) := by decide +kernel
theorem dX2_read_2 : decode cX2_read 2 = .ok (.putfield 14, 3) := by decide +kernel
theorem dX2_read_5 : decode cX2_read 5 = .ok (.aload_n 0, 1) := by decide +kernel
theorem dX2_read_6 : decode cX2_read 6 = .ok (.iconst 0, 1) := by decide +kernel
theorem dX2_read_7 : decode cX2_read 7 = .ok (.putfield 20, 3) := by decide +kernel
theorem dX2_read_10 : decode cX2_read 10 = .ok (.iconst 0, 1) := by decide +kernel
theorem dX2_read_11 : decode cX2_read 11 = .ok (.istore_n 3, 1) := by decide +kernel
theorem dX2_read_12 : decode cX2_read 12 = .ok (.iconst 1, 1) := by decide +kernel
theorem dX2_read_13 : decode cX2_read 13 = .ok (.istore 4, 2) := by decide +kernel
theorem dX2_read_15 : decode cX2_read 15 = .ok (.iconst 0, 1) := by decide +kernel
theorem dX2_read_16 : decode cX2_read 16 = .ok (.istore 5, 2) := by decide +kernel
theorem dX2_read_18 : decode cX2_read 18 = .ok (.iload 5, 2) := by decide +kernel
theorem dX2_read_20 : decode cX2_read 20 = .ok (.bipush 64, 2) := by decide +kernel
theorem dX2_read_22 : decode cX2_read 22 = .ok (.if_icmp .ge 42, 3) := by decide +kernel
theorem dX2_read_25 : decode cX2_read 25 = .ok (.iload 4, 2) := by decide +kernel
theorem dX2_read_27 : decode cX2_read 27 = .ok (.ifCond .eq 37, 3) := by decide +kernel
theorem dX2_read_30 : decode cX2_read 30 = .ok (.iload 5, 2) := by decide +kernel
theorem dX2_read_32 : decode cX2_read 32 = .ok (.ifCond .eq 17, 3) := by decide +kernel
theorem dX2_read_35 : decode cX2_read 35 = .ok (.aload_n 0, 1) := by decide +kernel
theorem dX2_read_36 : decode cX2_read 36 = .ok (.getfield 20, 3) := by decide +kernel
theorem dX2_read_39 : decode cX2_read 39 = .ok (.aload_n 0, 1) := by decide +kernel
theorem dX2_read_40 : decode cX2_read 40 = .ok (.getfield 14, 3) := by decide +kernel
theorem dX2_read_43 : decode cX2_read 43 = .ok (.getfield 24, 3) := by decide +kernel
theorem dX2_read_46 : decode cX2_read 46 = .ok (.if_icmp .ge 18, 3) := by decide +kernel
theorem dX2_read_49 : decode cX2_read 49 = .ok (.aload_n 0, 1) := by decide +kernel
theorem dX2_read_50 : decode cX2_read 50 = .ok (.invokevirtual 27, 3) := by decide +kernel
theorem dX2_read_53 : decode cX2_read 53 = .ok (.istore 4, 2) := by decide +kernel
theorem dX2_read_55 : decode cX2_read 55 = .ok (.iinc 3 1, 3) := by decide +kernel
theorem dX2_read_58 : decode cX2_read 58 = .ok (.iinc 5 1, 3) := by decide +kernel
theorem dX2_read_61 : decode cX2_read 61 = .ok (.goto (-43), 3) := by decide +kernel
theorem dX2_read_64 : decode cX2_read 64 = .ok (.iload 4, 2) := by decide +kernel
theorem dX2_read_66 : decode cX2_read 66 = .ok (.ifCond .ne 12, 3) := by decide +kernel
theorem dX2_read_69 : decode cX2_read 69 = .ok (.sipush (-1000), 3) := by decide +kernel
theorem dX2_read_72 : decode cX2_read 72 = .ok (.aload_n 0, 1) := by decide +kernel
theorem dX2_read_73 : decode cX2_read 73 = .ok (.getfield 20, 3) := by decide +kernel
theorem dX2_read_76 : decode cX2_read 76 = .ok (.isub, 1) := by decide +kernel
theorem dX2_read_77 : decode cX2_read 77 = .ok (.ireturn, 1) := by decide +kernel
theorem dX2_read_78 : decode cX2_read 78 = .ok (.aload_n 0, 1) := by decide +kernel
theorem dX2_read_79 : decode cX2_read 79 = .ok (.iconst 0, 1) := by decide +kernel
theorem dX2_read_80 : decode cX2_read 80 = .ok (.putfield 20, 3) := by decide +kernel
theorem dX2_read_83 : decode cX2_read 83 = .ok (.iconst 0, 1) := by decide +kernel
theorem dX2_read_84 : decode cX2_read 84 = .ok (.istore 5, 2) := by decide +kernel
theorem dX2_read_86 : decode cX2_read 86 = .ok (.iload 5, 2) := by decide +kernel
theorem dX2_read_88 : decode cX2_read 88 = .ok (.iload_n 3, 1) := by decide +kernel
theorem dX2_read_89 : decode cX2_read 89 = .ok (.if_icmp .ge 35, 3) := by decide +kernel
theorem dX2_read_92 : decode cX2_read 92 = .ok (.aload_n 0, 1) := by decide +kernel
theorem dX2_read_93 : decode cX2_read 93 = .ok (.getfield 20, 3) := by decide +kernel
theorem dX2_read_96 : decode cX2_read 96 = .ok (.istore 6, 2) := by decide +kernel
theorem dX2_read_98 : decode cX2_read 98 = .ok (.aload_n 0, 1) := by decide +kernel
theorem dX2_read_99 : decode cX2_read 99 = .ok (.aload_n 2, 1) := by decide +kernel
theorem dX2_read_100 : decode cX2_read 100 = .ok (.invokevirtual 31, 3) := by decide +kernel
theorem dX2_read_103 : decode cX2_read 103 = .ok (.ifCond .ne 10, 3) := by decide +kernel
theorem dX2_read_106 : decode cX2_read 106 = .ok (.sipush (-2000), 3) := by decide +kernel
theorem dX2_read_109 : decode cX2_read 109 = .ok (.iload 6, 2) := by decide +kernel
theorem dX2_read_111 : decode cX2_read 111 = .ok (.isub, 1) := by decide +kernel
theorem dX2_read_112 : decode cX2_read 112 = .ok (.ireturn, 1) := by decide +kernel
theorem dX2_read_113 : decode cX2_read 113 = .ok (.aload_n 0, 1) := by decide +kernel
theorem dX2_read_114 : decode cX2_read 114 = .ok (.invokevirtual 27, 3) := by decide +kernel
theorem dX2_read_117 : decode cX2_read 117 = .ok (.pop, 1) := by decide +kernel
theorem dX2_read_118 : decode cX2_read 118 = .ok (.iinc 5 1, 3) := by decide +kernel
theorem dX2_read_121 : decode cX2_read 121 = .ok (.goto (-35), 3) := by decide +kernel
theorem dX2_read_124 : decode cX2_read 124 = .ok (.iload_n 3, 1) := by decide +kernel
theorem dX2_read_125 : decode cX2_read 125 = .ok (.ireturn, 1) := by decide +kernel
