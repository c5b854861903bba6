theorem dX4_findFitting_48 : decode cX4_findFitting 48 = .ok (.getfield 29, 3) := by decide +kernel
theorem dX4_findFitting_51 : decode cX4_findFitting 51 = .ok (.iconst 1, 1) := by decide +kernel
theorem dX4_findFitting_52 : decode cX4_findFitting 52 = .ok (.iadd, 1) := by decide +kernel
theorem dX4_findFitting_53 : decode cX4_findFitting 53 = .ok (.putfield 29, 3) := by decide +kernel
theorem dX4_findFitting_56 : decode cX4_findFitting 56 = .ok (.aload_n 0, 1) := by decide +kernel
theorem dX4_findFitting_57 : decode cX4_findFitting 57 = .ok (.invokevirtual 54, 3) := by decide +kernel
theorem dX4_findFitting_60 : decode cX4_findFitting 60 = .ok (.istore_n 3, 1) := by decide +kernel
theorem dX4_findFitting_61 : decode cX4_findFitting 61 = .ok (.iinc 4 1, 3) := by decide +kernel
theorem dX4_findFitting_64 : decode cX4_findFitting 64 = .ok (.goto (-49), 3) := by decide +kernel
theorem dX4_findFitting_67 : decode cX4_findFitting 67 = .ok (.return_, 1) := by decide +kernel
theorem dX4_forgedBits_0 : decode cX4_forgedBits 0 = .ok (.aload_n 0, 1) := by decide +kernel
theorem dX4_forgedBits_1 : decode cX4_forgedBits 1 = .ok (.aload_n 1, 1) := by decide +kernel
theorem dX4_forgedBits_2 : decode cX4_forgedBits 2 = .ok (.invokevirtual 32, 3) := by decide +kernel
theorem dX4_forgedBits_5 : decode cX4_forgedBits 5 = .ok (.iconst 0, 1) := by decide +kernel
theorem dX4_forgedBits_6 : decode cX4_forgedBits 6 = .ok (.istore_n 3, 1) := by decide +kernel
theorem dX4_forgedBits_7 : decode cX4_forgedBits 7 = .ok (.iconst 1, 1) := by decide +kernel
theorem dX4_forgedBits_8 : decode cX4_forgedBits 8 = .ok (.istore 4, 2) := by decide +kernel
theorem dX4_forgedBits_10 : decode cX4_forgedBits 10 = .ok (.iconst 0, 1) := by decide +kernel
theorem dX4_forgedBits_11 : decode cX4_forgedBits 11 = .ok (.istore 5, 2) := by decide +kernel
theorem dX4_forgedBits_13 : decode cX4_forgedBits 13 = .ok (.iload 5, 2) := by decide +kernel
theorem dX4_forgedBits_15 : decode cX4_forgedBits 15 = .ok (.sipush 720, 3) := by decide +kernel
theorem dX4_forgedBits_18 : decode cX4_forgedBits 18 = .ok (.if_icmp .ge 61, 3) := by decide +kernel
theorem dX4_forgedBits_21 : decode cX4_forgedBits 21 = .ok (.iload 4, 2) := by decide +kernel
theorem dX4_forgedBits_23 : decode cX4_forgedBits 23 = .ok (.ifCond .eq 56, 3) := by decide +kernel
theorem dX4_forgedBits_26 : decode cX4_forgedBits 26 = .ok (.aload_n 0, 1) := by decide +kernel
theorem dX4_forgedBits_27 : decode cX4_forgedBits 27 = .ok (.aload_n 2, 1) := by decide +kernel
theorem dX4_forgedBits_28 : decode cX4_forgedBits 28 = .ok (.invokevirtual 65, 3) := by decide +kernel
theorem dX4_forgedBits_31 : decode cX4_forgedBits 31 = .ok (.istore 6, 2) := by decide +kernel
theorem dX4_forgedBits_33 : decode cX4_forgedBits 33 = .ok (.iload 6, 2) := by decide +kernel
theorem dX4_forgedBits_35 : decode cX4_forgedBits 35 = .ok (.ifCond .ne 18, 3) := by decide +kernel
theorem dX4_forgedBits_38 : decode cX4_forgedBits 38 = .ok (.iconst 1, 1) := by decide +kernel
theorem dX4_forgedBits_39 : decode cX4_forgedBits 39 = .ok (.aload_n 0, 1) := by decide +kernel
theorem dX4_forgedBits_40 : decode cX4_forgedBits 40 = .ok (.getfield 12, 3) := by decide +kernel
theorem dX4_forgedBits_43 : decode cX4_forgedBits 43 = .ok (.getfield 69, 3) := by decide +kernel
theorem dX4_forgedBits_46 : decode cX4_forgedBits 46 = .ok (.ishl, 1) := by decide +kernel
theorem dX4_forgedBits_47 : decode cX4_forgedBits 47 = .ok (.iconst 1, 1) := by decide +kernel
theorem dX4_forgedBits_48 : decode cX4_forgedBits 48 = .ok (.isub, 1) := by decide +kernel
theorem dX4_forgedBits_49 : decode cX4_forgedBits 49 = .ok (.istore_n 3, 1) := by decide +kernel
theorem dX4_forgedBits_50 : decode cX4_forgedBits 50 = .ok (.goto 17, 3) := by decide +kernel
theorem dX4_forgedBits_53 : decode cX4_forgedBits 53 = .ok (.iload 6, 2) := by decide +kernel
theorem dX4_forgedBits_55 : decode cX4_forgedBits 55 = .ok (.invokestatic 42, 3) := by decide +kernel
theorem dX4_forgedBits_58 : decode cX4_forgedBits 58 = .ok (.iconst 1, 1) := by decide +kernel
theorem dX4_forgedBits_59 : decode cX4_forgedBits 59 = .ok (.if_icmp .ne 8, 3) := by decide +kernel
theorem dX4_forgedBits_62 : decode cX4_forgedBits 62 = .ok (.iload_n 3, 1) := by decide +kernel
theorem dX4_forgedBits_63 : decode cX4_forgedBits 63 = .ok (.iload 6, 2) := by decide +kernel
theorem dX4_forgedBits_65 : decode cX4_forgedBits 65 = .ok (.ior, 1) := by decide +kernel
theorem dX4_forgedBits_66 : decode cX4_forgedBits 66 = .ok (.istore_n 3, 1) := by decide +kernel
theorem dX4_forgedBits_67 : decode cX4_forgedBits 67 = .ok (.aload_n 0, 1) := by decide +kernel
theorem dX4_forgedBits_68 : decode cX4_forgedBits 68 = .ok (.invokevirtual 54, 3) := by decide +kernel
theorem dX4_forgedBits_71 : decode cX4_forgedBits 71 = .ok (.istore 4, 2) := by decide +kernel
theorem dX4_forgedBits_73 : decode cX4_forgedBits 73 = .ok (.iinc 5 1, 3) := by decide +kernel
theorem dX4_forgedBits_76 : decode cX4_forgedBits 76 = .ok (.goto (-63), 3) := by decide +kernel
theorem dX4_forgedBits_79 : decode cX4_forgedBits 79 = .ok (.iload_n 3, 1) := by decide +kernel
theorem dX4_forgedBits_80 : decode cX4_forgedBits 80 = .ok (.ireturn, 1) := by decide +kernel
theorem dX4_begin_0 : decode cX4_begin 0 = .ok (.aload_n 0, 1) := by decide +kernel
theorem dX4_begin_1 : decode cX4_begin 1 = .ok (.getfield 12, 3) := by decide +kernel
theorem dX4_begin_4 : decode cX4_begin 4 = .ok (.aload_n 1, 1) := by decide +kernel
theorem dX4_begin_5 : decode cX4_begin 5 = .ok (.invokevirtual 72, 3) := by decide +kernel
theorem dX4_begin_8 : decode cX4_begin 8 = .ok (.aload_n 0, 1) := by decide +kernel
theorem dX4_begin_9 : decode cX4_begin 9 = .ok (.getfield 12, 3) := by decide +kernel
theorem dX4_begin_12 : decode cX4_begin 12 = .ok (.invokevirtual 75, 3) := by decide +kernel
theorem dX4_begin_15 : decode cX4_begin 15 = .ok (.return_, 1) := by decide +kernel
theorem dX4_choose_0 : decode cX4_choose 0 = .ok (.aload_n 0, 1) := by decide +kernel
theorem dX4_choose_1 : decode cX4_choose 1 = .ok (.getfield 12, 3) := by decide +kernel
theorem dX4_choose_4 : decode cX4_choose 4 = .ok (.getfield 78, 3) := by decide +kernel
theorem dX4_choose_7 : decode cX4_choose 7 = .ok (.iconst 0, 1) := by decide +kernel
theorem dX4_choose_8 : decode cX4_choose 8 = .ok (.aload_n 0, 1) := by decide +kernel
theorem dX4_choose_9 : decode cX4_choose 9 = .ok (.getfield 18, 3) := by decide +kernel
theorem dX4_choose_12 : decode cX4_choose 12 = .ok (.iconst 0, 1) := by decide +kernel
theorem dX4_choose_13 : decode cX4_choose 13 = .ok (.bipush 6, 2) := by decide +kernel
theorem dX4_choose_15 : decode cX4_choose 15 = .ok (.invokestatic 81, 3) := by decide +kernel
theorem dX4_choose_18 : decode cX4_choose 18 = .ok (.return_, 1) := by decide +kernel
theorem dX4_unlikeBits_0 : decode cX4_unlikeBits 0 = .ok (.iconst 0, 1) := by decide +kernel
theorem dX4_unlikeBits_1 : decode cX4_unlikeBits 1 = .ok (.istore_n 2, 1) := by decide +kernel
theorem dX4_unlikeBits_2 : decode cX4_unlikeBits 2 = .ok (.iconst 0, 1) := by decide +kernel
theorem dX4_unlikeBits_3 : decode cX4_unlikeBits 3 = .ok (.istore_n 3, 1) := by decide +kernel
theorem dX4_unlikeBits_4 : decode cX4_unlikeBits 4 = .ok (.iload_n 3, 1) := by decide +kernel
theorem dX4_unlikeBits_5 : decode cX4_unlikeBits 5 = .ok (.aload_n 0, 1) := by decide +kernel
theorem dX4_unlikeBits_6 : decode cX4_unlikeBits 6 = .ok (.getfield 12, 3) := by decide +kernel
theorem dX4_unlikeBits_9 : decode cX4_unlikeBits 9 = .ok (.getfield 69, 3) := by decide +kernel
theorem dX4_unlikeBits_12 : decode cX4_unlikeBits 12 = .ok (.if_icmp .ge 31, 3) := by decide +kernel
theorem dX4_unlikeBits_15 : decode cX4_unlikeBits 15 = .ok (.aload_n 0, 1) := by decide +kernel
theorem dX4_unlikeBits_16 : decode cX4_unlikeBits 16 = .ok (.getfield 12, 3) := by decide +kernel
theorem dX4_unlikeBits_19 : decode cX4_unlikeBits 19 = .ok (.iload_n 3, 1) := by decide +kernel
theorem dX4_unlikeBits_20 : decode cX4_unlikeBits 20 = .ok (.invokestatic 87, 3) := by decide +kernel
theorem dX4_unlikeBits_23 : decode cX4_unlikeBits 23 = .ok (.aload_n 1, 1) := by decide +kernel
theorem dX4_unlikeBits_24 : decode cX4_unlikeBits 24 = .ok (.iload_n 3, 1) := by decide +kernel
theorem dX4_unlikeBits_25 : decode cX4_unlikeBits 25 = .ok (.invokevirtual 91, 3) := by decide +kernel
theorem dX4_unlikeBits_28 : decode cX4_unlikeBits 28 = .ok (.if_icmp .eq 9, 3) := by decide +kernel
theorem dX4_unlikeBits_31 : decode cX4_unlikeBits 31 = .ok (.iload_n 2, 1) := by decide +kernel
theorem dX4_unlikeBits_32 : decode cX4_unlikeBits 32 = .ok (.iconst 1, 1) := by decide +kernel
theorem dX4_unlikeBits_33 : decode cX4_unlikeBits 33 = .ok (.iload_n 3, 1) := by decide +kernel
theorem dX4_unlikeBits_34 : decode cX4_unlikeBits 34 = .ok (.ishl, 1) := by decide +kernel
theorem dX4_unlikeBits_35 : decode cX4_unlikeBits 35 = .ok (.ior, 1) := by decide +kernel
theorem dX4_unlikeBits_36 : decode cX4_unlikeBits 36 = .ok (.istore_n 2, 1) := by decide +kernel
theorem dX4_unlikeBits_37 : decode cX4_unlikeBits 37 = .ok (.iinc 3 1, 3) := by decide +kernel
theorem dX4_unlikeBits_40 : decode cX4_unlikeBits 40 = .ok (.goto (-36), 3) := by decide +kernel
theorem dX4_unlikeBits_43 : decode cX4_unlikeBits 43 = .ok (.iload_n 2, 1) := by decide +kernel
theorem dX4_unlikeBits_44 : decode cX4_unlikeBits 44 = .ok (.ireturn, 1) := by decide +kernel
theorem dX4_goOn_0 : decode cX4_goOn 0 = .ok (.aload_n 0, 1) := by decide +kernel
theorem dX4_goOn_1 : decode cX4_goOn 1 = .ok (.getfield 12, 3) := by decide +kernel
theorem dX4_goOn_4 : decode cX4_goOn 4 = .ok (.getfield 78, 3) := by decide +kernel
theorem dX4_goOn_7 : decode cX4_goOn 7 = .ok (.astore_n 1, 1) := by decide +kernel
theorem dX4_goOn_8 : decode cX4_goOn 8 = .ok (.aload_n 0, 1) := by decide +kernel
theorem dX4_goOn_9 : decode cX4_goOn 9 = .ok (.getfield 12, 3) := by decide +kernel
theorem dX4_goOn_12 : decode cX4_goOn 12 = .ok (.getfield 96, 3) := by decide +kernel
theorem dX4_goOn_15 : decode cX4_goOn 15 = .ok (.ifCond .eq 7, 3) := by decide +kernel
theorem dX4_goOn_18 : decode cX4_goOn 18 = .ok (.iconst 1, 1) := by decide +kernel
theorem dX4_goOn_19 : decode cX4_goOn 19 = .ok (.goto 4, 3) := by decide +kernel
theorem dX4_goOn_22 : decode cX4_goOn 22 = .ok (.iconst 0, 1) := by decide +kernel
theorem dX4_goOn_23 : decode cX4_goOn 23 = .ok (.istore_n 2, 1) := by decide +kernel
theorem dX4_goOn_24 : decode cX4_goOn 24 = .ok (.aload_n 0, 1) := by decide +kernel
theorem dX4_goOn_25 : decode cX4_goOn 25 = .ok (.getfield 12, 3) := by decide +kernel
theorem dX4_goOn_28 : decode cX4_goOn 28 = .ok (.getfield 69, 3) := by decide +kernel
theorem dX4_goOn_31 : decode cX4_goOn 31 = .ok (.iconst 2, 1) := by decide +kernel
theorem dX4_goOn_32 : decode cX4_goOn 32 = .ok (.isub, 1) := by decide +kernel
theorem dX4_goOn_33 : decode cX4_goOn 33 = .ok (.istore_n 3, 1) := by decide +kernel
theorem dX4_goOn_34 : decode cX4_goOn 34 = .ok (.iload_n 3, 1) := by decide +kernel
theorem dX4_goOn_35 : decode cX4_goOn 35 = .ok (.iload_n 2, 1) := by decide +kernel
theorem dX4_goOn_36 : decode cX4_goOn 36 = .ok (.if_icmp .lt 20, 3) := by decide +kernel
theorem dX4_goOn_39 : decode cX4_goOn 39 = .ok (.aload_n 1, 1) := by decide +kernel
theorem dX4_goOn_40 : decode cX4_goOn 40 = .ok (.iload_n 3, 1) := by decide +kernel
theorem dX4_goOn_41 : decode cX4_goOn 41 = .ok (.iaload, 1) := by decide +kernel
theorem dX4_goOn_42 : decode cX4_goOn 42 = .ok (.aload_n 1, 1) := by decide +kernel
theorem dX4_goOn_43 : decode cX4_goOn 43 = .ok (.iload_n 3, 1) := by decide +kernel
theorem dX4_goOn_44 : decode cX4_goOn 44 = .ok (.iconst 1, 1) := by decide +kernel
theorem dX4_goOn_45 : decode cX4_goOn 45 = .ok (.iadd, 1) := by decide +kernel
theorem dX4_goOn_46 : decode cX4_goOn 46 = .ok (.iaload, 1) := by decide +kernel
theorem dX4_goOn_47 : decode cX4_goOn 47 = .ok (.if_icmp .le 9, 3) := by decide +kernel
theorem dX4_goOn_50 : decode cX4_goOn 50 = .ok (.iinc 3 (-1), 3) := by decide +kernel
theorem dX4_goOn_53 : decode cX4_goOn 53 = .ok (.goto (-19), 3) := by decide +kernel
theorem dX4_goOn_56 : decode cX4_goOn 56 = .ok (.iload_n 3, 1) := by decide +kernel
theorem dX4_goOn_57 : decode cX4_goOn 57 = .ok (.iload_n 2, 1) := by decide +kernel
theorem dX4_goOn_58 : decode cX4_goOn 58 = .ok (.if_icmp .ge 5, 3) := by decide +kernel
theorem dX4_goOn_61 : decode cX4_goOn 61 = .ok (.iconst 0, 1) := by decide +kernel
theorem dX4_goOn_62 : decode cX4_goOn 62 = .ok (.ireturn, 1) := by decide +kernel
theorem dX4_goOn_63 : decode cX4_goOn 63 = .ok (.aload_n 0, 1) := by decide +kernel
theorem dX4_goOn_64 : decode cX4_goOn 64 = .ok (.getfield 12, 3) := by decide +kernel
theorem dX4_goOn_67 : decode cX4_goOn 67 = .ok (.getfield 69, 3) := by decide +kernel
theorem dX4_goOn_70 : decode cX4_goOn 70 = .ok (.iconst 1, 1) := by decide +kernel
theorem dX4_goOn_71 : decode cX4_goOn 71 = .ok (.isub, 1) := by decide +kernel
theorem dX4_goOn_72 : decode cX4_goOn 72 = .ok (.istore 4, 2) := by decide +kernel
theorem dX4_goOn_74 : decode cX4_goOn 74 = .ok (.iload 4, 2) := by decide +kernel
theorem dX4_goOn_76 : decode cX4_goOn 76 = .ok (.iload_n 3, 1) := by decide +kernel
theorem dX4_goOn_77 : decode cX4_goOn 77 = .ok (.if_icmp .le 19, 3) := by decide +kernel
theorem dX4_goOn_80 : decode cX4_goOn 80 = .ok (.aload_n 1, 1) := by decide +kernel
theorem dX4_goOn_81 : decode cX4_goOn 81 = .ok (.iload 4, 2) := by decide +kernel
theorem dX4_goOn_83 : decode cX4_goOn 83 = .ok (.iaload, 1) := by decide +kernel
theorem dX4_goOn_84 : decode cX4_goOn 84 = .ok (.aload_n 1, 1) := by decide +kernel
theorem dX4_goOn_85 : decode cX4_goOn 85 = .ok (.iload_n 3, 1) := by decide +kernel
theorem dX4_goOn_86 : decode cX4_goOn 86 = .ok (.iaload, 1) := by decide +kernel
theorem dX4_goOn_87 : decode cX4_goOn 87 = .ok (.if_icmp .ge 9, 3) := by decide +kernel
theorem dX4_goOn_90 : decode cX4_goOn 90 = .ok (.iinc 4 (-1), 3) := by decide +kernel
theorem dX4_goOn_93 : decode cX4_goOn 93 = .ok (.goto (-19), 3) := by decide +kernel
theorem dX4_goOn_96 : decode cX4_goOn 96 = .ok (.aload_n 1, 1) := by decide +kernel
theorem dX4_goOn_97 : decode cX4_goOn 97 = .ok (.iload_n 3, 1) := by decide +kernel
theorem dX4_goOn_98 : decode cX4_goOn 98 = .ok (.iload 4, 2) := by decide +kernel
theorem dX4_goOn_100 : decode cX4_goOn 100 = .ok (.invokestatic 100, 3) := by decide +kernel
theorem dX4_goOn_103 : decode cX4_goOn 103 = .ok (.iload_n 3, 1) := by decide +kernel
theorem dX4_goOn_104 : decode cX4_goOn 104 = .ok (.iconst 1, 1) := by decide +kernel
theorem dX4_goOn_105 : decode cX4_goOn 105 = .ok (.iadd, 1) := by decide +kernel
theorem dX4_goOn_106 : decode cX4_goOn 106 = .ok (.istore 5, 2) := by decide +kernel
theorem dX4_goOn_108 : decode cX4_goOn 108 = .ok (.aload_n 0, 1) := by decide +kernel
theorem dX4_goOn_109 : decode cX4_goOn 109 = .ok (.getfield 12, 3) := by decide +kernel
theorem dX4_goOn_112 : decode cX4_goOn 112 = .ok (.getfield 69, 3) := by decide +kernel
theorem dX4_goOn_115 : decode cX4_goOn 115 = .ok (.iconst 1, 1) := by decide +kernel
theorem dX4_goOn_116 : decode cX4_goOn 116 = .ok (.isub, 1) := by decide +kernel
theorem dX4_goOn_117 : decode cX4_goOn 117 = .ok (.istore 6, 2) := by decide +kernel
theorem dX4_goOn_119 : decode cX4_goOn 119 = .ok (.iload 5, 2) := by decide +kernel
theorem dX4_goOn_121 : decode cX4_goOn 121 = .ok (.iload 6, 2) := by decide +kernel
theorem dX4_goOn_123 : decode cX4_goOn 123 = .ok (.if_icmp .ge 20, 3) := by decide +kernel
theorem dX4_goOn_126 : decode cX4_goOn 126 = .ok (.aload_n 1, 1) := by decide +kernel
theorem dX4_goOn_127 : decode cX4_goOn 127 = .ok (.iload 5, 2) := by decide +kernel
theorem dX4_goOn_129 : decode cX4_goOn 129 = .ok (.iload 6, 2) := by decide +kernel
theorem dX4_goOn_131 : decode cX4_goOn 131 = .ok (.invokestatic 100, 3) := by decide +kernel
theorem dX4_goOn_134 : decode cX4_goOn 134 = .ok (.iinc 5 1, 3) := by decide +kernel
theorem dX4_goOn_137 : decode cX4_goOn 137 = .ok (.iinc 6 (-1), 3) := by decide +kernel
theorem dX4_goOn_140 : decode cX4_goOn 140 = .ok (.goto (-21), 3) := by decide +kernel
theorem dX4_goOn_143 : decode cX4_goOn 143 = .ok (.aload_n 0, 1) := by decide +kernel
theorem dX4_goOn_144 : decode cX4_goOn 144 = .ok (.getfield 12, 3) := by decide +kernel
theorem dX4_goOn_147 : decode cX4_goOn 147 = .ok (.invokevirtual 104, 3) := by decide +kernel
theorem dX4_goOn_150 : decode cX4_goOn 150 = .ok (.iconst 1, 1) := by decide +kernel
theorem dX4_goOn_151 : decode cX4_goOn 151 = .ok (.ireturn, 1) := by decide +kernel
theorem dX4_exchange_0 : decode cX4_exchange 0 = .ok (.iload_n 1, 1) := by decide +kernel
theorem dX4_exchange_1 : decode cX4_exchange 1 = .ok (.ifCond .lt 33, 3) := by decide +kernel
theorem dX4_exchange_4 : decode cX4_exchange 4 = .ok (.iload_n 1, 1) := by decide +kernel
theorem dX4_exchange_5 : decode cX4_exchange 5 = .ok (.aload_n 0, 1) := by decide +kernel
theorem dX4_exchange_6 : decode cX4_exchange 6 = .ok (.arraylength, 1) := by decide +kernel
theorem dX4_exchange_7 : decode cX4_exchange 7 = .ok (.if_icmp .ge 27, 3) := by decide +kernel
theorem dX4_exchange_10 : decode cX4_exchange 10 = .ok (.iload_n 2, 1) := by decide +kernel
theorem dX4_exchange_11 : decode cX4_exchange 11 = .ok (.ifCond .lt 23, 3) := by decide +kernel
theorem dX4_exchange_14 : decode cX4_exchange 14 = .ok (.iload_n 2, 1) := by decide +kernel
theorem dX4_exchange_15 : decode cX4_exchange 15 = .ok (.aload_n 0, 1) := by decide +kernel
theorem dX4_exchange_16 : decode cX4_exchange 16 = .ok (.arraylength, 1) := by decide +kernel
theorem dX4_exchange_17 : decode cX4_exchange 17 = .ok (.if_icmp .ge 17, 3) := by decide +kernel
theorem dX4_exchange_20 : decode cX4_exchange 20 = .ok (.aload_n 0, 1) := by decide +kernel
theorem dX4_exchange_21 : decode cX4_exchange 21 = .ok (.iload_n 1, 1) := by decide +kernel
theorem dX4_exchange_22 : decode cX4_exchange 22 = .ok (.iaload, 1) := by decide +kernel
theorem dX4_exchange_23 : decode cX4_exchange 23 = .ok (.istore_n 3, 1) := by decide +kernel
theorem dX4_exchange_24 : decode cX4_exchange 24 = .ok (.aload_n 0, 1) := by decide +kernel
theorem dX4_exchange_25 : decode cX4_exchange 25 = .ok (.iload_n 1, 1) := by decide +kernel
theorem dX4_exchange_26 : decode cX4_exchange 26 = .ok (.aload_n 0, 1) := by decide +kernel
theorem dX4_exchange_27 : decode cX4_exchange 27 = .ok (.iload_n 2, 1) := by decide +kernel
theorem dX4_exchange_28 : decode cX4_exchange 28 = .ok (.iaload, 1) := by decide +kernel
theorem dX4_exchange_29 : decode cX4_exchange 29 = .ok (.iastore, 1) := by decide +kernel
theorem dX4_exchange_30 : decode cX4_exchange 30 = .ok (.aload_n 0, 1) := by decide +kernel
theorem dX4_exchange_31 : decode cX4_exchange 31 = .ok (.iload_n 2, 1) := by decide +kernel
theorem dX4_exchange_32 : decode cX4_exchange 32 = .ok (.iload_n 3, 1) := by decide +kernel
theorem dX4_exchange_33 : decode cX4_exchange 33 = .ok (.iastore, 1) := by decide +kernel
theorem dX4_exchange_34 : decode cX4_exchange 34 = .ok (.return_, 1) := by decide +kernel
theorem dX5_init_0 : decode cX5_init 0 = .ok (.aload_n 0, 1) := by decide +kernel
theorem dX5_init_1 : decode cX5_init 1 = .ok (.invokespecial 3, 3) := by decide +kernel
theorem dX5_init_4 : decode cX5_init 4 = .ok (.aload_n 0, 1) := by decide +kernel
theorem dX5_init_5 : decode cX5_init 5 = .ok (.new 9, 3) := by decide +kernel
theorem dX5_init_8 : decode cX5_init 8 = .ok (.dup, 1) := by decide +kernel
theorem dX5_init_9 : decode cX5_init 9 = .ok (.invokespecial 11, 3) := by decide +kernel
theorem dX5_init_12 : decode cX5_init 12 = .ok (.putfield 12, 3) := by decide +kernel
theorem dX5_init_15 : decode cX5_init 15 = .ok (.aload_n 0, 1) := by decide +kernel
theorem dX5_init_16 : decode cX5_init 16 = .ok (.bipush 6, 2) := by decide +kernel
theorem dX5_init_18 : decode cX5_init 18 = .ok (.newarray .int, 2) := by decide +kernel
theorem dX5_init_20 : decode cX5_init 20 = .ok (.putfield 18, 3) := by decide +kernel
theorem dX5_init_23 : decode cX5_init 23 = .ok (.aload_n 0, 1) := by decide +kernel
theorem dX5_init_24 : decode cX5_init 24 = .ok (.iconst 0, 1) := by decide +kernel
theorem dX5_init_25 : decode cX5_init 25 = .ok (.putfield 22, 3) := by decide +kernel
theorem dX5_init_28 : decode cX5_init 28 = .ok (.aload_n 0, 1) := by decide +kernel
theorem dX5_init_29 : decode cX5_init 29 = .ok (.iconst 0, 1) := by decide +kernel
theorem dX5_init_30 : decode cX5_init 30 = .ok (.putfield 26, 3) := by decide +kernel
theorem dX5_init_33 : decode cX5_init 33 = .ok (.aload_n 0, 1) := by decide +kernel
theorem dX5_init_34 : decode cX5_init 34 = .ok (.iconst 0, 1) := by decide +kernel
theorem dX5_init_35 : decode cX5_init 35 = .ok (.putfield 29, 3) := by decide +kernel
theorem dX5_init_38 : decode cX5_init 38 = .ok (.return_, 1) := by decide +kernel
theorem dX5_greatestSum_0 : decode cX5_greatestSum 0 = .ok (.aload_n 0, 1) := by decide +kernel
theorem dX5_greatestSum_1 : decode cX5_greatestSum 1 = .ok (.aload_n 1, 1) := by decide +kernel
theorem dX5_greatestSum_2 : decode cX5_greatestSum 2 = .ok (.invokevirtual 32, 3) := by decide +kernel
theorem dX5_greatestSum_5 : decode cX5_greatestSum 5 = .ok (.aload_n 0, 1) := by decide +kernel
theorem dX5_greatestSum_6 : decode cX5_greatestSum 6 = .ok (.getfield 12, 3) := by decide +kernel
theorem dX5_greatestSum_9 : decode cX5_greatestSum 9 = .ok (.iload_n 2, 1) := by decide +kernel
theorem dX5_greatestSum_10 : decode cX5_greatestSum 10 = .ok (.putfield 36, 3) := by decide +kernel
theorem dX5_greatestSum_13 : decode cX5_greatestSum 13 = .ok (.iconst 0, 1) := by decide +kernel
theorem dX5_greatestSum_14 : decode cX5_greatestSum 14 = .ok (.istore_n 3, 1) := by decide +kernel
theorem dX5_greatestSum_15 : decode cX5_greatestSum 15 = .ok (.iconst 1, 1) := by decide +kernel
theorem dX5_greatestSum_16 : decode cX5_greatestSum 16 = .ok (.istore 4, 2) := by decide +kernel
theorem dX5_greatestSum_18 : decode cX5_greatestSum 18 = .ok (.iconst 0, 1) := by decide +kernel
theorem dX5_greatestSum_19 : decode cX5_greatestSum 19 = .ok (.istore 5, 2) := by decide +kernel
theorem dX5_greatestSum_21 : decode cX5_greatestSum 21 = .ok (.iload 5, 2) := by decide +kernel
theorem dX5_greatestSum_23 : decode cX5_greatestSum 23 = .ok (.sipush 4096, 3) := by decide +kernel
theorem dX5_greatestSum_26 : decode cX5_greatestSum 26 = .ok (.if_icmp .ge 32, 3) := by decide +kernel
theorem dX5_greatestSum_29 : decode cX5_greatestSum 29 = .ok (.iload 4, 2) := by decide +kernel
theorem dX5_greatestSum_31 : decode cX5_greatestSum 31 = .ok (.ifCond .eq 27, 3) := by decide +kernel
theorem dX5_greatestSum_34 : decode cX5_greatestSum 34 = .ok (.iload_n 3, 1) := by decide +kernel
theorem dX5_greatestSum_35 : decode cX5_greatestSum 35 = .ok (.aload_n 0, 1) := by decide +kernel
theorem dX5_greatestSum_36 : decode cX5_greatestSum 36 = .ok (.getfield 12, 3) := by decide +kernel
theorem dX5_greatestSum_39 : decode cX5_greatestSum 39 = .ok (.invokestatic 39, 3) := by decide +kernel
theorem dX5_greatestSum_42 : decode cX5_greatestSum 42 = .ok (.invokestatic 45, 3) := by decide +kernel
theorem dX5_greatestSum_45 : decode cX5_greatestSum 45 = .ok (.istore_n 3, 1) := by decide +kernel
theorem dX5_greatestSum_46 : decode cX5_greatestSum 46 = .ok (.aload_n 0, 1) := by decide +kernel
theorem dX5_greatestSum_47 : decode cX5_greatestSum 47 = .ok (.invokevirtual 51, 3) := by decide +kernel
theorem dX5_greatestSum_50 : decode cX5_greatestSum 50 = .ok (.istore 4, 2) := by decide +kernel
theorem dX5_greatestSum_52 : decode cX5_greatestSum 52 = .ok (.iinc 5 1, 3) := by decide +kernel
theorem dX5_greatestSum_55 : decode cX5_greatestSum 55 = .ok (.goto (-34), 3) := by decide +kernel
theorem dX5_greatestSum_58 : decode cX5_greatestSum 58 = .ok (.iload_n 3, 1) := by decide +kernel
theorem dX5_greatestSum_59 : decode cX5_greatestSum 59 = .ok (.ireturn, 1) := by decide +kernel
theorem dX5_findRests_0 : decode cX5_findRests 0 = .ok (.aload_n 0, 1) := by decide +kernel
theorem dX5_findRests_1 : decode cX5_findRests 1 = .ok (.aload_n 1, 1) := by decide +kernel
theorem dX5_findRests_2 : decode cX5_findRests 2 = .ok (.invokevirtual 32, 3) := by decide +kernel
theorem dX5_findRests_5 : decode cX5_findRests 5 = .ok (.aload_n 0, 1) := by decide +kernel
theorem dX5_findRests_6 : decode cX5_findRests 6 = .ok (.iconst 0, 1) := by decide +kernel
theorem dX5_findRests_7 : decode cX5_findRests 7 = .ok (.putfield 22, 3) := by decide +kernel
theorem dX5_findRests_10 : decode cX5_findRests 10 = .ok (.aload_n 0, 1) := by decide +kernel
theorem dX5_findRests_11 : decode cX5_findRests 11 = .ok (.iconst 0, 1) := by decide +kernel
theorem dX5_findRests_12 : decode cX5_findRests 12 = .ok (.putfield 26, 3) := by decide +kernel
theorem dX5_findRests_15 : decode cX5_findRests 15 = .ok (.aload_n 0, 1) := by decide +kernel
theorem dX5_findRests_16 : decode cX5_findRests 16 = .ok (.iconst 0, 1) := by decide +kernel
theorem dX5_findRests_17 : decode cX5_findRests 17 = .ok (.putfield 29, 3) := by decide +kernel
theorem dX5_findRests_20 : decode cX5_findRests 20 = .ok (.iconst 1, 1) := by decide +kernel
theorem dX5_findRests_21 : decode cX5_findRests 21 = .ok (.istore_n 2, 1) := by decide +kernel
theorem dX5_findRests_22 : decode cX5_findRests 22 = .ok (.iconst 0, 1) := by decide +kernel
theorem dX5_findRests_23 : decode cX5_findRests 23 = .ok (.istore_n 3, 1) := by decide +kernel
theorem dX5_findRests_24 : decode cX5_findRests 24 = .ok (.iload_n 3, 1) := by decide +kernel
theorem dX5_findRests_25 : decode cX5_findRests 25 = .ok (.sipush 4096, 3) := by decide +kernel
theorem dX5_findRests_28 : decode cX5_findRests 28 = .ok (.if_icmp .ge 29, 3) := by decide +kernel
theorem dX5_findRests_31 : decode cX5_findRests 31 = .ok (.iload_n 2, 1) := by decide +kernel
theorem dX5_findRests_32 : decode cX5_findRests 32 = .ok (.ifCond .eq 25, 3) := by decide +kernel
theorem dX5_findRests_35 : decode cX5_findRests 35 = .ok (.aload_n 0, 1) := by decide +kernel
theorem dX5_findRests_36 : decode cX5_findRests 36 = .ok (.invokevirtual 55, 3) := by decide +kernel
theorem dX5_findRests_39 : decode cX5_findRests 39 = .ok (.ifCond .eq 7, 3) := by decide +kernel
theorem dX5_findRests_42 : decode cX5_findRests 42 = .ok (.aload_n 0, 1) := by decide +kernel
theorem dX5_findRests_43 : decode cX5_findRests 43 = .ok (.invokevirtual 58, 3) := by decide +kernel
theorem dX5_findRests_46 : decode cX5_findRests 46 = .ok (.aload_n 0, 1) := by decide +kernel
theorem dX5_findRests_47 : decode cX5_findRests 47 = .ok (.invokevirtual 51, 3) := by decide +kernel
theorem dX5_findRests_50 : decode cX5_findRests 50 = .ok (.istore_n 2, 1) := by decide +kernel
theorem dX5_findRests_51 : decode cX5_findRests 51 = .ok (.iinc 3 1, 3) := by decide +kernel
theorem dX5_findRests_54 : decode cX5_findRests 54 = .ok (.goto (-30), 3) := by decide +kernel
theorem dX5_findRests_57 : decode cX5_findRests 57 = .ok (.return_, 1) := by decide +kernel
theorem dX5_takeRest_0 : decode cX5_takeRest 0 = .ok (.aload_n 0, 1) := by decide +kernel
theorem dX5_takeRest_1 : decode cX5_takeRest 1 = .ok (.getfield 12, 3) := by decide +kernel
theorem dX5_takeRest_4 : decode cX5_takeRest 4 = .ok (.invokestatic 39, 3) := by decide +kernel
theorem dX5_takeRest_7 : decode cX5_takeRest 7 = .ok (.istore_n 1, 1) := by decide +kernel
theorem dX5_takeRest_8 : decode cX5_takeRest 8 = .ok (.aload_n 0, 1) := by decide +kernel
theorem dX5_takeRest_9 : decode cX5_takeRest 9 = .ok (.getfield 22, 3) := by decide +kernel
theorem dX5_takeRest_12 : decode cX5_takeRest 12 = .ok (.ifCond .ne 26, 3) := by decide +kernel
theorem dX5_takeRest_15 : decode cX5_takeRest 15 = .ok (.aload_n 0, 1) := by decide +kernel
theorem dX5_takeRest_16 : decode cX5_takeRest 16 = .ok (.iload_n 1, 1) := by decide +kernel
theorem dX5_takeRest_17 : decode cX5_takeRest 17 = .ok (.putfield 26, 3) := by decide +kernel
theorem dX5_takeRest_20 : decode cX5_takeRest 20 = .ok (.aload_n 0, 1) := by decide +kernel
theorem dX5_takeRest_21 : decode cX5_takeRest 21 = .ok (.getfield 12, 3) := by decide +kernel
theorem dX5_takeRest_24 : decode cX5_takeRest 24 = .ok (.getfield 61, 3) := by decide +kernel
theorem dX5_takeRest_27 : decode cX5_takeRest 27 = .ok (.iconst 0, 1) := by decide +kernel
theorem dX5_takeRest_28 : decode cX5_takeRest 28 = .ok (.aload_n 0, 1) := by decide +kernel
theorem dX5_takeRest_29 : decode cX5_takeRest 29 = .ok (.getfield 18, 3) := by decide +kernel
theorem dX5_takeRest_32 : decode cX5_takeRest 32 = .ok (.iconst 0, 1) := by decide +kernel
theorem dX5_takeRest_33 : decode cX5_takeRest 33 = .ok (.bipush 6, 2) := by decide +kernel
theorem dX5_takeRest_35 : decode cX5_takeRest 35 = .ok (.invokestatic 64, 3) := by decide +kernel
theorem dX5_takeRest_38 : decode cX5_takeRest 38 = .ok (.aload_n 0, 1) := by decide +kernel
theorem dX5_takeRest_39 : decode cX5_takeRest 39 = .ok (.dup, 1) := by decide +kernel
theorem dX5_takeRest_40 : decode cX5_takeRest 40 = .ok (.getfield 22, 3) := by decide +kernel
theorem dX5_takeRest_43 : decode cX5_takeRest 43 = .ok (.iconst 1, 1) := by decide +kernel
theorem dX5_takeRest_44 : decode cX5_takeRest 44 = .ok (.iadd, 1) := by decide +kernel
theorem dX5_takeRest_45 : decode cX5_takeRest 45 = .ok (.putfield 22, 3) := by decide +kernel
theorem dX5_takeRest_48 : decode cX5_takeRest 48 = .ok (.aload_n 0, 1) := by decide +kernel
theorem dX5_takeRest_49 : decode cX5_takeRest 49 = .ok (.aload_n 0, 1) := by decide +kernel
theorem dX5_takeRest_50 : decode cX5_takeRest 50 = .ok (.getfield 29, 3) := by decide +kernel
theorem dX5_takeRest_53 : decode cX5_takeRest 53 = .ok (.iload_n 1, 1) := by decide +kernel
theorem dX5_takeRest_54 : decode cX5_takeRest 54 = .ok (.invokestatic 45, 3) := by decide +kernel
theorem dX5_takeRest_57 : decode cX5_takeRest 57 = .ok (.putfield 29, 3) := by decide +kernel
theorem dX5_takeRest_60 : decode cX5_takeRest 60 = .ok (.return_, 1) := by decide +kernel
theorem dX5_begin_0 : decode cX5_begin 0 = .ok (.aload_n 0, 1) := by decide +kernel
theorem dX5_begin_1 : decode cX5_begin 1 = .ok (.getfield 12, 3) := by decide +kernel
theorem dX5_begin_4 : decode cX5_begin 4 = .ok (.aload_n 1, 1) := by decide +kernel
theorem dX5_begin_5 : decode cX5_begin 5 = .ok (.invokevirtual 70, 3) := by decide +kernel
theorem dX5_begin_8 : decode cX5_begin 8 = .ok (.iconst 0, 1) := by decide +kernel
theorem dX5_begin_9 : decode cX5_begin 9 = .ok (.istore_n 2, 1) := by decide +kernel
theorem dX5_begin_10 : decode cX5_begin 10 = .ok (.iload_n 2, 1) := by decide +kernel
theorem dX5_begin_11 : decode cX5_begin 11 = .ok (.aload_n 0, 1) := by decide +kernel
theorem dX5_begin_12 : decode cX5_begin 12 = .ok (.getfield 12, 3) := by decide +kernel
theorem dX5_begin_15 : decode cX5_begin 15 = .ok (.getfield 73, 3) := by decide +kernel
theorem dX5_begin_18 : decode cX5_begin 18 = .ok (.if_icmp .ge 18, 3) := by decide +kernel
theorem dX5_begin_21 : decode cX5_begin 21 = .ok (.aload_n 0, 1) := by decide +kernel
theorem dX5_begin_22 : decode cX5_begin 22 = .ok (.getfield 12, 3) := by decide +kernel
theorem dX5_begin_25 : decode cX5_begin 25 = .ok (.iload_n 2, 1) := by decide +kernel
theorem dX5_begin_26 : decode cX5_begin 26 = .ok (.iconst 0, 1) := by decide +kernel
theorem dX5_begin_27 : decode cX5_begin 27 = .ok (.invokevirtual 76, 3) := by decide +kernel
theorem dX5_begin_30 : decode cX5_begin 30 = .ok (.iinc 2 1, 3) := by decide +kernel
theorem dX5_begin_33 : decode cX5_begin 33 = .ok (.goto (-23), 3) := by decide +kernel
theorem dX5_begin_36 : decode cX5_begin 36 = .ok (.return_, 1) := by decide +kernel
theorem dX5_goOn_0 : decode cX5_goOn 0 = .ok (.aload_n 0, 1) := by decide +kernel
theorem dX5_goOn_1 : decode cX5_goOn 1 = .ok (.getfield 12, 3) := by decide +kernel
theorem dX5_goOn_4 : decode cX5_goOn 4 = .ok (.getfield 73, 3) := by decide +kernel
theorem dX5_goOn_7 : decode cX5_goOn 7 = .ok (.iconst 1, 1) := by decide +kernel
theorem dX5_goOn_8 : decode cX5_goOn 8 = .ok (.isub, 1) := by decide +kernel
theorem dX5_goOn_9 : decode cX5_goOn 9 = .ok (.istore_n 1, 1) := by decide +kernel
theorem dX5_goOn_10 : decode cX5_goOn 10 = .ok (.iload_n 1, 1) := by decide +kernel
theorem dX5_goOn_11 : decode cX5_goOn 11 = .ok (.ifCond .lt 58, 3) := by decide +kernel
theorem dX5_goOn_14 : decode cX5_goOn 14 = .ok (.aload_n 0, 1) := by decide +kernel
theorem dX5_goOn_15 : decode cX5_goOn 15 = .ok (.getfield 12, 3) := by decide +kernel
theorem dX5_goOn_18 : decode cX5_goOn 18 = .ok (.getfield 61, 3) := by decide +kernel
theorem dX5_goOn_21 : decode cX5_goOn 21 = .ok (.iload_n 1, 1) := by decide +kernel
theorem dX5_goOn_22 : decode cX5_goOn 22 = .ok (.iaload, 1) := by decide +kernel
theorem dX5_goOn_23 : decode cX5_goOn 23 = .ok (.aload_n 0, 1) := by decide +kernel
theorem dX5_goOn_24 : decode cX5_goOn 24 = .ok (.getfield 12, 3) := by decide +kernel
theorem dX5_goOn_27 : decode cX5_goOn 27 = .ok (.getfield 80, 3) := by decide +kernel
theorem dX5_goOn_30 : decode cX5_goOn 30 = .ok (.if_icmp .ge 24, 3) := by decide +kernel
theorem dX5_goOn_33 : decode cX5_goOn 33 = .ok (.aload_n 0, 1) := by decide +kernel
theorem dX5_goOn_34 : decode cX5_goOn 34 = .ok (.getfield 12, 3) := by decide +kernel
theorem dX5_goOn_37 : decode cX5_goOn 37 = .ok (.iload_n 1, 1) := by decide +kernel
theorem dX5_goOn_38 : decode cX5_goOn 38 = .ok (.aload_n 0, 1) := by decide +kernel
theorem dX5_goOn_39 : decode cX5_goOn 39 = .ok (.getfield 12, 3) := by decide +kernel
theorem dX5_goOn_42 : decode cX5_goOn 42 = .ok (.getfield 61, 3) := by decide +kernel
theorem dX5_goOn_45 : decode cX5_goOn 45 = .ok (.iload_n 1, 1) := by decide +kernel
theorem dX5_goOn_46 : decode cX5_goOn 46 = .ok (.iaload, 1) := by decide +kernel
theorem dX5_goOn_47 : decode cX5_goOn 47 = .ok (.iconst 1, 1) := by decide +kernel
theorem dX5_goOn_48 : decode cX5_goOn 48 = .ok (.iadd, 1) := by decide +kernel
theorem dX5_goOn_49 : decode cX5_goOn 49 = .ok (.invokevirtual 76, 3) := by decide +kernel
theorem dX5_goOn_52 : decode cX5_goOn 52 = .ok (.iconst 1, 1) := by decide +kernel
theorem dX5_goOn_53 : decode cX5_goOn 53 = .ok (.ireturn, 1) := by decide +kernel
theorem dX5_goOn_54 : decode cX5_goOn 54 = .ok (.aload_n 0, 1) := by decide +kernel
theorem dX5_goOn_55 : decode cX5_goOn 55 = .ok (.getfield 12, 3) := by decide +kernel
theorem dX5_goOn_58 : decode cX5_goOn 58 = .ok (.iload_n 1, 1) := by decide +kernel
theorem dX5_goOn_59 : decode cX5_goOn 59 = .ok (.iconst 0, 1) := by decide +kernel
theorem dX5_goOn_60 : decode cX5_goOn 60 = .ok (.invokevirtual 76, 3) := by decide +kernel
theorem dX5_goOn_63 : decode cX5_goOn 63 = .ok (.iinc 1 (-1), 3) := by decide +kernel
theorem dX5_goOn_66 : decode cX5_goOn 66 = .ok (.goto (-56), 3) := by decide +kernel
theorem dX5_goOn_69 : decode cX5_goOn 69 = .ok (.iconst 0, 1) := by decide +kernel
theorem dX5_goOn_70 : decode cX5_goOn 70 = .ok (.ireturn, 1) := by decide +kernel
theorem dX5_isAtRest_0 : decode cX5_isAtRest 0 = .ok (.iconst 0, 1) := by decide +kernel
theorem dX5_isAtRest_1 : decode cX5_isAtRest 1 = .ok (.istore_n 1, 1) := by decide +kernel
theorem dX5_isAtRest_2 : decode cX5_isAtRest 2 = .ok (.iload_n 1, 1) := by decide +kernel
theorem dX5_isAtRest_3 : decode cX5_isAtRest 3 = .ok (.aload_n 0, 1) := by decide +kernel
theorem dX5_isAtRest_4 : decode cX5_isAtRest 4 = .ok (.getfield 12, 3) := by decide +kernel
theorem dX5_isAtRest_7 : decode cX5_isAtRest 7 = .ok (.getfield 73, 3) := by decide +kernel
theorem dX5_isAtRest_10 : decode cX5_isAtRest 10 = .ok (.if_icmp .ge 19, 3) := by decide +kernel
theorem dX5_isAtRest_13 : decode cX5_isAtRest 13 = .ok (.aload_n 0, 1) := by decide +kernel
theorem dX5_isAtRest_14 : decode cX5_isAtRest 14 = .ok (.iload_n 1, 1) := by decide +kernel
theorem dX5_isAtRest_15 : decode cX5_isAtRest 15 = .ok (.invokevirtual 83, 3) := by decide +kernel
theorem dX5_isAtRest_18 : decode cX5_isAtRest 18 = .ok (.ifCond .eq 5, 3) := by decide +kernel
theorem dX5_isAtRest_21 : decode cX5_isAtRest 21 = .ok (.iconst 0, 1) := by decide +kernel
theorem dX5_isAtRest_22 : decode cX5_isAtRest 22 = .ok (.ireturn, 1) := by decide +kernel
theorem dX5_isAtRest_23 : decode cX5_isAtRest 23 = .ok (.iinc 1 1, 3) := by decide +kernel
theorem dX5_isAtRest_26 : decode cX5_isAtRest 26 = .ok (.goto (-24), 3) := by decide +kernel
theorem dX5_isAtRest_29 : decode cX5_isAtRest 29 = .ok (.iconst 1, 1) := by decide +kernel
