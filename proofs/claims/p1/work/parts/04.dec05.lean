theorem dX8_again_51 : decode cX8_again 51 = .ok (.istore_n 1, 1) := by decide +kernel
theorem dX8_again_52 : decode cX8_again 52 = .ok (.iload_n 1, 1) := by decide +kernel
theorem dX8_again_53 : decode cX8_again 53 = .ok (.bipush 30, 2) := by decide +kernel
theorem dX8_again_55 : decode cX8_again 55 = .ok (.if_icmp .gt 31, 3) := by decide +kernel
theorem dX8_again_58 : decode cX8_again 58 = .ok (.aload_n 0, 1) := by decide +kernel
theorem dX8_again_59 : decode cX8_again 59 = .ok (.getfield 41, 3) := by decide +kernel
theorem dX8_again_62 : decode cX8_again 62 = .ok (.iload_n 1, 1) := by decide +kernel
theorem dX8_again_63 : decode cX8_again 63 = .ok (.baload, 1) := by decide +kernel
theorem dX8_again_64 : decode cX8_again 64 = .ok (.ifCond .eq 16, 3) := by decide +kernel
theorem dX8_again_67 : decode cX8_again 67 = .ok (.aload_n 0, 1) := by decide +kernel
theorem dX8_again_68 : decode cX8_again 68 = .ok (.getfield 41, 3) := by decide +kernel
theorem dX8_again_71 : decode cX8_again 71 = .ok (.iconst 2, 1) := by decide +kernel
theorem dX8_again_72 : decode cX8_again 72 = .ok (.iload_n 1, 1) := by decide +kernel
theorem dX8_again_73 : decode cX8_again 73 = .ok (.imul, 1) := by decide +kernel
theorem dX8_again_74 : decode cX8_again 74 = .ok (.baload, 1) := by decide +kernel
theorem dX8_again_75 : decode cX8_again 75 = .ok (.ifCond .eq 5, 3) := by decide +kernel
theorem dX8_again_78 : decode cX8_again 78 = .ok (.iload_n 1, 1) := by decide +kernel
theorem dX8_again_79 : decode cX8_again 79 = .ok (.ireturn, 1) := by decide +kernel
theorem dX8_lookAt_0 : decode cX8_lookAt 0 = .ok (.aload_n 0, 1) := by decide +kernel
theorem dX8_lookAt_1 : decode cX8_lookAt 1 = .ok (.getfield 13, 3) := by decide +kernel
theorem dX8_lookAt_4 : decode cX8_lookAt 4 = .ok (.iconst 0, 1) := by decide +kernel
theorem dX8_lookAt_5 : decode cX8_lookAt 5 = .ok (.iaload, 1) := by decide +kernel
theorem dX8_lookAt_6 : decode cX8_lookAt 6 = .ok (.istore_n 1, 1) := by decide +kernel
theorem dX8_lookAt_7 : decode cX8_lookAt 7 = .ok (.aload_n 0, 1) := by decide +kernel
theorem dX8_lookAt_8 : decode cX8_lookAt 8 = .ok (.invokevirtual 144, 3) := by decide +kernel
theorem dX8_lookAt_11 : decode cX8_lookAt 11 = .ok (.invokestatic 154, 3) := by decide +kernel
theorem dX8_lookAt_14 : decode cX8_lookAt 14 = .ok (.istore_n 2, 1) := by decide +kernel
theorem dX8_lookAt_15 : decode cX8_lookAt 15 = .ok (.aload_n 0, 1) := by decide +kernel
theorem dX8_lookAt_16 : decode cX8_lookAt 16 = .ok (.aload_n 0, 1) := by decide +kernel
theorem dX8_lookAt_17 : decode cX8_lookAt 17 = .ok (.getfield 13, 3) := by decide +kernel
theorem dX8_lookAt_20 : decode cX8_lookAt 20 = .ok (.iconst 3, 1) := by decide +kernel
theorem dX8_lookAt_21 : decode cX8_lookAt 21 = .ok (.iaload, 1) := by decide +kernel
theorem dX8_lookAt_22 : decode cX8_lookAt 22 = .ok (.invokevirtual 147, 3) := by decide +kernel
theorem dX8_lookAt_25 : decode cX8_lookAt 25 = .ok (.istore_n 3, 1) := by decide +kernel
theorem dX8_lookAt_26 : decode cX8_lookAt 26 = .ok (.iload_n 2, 1) := by decide +kernel
theorem dX8_lookAt_27 : decode cX8_lookAt 27 = .ok (.aload_n 0, 1) := by decide +kernel
theorem dX8_lookAt_28 : decode cX8_lookAt 28 = .ok (.getfield 157, 3) := by decide +kernel
theorem dX8_lookAt_31 : decode cX8_lookAt 31 = .ok (.if_icmp .gt 19, 3) := by decide +kernel
theorem dX8_lookAt_50 : decode cX8_lookAt 50 = .ok (.iconst 1, 1) := by decide +kernel
theorem dX8_lookAt_51 : decode cX8_lookAt 51 = .ok (.goto 4, 3) := by decide +kernel
theorem dX8_lookAt_55 : decode cX8_lookAt 55 = .ok (.istore 4, 2) := by decide +kernel
theorem dX8_lookAt_57 : decode cX8_lookAt 57 = .ok (.iconst 0, 1) := by decide +kernel
theorem dX8_lookAt_58 : decode cX8_lookAt 58 = .ok (.istore 5, 2) := by decide +kernel
theorem dX8_lookAt_60 : decode cX8_lookAt 60 = .ok (.iconst 0, 1) := by decide +kernel
theorem dX8_lookAt_61 : decode cX8_lookAt 61 = .ok (.istore 6, 2) := by decide +kernel
theorem dX8_lookAt_63 : decode cX8_lookAt 63 = .ok (.iload 6, 2) := by decide +kernel
theorem dX8_lookAt_65 : decode cX8_lookAt 65 = .ok (.iload_n 1, 1) := by decide +kernel
theorem dX8_lookAt_66 : decode cX8_lookAt 66 = .ok (.if_icmp .ge 44, 3) := by decide +kernel
theorem dX8_lookAt_110 : decode cX8_lookAt 110 = .ok (.iconst 0, 1) := by decide +kernel
theorem dX8_lookAt_111 : decode cX8_lookAt 111 = .ok (.istore 6, 2) := by decide +kernel
theorem dX8_lookAt_113 : decode cX8_lookAt 113 = .ok (.iload 6, 2) := by decide +kernel
theorem dX8_lookAt_115 : decode cX8_lookAt 115 = .ok (.iload_n 1, 1) := by decide +kernel
theorem dX8_lookAt_116 : decode cX8_lookAt 116 = .ok (.if_icmp .ge 80, 3) := by decide +kernel
theorem dX8_lookAt_196 : decode cX8_lookAt 196 = .ok (.aload_n 0, 1) := by decide +kernel
theorem dX8_lookAt_197 : decode cX8_lookAt 197 = .ok (.iload 4, 2) := by decide +kernel
theorem dX8_lookAt_199 : decode cX8_lookAt 199 = .ok (.ifCond .eq 7, 3) := by decide +kernel
theorem dX8_lookAt_202 : decode cX8_lookAt 202 = .ok (.iload_n 3, 1) := by decide +kernel
theorem dX8_lookAt_203 : decode cX8_lookAt 203 = .ok (.goto 7, 3) := by decide +kernel
theorem dX8_lookAt_210 : decode cX8_lookAt 210 = .ok (.putfield 160, 3) := by decide +kernel
theorem dX8_lookAt_213 : decode cX8_lookAt 213 = .ok (.aload_n 0, 1) := by decide +kernel
theorem dX8_lookAt_214 : decode cX8_lookAt 214 = .ok (.iload 4, 2) := by decide +kernel
theorem dX8_lookAt_216 : decode cX8_lookAt 216 = .ok (.ifCond .eq 7, 3) := by decide +kernel
theorem dX8_lookAt_219 : decode cX8_lookAt 219 = .ok (.iload_n 2, 1) := by decide +kernel
theorem dX8_lookAt_220 : decode cX8_lookAt 220 = .ok (.goto 7, 3) := by decide +kernel
theorem dX8_lookAt_227 : decode cX8_lookAt 227 = .ok (.putfield 157, 3) := by decide +kernel
theorem dX8_lookAt_230 : decode cX8_lookAt 230 = .ok (.aload_n 0, 1) := by decide +kernel
theorem dX8_lookAt_231 : decode cX8_lookAt 231 = .ok (.aload_n 0, 1) := by decide +kernel
theorem dX8_lookAt_232 : decode cX8_lookAt 232 = .ok (.getfield 166, 3) := by decide +kernel
theorem dX8_lookAt_235 : decode cX8_lookAt 235 = .ok (.ifCond .lt 11, 3) := by decide +kernel
theorem dX8_lookAt_246 : decode cX8_lookAt 246 = .ok (.iload_n 3, 1) := by decide +kernel
theorem dX8_lookAt_247 : decode cX8_lookAt 247 = .ok (.goto 7, 3) := by decide +kernel
theorem dX8_lookAt_254 : decode cX8_lookAt 254 = .ok (.putfield 166, 3) := by decide +kernel
theorem dX8_lookAt_257 : decode cX8_lookAt 257 = .ok (.aload_n 0, 1) := by decide +kernel
theorem dX8_lookAt_258 : decode cX8_lookAt 258 = .ok (.dup, 1) := by decide +kernel
theorem dX8_lookAt_259 : decode cX8_lookAt 259 = .ok (.getfield 163, 3) := by decide +kernel
theorem dX8_lookAt_262 : decode cX8_lookAt 262 = .ok (.iload 5, 2) := by decide +kernel
theorem dX8_lookAt_264 : decode cX8_lookAt 264 = .ok (.ifCond .ne 7, 3) := by decide +kernel
theorem dX8_lookAt_267 : decode cX8_lookAt 267 = .ok (.iconst 1, 1) := by decide +kernel
theorem dX8_lookAt_268 : decode cX8_lookAt 268 = .ok (.goto 4, 3) := by decide +kernel
theorem dX8_lookAt_272 : decode cX8_lookAt 272 = .ok (.iadd, 1) := by decide +kernel
theorem dX8_lookAt_273 : decode cX8_lookAt 273 = .ok (.putfield 163, 3) := by decide +kernel
theorem dX8_lookAt_276 : decode cX8_lookAt 276 = .ok (.iconst 0, 1) := by decide +kernel
theorem dX8_lookAt_277 : decode cX8_lookAt 277 = .ok (.istore 6, 2) := by decide +kernel
theorem dX8_lookAt_279 : decode cX8_lookAt 279 = .ok (.iload 6, 2) := by decide +kernel
theorem dX8_lookAt_281 : decode cX8_lookAt 281 = .ok (.iload_n 1, 1) := by decide +kernel
theorem dX8_lookAt_282 : decode cX8_lookAt 282 = .ok (.if_icmp .ge 38, 3) := by decide +kernel
theorem dX8_lookAt_320 : decode cX8_lookAt 320 = .ok (.return_, 1) := by decide +kernel
theorem dX8_seat_0 : decode cX8_seat 0 = .ok (.aload_n 0, 1) := by decide +kernel
theorem dX8_seat_1 : decode cX8_seat 1 = .ok (.getfield 13, 3) := by decide +kernel
theorem dX8_seat_4 : decode cX8_seat 4 = .ok (.iconst 0, 1) := by decide +kernel
theorem dX8_seat_5 : decode cX8_seat 5 = .ok (.iaload, 1) := by decide +kernel
theorem dX8_seat_6 : decode cX8_seat 6 = .ok (.istore_n 3, 1) := by decide +kernel
theorem dX8_seat_7 : decode cX8_seat 7 = .ok (.iload_n 1, 1) := by decide +kernel
theorem dX8_seat_8 : decode cX8_seat 8 = .ok (.iload_n 3, 1) := by decide +kernel
theorem dX8_seat_9 : decode cX8_seat 9 = .ok (.if_icmp .ne 8, 3) := by decide +kernel
theorem dX8_seat_12 : decode cX8_seat 12 = .ok (.aload_n 0, 1) := by decide +kernel
theorem dX8_seat_13 : decode cX8_seat 13 = .ok (.invokevirtual 172, 3) := by decide +kernel
theorem dX8_seat_16 : decode cX8_seat 16 = .ok (.return_, 1) := by decide +kernel
theorem dX8_allSeatings_0 : decode cX8_allSeatings 0 = .ok (.aload_n 0, 1) := by decide +kernel
theorem dX8_allSeatings_1 : decode cX8_allSeatings 1 = .ok (.iconst (-1), 1) := by decide +kernel
theorem dX8_allSeatings_2 : decode cX8_allSeatings 2 = .ok (.putfield 157, 3) := by decide +kernel
theorem dX8_allSeatings_5 : decode cX8_allSeatings 5 = .ok (.aload_n 0, 1) := by decide +kernel
theorem dX8_allSeatings_6 : decode cX8_allSeatings 6 = .ok (.iconst (-1), 1) := by decide +kernel
theorem dX8_allSeatings_7 : decode cX8_allSeatings 7 = .ok (.putfield 160, 3) := by decide +kernel
theorem dX8_allSeatings_10 : decode cX8_allSeatings 10 = .ok (.aload_n 0, 1) := by decide +kernel
theorem dX8_allSeatings_11 : decode cX8_allSeatings 11 = .ok (.iconst (-1), 1) := by decide +kernel
theorem dX8_allSeatings_12 : decode cX8_allSeatings 12 = .ok (.putfield 166, 3) := by decide +kernel
theorem dX8_allSeatings_15 : decode cX8_allSeatings 15 = .ok (.aload_n 0, 1) := by decide +kernel
theorem dX8_allSeatings_16 : decode cX8_allSeatings 16 = .ok (.iconst 0, 1) := by decide +kernel
theorem dX8_allSeatings_17 : decode cX8_allSeatings 17 = .ok (.putfield 163, 3) := by decide +kernel
theorem dX8_allSeatings_20 : decode cX8_allSeatings 20 = .ok (.aload_n 0, 1) := by decide +kernel
theorem dX8_allSeatings_21 : decode cX8_allSeatings 21 = .ok (.iconst 0, 1) := by decide +kernel
theorem dX8_allSeatings_22 : decode cX8_allSeatings 22 = .ok (.putfield 169, 3) := by decide +kernel
theorem dX8_allSeatings_25 : decode cX8_allSeatings 25 = .ok (.iconst 0, 1) := by decide +kernel
theorem dX8_allSeatings_26 : decode cX8_allSeatings 26 = .ok (.istore_n 1, 1) := by decide +kernel
theorem dX8_allSeatings_27 : decode cX8_allSeatings 27 = .ok (.iload_n 1, 1) := by decide +kernel
theorem dX8_allSeatings_28 : decode cX8_allSeatings 28 = .ok (.bipush 6, 2) := by decide +kernel
theorem dX8_allSeatings_30 : decode cX8_allSeatings 30 = .ok (.if_icmp .ge 33, 3) := by decide +kernel
theorem dX8_allSeatings_33 : decode cX8_allSeatings 33 = .ok (.aload_n 0, 1) := by decide +kernel
theorem dX8_allSeatings_34 : decode cX8_allSeatings 34 = .ok (.getfield 45, 3) := by decide +kernel
theorem dX8_allSeatings_37 : decode cX8_allSeatings 37 = .ok (.iload_n 1, 1) := by decide +kernel
theorem dX8_allSeatings_38 : decode cX8_allSeatings 38 = .ok (.iload_n 1, 1) := by decide +kernel
theorem dX8_allSeatings_39 : decode cX8_allSeatings 39 = .ok (.aload_n 0, 1) := by decide +kernel
theorem dX8_allSeatings_40 : decode cX8_allSeatings 40 = .ok (.getfield 178, 3) := by decide +kernel
theorem dX8_allSeatings_43 : decode cX8_allSeatings 43 = .ok (.if_icmp .ge 12, 3) := by decide +kernel
theorem dX8_allSeatings_55 : decode cX8_allSeatings 55 = .ok (.iconst (-1), 1) := by decide +kernel
theorem dX8_allSeatings_56 : decode cX8_allSeatings 56 = .ok (.iastore, 1) := by decide +kernel
theorem dX8_allSeatings_57 : decode cX8_allSeatings 57 = .ok (.iinc 1 1, 3) := by decide +kernel
theorem dX8_allSeatings_60 : decode cX8_allSeatings 60 = .ok (.goto (-33), 3) := by decide +kernel
theorem dX8_allSeatings_63 : decode cX8_allSeatings 63 = .ok (.aload_n 0, 1) := by decide +kernel
theorem dX8_allSeatings_64 : decode cX8_allSeatings 64 = .ok (.getfield 13, 3) := by decide +kernel
theorem dX8_allSeatings_67 : decode cX8_allSeatings 67 = .ok (.aload_n 0, 1) := by decide +kernel
theorem dX8_allSeatings_68 : decode cX8_allSeatings 68 = .ok (.getfield 19, 3) := by decide +kernel
theorem dX8_allSeatings_71 : decode cX8_allSeatings 71 = .ok (.invokestatic 67, 3) := by decide +kernel
theorem dX8_allSeatings_74 : decode cX8_allSeatings 74 = .ok (.aload_n 0, 1) := by decide +kernel
theorem dX8_allSeatings_75 : decode cX8_allSeatings 75 = .ok (.iconst 0, 1) := by decide +kernel
theorem dX8_allSeatings_76 : decode cX8_allSeatings 76 = .ok (.iconst 0, 1) := by decide +kernel
theorem dX8_allSeatings_77 : decode cX8_allSeatings 77 = .ok (.invokevirtual 175, 3) := by decide +kernel
theorem dX8_allSeatings_80 : decode cX8_allSeatings 80 = .ok (.aload_n 0, 1) := by decide +kernel
theorem dX8_allSeatings_81 : decode cX8_allSeatings 81 = .ok (.getfield 19, 3) := by decide +kernel
theorem dX8_allSeatings_84 : decode cX8_allSeatings 84 = .ok (.aload_n 0, 1) := by decide +kernel
theorem dX8_allSeatings_85 : decode cX8_allSeatings 85 = .ok (.getfield 13, 3) := by decide +kernel
theorem dX8_allSeatings_88 : decode cX8_allSeatings 88 = .ok (.invokestatic 67, 3) := by decide +kernel
theorem dX8_allSeatings_91 : decode cX8_allSeatings 91 = .ok (.return_, 1) := by decide +kernel
theorem dX8_best_0 : decode cX8_best 0 = .ok (.iload_n 1, 1) := by decide +kernel
theorem dX8_best_1 : decode cX8_best 1 = .ok (.ifCond .lt 8, 3) := by decide +kernel
theorem dX8_best_4 : decode cX8_best 4 = .ok (.iload_n 1, 1) := by decide +kernel
theorem dX8_best_5 : decode cX8_best 5 = .ok (.iconst 1, 1) := by decide +kernel
theorem dX8_best_6 : decode cX8_best 6 = .ok (.if_icmp .le 10, 3) := by decide +kernel
theorem dX8_best_9 : decode cX8_best 9 = .ok (.aload_n 0, 1) := by decide +kernel
theorem dX8_best_10 : decode cX8_best 10 = .ok (.bipush (-2), 2) := by decide +kernel
theorem dX8_best_12 : decode cX8_best 12 = .ok (.invokevirtual 71, 3) := by decide +kernel
theorem dX8_best_15 : decode cX8_best 15 = .ok (.ireturn, 1) := by decide +kernel
theorem dX8_best_16 : decode cX8_best 16 = .ok (.aload_n 0, 1) := by decide +kernel
theorem dX8_best_17 : decode cX8_best 17 = .ok (.getfield 13, 3) := by decide +kernel
theorem dX8_best_20 : decode cX8_best 20 = .ok (.iconst 0, 1) := by decide +kernel
theorem dX8_best_21 : decode cX8_best 21 = .ok (.iaload, 1) := by decide +kernel
theorem dX8_best_22 : decode cX8_best 22 = .ok (.ifCond .ne 10, 3) := by decide +kernel
theorem dX8_best_25 : decode cX8_best 25 = .ok (.aload_n 0, 1) := by decide +kernel
theorem dX8_best_26 : decode cX8_best 26 = .ok (.bipush (-3), 2) := by decide +kernel
theorem dX8_best_28 : decode cX8_best 28 = .ok (.invokevirtual 71, 3) := by decide +kernel
theorem dX8_best_31 : decode cX8_best 31 = .ok (.ireturn, 1) := by decide +kernel
theorem dX8_bestSeat_0 : decode cX8_bestSeat 0 = .ok (.iload_n 1, 1) := by decide +kernel
theorem dX8_bestSeat_1 : decode cX8_bestSeat 1 = .ok (.ifCond .ge 10, 3) := by decide +kernel
theorem dX8_bestSeat_4 : decode cX8_bestSeat 4 = .ok (.aload_n 0, 1) := by decide +kernel
theorem dX8_bestSeat_5 : decode cX8_bestSeat 5 = .ok (.bipush (-4), 2) := by decide +kernel
theorem dX8_bestSeat_7 : decode cX8_bestSeat 7 = .ok (.invokevirtual 71, 3) := by decide +kernel
theorem dX8_bestSeat_10 : decode cX8_bestSeat 10 = .ok (.ireturn, 1) := by decide +kernel
theorem dX8_bestSeat_11 : decode cX8_bestSeat 11 = .ok (.aload_n 0, 1) := by decide +kernel
theorem dX8_bestSeat_12 : decode cX8_bestSeat 12 = .ok (.invokevirtual 181, 3) := by decide +kernel
theorem dX8_bestSeat_15 : decode cX8_bestSeat 15 = .ok (.iload_n 1, 1) := by decide +kernel
theorem dX8_bestSeat_16 : decode cX8_bestSeat 16 = .ok (.aload_n 0, 1) := by decide +kernel
theorem dX8_bestSeat_17 : decode cX8_bestSeat 17 = .ok (.getfield 13, 3) := by decide +kernel
theorem dX8_bestSeat_20 : decode cX8_bestSeat 20 = .ok (.iconst 0, 1) := by decide +kernel
theorem dX8_bestSeat_21 : decode cX8_bestSeat 21 = .ok (.iaload, 1) := by decide +kernel
theorem dX8_bestSeat_22 : decode cX8_bestSeat 22 = .ok (.if_icmp .ge 12, 3) := by decide +kernel
theorem dX8_bestSeat_34 : decode cX8_bestSeat 34 = .ok (.bipush (-9), 2) := by decide +kernel
theorem dX8_bestSeat_36 : decode cX8_bestSeat 36 = .ok (.ireturn, 1) := by decide +kernel
theorem dX8_sumLeast_0 : decode cX8_sumLeast 0 = .ok (.aload_n 0, 1) := by decide +kernel
theorem dX8_sumLeast_1 : decode cX8_sumLeast 1 = .ok (.getfield 13, 3) := by decide +kernel
theorem dX8_sumLeast_4 : decode cX8_sumLeast 4 = .ok (.iconst 0, 1) := by decide +kernel
theorem dX8_sumLeast_5 : decode cX8_sumLeast 5 = .ok (.iaload, 1) := by decide +kernel
theorem dX8_sumLeast_6 : decode cX8_sumLeast 6 = .ok (.ifCond .ne 10, 3) := by decide +kernel
theorem dX8_sumLeast_9 : decode cX8_sumLeast 9 = .ok (.aload_n 0, 1) := by decide +kernel
theorem dX8_sumLeast_10 : decode cX8_sumLeast 10 = .ok (.bipush (-3), 2) := by decide +kernel
theorem dX8_sumLeast_12 : decode cX8_sumLeast 12 = .ok (.invokevirtual 71, 3) := by decide +kernel
theorem dX8_sumLeast_15 : decode cX8_sumLeast 15 = .ok (.ireturn, 1) := by decide +kernel
theorem dX8_isAtRest_0 : decode cX8_isAtRest 0 = .ok (.iconst 0, 1) := by decide +kernel
theorem dX8_isAtRest_1 : decode cX8_isAtRest 1 = .ok (.istore_n 1, 1) := by decide +kernel
theorem dX8_isAtRest_2 : decode cX8_isAtRest 2 = .ok (.iload_n 1, 1) := by decide +kernel
theorem dX8_isAtRest_3 : decode cX8_isAtRest 3 = .ok (.aload_n 0, 1) := by decide +kernel
theorem dX8_isAtRest_4 : decode cX8_isAtRest 4 = .ok (.getfield 13, 3) := by decide +kernel
theorem dX8_isAtRest_7 : decode cX8_isAtRest 7 = .ok (.iconst 0, 1) := by decide +kernel
theorem dX8_isAtRest_8 : decode cX8_isAtRest 8 = .ok (.iaload, 1) := by decide +kernel
theorem dX8_isAtRest_9 : decode cX8_isAtRest 9 = .ok (.if_icmp .ge 101, 3) := by decide +kernel
theorem dX8_isAtRest_110 : decode cX8_isAtRest 110 = .ok (.iconst 1, 1) := by decide +kernel
theorem dX8_isAtRest_111 : decode cX8_isAtRest 111 = .ok (.ireturn, 1) := by decide +kernel
theorem dX8_allWays_0 : decode cX8_allWays 0 = .ok (.aload_n 0, 1) := by decide +kernel
theorem dX8_allWays_1 : decode cX8_allWays 1 = .ok (.getfield 13, 3) := by decide +kernel
theorem dX8_allWays_4 : decode cX8_allWays 4 = .ok (.iconst 0, 1) := by decide +kernel
theorem dX8_allWays_5 : decode cX8_allWays 5 = .ok (.iaload, 1) := by decide +kernel
theorem dX8_allWays_6 : decode cX8_allWays 6 = .ok (.istore_n 3, 1) := by decide +kernel
theorem dX8_allWays_7 : decode cX8_allWays 7 = .ok (.aload_n 0, 1) := by decide +kernel
theorem dX8_allWays_8 : decode cX8_allWays 8 = .ok (.iconst 0, 1) := by decide +kernel
theorem dX8_allWays_9 : decode cX8_allWays 9 = .ok (.putfield 184, 3) := by decide +kernel
theorem dX8_allWays_12 : decode cX8_allWays 12 = .ok (.aload_n 0, 1) := by decide +kernel
theorem dX8_allWays_13 : decode cX8_allWays 13 = .ok (.iconst (-1), 1) := by decide +kernel
theorem dX8_allWays_14 : decode cX8_allWays 14 = .ok (.putfield 187, 3) := by decide +kernel
theorem dX8_allWays_17 : decode cX8_allWays 17 = .ok (.aload_n 0, 1) := by decide +kernel
theorem dX8_allWays_18 : decode cX8_allWays 18 = .ok (.getfield 13, 3) := by decide +kernel
theorem dX8_allWays_21 : decode cX8_allWays 21 = .ok (.aload_n 0, 1) := by decide +kernel
theorem dX8_allWays_22 : decode cX8_allWays 22 = .ok (.getfield 19, 3) := by decide +kernel
theorem dX8_allWays_25 : decode cX8_allWays 25 = .ok (.invokestatic 67, 3) := by decide +kernel
theorem dX8_allWays_28 : decode cX8_allWays 28 = .ok (.iconst 0, 1) := by decide +kernel
theorem dX8_allWays_29 : decode cX8_allWays 29 = .ok (.istore 4, 2) := by decide +kernel
theorem dX8_allWays_31 : decode cX8_allWays 31 = .ok (.iload 4, 2) := by decide +kernel
theorem dX8_allWays_33 : decode cX8_allWays 33 = .ok (.iload_n 3, 1) := by decide +kernel
theorem dX8_allWays_34 : decode cX8_allWays 34 = .ok (.if_icmp .ge 21, 3) := by decide +kernel
theorem dX8_allWays_55 : decode cX8_allWays 55 = .ok (.iconst 1, 1) := by decide +kernel
theorem dX8_allWays_56 : decode cX8_allWays 56 = .ok (.istore 4, 2) := by decide +kernel
theorem dX8_allWays_58 : decode cX8_allWays 58 = .ok (.iload 4, 2) := by decide +kernel
theorem dX8_allWays_60 : decode cX8_allWays 60 = .ok (.ifCond .eq 221, 3) := by decide +kernel
theorem dX8_allWays_63 : decode cX8_allWays 63 = .ok (.aload_n 0, 1) := by decide +kernel
theorem dX8_allWays_64 : decode cX8_allWays 64 = .ok (.iload_n 1, 1) := by decide +kernel
theorem dX8_allWays_65 : decode cX8_allWays 65 = .ok (.invokevirtual 147, 3) := by decide +kernel
theorem dX8_allWays_68 : decode cX8_allWays 68 = .ok (.istore 5, 2) := by decide +kernel
theorem dX8_allWays_70 : decode cX8_allWays 70 = .ok (.aload_n 0, 1) := by decide +kernel
theorem dX8_allWays_71 : decode cX8_allWays 71 = .ok (.aload_n 0, 1) := by decide +kernel
theorem dX8_allWays_72 : decode cX8_allWays 72 = .ok (.getfield 187, 3) := by decide +kernel
theorem dX8_allWays_75 : decode cX8_allWays 75 = .ok (.iload 5, 2) := by decide +kernel
theorem dX8_allWays_77 : decode cX8_allWays 77 = .ok (.invokestatic 190, 3) := by decide +kernel
theorem dX8_allWays_80 : decode cX8_allWays 80 = .ok (.putfield 187, 3) := by decide +kernel
theorem dX8_allWays_83 : decode cX8_allWays 83 = .ok (.iload_n 2, 1) := by decide +kernel
theorem dX8_allWays_84 : decode cX8_allWays 84 = .ok (.ifCond .eq 118, 3) := by decide +kernel
theorem dX8_allWays_87 : decode cX8_allWays 87 = .ok (.aload_n 0, 1) := by decide +kernel
theorem dX8_allWays_88 : decode cX8_allWays 88 = .ok (.invokevirtual 195, 3) := by decide +kernel
theorem dX8_allWays_91 : decode cX8_allWays 91 = .ok (.ifCond .eq 111, 3) := by decide +kernel
theorem dX8_allWays_94 : decode cX8_allWays 94 = .ok (.aload_n 0, 1) := by decide +kernel
theorem dX8_allWays_95 : decode cX8_allWays 95 = .ok (.aload_n 0, 1) := by decide +kernel
theorem dX8_allWays_96 : decode cX8_allWays 96 = .ok (.getfield 184, 3) := by decide +kernel
theorem dX8_allWays_99 : decode cX8_allWays 99 = .ok (.ifCond .eq 12, 3) := by decide +kernel
theorem dX8_allWays_111 : decode cX8_allWays 111 = .ok (.iload 5, 2) := by decide +kernel
theorem dX8_allWays_113 : decode cX8_allWays 113 = .ok (.goto 7, 3) := by decide +kernel
theorem dX8_allWays_120 : decode cX8_allWays 120 = .ok (.putfield 198, 3) := by decide +kernel
theorem dX8_allWays_123 : decode cX8_allWays 123 = .ok (.aload_n 0, 1) := by decide +kernel
theorem dX8_allWays_124 : decode cX8_allWays 124 = .ok (.aload_n 0, 1) := by decide +kernel
theorem dX8_allWays_125 : decode cX8_allWays 125 = .ok (.getfield 184, 3) := by decide +kernel
theorem dX8_allWays_128 : decode cX8_allWays 128 = .ok (.ifCond .ne 8, 3) := by decide +kernel
theorem dX8_allWays_131 : decode cX8_allWays 131 = .ok (.iload 5, 2) := by decide +kernel
theorem dX8_allWays_133 : decode cX8_allWays 133 = .ok (.goto 7, 3) := by decide +kernel
theorem dX8_allWays_140 : decode cX8_allWays 140 = .ok (.putfield 201, 3) := by decide +kernel
theorem dX8_allWays_143 : decode cX8_allWays 143 = .ok (.iconst 0, 1) := by decide +kernel
theorem dX8_allWays_144 : decode cX8_allWays 144 = .ok (.istore 6, 2) := by decide +kernel
theorem dX8_allWays_146 : decode cX8_allWays 146 = .ok (.iload 6, 2) := by decide +kernel
theorem dX8_allWays_148 : decode cX8_allWays 148 = .ok (.iload_n 3, 1) := by decide +kernel
theorem dX8_allWays_149 : decode cX8_allWays 149 = .ok (.if_icmp .ge 43, 3) := by decide +kernel
theorem dX8_allWays_192 : decode cX8_allWays 192 = .ok (.aload_n 0, 1) := by decide +kernel
theorem dX8_allWays_193 : decode cX8_allWays 193 = .ok (.dup, 1) := by decide +kernel
theorem dX8_allWays_194 : decode cX8_allWays 194 = .ok (.getfield 184, 3) := by decide +kernel
theorem dX8_allWays_197 : decode cX8_allWays 197 = .ok (.iconst 1, 1) := by decide +kernel
theorem dX8_allWays_198 : decode cX8_allWays 198 = .ok (.iadd, 1) := by decide +kernel
theorem dX8_allWays_199 : decode cX8_allWays 199 = .ok (.putfield 184, 3) := by decide +kernel
theorem dX8_allWays_202 : decode cX8_allWays 202 = .ok (.iconst 0, 1) := by decide +kernel
theorem dX8_allWays_203 : decode cX8_allWays 203 = .ok (.istore 4, 2) := by decide +kernel
theorem dX8_allWays_205 : decode cX8_allWays 205 = .ok (.iload_n 3, 1) := by decide +kernel
theorem dX8_allWays_206 : decode cX8_allWays 206 = .ok (.iconst 1, 1) := by decide +kernel
theorem dX8_allWays_207 : decode cX8_allWays 207 = .ok (.isub, 1) := by decide +kernel
theorem dX8_allWays_208 : decode cX8_allWays 208 = .ok (.istore 6, 2) := by decide +kernel
theorem dX8_allWays_210 : decode cX8_allWays 210 = .ok (.iload 6, 2) := by decide +kernel
theorem dX8_allWays_212 : decode cX8_allWays 212 = .ok (.ifCond .lt 66, 3) := by decide +kernel
theorem dX8_allWays_278 : decode cX8_allWays 278 = .ok (.goto (-220), 3) := by decide +kernel
theorem dX8_allWays_281 : decode cX8_allWays 281 = .ok (.aload_n 0, 1) := by decide +kernel
theorem dX8_allWays_282 : decode cX8_allWays 282 = .ok (.getfield 19, 3) := by decide +kernel
theorem dX8_allWays_285 : decode cX8_allWays 285 = .ok (.aload_n 0, 1) := by decide +kernel
theorem dX8_allWays_286 : decode cX8_allWays 286 = .ok (.getfield 13, 3) := by decide +kernel
theorem dX8_allWays_289 : decode cX8_allWays 289 = .ok (.invokestatic 67, 3) := by decide +kernel
theorem dX8_allWays_292 : decode cX8_allWays 292 = .ok (.return_, 1) := by decide +kernel
theorem dX8_rests_0 : decode cX8_rests 0 = .ok (.iload_n 1, 1) := by decide +kernel
theorem dX8_rests_1 : decode cX8_rests 1 = .ok (.ifCond .lt 8, 3) := by decide +kernel
theorem dX8_rests_4 : decode cX8_rests 4 = .ok (.iload_n 1, 1) := by decide +kernel
theorem dX8_rests_5 : decode cX8_rests 5 = .ok (.iconst 1, 1) := by decide +kernel
theorem dX8_rests_6 : decode cX8_rests 6 = .ok (.if_icmp .le 10, 3) := by decide +kernel
theorem dX8_rests_9 : decode cX8_rests 9 = .ok (.aload_n 0, 1) := by decide +kernel
theorem dX8_rests_10 : decode cX8_rests 10 = .ok (.bipush (-2), 2) := by decide +kernel
theorem dX8_rests_12 : decode cX8_rests 12 = .ok (.invokevirtual 71, 3) := by decide +kernel
theorem dX8_rests_15 : decode cX8_rests 15 = .ok (.ireturn, 1) := by decide +kernel
theorem dX8_rests_16 : decode cX8_rests 16 = .ok (.aload_n 0, 1) := by decide +kernel
theorem dX8_rests_17 : decode cX8_rests 17 = .ok (.aload_n 0, 1) := by decide +kernel
theorem dX8_rests_18 : decode cX8_rests 18 = .ok (.getfield 13, 3) := by decide +kernel
theorem dX8_rests_21 : decode cX8_rests 21 = .ok (.iconst 3, 1) := by decide +kernel
theorem dX8_rests_22 : decode cX8_rests 22 = .ok (.iaload, 1) := by decide +kernel
theorem dX8_rests_23 : decode cX8_rests 23 = .ok (.iconst 1, 1) := by decide +kernel
theorem dX8_rests_24 : decode cX8_rests 24 = .ok (.invokevirtual 204, 3) := by decide +kernel
theorem dX8_rests_27 : decode cX8_rests 27 = .ok (.iload_n 1, 1) := by decide +kernel
theorem dX8_rests_28 : decode cX8_rests 28 = .ok (.ifCond .ne 10, 3) := by decide +kernel
theorem dX8_rests_31 : decode cX8_rests 31 = .ok (.aload_n 0, 1) := by decide +kernel
theorem dX8_rests_32 : decode cX8_rests 32 = .ok (.getfield 184, 3) := by decide +kernel
theorem dX8_rests_35 : decode cX8_rests 35 = .ok (.goto 19, 3) := by decide +kernel
theorem dX8_rests_38 : decode cX8_rests 38 = .ok (.aload_n 0, 1) := by decide +kernel
theorem dX8_rests_39 : decode cX8_rests 39 = .ok (.getfield 184, 3) := by decide +kernel
theorem dX8_rests_42 : decode cX8_rests 42 = .ok (.ifCond .ne 8, 3) := by decide +kernel
theorem dX8_rests_50 : decode cX8_rests 50 = .ok (.aload_n 0, 1) := by decide +kernel
theorem dX8_rests_51 : decode cX8_rests 51 = .ok (.getfield 201, 3) := by decide +kernel
theorem dX8_rests_54 : decode cX8_rests 54 = .ok (.ireturn, 1) := by decide +kernel
theorem dX8_rest_0 : decode cX8_rest 0 = .ok (.aload_n 0, 1) := by decide +kernel
theorem dX8_rest_1 : decode cX8_rest 1 = .ok (.iload_n 1, 1) := by decide +kernel
theorem dX8_rest_2 : decode cX8_rest 2 = .ok (.invokevirtual 129, 3) := by decide +kernel
theorem dX8_rest_5 : decode cX8_rest 5 = .ok (.ifCond .eq 9, 3) := by decide +kernel
theorem dX8_rest_8 : decode cX8_rest 8 = .ok (.aload_n 0, 1) := by decide +kernel
theorem dX8_rest_9 : decode cX8_rest 9 = .ok (.iconst (-1), 1) := by decide +kernel
theorem dX8_rest_10 : decode cX8_rest 10 = .ok (.invokevirtual 71, 3) := by decide +kernel
theorem dX8_rest_13 : decode cX8_rest 13 = .ok (.ireturn, 1) := by decide +kernel
theorem dX8_good_0 : decode cX8_good 0 = .ok (.aload_n 0, 1) := by decide +kernel
theorem dX8_good_1 : decode cX8_good 1 = .ok (.aload_n 0, 1) := by decide +kernel
theorem dX8_good_2 : decode cX8_good 2 = .ok (.getfield 13, 3) := by decide +kernel
theorem dX8_good_5 : decode cX8_good 5 = .ok (.iconst 3, 1) := by decide +kernel
theorem dX8_good_6 : decode cX8_good 6 = .ok (.iaload, 1) := by decide +kernel
theorem dX8_good_7 : decode cX8_good 7 = .ok (.iconst 0, 1) := by decide +kernel
theorem dX8_good_8 : decode cX8_good 8 = .ok (.invokevirtual 204, 3) := by decide +kernel
theorem dX8_good_11 : decode cX8_good 11 = .ok (.aload_n 0, 1) := by decide +kernel
theorem dX8_good_12 : decode cX8_good 12 = .ok (.getfield 187, 3) := by decide +kernel
theorem dX8_good_15 : decode cX8_good 15 = .ok (.ireturn, 1) := by decide +kernel
theorem dX8_far_0 : decode cX8_far 0 = .ok (.aload_n 0, 1) := by decide +kernel
theorem dX8_far_1 : decode cX8_far 1 = .ok (.aload_n 0, 1) := by decide +kernel
theorem dX8_far_2 : decode cX8_far 2 = .ok (.getfield 13, 3) := by decide +kernel
theorem dX8_far_5 : decode cX8_far 5 = .ok (.iconst 3, 1) := by decide +kernel
theorem dX8_far_6 : decode cX8_far 6 = .ok (.iaload, 1) := by decide +kernel
theorem dX8_far_7 : decode cX8_far 7 = .ok (.iconst 1, 1) := by decide +kernel
theorem dX8_far_8 : decode cX8_far 8 = .ok (.invokevirtual 204, 3) := by decide +kernel
theorem dX8_far_11 : decode cX8_far 11 = .ok (.aload_n 0, 1) := by decide +kernel
theorem dX8_far_12 : decode cX8_far 12 = .ok (.getfield 184, 3) := by decide +kernel
theorem dX8_far_15 : decode cX8_far 15 = .ok (.ifCond .ne 8, 3) := by decide +kernel
theorem dX8_far_23 : decode cX8_far 23 = .ok (.aload_n 0, 1) := by decide +kernel
theorem dX8_far_24 : decode cX8_far 24 = .ok (.getfield 187, 3) := by decide +kernel
theorem dX8_far_27 : decode cX8_far 27 = .ok (.aload_n 0, 1) := by decide +kernel
theorem dX8_far_28 : decode cX8_far 28 = .ok (.getfield 198, 3) := by decide +kernel
theorem dX8_far_31 : decode cX8_far 31 = .ok (.isub, 1) := by decide +kernel
theorem dX8_far_32 : decode cX8_far 32 = .ok (.ireturn, 1) := by decide +kernel
theorem dX8_byLaw_0 : decode cX8_byLaw 0 = .ok (.iload_n 1, 1) := by decide +kernel
theorem dX8_byLaw_1 : decode cX8_byLaw 1 = .ok (.ifCond .lt 9, 3) := by decide +kernel
theorem dX8_byLaw_4 : decode cX8_byLaw 4 = .ok (.iload_n 1, 1) := by decide +kernel
theorem dX8_byLaw_5 : decode cX8_byLaw 5 = .ok (.bipush 6, 2) := by decide +kernel
theorem dX8_byLaw_7 : decode cX8_byLaw 7 = .ok (.if_icmp .le 10, 3) := by decide +kernel
theorem dX8_byLaw_10 : decode cX8_byLaw 10 = .ok (.aload_n 0, 1) := by decide +kernel
theorem dX8_byLaw_11 : decode cX8_byLaw 11 = .ok (.bipush (-2), 2) := by decide +kernel
theorem dX8_byLaw_13 : decode cX8_byLaw 13 = .ok (.invokevirtual 71, 3) := by decide +kernel
theorem dX8_byLaw_16 : decode cX8_byLaw 16 = .ok (.ireturn, 1) := by decide +kernel
theorem dX8_byLaw_17 : decode cX8_byLaw 17 = .ok (.aload_n 0, 1) := by decide +kernel
theorem dX8_byLaw_18 : decode cX8_byLaw 18 = .ok (.iload_n 1, 1) := by decide +kernel
theorem dX8_byLaw_19 : decode cX8_byLaw 19 = .ok (.iconst 0, 1) := by decide +kernel
theorem dX8_byLaw_20 : decode cX8_byLaw 20 = .ok (.invokevirtual 204, 3) := by decide +kernel
theorem dX8_byLaw_23 : decode cX8_byLaw 23 = .ok (.aload_n 0, 1) := by decide +kernel
theorem dX8_byLaw_24 : decode cX8_byLaw 24 = .ok (.getfield 187, 3) := by decide +kernel
theorem dX8_byLaw_27 : decode cX8_byLaw 27 = .ok (.ireturn, 1) := by decide +kernel
theorem dX8_hour_0 : decode cX8_hour 0 = .ok (.aload_n 0, 1) := by decide +kernel
theorem dX8_hour_1 : decode cX8_hour 1 = .ok (.iload_n 1, 1) := by decide +kernel
theorem dX8_hour_2 : decode cX8_hour 2 = .ok (.invokevirtual 129, 3) := by decide +kernel
theorem dX8_hour_5 : decode cX8_hour 5 = .ok (.ifCond .eq 9, 3) := by decide +kernel
theorem dX8_hour_8 : decode cX8_hour 8 = .ok (.aload_n 0, 1) := by decide +kernel
theorem dX8_hour_9 : decode cX8_hour 9 = .ok (.iconst (-1), 1) := by decide +kernel
theorem dX8_hour_10 : decode cX8_hour 10 = .ok (.invokevirtual 71, 3) := by decide +kernel
theorem dX8_hour_13 : decode cX8_hour 13 = .ok (.ireturn, 1) := by decide +kernel
theorem dX8_isMended_0 : decode cX8_isMended 0 = .ok (.aload_n 0, 1) := by decide +kernel
theorem dX8_isMended_1 : decode cX8_isMended 1 = .ok (.invokevirtual 144, 3) := by decide +kernel
theorem dX8_isMended_4 : decode cX8_isMended 4 = .ok (.iload_n 1, 1) := by decide +kernel
theorem dX8_isMended_5 : decode cX8_isMended 5 = .ok (.iand, 1) := by decide +kernel
theorem dX8_isMended_6 : decode cX8_isMended 6 = .ok (.iload_n 1, 1) := by decide +kernel
theorem dX8_isMended_7 : decode cX8_isMended 7 = .ok (.if_icmp .ne 5, 3) := by decide +kernel
theorem dX8_isMended_10 : decode cX8_isMended 10 = .ok (.iconst 1, 1) := by decide +kernel
theorem dX8_isMended_11 : decode cX8_isMended 11 = .ok (.ireturn, 1) := by decide +kernel
theorem dX8_mends_0 : decode cX8_mends 0 = .ok (.iload_n 1, 1) := by decide +kernel
theorem dX8_mends_1 : decode cX8_mends 1 = .ok (.ifCond .lt 15, 3) := by decide +kernel
theorem dX8_mends_4 : decode cX8_mends 4 = .ok (.iload_n 1, 1) := by decide +kernel
theorem dX8_mends_5 : decode cX8_mends 5 = .ok (.iconst 1, 1) := by decide +kernel
theorem dX8_mends_6 : decode cX8_mends 6 = .ok (.aload_n 0, 1) := by decide +kernel
theorem dX8_mends_7 : decode cX8_mends 7 = .ok (.getfield 13, 3) := by decide +kernel
theorem dX8_mends_10 : decode cX8_mends 10 = .ok (.iconst 0, 1) := by decide +kernel
theorem dX8_mends_11 : decode cX8_mends 11 = .ok (.iaload, 1) := by decide +kernel
theorem dX8_mends_12 : decode cX8_mends 12 = .ok (.ishl, 1) := by decide +kernel
theorem dX8_mends_13 : decode cX8_mends 13 = .ok (.if_icmp .lt 9, 3) := by decide +kernel
theorem dX8_mends_16 : decode cX8_mends 16 = .ok (.aload_n 0, 1) := by decide +kernel
theorem dX8_mends_17 : decode cX8_mends 17 = .ok (.iconst (-1), 1) := by decide +kernel
theorem dX8_mends_18 : decode cX8_mends 18 = .ok (.invokevirtual 71, 3) := by decide +kernel
theorem dX8_mends_21 : decode cX8_mends 21 = .ok (.ireturn, 1) := by decide +kernel
theorem dX8_mends_22 : decode cX8_mends 22 = .ok (.iconst 0, 1) := by decide +kernel
theorem dX8_mends_23 : decode cX8_mends 23 = .ok (.istore_n 2, 1) := by decide +kernel
theorem dX8_mends_24 : decode cX8_mends 24 = .ok (.iload_n 2, 1) := by decide +kernel
theorem dX8_mends_25 : decode cX8_mends 25 = .ok (.iconst 3, 1) := by decide +kernel
theorem dX8_mends_26 : decode cX8_mends 26 = .ok (.if_icmp .ge 20, 3) := by decide +kernel
theorem dX8_mends_29 : decode cX8_mends 29 = .ok (.aload_n 0, 1) := by decide +kernel
theorem dX8_mends_30 : decode cX8_mends 30 = .ok (.iload_n 1, 1) := by decide +kernel
theorem dX8_mends_31 : decode cX8_mends 31 = .ok (.iload_n 2, 1) := by decide +kernel
theorem dX8_mends_32 : decode cX8_mends 32 = .ok (.invokevirtual 208, 3) := by decide +kernel
theorem dX8_mends_35 : decode cX8_mends 35 = .ok (.ifCond .eq 5, 3) := by decide +kernel
theorem dX8_mends_38 : decode cX8_mends 38 = .ok (.iload_n 2, 1) := by decide +kernel
theorem dX8_mends_39 : decode cX8_mends 39 = .ok (.ireturn, 1) := by decide +kernel
theorem dX8_row_0 : decode cX8_row 0 = .ok (.iload_n 1, 1) := by decide +kernel
theorem dX8_row_1 : decode cX8_row 1 = .ok (.ifCond .ge 10, 3) := by decide +kernel
theorem dX8_row_4 : decode cX8_row 4 = .ok (.aload_n 0, 1) := by decide +kernel
theorem dX8_row_5 : decode cX8_row 5 = .ok (.bipush (-4), 2) := by decide +kernel
