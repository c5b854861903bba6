theorem dX8_again_86 : decode cX8_again 86 = .ok (.bipush (-9), 2) := by decide +kernel
theorem dX8_again_88 : decode cX8_again 88 = .ok (.ireturn, 1) := by decide +kernel
theorem dX8_lookAt_0 : decode cX8_lookAt 0 = .ok (.aload_n 0, 1) := by decide +kernel
theorem dX8_lookAt_1 : decode cX8_lookAt 1 = .ok (.getfield 13, 3) := by decide +kernel
theorem dX8_lookAt_4 : decode cX8_lookAt 4 = .ok (.iconst 0, 1) := by decide +kernel
theorem dX8_lookAt_5 : decode cX8_lookAt 5 = .ok (.iaload, 1) := by decide +kernel
theorem dX8_lookAt_6 : decode cX8_lookAt 6 = .ok (.istore_n 1, 1) := by decide +kernel
theorem dX8_lookAt_7 : decode cX8_lookAt 7 = .ok (.aload_n 0, 1) := by decide +kernel
theorem dX8_lookAt_8 : decode cX8_lookAt 8 = .ok (.invokevirtual 144, 3) := by decide +kernel
theorem dX8_lookAt_11 : decode cX8_lookAt 11 = .ok (.invokestatic 154, 3) := by decide +kernel
theorem dX8_lookAt_14 : decode cX8_lookAt 14 = .ok (.istore_n 2, 1) := by decide +kernel
theorem dX8_lookAt_15 : decode cX8_lookAt 15 = .ok (.aload_n 0, 1) := by decide +kernel
theorem dX8_lookAt_16 : decode cX8_lookAt 16 = .ok (.aload_n 0, 1) := by decide +kernel
theorem dX8_lookAt_17 : decode cX8_lookAt 17 = .ok (.getfield 13, 3) := by decide +kernel
theorem dX8_lookAt_20 : decode cX8_lookAt 20 = .ok (.iconst 3, 1) := by decide +kernel
theorem dX8_lookAt_21 : decode cX8_lookAt 21 = .ok (.iaload, 1) := by decide +kernel
theorem dX8_lookAt_22 : decode cX8_lookAt 22 = .ok (.invokevirtual 147, 3) := by decide +kernel
theorem dX8_lookAt_25 : decode cX8_lookAt 25 = .ok (.istore_n 3, 1) := by decide +kernel
theorem dX8_lookAt_26 : decode cX8_lookAt 26 = .ok (.iload_n 2, 1) := by decide +kernel
theorem dX8_lookAt_27 : decode cX8_lookAt 27 = .ok (.aload_n 0, 1) := by decide +kernel
theorem dX8_lookAt_28 : decode cX8_lookAt 28 = .ok (.getfield 157, 3) := by decide +kernel
theorem dX8_lookAt_31 : decode cX8_lookAt 31 = .ok (.if_icmp .gt 19, 3) := by decide +kernel
theorem dX8_lookAt_34 : decode cX8_lookAt 34 = .ok (.iload_n 2, 1) := by decide +kernel
theorem dX8_lookAt_35 : decode cX8_lookAt 35 = .ok (.aload_n 0, 1) := by decide +kernel
theorem dX8_lookAt_36 : decode cX8_lookAt 36 = .ok (.getfield 157, 3) := by decide +kernel
theorem dX8_lookAt_39 : decode cX8_lookAt 39 = .ok (.if_icmp .ne 15, 3) := by decide +kernel
theorem dX8_lookAt_42 : decode cX8_lookAt 42 = .ok (.iload_n 3, 1) := by decide +kernel
theorem dX8_lookAt_43 : decode cX8_lookAt 43 = .ok (.aload_n 0, 1) := by decide +kernel
theorem dX8_lookAt_44 : decode cX8_lookAt 44 = .ok (.getfield 160, 3) := by decide +kernel
theorem dX8_lookAt_47 : decode cX8_lookAt 47 = .ok (.if_icmp .le 7, 3) := by decide +kernel
theorem dX8_lookAt_50 : decode cX8_lookAt 50 = .ok (.iconst 1, 1) := by decide +kernel
theorem dX8_lookAt_51 : decode cX8_lookAt 51 = .ok (.goto 4, 3) := by decide +kernel
theorem dX8_lookAt_54 : decode cX8_lookAt 54 = .ok (.iconst 0, 1) := by decide +kernel
theorem dX8_lookAt_55 : decode cX8_lookAt 55 = .ok (.istore 4, 2) := by decide +kernel
theorem dX8_lookAt_57 : decode cX8_lookAt 57 = .ok (.iconst 0, 1) := by decide +kernel
theorem dX8_lookAt_58 : decode cX8_lookAt 58 = .ok (.istore 5, 2) := by decide +kernel
theorem dX8_lookAt_60 : decode cX8_lookAt 60 = .ok (.iconst 0, 1) := by decide +kernel
theorem dX8_lookAt_61 : decode cX8_lookAt 61 = .ok (.istore 6, 2) := by decide +kernel
theorem dX8_lookAt_63 : decode cX8_lookAt 63 = .ok (.iload 6, 2) := by decide +kernel
theorem dX8_lookAt_65 : decode cX8_lookAt 65 = .ok (.iload_n 1, 1) := by decide +kernel
theorem dX8_lookAt_66 : decode cX8_lookAt 66 = .ok (.if_icmp .ge 44, 3) := by decide +kernel
theorem dX8_lookAt_69 : decode cX8_lookAt 69 = .ok (.iload 5, 2) := by decide +kernel
theorem dX8_lookAt_71 : decode cX8_lookAt 71 = .ok (.aload_n 0, 1) := by decide +kernel
theorem dX8_lookAt_72 : decode cX8_lookAt 72 = .ok (.aload_n 0, 1) := by decide +kernel
theorem dX8_lookAt_73 : decode cX8_lookAt 73 = .ok (.getfield 13, 3) := by decide +kernel
theorem dX8_lookAt_76 : decode cX8_lookAt 76 = .ok (.iconst 3, 1) := by decide +kernel
theorem dX8_lookAt_77 : decode cX8_lookAt 77 = .ok (.iaload, 1) := by decide +kernel
theorem dX8_lookAt_78 : decode cX8_lookAt 78 = .ok (.iload 6, 2) := by decide +kernel
theorem dX8_lookAt_80 : decode cX8_lookAt 80 = .ok (.invokevirtual 126, 3) := by decide +kernel
theorem dX8_lookAt_83 : decode cX8_lookAt 83 = .ok (.aload_n 0, 1) := by decide +kernel
theorem dX8_lookAt_84 : decode cX8_lookAt 84 = .ok (.getfield 45, 3) := by decide +kernel
theorem dX8_lookAt_87 : decode cX8_lookAt 87 = .ok (.iload 6, 2) := by decide +kernel
theorem dX8_lookAt_89 : decode cX8_lookAt 89 = .ok (.iaload, 1) := by decide +kernel
theorem dX8_lookAt_90 : decode cX8_lookAt 90 = .ok (.if_icmp .ne 7, 3) := by decide +kernel
theorem dX8_lookAt_93 : decode cX8_lookAt 93 = .ok (.iconst 0, 1) := by decide +kernel
theorem dX8_lookAt_94 : decode cX8_lookAt 94 = .ok (.goto 7, 3) := by decide +kernel
theorem dX8_lookAt_97 : decode cX8_lookAt 97 = .ok (.iconst 1, 1) := by decide +kernel
theorem dX8_lookAt_98 : decode cX8_lookAt 98 = .ok (.iload 6, 2) := by decide +kernel
theorem dX8_lookAt_100 : decode cX8_lookAt 100 = .ok (.ishl, 1) := by decide +kernel
theorem dX8_lookAt_101 : decode cX8_lookAt 101 = .ok (.ior, 1) := by decide +kernel
theorem dX8_lookAt_102 : decode cX8_lookAt 102 = .ok (.istore 5, 2) := by decide +kernel
theorem dX8_lookAt_104 : decode cX8_lookAt 104 = .ok (.iinc 6 1, 3) := by decide +kernel
theorem dX8_lookAt_107 : decode cX8_lookAt 107 = .ok (.goto (-44), 3) := by decide +kernel
theorem dX8_lookAt_110 : decode cX8_lookAt 110 = .ok (.iconst 0, 1) := by decide +kernel
theorem dX8_lookAt_111 : decode cX8_lookAt 111 = .ok (.istore 6, 2) := by decide +kernel
theorem dX8_lookAt_113 : decode cX8_lookAt 113 = .ok (.iload 6, 2) := by decide +kernel
theorem dX8_lookAt_115 : decode cX8_lookAt 115 = .ok (.iload_n 1, 1) := by decide +kernel
theorem dX8_lookAt_116 : decode cX8_lookAt 116 = .ok (.if_icmp .ge 80, 3) := by decide +kernel
theorem dX8_lookAt_119 : decode cX8_lookAt 119 = .ok (.aload_n 0, 1) := by decide +kernel
theorem dX8_lookAt_120 : decode cX8_lookAt 120 = .ok (.getfield 48, 3) := by decide +kernel
theorem dX8_lookAt_123 : decode cX8_lookAt 123 = .ok (.iload 6, 2) := by decide +kernel
theorem dX8_lookAt_125 : decode cX8_lookAt 125 = .ok (.iload 4, 2) := by decide +kernel
theorem dX8_lookAt_127 : decode cX8_lookAt 127 = .ok (.ifCond .eq 16, 3) := by decide +kernel
theorem dX8_lookAt_130 : decode cX8_lookAt 130 = .ok (.aload_n 0, 1) := by decide +kernel
theorem dX8_lookAt_131 : decode cX8_lookAt 131 = .ok (.getfield 13, 3) := by decide +kernel
theorem dX8_lookAt_134 : decode cX8_lookAt 134 = .ok (.bipush 70, 2) := by decide +kernel
theorem dX8_lookAt_136 : decode cX8_lookAt 136 = .ok (.iload 6, 2) := by decide +kernel
theorem dX8_lookAt_138 : decode cX8_lookAt 138 = .ok (.iadd, 1) := by decide +kernel
theorem dX8_lookAt_139 : decode cX8_lookAt 139 = .ok (.iaload, 1) := by decide +kernel
theorem dX8_lookAt_140 : decode cX8_lookAt 140 = .ok (.goto 10, 3) := by decide +kernel
theorem dX8_lookAt_143 : decode cX8_lookAt 143 = .ok (.aload_n 0, 1) := by decide +kernel
theorem dX8_lookAt_144 : decode cX8_lookAt 144 = .ok (.getfield 48, 3) := by decide +kernel
theorem dX8_lookAt_147 : decode cX8_lookAt 147 = .ok (.iload 6, 2) := by decide +kernel
theorem dX8_lookAt_149 : decode cX8_lookAt 149 = .ok (.iaload, 1) := by decide +kernel
theorem dX8_lookAt_150 : decode cX8_lookAt 150 = .ok (.iastore, 1) := by decide +kernel
theorem dX8_lookAt_151 : decode cX8_lookAt 151 = .ok (.aload_n 0, 1) := by decide +kernel
theorem dX8_lookAt_152 : decode cX8_lookAt 152 = .ok (.getfield 51, 3) := by decide +kernel
theorem dX8_lookAt_155 : decode cX8_lookAt 155 = .ok (.iload 6, 2) := by decide +kernel
theorem dX8_lookAt_157 : decode cX8_lookAt 157 = .ok (.iload 5, 2) := by decide +kernel
theorem dX8_lookAt_159 : decode cX8_lookAt 159 = .ok (.ifCond .ne 23, 3) := by decide +kernel
theorem dX8_lookAt_162 : decode cX8_lookAt 162 = .ok (.aload_n 0, 1) := by decide +kernel
theorem dX8_lookAt_163 : decode cX8_lookAt 163 = .ok (.getfield 163, 3) := by decide +kernel
theorem dX8_lookAt_166 : decode cX8_lookAt 166 = .ok (.ifCond .ne 16, 3) := by decide +kernel
theorem dX8_lookAt_169 : decode cX8_lookAt 169 = .ok (.aload_n 0, 1) := by decide +kernel
theorem dX8_lookAt_170 : decode cX8_lookAt 170 = .ok (.getfield 13, 3) := by decide +kernel
theorem dX8_lookAt_173 : decode cX8_lookAt 173 = .ok (.bipush 70, 2) := by decide +kernel
theorem dX8_lookAt_175 : decode cX8_lookAt 175 = .ok (.iload 6, 2) := by decide +kernel
theorem dX8_lookAt_177 : decode cX8_lookAt 177 = .ok (.iadd, 1) := by decide +kernel
theorem dX8_lookAt_178 : decode cX8_lookAt 178 = .ok (.iaload, 1) := by decide +kernel
theorem dX8_lookAt_179 : decode cX8_lookAt 179 = .ok (.goto 10, 3) := by decide +kernel
theorem dX8_lookAt_182 : decode cX8_lookAt 182 = .ok (.aload_n 0, 1) := by decide +kernel
theorem dX8_lookAt_183 : decode cX8_lookAt 183 = .ok (.getfield 51, 3) := by decide +kernel
theorem dX8_lookAt_186 : decode cX8_lookAt 186 = .ok (.iload 6, 2) := by decide +kernel
theorem dX8_lookAt_188 : decode cX8_lookAt 188 = .ok (.iaload, 1) := by decide +kernel
theorem dX8_lookAt_189 : decode cX8_lookAt 189 = .ok (.iastore, 1) := by decide +kernel
theorem dX8_lookAt_190 : decode cX8_lookAt 190 = .ok (.iinc 6 1, 3) := by decide +kernel
theorem dX8_lookAt_193 : decode cX8_lookAt 193 = .ok (.goto (-80), 3) := by decide +kernel
theorem dX8_lookAt_196 : decode cX8_lookAt 196 = .ok (.aload_n 0, 1) := by decide +kernel
theorem dX8_lookAt_197 : decode cX8_lookAt 197 = .ok (.iload 4, 2) := by decide +kernel
theorem dX8_lookAt_199 : decode cX8_lookAt 199 = .ok (.ifCond .eq 7, 3) := by decide +kernel
theorem dX8_lookAt_202 : decode cX8_lookAt 202 = .ok (.iload_n 3, 1) := by decide +kernel
theorem dX8_lookAt_203 : decode cX8_lookAt 203 = .ok (.goto 7, 3) := by decide +kernel
theorem dX8_lookAt_206 : decode cX8_lookAt 206 = .ok (.aload_n 0, 1) := by decide +kernel
theorem dX8_lookAt_207 : decode cX8_lookAt 207 = .ok (.getfield 160, 3) := by decide +kernel
theorem dX8_lookAt_210 : decode cX8_lookAt 210 = .ok (.putfield 160, 3) := by decide +kernel
theorem dX8_lookAt_213 : decode cX8_lookAt 213 = .ok (.aload_n 0, 1) := by decide +kernel
theorem dX8_lookAt_214 : decode cX8_lookAt 214 = .ok (.iload 4, 2) := by decide +kernel
theorem dX8_lookAt_216 : decode cX8_lookAt 216 = .ok (.ifCond .eq 7, 3) := by decide +kernel
theorem dX8_lookAt_219 : decode cX8_lookAt 219 = .ok (.iload_n 2, 1) := by decide +kernel
theorem dX8_lookAt_220 : decode cX8_lookAt 220 = .ok (.goto 7, 3) := by decide +kernel
theorem dX8_lookAt_223 : decode cX8_lookAt 223 = .ok (.aload_n 0, 1) := by decide +kernel
theorem dX8_lookAt_224 : decode cX8_lookAt 224 = .ok (.getfield 157, 3) := by decide +kernel
theorem dX8_lookAt_227 : decode cX8_lookAt 227 = .ok (.putfield 157, 3) := by decide +kernel
theorem dX8_lookAt_230 : decode cX8_lookAt 230 = .ok (.aload_n 0, 1) := by decide +kernel
theorem dX8_lookAt_231 : decode cX8_lookAt 231 = .ok (.aload_n 0, 1) := by decide +kernel
theorem dX8_lookAt_232 : decode cX8_lookAt 232 = .ok (.getfield 166, 3) := by decide +kernel
theorem dX8_lookAt_235 : decode cX8_lookAt 235 = .ok (.ifCond .lt 11, 3) := by decide +kernel
theorem dX8_lookAt_238 : decode cX8_lookAt 238 = .ok (.iload_n 3, 1) := by decide +kernel
theorem dX8_lookAt_239 : decode cX8_lookAt 239 = .ok (.aload_n 0, 1) := by decide +kernel
theorem dX8_lookAt_240 : decode cX8_lookAt 240 = .ok (.getfield 166, 3) := by decide +kernel
theorem dX8_lookAt_243 : decode cX8_lookAt 243 = .ok (.if_icmp .ge 7, 3) := by decide +kernel
theorem dX8_lookAt_246 : decode cX8_lookAt 246 = .ok (.iload_n 3, 1) := by decide +kernel
theorem dX8_lookAt_247 : decode cX8_lookAt 247 = .ok (.goto 7, 3) := by decide +kernel
theorem dX8_lookAt_250 : decode cX8_lookAt 250 = .ok (.aload_n 0, 1) := by decide +kernel
theorem dX8_lookAt_251 : decode cX8_lookAt 251 = .ok (.getfield 166, 3) := by decide +kernel
theorem dX8_lookAt_254 : decode cX8_lookAt 254 = .ok (.putfield 166, 3) := by decide +kernel
theorem dX8_lookAt_257 : decode cX8_lookAt 257 = .ok (.aload_n 0, 1) := by decide +kernel
theorem dX8_lookAt_258 : decode cX8_lookAt 258 = .ok (.dup, 1) := by decide +kernel
theorem dX8_lookAt_259 : decode cX8_lookAt 259 = .ok (.getfield 163, 3) := by decide +kernel
theorem dX8_lookAt_262 : decode cX8_lookAt 262 = .ok (.iload 5, 2) := by decide +kernel
theorem dX8_lookAt_264 : decode cX8_lookAt 264 = .ok (.ifCond .ne 7, 3) := by decide +kernel
theorem dX8_lookAt_267 : decode cX8_lookAt 267 = .ok (.iconst 1, 1) := by decide +kernel
theorem dX8_lookAt_268 : decode cX8_lookAt 268 = .ok (.goto 4, 3) := by decide +kernel
theorem dX8_lookAt_271 : decode cX8_lookAt 271 = .ok (.iconst 0, 1) := by decide +kernel
theorem dX8_lookAt_272 : decode cX8_lookAt 272 = .ok (.iadd, 1) := by decide +kernel
theorem dX8_lookAt_273 : decode cX8_lookAt 273 = .ok (.putfield 163, 3) := by decide +kernel
theorem dX8_lookAt_276 : decode cX8_lookAt 276 = .ok (.iconst 0, 1) := by decide +kernel
theorem dX8_lookAt_277 : decode cX8_lookAt 277 = .ok (.istore 6, 2) := by decide +kernel
theorem dX8_lookAt_279 : decode cX8_lookAt 279 = .ok (.iload 6, 2) := by decide +kernel
theorem dX8_lookAt_281 : decode cX8_lookAt 281 = .ok (.iload_n 1, 1) := by decide +kernel
theorem dX8_lookAt_282 : decode cX8_lookAt 282 = .ok (.if_icmp .ge 38, 3) := by decide +kernel
theorem dX8_lookAt_285 : decode cX8_lookAt 285 = .ok (.aload_n 0, 1) := by decide +kernel
theorem dX8_lookAt_286 : decode cX8_lookAt 286 = .ok (.dup, 1) := by decide +kernel
theorem dX8_lookAt_287 : decode cX8_lookAt 287 = .ok (.getfield 169, 3) := by decide +kernel
theorem dX8_lookAt_290 : decode cX8_lookAt 290 = .ok (.iload 5, 2) := by decide +kernel
theorem dX8_lookAt_292 : decode cX8_lookAt 292 = .ok (.iconst 1, 1) := by decide +kernel
theorem dX8_lookAt_293 : decode cX8_lookAt 293 = .ok (.iload 6, 2) := by decide +kernel
theorem dX8_lookAt_295 : decode cX8_lookAt 295 = .ok (.ishl, 1) := by decide +kernel
theorem dX8_lookAt_296 : decode cX8_lookAt 296 = .ok (.iconst (-1), 1) := by decide +kernel
theorem dX8_lookAt_297 : decode cX8_lookAt 297 = .ok (.ixor, 1) := by decide +kernel
theorem dX8_lookAt_298 : decode cX8_lookAt 298 = .ok (.iand, 1) := by decide +kernel
theorem dX8_lookAt_299 : decode cX8_lookAt 299 = .ok (.ifCond .ne 10, 3) := by decide +kernel
theorem dX8_lookAt_302 : decode cX8_lookAt 302 = .ok (.iconst 1, 1) := by decide +kernel
theorem dX8_lookAt_303 : decode cX8_lookAt 303 = .ok (.iload 6, 2) := by decide +kernel
theorem dX8_lookAt_305 : decode cX8_lookAt 305 = .ok (.ishl, 1) := by decide +kernel
theorem dX8_lookAt_306 : decode cX8_lookAt 306 = .ok (.goto 4, 3) := by decide +kernel
theorem dX8_lookAt_309 : decode cX8_lookAt 309 = .ok (.iconst 0, 1) := by decide +kernel
theorem dX8_lookAt_310 : decode cX8_lookAt 310 = .ok (.ior, 1) := by decide +kernel
theorem dX8_lookAt_311 : decode cX8_lookAt 311 = .ok (.putfield 169, 3) := by decide +kernel
theorem dX8_lookAt_314 : decode cX8_lookAt 314 = .ok (.iinc 6 1, 3) := by decide +kernel
theorem dX8_lookAt_317 : decode cX8_lookAt 317 = .ok (.goto (-38), 3) := by decide +kernel
theorem dX8_lookAt_320 : decode cX8_lookAt 320 = .ok (.return_, 1) := by decide +kernel
theorem dX8_seat_0 : decode cX8_seat 0 = .ok (.aload_n 0, 1) := by decide +kernel
theorem dX8_seat_1 : decode cX8_seat 1 = .ok (.getfield 13, 3) := by decide +kernel
theorem dX8_seat_4 : decode cX8_seat 4 = .ok (.iconst 0, 1) := by decide +kernel
theorem dX8_seat_5 : decode cX8_seat 5 = .ok (.iaload, 1) := by decide +kernel
theorem dX8_seat_6 : decode cX8_seat 6 = .ok (.istore_n 3, 1) := by decide +kernel
theorem dX8_seat_7 : decode cX8_seat 7 = .ok (.iload_n 1, 1) := by decide +kernel
theorem dX8_seat_8 : decode cX8_seat 8 = .ok (.iload_n 3, 1) := by decide +kernel
theorem dX8_seat_9 : decode cX8_seat 9 = .ok (.if_icmp .ne 8, 3) := by decide +kernel
theorem dX8_seat_12 : decode cX8_seat 12 = .ok (.aload_n 0, 1) := by decide +kernel
theorem dX8_seat_13 : decode cX8_seat 13 = .ok (.invokevirtual 172, 3) := by decide +kernel
theorem dX8_seat_16 : decode cX8_seat 16 = .ok (.return_, 1) := by decide +kernel
theorem dX8_seat_17 : decode cX8_seat 17 = .ok (.iload_n 1, 1) := by decide +kernel
theorem dX8_seat_18 : decode cX8_seat 18 = .ok (.ifCond .ne 17, 3) := by decide +kernel
theorem dX8_seat_21 : decode cX8_seat 21 = .ok (.aload_n 0, 1) := by decide +kernel
theorem dX8_seat_22 : decode cX8_seat 22 = .ok (.getfield 13, 3) := by decide +kernel
theorem dX8_seat_25 : decode cX8_seat 25 = .ok (.iconst 5, 1) := by decide +kernel
theorem dX8_seat_26 : decode cX8_seat 26 = .ok (.iaload, 1) := by decide +kernel
theorem dX8_seat_27 : decode cX8_seat 27 = .ok (.iconst 1, 1) := by decide +kernel
theorem dX8_seat_28 : decode cX8_seat 28 = .ok (.if_icmp .ne 7, 3) := by decide +kernel
theorem dX8_seat_31 : decode cX8_seat 31 = .ok (.iconst 1, 1) := by decide +kernel
theorem dX8_seat_32 : decode cX8_seat 32 = .ok (.goto 4, 3) := by decide +kernel
theorem dX8_seat_35 : decode cX8_seat 35 = .ok (.iload_n 3, 1) := by decide +kernel
theorem dX8_seat_36 : decode cX8_seat 36 = .ok (.istore 4, 2) := by decide +kernel
theorem dX8_seat_38 : decode cX8_seat 38 = .ok (.iconst 0, 1) := by decide +kernel
theorem dX8_seat_39 : decode cX8_seat 39 = .ok (.istore 5, 2) := by decide +kernel
theorem dX8_seat_41 : decode cX8_seat 41 = .ok (.iload 5, 2) := by decide +kernel
theorem dX8_seat_43 : decode cX8_seat 43 = .ok (.iload 4, 2) := by decide +kernel
theorem dX8_seat_45 : decode cX8_seat 45 = .ok (.if_icmp .ge 42, 3) := by decide +kernel
theorem dX8_seat_48 : decode cX8_seat 48 = .ok (.iload_n 2, 1) := by decide +kernel
theorem dX8_seat_49 : decode cX8_seat 49 = .ok (.iload 5, 2) := by decide +kernel
theorem dX8_seat_51 : decode cX8_seat 51 = .ok (.ishr, 1) := by decide +kernel
theorem dX8_seat_52 : decode cX8_seat 52 = .ok (.iconst 1, 1) := by decide +kernel
theorem dX8_seat_53 : decode cX8_seat 53 = .ok (.iand, 1) := by decide +kernel
theorem dX8_seat_54 : decode cX8_seat 54 = .ok (.ifCond .ne 27, 3) := by decide +kernel
theorem dX8_seat_57 : decode cX8_seat 57 = .ok (.aload_n 0, 1) := by decide +kernel
theorem dX8_seat_58 : decode cX8_seat 58 = .ok (.getfield 13, 3) := by decide +kernel
theorem dX8_seat_61 : decode cX8_seat 61 = .ok (.bipush 70, 2) := by decide +kernel
theorem dX8_seat_63 : decode cX8_seat 63 = .ok (.iload_n 1, 1) := by decide +kernel
theorem dX8_seat_64 : decode cX8_seat 64 = .ok (.iadd, 1) := by decide +kernel
theorem dX8_seat_65 : decode cX8_seat 65 = .ok (.iload 5, 2) := by decide +kernel
theorem dX8_seat_67 : decode cX8_seat 67 = .ok (.iastore, 1) := by decide +kernel
theorem dX8_seat_68 : decode cX8_seat 68 = .ok (.aload_n 0, 1) := by decide +kernel
theorem dX8_seat_69 : decode cX8_seat 69 = .ok (.iload_n 1, 1) := by decide +kernel
theorem dX8_seat_70 : decode cX8_seat 70 = .ok (.iconst 1, 1) := by decide +kernel
theorem dX8_seat_71 : decode cX8_seat 71 = .ok (.iadd, 1) := by decide +kernel
theorem dX8_seat_72 : decode cX8_seat 72 = .ok (.iload_n 2, 1) := by decide +kernel
theorem dX8_seat_73 : decode cX8_seat 73 = .ok (.iconst 1, 1) := by decide +kernel
theorem dX8_seat_74 : decode cX8_seat 74 = .ok (.iload 5, 2) := by decide +kernel
theorem dX8_seat_76 : decode cX8_seat 76 = .ok (.ishl, 1) := by decide +kernel
theorem dX8_seat_77 : decode cX8_seat 77 = .ok (.ior, 1) := by decide +kernel
theorem dX8_seat_78 : decode cX8_seat 78 = .ok (.invokevirtual 175, 3) := by decide +kernel
theorem dX8_seat_81 : decode cX8_seat 81 = .ok (.iinc 5 1, 3) := by decide +kernel
theorem dX8_seat_84 : decode cX8_seat 84 = .ok (.goto (-43), 3) := by decide +kernel
theorem dX8_seat_87 : decode cX8_seat 87 = .ok (.return_, 1) := by decide +kernel
theorem dX8_allSeatings_0 : decode cX8_allSeatings 0 = .ok (.aload_n 0, 1) := by decide +kernel
theorem dX8_allSeatings_1 : decode cX8_allSeatings 1 = .ok (.iconst (-1), 1) := by decide +kernel
theorem dX8_allSeatings_2 : decode cX8_allSeatings 2 = .ok (.putfield 157, 3) := by decide +kernel
theorem dX8_allSeatings_5 : decode cX8_allSeatings 5 = .ok (.aload_n 0, 1) := by decide +kernel
theorem dX8_allSeatings_6 : decode cX8_allSeatings 6 = .ok (.iconst (-1), 1) := by decide +kernel
theorem dX8_allSeatings_7 : decode cX8_allSeatings 7 = .ok (.putfield 160, 3) := by decide +kernel
theorem dX8_allSeatings_10 : decode cX8_allSeatings 10 = .ok (.aload_n 0, 1) := by decide +kernel
theorem dX8_allSeatings_11 : decode cX8_allSeatings 11 = .ok (.iconst (-1), 1) := by decide +kernel
theorem dX8_allSeatings_12 : decode cX8_allSeatings 12 = .ok (.putfield 166, 3) := by decide +kernel
theorem dX8_allSeatings_15 : decode cX8_allSeatings 15 = .ok (.aload_n 0, 1) := by decide +kernel
theorem dX8_allSeatings_16 : decode cX8_allSeatings 16 = .ok (.iconst 0, 1) := by decide +kernel
theorem dX8_allSeatings_17 : decode cX8_allSeatings 17 = .ok (.putfield 163, 3) := by decide +kernel
theorem dX8_allSeatings_20 : decode cX8_allSeatings 20 = .ok (.aload_n 0, 1) := by decide +kernel
theorem dX8_allSeatings_21 : decode cX8_allSeatings 21 = .ok (.iconst 0, 1) := by decide +kernel
theorem dX8_allSeatings_22 : decode cX8_allSeatings 22 = .ok (.putfield 169, 3) := by decide +kernel
theorem dX8_allSeatings_25 : decode cX8_allSeatings 25 = .ok (.iconst 0, 1) := by decide +kernel
theorem dX8_allSeatings_26 : decode cX8_allSeatings 26 = .ok (.istore_n 1, 1) := by decide +kernel
theorem dX8_allSeatings_27 : decode cX8_allSeatings 27 = .ok (.iload_n 1, 1) := by decide +kernel
theorem dX8_allSeatings_28 : decode cX8_allSeatings 28 = .ok (.bipush 6, 2) := by decide +kernel
theorem dX8_allSeatings_30 : decode cX8_allSeatings 30 = .ok (.if_icmp .ge 33, 3) := by decide +kernel
theorem dX8_allSeatings_33 : decode cX8_allSeatings 33 = .ok (.aload_n 0, 1) := by decide +kernel
theorem dX8_allSeatings_34 : decode cX8_allSeatings 34 = .ok (.getfield 45, 3) := by decide +kernel
theorem dX8_allSeatings_37 : decode cX8_allSeatings 37 = .ok (.iload_n 1, 1) := by decide +kernel
theorem dX8_allSeatings_38 : decode cX8_allSeatings 38 = .ok (.iload_n 1, 1) := by decide +kernel
theorem dX8_allSeatings_39 : decode cX8_allSeatings 39 = .ok (.aload_n 0, 1) := by decide +kernel
theorem dX8_allSeatings_40 : decode cX8_allSeatings 40 = .ok (.getfield 178, 3) := by decide +kernel
theorem dX8_allSeatings_43 : decode cX8_allSeatings 43 = .ok (.if_icmp .ge 12, 3) := by decide +kernel
theorem dX8_allSeatings_46 : decode cX8_allSeatings 46 = .ok (.aload_n 0, 1) := by decide +kernel
theorem dX8_allSeatings_47 : decode cX8_allSeatings 47 = .ok (.getfield 60, 3) := by decide +kernel
theorem dX8_allSeatings_50 : decode cX8_allSeatings 50 = .ok (.iload_n 1, 1) := by decide +kernel
theorem dX8_allSeatings_51 : decode cX8_allSeatings 51 = .ok (.iaload, 1) := by decide +kernel
theorem dX8_allSeatings_52 : decode cX8_allSeatings 52 = .ok (.goto 4, 3) := by decide +kernel
theorem dX8_allSeatings_55 : decode cX8_allSeatings 55 = .ok (.iconst (-1), 1) := by decide +kernel
theorem dX8_allSeatings_56 : decode cX8_allSeatings 56 = .ok (.iastore, 1) := by decide +kernel
theorem dX8_allSeatings_57 : decode cX8_allSeatings 57 = .ok (.iinc 1 1, 3) := by decide +kernel
theorem dX8_allSeatings_60 : decode cX8_allSeatings 60 = .ok (.goto (-33), 3) := by decide +kernel
theorem dX8_allSeatings_63 : decode cX8_allSeatings 63 = .ok (.aload_n 0, 1) := by decide +kernel
theorem dX8_allSeatings_64 : decode cX8_allSeatings 64 = .ok (.getfield 13, 3) := by decide +kernel
theorem dX8_allSeatings_67 : decode cX8_allSeatings 67 = .ok (.aload_n 0, 1) := by decide +kernel
theorem dX8_allSeatings_68 : decode cX8_allSeatings 68 = .ok (.getfield 19, 3) := by decide +kernel
theorem dX8_allSeatings_71 : decode cX8_allSeatings 71 = .ok (.invokestatic 67, 3) := by decide +kernel
theorem dX8_allSeatings_74 : decode cX8_allSeatings 74 = .ok (.aload_n 0, 1) := by decide +kernel
theorem dX8_allSeatings_75 : decode cX8_allSeatings 75 = .ok (.iconst 0, 1) := by decide +kernel
theorem dX8_allSeatings_76 : decode cX8_allSeatings 76 = .ok (.iconst 0, 1) := by decide +kernel
theorem dX8_allSeatings_77 : decode cX8_allSeatings 77 = .ok (.invokevirtual 175, 3) := by decide +kernel
theorem dX8_allSeatings_80 : decode cX8_allSeatings 80 = .ok (.aload_n 0, 1) := by decide +kernel
theorem dX8_allSeatings_81 : decode cX8_allSeatings 81 = .ok (.getfield 19, 3) := by decide +kernel
theorem dX8_allSeatings_84 : decode cX8_allSeatings 84 = .ok (.aload_n 0, 1) := by decide +kernel
theorem dX8_allSeatings_85 : decode cX8_allSeatings 85 = .ok (.getfield 13, 3) := by decide +kernel
theorem dX8_allSeatings_88 : decode cX8_allSeatings 88 = .ok (.invokestatic 67, 3) := by decide +kernel
theorem dX8_allSeatings_91 : decode cX8_allSeatings 91 = .ok (.return_, 1) := by decide +kernel
theorem dX8_best_0 : decode cX8_best 0 = .ok (.iload_n 1, 1) := by decide +kernel
theorem dX8_best_1 : decode cX8_best 1 = .ok (.ifCond .lt 8, 3) := by decide +kernel
theorem dX8_best_4 : decode cX8_best 4 = .ok (.iload_n 1, 1) := by decide +kernel
theorem dX8_best_5 : decode cX8_best 5 = .ok (.iconst 1, 1) := by decide +kernel
theorem dX8_best_6 : decode cX8_best 6 = .ok (.if_icmp .le 10, 3) := by decide +kernel
theorem dX8_best_9 : decode cX8_best 9 = .ok (.aload_n 0, 1) := by decide +kernel
theorem dX8_best_10 : decode cX8_best 10 = .ok (.bipush (-2), 2) := by decide +kernel
theorem dX8_best_12 : decode cX8_best 12 = .ok (.invokevirtual 71, 3) := by decide +kernel
theorem dX8_best_15 : decode cX8_best 15 = .ok (.ireturn, 1) := by decide +kernel
theorem dX8_best_16 : decode cX8_best 16 = .ok (.aload_n 0, 1) := by decide +kernel
theorem dX8_best_17 : decode cX8_best 17 = .ok (.getfield 13, 3) := by decide +kernel
theorem dX8_best_20 : decode cX8_best 20 = .ok (.iconst 0, 1) := by decide +kernel
theorem dX8_best_21 : decode cX8_best 21 = .ok (.iaload, 1) := by decide +kernel
theorem dX8_best_22 : decode cX8_best 22 = .ok (.ifCond .ne 10, 3) := by decide +kernel
theorem dX8_best_25 : decode cX8_best 25 = .ok (.aload_n 0, 1) := by decide +kernel
theorem dX8_best_26 : decode cX8_best 26 = .ok (.bipush (-3), 2) := by decide +kernel
theorem dX8_best_28 : decode cX8_best 28 = .ok (.invokevirtual 71, 3) := by decide +kernel
theorem dX8_best_31 : decode cX8_best 31 = .ok (.ireturn, 1) := by decide +kernel
theorem dX8_best_32 : decode cX8_best 32 = .ok (.aload_n 0, 1) := by decide +kernel
theorem dX8_best_33 : decode cX8_best 33 = .ok (.invokevirtual 181, 3) := by decide +kernel
theorem dX8_best_36 : decode cX8_best 36 = .ok (.iload_n 1, 1) := by decide +kernel
theorem dX8_best_37 : decode cX8_best 37 = .ok (.ifCond .ne 10, 3) := by decide +kernel
theorem dX8_best_40 : decode cX8_best 40 = .ok (.aload_n 0, 1) := by decide +kernel
theorem dX8_best_41 : decode cX8_best 41 = .ok (.getfield 157, 3) := by decide +kernel
theorem dX8_best_44 : decode cX8_best 44 = .ok (.goto 7, 3) := by decide +kernel
theorem dX8_best_47 : decode cX8_best 47 = .ok (.aload_n 0, 1) := by decide +kernel
theorem dX8_best_48 : decode cX8_best 48 = .ok (.getfield 160, 3) := by decide +kernel
theorem dX8_best_51 : decode cX8_best 51 = .ok (.ireturn, 1) := by decide +kernel
theorem dX8_bestSeat_0 : decode cX8_bestSeat 0 = .ok (.iload_n 1, 1) := by decide +kernel
theorem dX8_bestSeat_1 : decode cX8_bestSeat 1 = .ok (.ifCond .ge 10, 3) := by decide +kernel
theorem dX8_bestSeat_4 : decode cX8_bestSeat 4 = .ok (.aload_n 0, 1) := by decide +kernel
theorem dX8_bestSeat_5 : decode cX8_bestSeat 5 = .ok (.bipush (-4), 2) := by decide +kernel
theorem dX8_bestSeat_7 : decode cX8_bestSeat 7 = .ok (.invokevirtual 71, 3) := by decide +kernel
theorem dX8_bestSeat_10 : decode cX8_bestSeat 10 = .ok (.ireturn, 1) := by decide +kernel
theorem dX8_bestSeat_11 : decode cX8_bestSeat 11 = .ok (.aload_n 0, 1) := by decide +kernel
theorem dX8_bestSeat_12 : decode cX8_bestSeat 12 = .ok (.invokevirtual 181, 3) := by decide +kernel
theorem dX8_bestSeat_15 : decode cX8_bestSeat 15 = .ok (.iload_n 1, 1) := by decide +kernel
theorem dX8_bestSeat_16 : decode cX8_bestSeat 16 = .ok (.aload_n 0, 1) := by decide +kernel
theorem dX8_bestSeat_17 : decode cX8_bestSeat 17 = .ok (.getfield 13, 3) := by decide +kernel
theorem dX8_bestSeat_20 : decode cX8_bestSeat 20 = .ok (.iconst 0, 1) := by decide +kernel
theorem dX8_bestSeat_21 : decode cX8_bestSeat 21 = .ok (.iaload, 1) := by decide +kernel
theorem dX8_bestSeat_22 : decode cX8_bestSeat 22 = .ok (.if_icmp .ge 12, 3) := by decide +kernel
theorem dX8_bestSeat_25 : decode cX8_bestSeat 25 = .ok (.aload_n 0, 1) := by decide +kernel
theorem dX8_bestSeat_26 : decode cX8_bestSeat 26 = .ok (.getfield 48, 3) := by decide +kernel
theorem dX8_bestSeat_29 : decode cX8_bestSeat 29 = .ok (.iload_n 1, 1) := by decide +kernel
theorem dX8_bestSeat_30 : decode cX8_bestSeat 30 = .ok (.iaload, 1) := by decide +kernel
theorem dX8_bestSeat_31 : decode cX8_bestSeat 31 = .ok (.goto 5, 3) := by decide +kernel
theorem dX8_bestSeat_34 : decode cX8_bestSeat 34 = .ok (.bipush (-9), 2) := by decide +kernel
theorem dX8_bestSeat_36 : decode cX8_bestSeat 36 = .ok (.ireturn, 1) := by decide +kernel
theorem dX8_sumLeast_0 : decode cX8_sumLeast 0 = .ok (.aload_n 0, 1) := by decide +kernel
theorem dX8_sumLeast_1 : decode cX8_sumLeast 1 = .ok (.getfield 13, 3) := by decide +kernel
theorem dX8_sumLeast_4 : decode cX8_sumLeast 4 = .ok (.iconst 0, 1) := by decide +kernel
theorem dX8_sumLeast_5 : decode cX8_sumLeast 5 = .ok (.iaload, 1) := by decide +kernel
theorem dX8_sumLeast_6 : decode cX8_sumLeast 6 = .ok (.ifCond .ne 10, 3) := by decide +kernel
theorem dX8_sumLeast_9 : decode cX8_sumLeast 9 = .ok (.aload_n 0, 1) := by decide +kernel
theorem dX8_sumLeast_10 : decode cX8_sumLeast 10 = .ok (.bipush (-3), 2) := by decide +kernel
theorem dX8_sumLeast_12 : decode cX8_sumLeast 12 = .ok (.invokevirtual 71, 3) := by decide +kernel
theorem dX8_sumLeast_15 : decode cX8_sumLeast 15 = .ok (.ireturn, 1) := by decide +kernel
theorem dX8_sumLeast_16 : decode cX8_sumLeast 16 = .ok (.aload_n 0, 1) := by decide +kernel
theorem dX8_sumLeast_17 : decode cX8_sumLeast 17 = .ok (.invokevirtual 181, 3) := by decide +kernel
theorem dX8_sumLeast_20 : decode cX8_sumLeast 20 = .ok (.aload_n 0, 1) := by decide +kernel
theorem dX8_sumLeast_21 : decode cX8_sumLeast 21 = .ok (.getfield 166, 3) := by decide +kernel
theorem dX8_sumLeast_24 : decode cX8_sumLeast 24 = .ok (.ireturn, 1) := by decide +kernel
theorem dX8_isAtRest_0 : decode cX8_isAtRest 0 = .ok (.iconst 0, 1) := by decide +kernel
theorem dX8_isAtRest_1 : decode cX8_isAtRest 1 = .ok (.istore_n 1, 1) := by decide +kernel
theorem dX8_isAtRest_2 : decode cX8_isAtRest 2 = .ok (.iload_n 1, 1) := by decide +kernel
theorem dX8_isAtRest_3 : decode cX8_isAtRest 3 = .ok (.aload_n 0, 1) := by decide +kernel
theorem dX8_isAtRest_4 : decode cX8_isAtRest 4 = .ok (.getfield 13, 3) := by decide +kernel
theorem dX8_isAtRest_7 : decode cX8_isAtRest 7 = .ok (.iconst 0, 1) := by decide +kernel
theorem dX8_isAtRest_8 : decode cX8_isAtRest 8 = .ok (.iaload, 1) := by decide +kernel
theorem dX8_isAtRest_9 : decode cX8_isAtRest 9 = .ok (.if_icmp .ge 101, 3) := by decide +kernel
theorem dX8_isAtRest_12 : decode cX8_isAtRest 12 = .ok (.aload_n 0, 1) := by decide +kernel
theorem dX8_isAtRest_13 : decode cX8_isAtRest 13 = .ok (.getfield 13, 3) := by decide +kernel
theorem dX8_isAtRest_16 : decode cX8_isAtRest 16 = .ok (.bipush 60, 2) := by decide +kernel
theorem dX8_isAtRest_18 : decode cX8_isAtRest 18 = .ok (.iload_n 1, 1) := by decide +kernel
theorem dX8_isAtRest_19 : decode cX8_isAtRest 19 = .ok (.iadd, 1) := by decide +kernel
theorem dX8_isAtRest_20 : decode cX8_isAtRest 20 = .ok (.iaload, 1) := by decide +kernel
theorem dX8_isAtRest_21 : decode cX8_isAtRest 21 = .ok (.istore_n 2, 1) := by decide +kernel
theorem dX8_isAtRest_22 : decode cX8_isAtRest 22 = .ok (.aload_n 0, 1) := by decide +kernel
theorem dX8_isAtRest_23 : decode cX8_isAtRest 23 = .ok (.aload_n 0, 1) := by decide +kernel
theorem dX8_isAtRest_24 : decode cX8_isAtRest 24 = .ok (.getfield 13, 3) := by decide +kernel
theorem dX8_isAtRest_27 : decode cX8_isAtRest 27 = .ok (.iconst 3, 1) := by decide +kernel
theorem dX8_isAtRest_28 : decode cX8_isAtRest 28 = .ok (.iaload, 1) := by decide +kernel
theorem dX8_isAtRest_29 : decode cX8_isAtRest 29 = .ok (.iload_n 1, 1) := by decide +kernel
theorem dX8_isAtRest_30 : decode cX8_isAtRest 30 = .ok (.invokevirtual 126, 3) := by decide +kernel
theorem dX8_isAtRest_33 : decode cX8_isAtRest 33 = .ok (.istore_n 3, 1) := by decide +kernel
theorem dX8_isAtRest_34 : decode cX8_isAtRest 34 = .ok (.iconst 0, 1) := by decide +kernel
theorem dX8_isAtRest_35 : decode cX8_isAtRest 35 = .ok (.istore 4, 2) := by decide +kernel
theorem dX8_isAtRest_37 : decode cX8_isAtRest 37 = .ok (.iconst 0, 1) := by decide +kernel
theorem dX8_isAtRest_38 : decode cX8_isAtRest 38 = .ok (.istore 5, 2) := by decide +kernel
theorem dX8_isAtRest_40 : decode cX8_isAtRest 40 = .ok (.iload 5, 2) := by decide +kernel
theorem dX8_isAtRest_42 : decode cX8_isAtRest 42 = .ok (.aload_n 0, 1) := by decide +kernel
theorem dX8_isAtRest_43 : decode cX8_isAtRest 43 = .ok (.getfield 13, 3) := by decide +kernel
theorem dX8_isAtRest_46 : decode cX8_isAtRest 46 = .ok (.iconst 1, 1) := by decide +kernel
theorem dX8_isAtRest_47 : decode cX8_isAtRest 47 = .ok (.iaload, 1) := by decide +kernel
theorem dX8_isAtRest_48 : decode cX8_isAtRest 48 = .ok (.if_icmp .gt 43, 3) := by decide +kernel
theorem dX8_isAtRest_51 : decode cX8_isAtRest 51 = .ok (.iload 4, 2) := by decide +kernel
theorem dX8_isAtRest_53 : decode cX8_isAtRest 53 = .ok (.ifCond .ne 38, 3) := by decide +kernel
theorem dX8_isAtRest_56 : decode cX8_isAtRest 56 = .ok (.aload_n 0, 1) := by decide +kernel
theorem dX8_isAtRest_57 : decode cX8_isAtRest 57 = .ok (.iload_n 1, 1) := by decide +kernel
theorem dX8_isAtRest_58 : decode cX8_isAtRest 58 = .ok (.iload 5, 2) := by decide +kernel
theorem dX8_isAtRest_60 : decode cX8_isAtRest 60 = .ok (.invokevirtual 132, 3) := by decide +kernel
theorem dX8_isAtRest_63 : decode cX8_isAtRest 63 = .ok (.aload_n 0, 1) := by decide +kernel
theorem dX8_isAtRest_64 : decode cX8_isAtRest 64 = .ok (.aload_n 0, 1) := by decide +kernel
theorem dX8_isAtRest_65 : decode cX8_isAtRest 65 = .ok (.getfield 13, 3) := by decide +kernel
theorem dX8_isAtRest_68 : decode cX8_isAtRest 68 = .ok (.iconst 3, 1) := by decide +kernel
theorem dX8_isAtRest_69 : decode cX8_isAtRest 69 = .ok (.iaload, 1) := by decide +kernel
theorem dX8_isAtRest_70 : decode cX8_isAtRest 70 = .ok (.iload_n 1, 1) := by decide +kernel
theorem dX8_isAtRest_71 : decode cX8_isAtRest 71 = .ok (.invokevirtual 126, 3) := by decide +kernel
theorem dX8_isAtRest_74 : decode cX8_isAtRest 74 = .ok (.iload_n 3, 1) := by decide +kernel
theorem dX8_isAtRest_75 : decode cX8_isAtRest 75 = .ok (.if_icmp .le 7, 3) := by decide +kernel
theorem dX8_isAtRest_78 : decode cX8_isAtRest 78 = .ok (.iconst 1, 1) := by decide +kernel
theorem dX8_isAtRest_79 : decode cX8_isAtRest 79 = .ok (.goto 4, 3) := by decide +kernel
theorem dX8_isAtRest_82 : decode cX8_isAtRest 82 = .ok (.iconst 0, 1) := by decide +kernel
theorem dX8_isAtRest_83 : decode cX8_isAtRest 83 = .ok (.istore 4, 2) := by decide +kernel
theorem dX8_isAtRest_85 : decode cX8_isAtRest 85 = .ok (.iinc 5 1, 3) := by decide +kernel
theorem dX8_isAtRest_88 : decode cX8_isAtRest 88 = .ok (.goto (-48), 3) := by decide +kernel
theorem dX8_isAtRest_91 : decode cX8_isAtRest 91 = .ok (.aload_n 0, 1) := by decide +kernel
theorem dX8_isAtRest_92 : decode cX8_isAtRest 92 = .ok (.iload_n 1, 1) := by decide +kernel
theorem dX8_isAtRest_93 : decode cX8_isAtRest 93 = .ok (.iload_n 2, 1) := by decide +kernel
theorem dX8_isAtRest_94 : decode cX8_isAtRest 94 = .ok (.invokevirtual 132, 3) := by decide +kernel
theorem dX8_isAtRest_97 : decode cX8_isAtRest 97 = .ok (.iload 4, 2) := by decide +kernel
theorem dX8_isAtRest_99 : decode cX8_isAtRest 99 = .ok (.ifCond .eq 5, 3) := by decide +kernel
