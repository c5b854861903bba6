theorem dX8_isAtRest_102 : decode cX8_isAtRest 102 = .ok (.iconst 0, 1) := by decide +kernel
theorem dX8_isAtRest_103 : decode cX8_isAtRest 103 = .ok (.ireturn, 1) := by decide +kernel
theorem dX8_isAtRest_104 : decode cX8_isAtRest 104 = .ok (.iinc 1 1, 3) := by decide +kernel
theorem dX8_isAtRest_107 : decode cX8_isAtRest 107 = .ok (.goto (-105), 3) := by decide +kernel
theorem dX8_isAtRest_110 : decode cX8_isAtRest 110 = .ok (.iconst 1, 1) := by decide +kernel
theorem dX8_isAtRest_111 : decode cX8_isAtRest 111 = .ok (.ireturn, 1) := by decide +kernel
theorem dX8_allWays_0 : decode cX8_allWays 0 = .ok (.aload_n 0, 1) := by decide +kernel
theorem dX8_allWays_1 : decode cX8_allWays 1 = .ok (.getfield 13, 3) := by decide +kernel
theorem dX8_allWays_4 : decode cX8_allWays 4 = .ok (.iconst 0, 1) := by decide +kernel
theorem dX8_allWays_5 : decode cX8_allWays 5 = .ok (.iaload, 1) := by decide +kernel
theorem dX8_allWays_6 : decode cX8_allWays 6 = .ok (.istore_n 3, 1) := by decide +kernel
theorem dX8_allWays_7 : decode cX8_allWays 7 = .ok (.aload_n 0, 1) := by decide +kernel
theorem dX8_allWays_8 : decode cX8_allWays 8 = .ok (.iconst 0, 1) := by decide +kernel
theorem dX8_allWays_9 : decode cX8_allWays 9 = .ok (.putfield 184, 3) := by decide +kernel
theorem dX8_allWays_12 : decode cX8_allWays 12 = .ok (.aload_n 0, 1) := by decide +kernel
theorem dX8_allWays_13 : decode cX8_allWays 13 = .ok (.iconst (-1), 1) := by decide +kernel
theorem dX8_allWays_14 : decode cX8_allWays 14 = .ok (.putfield 187, 3) := by decide +kernel
theorem dX8_allWays_17 : decode cX8_allWays 17 = .ok (.aload_n 0, 1) := by decide +kernel
theorem dX8_allWays_18 : decode cX8_allWays 18 = .ok (.getfield 13, 3) := by decide +kernel
theorem dX8_allWays_21 : decode cX8_allWays 21 = .ok (.aload_n 0, 1) := by decide +kernel
theorem dX8_allWays_22 : decode cX8_allWays 22 = .ok (.getfield 19, 3) := by decide +kernel
theorem dX8_allWays_25 : decode cX8_allWays 25 = .ok (.invokestatic 67, 3) := by decide +kernel
theorem dX8_allWays_28 : decode cX8_allWays 28 = .ok (.iconst 0, 1) := by decide +kernel
theorem dX8_allWays_29 : decode cX8_allWays 29 = .ok (.istore 4, 2) := by decide +kernel
theorem dX8_allWays_31 : decode cX8_allWays 31 = .ok (.iload 4, 2) := by decide +kernel
theorem dX8_allWays_33 : decode cX8_allWays 33 = .ok (.iload_n 3, 1) := by decide +kernel
theorem dX8_allWays_34 : decode cX8_allWays 34 = .ok (.if_icmp .ge 21, 3) := by decide +kernel
theorem dX8_allWays_37 : decode cX8_allWays 37 = .ok (.aload_n 0, 1) := by decide +kernel
theorem dX8_allWays_38 : decode cX8_allWays 38 = .ok (.iload 4, 2) := by decide +kernel
theorem dX8_allWays_40 : decode cX8_allWays 40 = .ok (.aload_n 0, 1) := by decide +kernel
theorem dX8_allWays_41 : decode cX8_allWays 41 = .ok (.getfield 13, 3) := by decide +kernel
theorem dX8_allWays_44 : decode cX8_allWays 44 = .ok (.iconst 1, 1) := by decide +kernel
theorem dX8_allWays_45 : decode cX8_allWays 45 = .ok (.iaload, 1) := by decide +kernel
theorem dX8_allWays_46 : decode cX8_allWays 46 = .ok (.invokevirtual 132, 3) := by decide +kernel
theorem dX8_allWays_49 : decode cX8_allWays 49 = .ok (.iinc 4 1, 3) := by decide +kernel
theorem dX8_allWays_52 : decode cX8_allWays 52 = .ok (.goto (-21), 3) := by decide +kernel
theorem dX8_allWays_55 : decode cX8_allWays 55 = .ok (.iconst 1, 1) := by decide +kernel
theorem dX8_allWays_56 : decode cX8_allWays 56 = .ok (.istore 4, 2) := by decide +kernel
theorem dX8_allWays_58 : decode cX8_allWays 58 = .ok (.iload 4, 2) := by decide +kernel
theorem dX8_allWays_60 : decode cX8_allWays 60 = .ok (.ifCond .eq 221, 3) := by decide +kernel
theorem dX8_allWays_63 : decode cX8_allWays 63 = .ok (.aload_n 0, 1) := by decide +kernel
theorem dX8_allWays_64 : decode cX8_allWays 64 = .ok (.iload_n 1, 1) := by decide +kernel
theorem dX8_allWays_65 : decode cX8_allWays 65 = .ok (.invokevirtual 147, 3) := by decide +kernel
theorem dX8_allWays_68 : decode cX8_allWays 68 = .ok (.istore 5, 2) := by decide +kernel
theorem dX8_allWays_70 : decode cX8_allWays 70 = .ok (.aload_n 0, 1) := by decide +kernel
theorem dX8_allWays_71 : decode cX8_allWays 71 = .ok (.aload_n 0, 1) := by decide +kernel
theorem dX8_allWays_72 : decode cX8_allWays 72 = .ok (.getfield 187, 3) := by decide +kernel
theorem dX8_allWays_75 : decode cX8_allWays 75 = .ok (.iload 5, 2) := by decide +kernel
theorem dX8_allWays_77 : decode cX8_allWays 77 = .ok (.invokestatic 190, 3) := by decide +kernel
theorem dX8_allWays_80 : decode cX8_allWays 80 = .ok (.putfield 187, 3) := by decide +kernel
theorem dX8_allWays_83 : decode cX8_allWays 83 = .ok (.iload_n 2, 1) := by decide +kernel
theorem dX8_allWays_84 : decode cX8_allWays 84 = .ok (.ifCond .eq 118, 3) := by decide +kernel
theorem dX8_allWays_87 : decode cX8_allWays 87 = .ok (.aload_n 0, 1) := by decide +kernel
theorem dX8_allWays_88 : decode cX8_allWays 88 = .ok (.invokevirtual 195, 3) := by decide +kernel
theorem dX8_allWays_91 : decode cX8_allWays 91 = .ok (.ifCond .eq 111, 3) := by decide +kernel
theorem dX8_allWays_94 : decode cX8_allWays 94 = .ok (.aload_n 0, 1) := by decide +kernel
theorem dX8_allWays_95 : decode cX8_allWays 95 = .ok (.aload_n 0, 1) := by decide +kernel
theorem dX8_allWays_96 : decode cX8_allWays 96 = .ok (.getfield 184, 3) := by decide +kernel
theorem dX8_allWays_99 : decode cX8_allWays 99 = .ok (.ifCond .eq 12, 3) := by decide +kernel
theorem dX8_allWays_102 : decode cX8_allWays 102 = .ok (.iload 5, 2) := by decide +kernel
theorem dX8_allWays_104 : decode cX8_allWays 104 = .ok (.aload_n 0, 1) := by decide +kernel
theorem dX8_allWays_105 : decode cX8_allWays 105 = .ok (.getfield 198, 3) := by decide +kernel
theorem dX8_allWays_108 : decode cX8_allWays 108 = .ok (.if_icmp .le 8, 3) := by decide +kernel
theorem dX8_allWays_111 : decode cX8_allWays 111 = .ok (.iload 5, 2) := by decide +kernel
theorem dX8_allWays_113 : decode cX8_allWays 113 = .ok (.goto 7, 3) := by decide +kernel
theorem dX8_allWays_116 : decode cX8_allWays 116 = .ok (.aload_n 0, 1) := by decide +kernel
theorem dX8_allWays_117 : decode cX8_allWays 117 = .ok (.getfield 198, 3) := by decide +kernel
theorem dX8_allWays_120 : decode cX8_allWays 120 = .ok (.putfield 198, 3) := by decide +kernel
theorem dX8_allWays_123 : decode cX8_allWays 123 = .ok (.aload_n 0, 1) := by decide +kernel
theorem dX8_allWays_124 : decode cX8_allWays 124 = .ok (.aload_n 0, 1) := by decide +kernel
theorem dX8_allWays_125 : decode cX8_allWays 125 = .ok (.getfield 184, 3) := by decide +kernel
theorem dX8_allWays_128 : decode cX8_allWays 128 = .ok (.ifCond .ne 8, 3) := by decide +kernel
theorem dX8_allWays_131 : decode cX8_allWays 131 = .ok (.iload 5, 2) := by decide +kernel
theorem dX8_allWays_133 : decode cX8_allWays 133 = .ok (.goto 7, 3) := by decide +kernel
theorem dX8_allWays_136 : decode cX8_allWays 136 = .ok (.aload_n 0, 1) := by decide +kernel
theorem dX8_allWays_137 : decode cX8_allWays 137 = .ok (.getfield 201, 3) := by decide +kernel
theorem dX8_allWays_140 : decode cX8_allWays 140 = .ok (.putfield 201, 3) := by decide +kernel
theorem dX8_allWays_143 : decode cX8_allWays 143 = .ok (.iconst 0, 1) := by decide +kernel
theorem dX8_allWays_144 : decode cX8_allWays 144 = .ok (.istore 6, 2) := by decide +kernel
theorem dX8_allWays_146 : decode cX8_allWays 146 = .ok (.iload 6, 2) := by decide +kernel
theorem dX8_allWays_148 : decode cX8_allWays 148 = .ok (.iload_n 3, 1) := by decide +kernel
theorem dX8_allWays_149 : decode cX8_allWays 149 = .ok (.if_icmp .ge 43, 3) := by decide +kernel
theorem dX8_allWays_152 : decode cX8_allWays 152 = .ok (.aload_n 0, 1) := by decide +kernel
theorem dX8_allWays_153 : decode cX8_allWays 153 = .ok (.getfield 54, 3) := by decide +kernel
theorem dX8_allWays_156 : decode cX8_allWays 156 = .ok (.iload 6, 2) := by decide +kernel
theorem dX8_allWays_158 : decode cX8_allWays 158 = .ok (.aload_n 0, 1) := by decide +kernel
theorem dX8_allWays_159 : decode cX8_allWays 159 = .ok (.getfield 184, 3) := by decide +kernel
theorem dX8_allWays_162 : decode cX8_allWays 162 = .ok (.ifCond .ne 16, 3) := by decide +kernel
theorem dX8_allWays_165 : decode cX8_allWays 165 = .ok (.aload_n 0, 1) := by decide +kernel
theorem dX8_allWays_166 : decode cX8_allWays 166 = .ok (.getfield 13, 3) := by decide +kernel
theorem dX8_allWays_169 : decode cX8_allWays 169 = .ok (.bipush 50, 2) := by decide +kernel
theorem dX8_allWays_171 : decode cX8_allWays 171 = .ok (.iload 6, 2) := by decide +kernel
theorem dX8_allWays_173 : decode cX8_allWays 173 = .ok (.iadd, 1) := by decide +kernel
theorem dX8_allWays_174 : decode cX8_allWays 174 = .ok (.iaload, 1) := by decide +kernel
theorem dX8_allWays_175 : decode cX8_allWays 175 = .ok (.goto 10, 3) := by decide +kernel
theorem dX8_allWays_178 : decode cX8_allWays 178 = .ok (.aload_n 0, 1) := by decide +kernel
theorem dX8_allWays_179 : decode cX8_allWays 179 = .ok (.getfield 54, 3) := by decide +kernel
theorem dX8_allWays_182 : decode cX8_allWays 182 = .ok (.iload 6, 2) := by decide +kernel
theorem dX8_allWays_184 : decode cX8_allWays 184 = .ok (.iaload, 1) := by decide +kernel
theorem dX8_allWays_185 : decode cX8_allWays 185 = .ok (.iastore, 1) := by decide +kernel
theorem dX8_allWays_186 : decode cX8_allWays 186 = .ok (.iinc 6 1, 3) := by decide +kernel
theorem dX8_allWays_189 : decode cX8_allWays 189 = .ok (.goto (-43), 3) := by decide +kernel
theorem dX8_allWays_192 : decode cX8_allWays 192 = .ok (.aload_n 0, 1) := by decide +kernel
theorem dX8_allWays_193 : decode cX8_allWays 193 = .ok (.dup, 1) := by decide +kernel
theorem dX8_allWays_194 : decode cX8_allWays 194 = .ok (.getfield 184, 3) := by decide +kernel
theorem dX8_allWays_197 : decode cX8_allWays 197 = .ok (.iconst 1, 1) := by decide +kernel
theorem dX8_allWays_198 : decode cX8_allWays 198 = .ok (.iadd, 1) := by decide +kernel
theorem dX8_allWays_199 : decode cX8_allWays 199 = .ok (.putfield 184, 3) := by decide +kernel
theorem dX8_allWays_202 : decode cX8_allWays 202 = .ok (.iconst 0, 1) := by decide +kernel
theorem dX8_allWays_203 : decode cX8_allWays 203 = .ok (.istore 4, 2) := by decide +kernel
theorem dX8_allWays_205 : decode cX8_allWays 205 = .ok (.iload_n 3, 1) := by decide +kernel
theorem dX8_allWays_206 : decode cX8_allWays 206 = .ok (.iconst 1, 1) := by decide +kernel
theorem dX8_allWays_207 : decode cX8_allWays 207 = .ok (.isub, 1) := by decide +kernel
theorem dX8_allWays_208 : decode cX8_allWays 208 = .ok (.istore 6, 2) := by decide +kernel
theorem dX8_allWays_210 : decode cX8_allWays 210 = .ok (.iload 6, 2) := by decide +kernel
theorem dX8_allWays_212 : decode cX8_allWays 212 = .ok (.ifCond .lt 66, 3) := by decide +kernel
theorem dX8_allWays_215 : decode cX8_allWays 215 = .ok (.iload 4, 2) := by decide +kernel
theorem dX8_allWays_217 : decode cX8_allWays 217 = .ok (.ifCond .ne 61, 3) := by decide +kernel
theorem dX8_allWays_220 : decode cX8_allWays 220 = .ok (.aload_n 0, 1) := by decide +kernel
theorem dX8_allWays_221 : decode cX8_allWays 221 = .ok (.getfield 13, 3) := by decide +kernel
theorem dX8_allWays_224 : decode cX8_allWays 224 = .ok (.bipush 60, 2) := by decide +kernel
theorem dX8_allWays_226 : decode cX8_allWays 226 = .ok (.iload 6, 2) := by decide +kernel
theorem dX8_allWays_228 : decode cX8_allWays 228 = .ok (.iadd, 1) := by decide +kernel
theorem dX8_allWays_229 : decode cX8_allWays 229 = .ok (.iaload, 1) := by decide +kernel
theorem dX8_allWays_230 : decode cX8_allWays 230 = .ok (.ifCond .le 7, 3) := by decide +kernel
theorem dX8_allWays_233 : decode cX8_allWays 233 = .ok (.iconst 1, 1) := by decide +kernel
theorem dX8_allWays_234 : decode cX8_allWays 234 = .ok (.goto 4, 3) := by decide +kernel
theorem dX8_allWays_237 : decode cX8_allWays 237 = .ok (.iconst 0, 1) := by decide +kernel
theorem dX8_allWays_238 : decode cX8_allWays 238 = .ok (.istore 4, 2) := by decide +kernel
theorem dX8_allWays_240 : decode cX8_allWays 240 = .ok (.aload_n 0, 1) := by decide +kernel
theorem dX8_allWays_241 : decode cX8_allWays 241 = .ok (.iload 6, 2) := by decide +kernel
theorem dX8_allWays_243 : decode cX8_allWays 243 = .ok (.iload 4, 2) := by decide +kernel
theorem dX8_allWays_245 : decode cX8_allWays 245 = .ok (.ifCond .eq 18, 3) := by decide +kernel
theorem dX8_allWays_248 : decode cX8_allWays 248 = .ok (.aload_n 0, 1) := by decide +kernel
theorem dX8_allWays_249 : decode cX8_allWays 249 = .ok (.getfield 13, 3) := by decide +kernel
theorem dX8_allWays_252 : decode cX8_allWays 252 = .ok (.bipush 60, 2) := by decide +kernel
theorem dX8_allWays_254 : decode cX8_allWays 254 = .ok (.iload 6, 2) := by decide +kernel
theorem dX8_allWays_256 : decode cX8_allWays 256 = .ok (.iadd, 1) := by decide +kernel
theorem dX8_allWays_257 : decode cX8_allWays 257 = .ok (.iaload, 1) := by decide +kernel
theorem dX8_allWays_258 : decode cX8_allWays 258 = .ok (.iconst 1, 1) := by decide +kernel
theorem dX8_allWays_259 : decode cX8_allWays 259 = .ok (.isub, 1) := by decide +kernel
theorem dX8_allWays_260 : decode cX8_allWays 260 = .ok (.goto 9, 3) := by decide +kernel
theorem dX8_allWays_263 : decode cX8_allWays 263 = .ok (.aload_n 0, 1) := by decide +kernel
theorem dX8_allWays_264 : decode cX8_allWays 264 = .ok (.getfield 13, 3) := by decide +kernel
theorem dX8_allWays_267 : decode cX8_allWays 267 = .ok (.iconst 1, 1) := by decide +kernel
theorem dX8_allWays_268 : decode cX8_allWays 268 = .ok (.iaload, 1) := by decide +kernel
theorem dX8_allWays_269 : decode cX8_allWays 269 = .ok (.invokevirtual 132, 3) := by decide +kernel
theorem dX8_allWays_272 : decode cX8_allWays 272 = .ok (.iinc 6 (-1), 3) := by decide +kernel
theorem dX8_allWays_275 : decode cX8_allWays 275 = .ok (.goto (-65), 3) := by decide +kernel
theorem dX8_allWays_278 : decode cX8_allWays 278 = .ok (.goto (-220), 3) := by decide +kernel
theorem dX8_allWays_281 : decode cX8_allWays 281 = .ok (.aload_n 0, 1) := by decide +kernel
theorem dX8_allWays_282 : decode cX8_allWays 282 = .ok (.getfield 19, 3) := by decide +kernel
theorem dX8_allWays_285 : decode cX8_allWays 285 = .ok (.aload_n 0, 1) := by decide +kernel
theorem dX8_allWays_286 : decode cX8_allWays 286 = .ok (.getfield 13, 3) := by decide +kernel
theorem dX8_allWays_289 : decode cX8_allWays 289 = .ok (.invokestatic 67, 3) := by decide +kernel
theorem dX8_allWays_292 : decode cX8_allWays 292 = .ok (.return_, 1) := by decide +kernel
theorem dX8_rests_0 : decode cX8_rests 0 = .ok (.iload_n 1, 1) := by decide +kernel
theorem dX8_rests_1 : decode cX8_rests 1 = .ok (.ifCond .lt 8, 3) := by decide +kernel
theorem dX8_rests_4 : decode cX8_rests 4 = .ok (.iload_n 1, 1) := by decide +kernel
theorem dX8_rests_5 : decode cX8_rests 5 = .ok (.iconst 1, 1) := by decide +kernel
theorem dX8_rests_6 : decode cX8_rests 6 = .ok (.if_icmp .le 10, 3) := by decide +kernel
theorem dX8_rests_9 : decode cX8_rests 9 = .ok (.aload_n 0, 1) := by decide +kernel
theorem dX8_rests_10 : decode cX8_rests 10 = .ok (.bipush (-2), 2) := by decide +kernel
theorem dX8_rests_12 : decode cX8_rests 12 = .ok (.invokevirtual 71, 3) := by decide +kernel
theorem dX8_rests_15 : decode cX8_rests 15 = .ok (.ireturn, 1) := by decide +kernel
theorem dX8_rests_16 : decode cX8_rests 16 = .ok (.aload_n 0, 1) := by decide +kernel
theorem dX8_rests_17 : decode cX8_rests 17 = .ok (.aload_n 0, 1) := by decide +kernel
theorem dX8_rests_18 : decode cX8_rests 18 = .ok (.getfield 13, 3) := by decide +kernel
theorem dX8_rests_21 : decode cX8_rests 21 = .ok (.iconst 3, 1) := by decide +kernel
theorem dX8_rests_22 : decode cX8_rests 22 = .ok (.iaload, 1) := by decide +kernel
theorem dX8_rests_23 : decode cX8_rests 23 = .ok (.iconst 1, 1) := by decide +kernel
theorem dX8_rests_24 : decode cX8_rests 24 = .ok (.invokevirtual 204, 3) := by decide +kernel
theorem dX8_rests_27 : decode cX8_rests 27 = .ok (.iload_n 1, 1) := by decide +kernel
theorem dX8_rests_28 : decode cX8_rests 28 = .ok (.ifCond .ne 10, 3) := by decide +kernel
theorem dX8_rests_31 : decode cX8_rests 31 = .ok (.aload_n 0, 1) := by decide +kernel
theorem dX8_rests_32 : decode cX8_rests 32 = .ok (.getfield 184, 3) := by decide +kernel
theorem dX8_rests_35 : decode cX8_rests 35 = .ok (.goto 19, 3) := by decide +kernel
theorem dX8_rests_38 : decode cX8_rests 38 = .ok (.aload_n 0, 1) := by decide +kernel
theorem dX8_rests_39 : decode cX8_rests 39 = .ok (.getfield 184, 3) := by decide +kernel
theorem dX8_rests_42 : decode cX8_rests 42 = .ok (.ifCond .ne 8, 3) := by decide +kernel
theorem dX8_rests_45 : decode cX8_rests 45 = .ok (.bipush (-9), 2) := by decide +kernel
theorem dX8_rests_47 : decode cX8_rests 47 = .ok (.goto 7, 3) := by decide +kernel
theorem dX8_rests_50 : decode cX8_rests 50 = .ok (.aload_n 0, 1) := by decide +kernel
theorem dX8_rests_51 : decode cX8_rests 51 = .ok (.getfield 201, 3) := by decide +kernel
theorem dX8_rests_54 : decode cX8_rests 54 = .ok (.ireturn, 1) := by decide +kernel
theorem dX8_rest_0 : decode cX8_rest 0 = .ok (.aload_n 0, 1) := by decide +kernel
theorem dX8_rest_1 : decode cX8_rest 1 = .ok (.iload_n 1, 1) := by decide +kernel
theorem dX8_rest_2 : decode cX8_rest 2 = .ok (.invokevirtual 129, 3) := by decide +kernel
theorem dX8_rest_5 : decode cX8_rest 5 = .ok (.ifCond .eq 9, 3) := by decide +kernel
theorem dX8_rest_8 : decode cX8_rest 8 = .ok (.aload_n 0, 1) := by decide +kernel
theorem dX8_rest_9 : decode cX8_rest 9 = .ok (.iconst (-1), 1) := by decide +kernel
theorem dX8_rest_10 : decode cX8_rest 10 = .ok (.invokevirtual 71, 3) := by decide +kernel
theorem dX8_rest_13 : decode cX8_rest 13 = .ok (.ireturn, 1) := by decide +kernel
theorem dX8_rest_14 : decode cX8_rest 14 = .ok (.aload_n 0, 1) := by decide +kernel
theorem dX8_rest_15 : decode cX8_rest 15 = .ok (.aload_n 0, 1) := by decide +kernel
theorem dX8_rest_16 : decode cX8_rest 16 = .ok (.getfield 13, 3) := by decide +kernel
theorem dX8_rest_19 : decode cX8_rest 19 = .ok (.iconst 3, 1) := by decide +kernel
theorem dX8_rest_20 : decode cX8_rest 20 = .ok (.iaload, 1) := by decide +kernel
theorem dX8_rest_21 : decode cX8_rest 21 = .ok (.iconst 1, 1) := by decide +kernel
theorem dX8_rest_22 : decode cX8_rest 22 = .ok (.invokevirtual 204, 3) := by decide +kernel
theorem dX8_rest_25 : decode cX8_rest 25 = .ok (.aload_n 0, 1) := by decide +kernel
theorem dX8_rest_26 : decode cX8_rest 26 = .ok (.getfield 184, 3) := by decide +kernel
theorem dX8_rest_29 : decode cX8_rest 29 = .ok (.ifCond .ne 8, 3) := by decide +kernel
theorem dX8_rest_32 : decode cX8_rest 32 = .ok (.bipush (-9), 2) := by decide +kernel
theorem dX8_rest_34 : decode cX8_rest 34 = .ok (.goto 9, 3) := by decide +kernel
theorem dX8_rest_37 : decode cX8_rest 37 = .ok (.aload_n 0, 1) := by decide +kernel
theorem dX8_rest_38 : decode cX8_rest 38 = .ok (.getfield 54, 3) := by decide +kernel
theorem dX8_rest_41 : decode cX8_rest 41 = .ok (.iload_n 1, 1) := by decide +kernel
theorem dX8_rest_42 : decode cX8_rest 42 = .ok (.iaload, 1) := by decide +kernel
theorem dX8_rest_43 : decode cX8_rest 43 = .ok (.ireturn, 1) := by decide +kernel
theorem dX8_good_0 : decode cX8_good 0 = .ok (.aload_n 0, 1) := by decide +kernel
theorem dX8_good_1 : decode cX8_good 1 = .ok (.aload_n 0, 1) := by decide +kernel
theorem dX8_good_2 : decode cX8_good 2 = .ok (.getfield 13, 3) := by decide +kernel
theorem dX8_good_5 : decode cX8_good 5 = .ok (.iconst 3, 1) := by decide +kernel
theorem dX8_good_6 : decode cX8_good 6 = .ok (.iaload, 1) := by decide +kernel
theorem dX8_good_7 : decode cX8_good 7 = .ok (.iconst 0, 1) := by decide +kernel
theorem dX8_good_8 : decode cX8_good 8 = .ok (.invokevirtual 204, 3) := by decide +kernel
theorem dX8_good_11 : decode cX8_good 11 = .ok (.aload_n 0, 1) := by decide +kernel
theorem dX8_good_12 : decode cX8_good 12 = .ok (.getfield 187, 3) := by decide +kernel
theorem dX8_good_15 : decode cX8_good 15 = .ok (.ireturn, 1) := by decide +kernel
theorem dX8_far_0 : decode cX8_far 0 = .ok (.aload_n 0, 1) := by decide +kernel
theorem dX8_far_1 : decode cX8_far 1 = .ok (.aload_n 0, 1) := by decide +kernel
theorem dX8_far_2 : decode cX8_far 2 = .ok (.getfield 13, 3) := by decide +kernel
theorem dX8_far_5 : decode cX8_far 5 = .ok (.iconst 3, 1) := by decide +kernel
theorem dX8_far_6 : decode cX8_far 6 = .ok (.iaload, 1) := by decide +kernel
theorem dX8_far_7 : decode cX8_far 7 = .ok (.iconst 1, 1) := by decide +kernel
theorem dX8_far_8 : decode cX8_far 8 = .ok (.invokevirtual 204, 3) := by decide +kernel
theorem dX8_far_11 : decode cX8_far 11 = .ok (.aload_n 0, 1) := by decide +kernel
theorem dX8_far_12 : decode cX8_far 12 = .ok (.getfield 184, 3) := by decide +kernel
theorem dX8_far_15 : decode cX8_far 15 = .ok (.ifCond .ne 8, 3) := by decide +kernel
theorem dX8_far_18 : decode cX8_far 18 = .ok (.bipush (-9), 2) := by decide +kernel
theorem dX8_far_20 : decode cX8_far 20 = .ok (.goto 12, 3) := by decide +kernel
theorem dX8_far_23 : decode cX8_far 23 = .ok (.aload_n 0, 1) := by decide +kernel
theorem dX8_far_24 : decode cX8_far 24 = .ok (.getfield 187, 3) := by decide +kernel
theorem dX8_far_27 : decode cX8_far 27 = .ok (.aload_n 0, 1) := by decide +kernel
theorem dX8_far_28 : decode cX8_far 28 = .ok (.getfield 198, 3) := by decide +kernel
theorem dX8_far_31 : decode cX8_far 31 = .ok (.isub, 1) := by decide +kernel
theorem dX8_far_32 : decode cX8_far 32 = .ok (.ireturn, 1) := by decide +kernel
theorem dX8_byLaw_0 : decode cX8_byLaw 0 = .ok (.iload_n 1, 1) := by decide +kernel
theorem dX8_byLaw_1 : decode cX8_byLaw 1 = .ok (.ifCond .lt 9, 3) := by decide +kernel
theorem dX8_byLaw_4 : decode cX8_byLaw 4 = .ok (.iload_n 1, 1) := by decide +kernel
theorem dX8_byLaw_5 : decode cX8_byLaw 5 = .ok (.bipush 6, 2) := by decide +kernel
theorem dX8_byLaw_7 : decode cX8_byLaw 7 = .ok (.if_icmp .le 10, 3) := by decide +kernel
theorem dX8_byLaw_10 : decode cX8_byLaw 10 = .ok (.aload_n 0, 1) := by decide +kernel
theorem dX8_byLaw_11 : decode cX8_byLaw 11 = .ok (.bipush (-2), 2) := by decide +kernel
theorem dX8_byLaw_13 : decode cX8_byLaw 13 = .ok (.invokevirtual 71, 3) := by decide +kernel
theorem dX8_byLaw_16 : decode cX8_byLaw 16 = .ok (.ireturn, 1) := by decide +kernel
theorem dX8_byLaw_17 : decode cX8_byLaw 17 = .ok (.aload_n 0, 1) := by decide +kernel
theorem dX8_byLaw_18 : decode cX8_byLaw 18 = .ok (.iload_n 1, 1) := by decide +kernel
theorem dX8_byLaw_19 : decode cX8_byLaw 19 = .ok (.iconst 0, 1) := by decide +kernel
theorem dX8_byLaw_20 : decode cX8_byLaw 20 = .ok (.invokevirtual 204, 3) := by decide +kernel
theorem dX8_byLaw_23 : decode cX8_byLaw 23 = .ok (.aload_n 0, 1) := by decide +kernel
theorem dX8_byLaw_24 : decode cX8_byLaw 24 = .ok (.getfield 187, 3) := by decide +kernel
theorem dX8_byLaw_27 : decode cX8_byLaw 27 = .ok (.ireturn, 1) := by decide +kernel
theorem dX8_hour_0 : decode cX8_hour 0 = .ok (.aload_n 0, 1) := by decide +kernel
theorem dX8_hour_1 : decode cX8_hour 1 = .ok (.iload_n 1, 1) := by decide +kernel
theorem dX8_hour_2 : decode cX8_hour 2 = .ok (.invokevirtual 129, 3) := by decide +kernel
theorem dX8_hour_5 : decode cX8_hour 5 = .ok (.ifCond .eq 9, 3) := by decide +kernel
theorem dX8_hour_8 : decode cX8_hour 8 = .ok (.aload_n 0, 1) := by decide +kernel
theorem dX8_hour_9 : decode cX8_hour 9 = .ok (.iconst (-1), 1) := by decide +kernel
theorem dX8_hour_10 : decode cX8_hour 10 = .ok (.invokevirtual 71, 3) := by decide +kernel
theorem dX8_hour_13 : decode cX8_hour 13 = .ok (.ireturn, 1) := by decide +kernel
theorem dX8_hour_14 : decode cX8_hour 14 = .ok (.iload_n 2, 1) := by decide +kernel
theorem dX8_hour_15 : decode cX8_hour 15 = .ok (.ifCond .lt 8, 3) := by decide +kernel
theorem dX8_hour_18 : decode cX8_hour 18 = .ok (.iload_n 2, 1) := by decide +kernel
theorem dX8_hour_19 : decode cX8_hour 19 = .ok (.iconst 1, 1) := by decide +kernel
theorem dX8_hour_20 : decode cX8_hour 20 = .ok (.if_icmp .le 10, 3) := by decide +kernel
theorem dX8_hour_23 : decode cX8_hour 23 = .ok (.aload_n 0, 1) := by decide +kernel
theorem dX8_hour_24 : decode cX8_hour 24 = .ok (.bipush (-2), 2) := by decide +kernel
theorem dX8_hour_26 : decode cX8_hour 26 = .ok (.invokevirtual 71, 3) := by decide +kernel
theorem dX8_hour_29 : decode cX8_hour 29 = .ok (.ireturn, 1) := by decide +kernel
theorem dX8_hour_30 : decode cX8_hour 30 = .ok (.iconst 0, 1) := by decide +kernel
theorem dX8_hour_31 : decode cX8_hour 31 = .ok (.istore_n 3, 1) := by decide +kernel
theorem dX8_hour_32 : decode cX8_hour 32 = .ok (.iload_n 3, 1) := by decide +kernel
theorem dX8_hour_33 : decode cX8_hour 33 = .ok (.aload_n 0, 1) := by decide +kernel
theorem dX8_hour_34 : decode cX8_hour 34 = .ok (.getfield 13, 3) := by decide +kernel
theorem dX8_hour_37 : decode cX8_hour 37 = .ok (.iconst 0, 1) := by decide +kernel
theorem dX8_hour_38 : decode cX8_hour 38 = .ok (.iaload, 1) := by decide +kernel
theorem dX8_hour_39 : decode cX8_hour 39 = .ok (.if_icmp .ge 26, 3) := by decide +kernel
theorem dX8_hour_42 : decode cX8_hour 42 = .ok (.aload_n 0, 1) := by decide +kernel
theorem dX8_hour_43 : decode cX8_hour 43 = .ok (.getfield 57, 3) := by decide +kernel
theorem dX8_hour_46 : decode cX8_hour 46 = .ok (.iload_n 3, 1) := by decide +kernel
theorem dX8_hour_47 : decode cX8_hour 47 = .ok (.aload_n 0, 1) := by decide +kernel
theorem dX8_hour_48 : decode cX8_hour 48 = .ok (.aload_n 0, 1) := by decide +kernel
theorem dX8_hour_49 : decode cX8_hour 49 = .ok (.getfield 13, 3) := by decide +kernel
theorem dX8_hour_52 : decode cX8_hour 52 = .ok (.iconst 3, 1) := by decide +kernel
theorem dX8_hour_53 : decode cX8_hour 53 = .ok (.iaload, 1) := by decide +kernel
theorem dX8_hour_54 : decode cX8_hour 54 = .ok (.iload_n 3, 1) := by decide +kernel
theorem dX8_hour_55 : decode cX8_hour 55 = .ok (.invokevirtual 126, 3) := by decide +kernel
theorem dX8_hour_58 : decode cX8_hour 58 = .ok (.iastore, 1) := by decide +kernel
theorem dX8_hour_59 : decode cX8_hour 59 = .ok (.iinc 3 1, 3) := by decide +kernel
theorem dX8_hour_62 : decode cX8_hour 62 = .ok (.goto (-30), 3) := by decide +kernel
theorem dX8_hour_65 : decode cX8_hour 65 = .ok (.aload_n 0, 1) := by decide +kernel
theorem dX8_hour_66 : decode cX8_hour 66 = .ok (.getfield 13, 3) := by decide +kernel
theorem dX8_hour_69 : decode cX8_hour 69 = .ok (.bipush 50, 2) := by decide +kernel
theorem dX8_hour_71 : decode cX8_hour 71 = .ok (.iload_n 1, 1) := by decide +kernel
theorem dX8_hour_72 : decode cX8_hour 72 = .ok (.iadd, 1) := by decide +kernel
theorem dX8_hour_73 : decode cX8_hour 73 = .ok (.dup2, 1) := by decide +kernel
theorem dX8_hour_74 : decode cX8_hour 74 = .ok (.iaload, 1) := by decide +kernel
theorem dX8_hour_75 : decode cX8_hour 75 = .ok (.iconst 1, 1) := by decide +kernel
theorem dX8_hour_76 : decode cX8_hour 76 = .ok (.iadd, 1) := by decide +kernel
theorem dX8_hour_77 : decode cX8_hour 77 = .ok (.iastore, 1) := by decide +kernel
theorem dX8_hour_78 : decode cX8_hour 78 = .ok (.iconst 0, 1) := by decide +kernel
theorem dX8_hour_79 : decode cX8_hour 79 = .ok (.istore_n 3, 1) := by decide +kernel
theorem dX8_hour_80 : decode cX8_hour 80 = .ok (.iconst 0, 1) := by decide +kernel
theorem dX8_hour_81 : decode cX8_hour 81 = .ok (.istore 4, 2) := by decide +kernel
theorem dX8_hour_83 : decode cX8_hour 83 = .ok (.iconst 0, 1) := by decide +kernel
theorem dX8_hour_84 : decode cX8_hour 84 = .ok (.istore 5, 2) := by decide +kernel
theorem dX8_hour_86 : decode cX8_hour 86 = .ok (.iload 5, 2) := by decide +kernel
theorem dX8_hour_88 : decode cX8_hour 88 = .ok (.aload_n 0, 1) := by decide +kernel
theorem dX8_hour_89 : decode cX8_hour 89 = .ok (.getfield 13, 3) := by decide +kernel
theorem dX8_hour_92 : decode cX8_hour 92 = .ok (.iconst 0, 1) := by decide +kernel
theorem dX8_hour_93 : decode cX8_hour 93 = .ok (.iaload, 1) := by decide +kernel
theorem dX8_hour_94 : decode cX8_hour 94 = .ok (.if_icmp .ge 61, 3) := by decide +kernel
theorem dX8_hour_97 : decode cX8_hour 97 = .ok (.aload_n 0, 1) := by decide +kernel
theorem dX8_hour_98 : decode cX8_hour 98 = .ok (.aload_n 0, 1) := by decide +kernel
theorem dX8_hour_99 : decode cX8_hour 99 = .ok (.getfield 13, 3) := by decide +kernel
theorem dX8_hour_102 : decode cX8_hour 102 = .ok (.iconst 3, 1) := by decide +kernel
theorem dX8_hour_103 : decode cX8_hour 103 = .ok (.iaload, 1) := by decide +kernel
theorem dX8_hour_104 : decode cX8_hour 104 = .ok (.iload 5, 2) := by decide +kernel
theorem dX8_hour_106 : decode cX8_hour 106 = .ok (.invokevirtual 126, 3) := by decide +kernel
theorem dX8_hour_109 : decode cX8_hour 109 = .ok (.istore 6, 2) := by decide +kernel
theorem dX8_hour_111 : decode cX8_hour 111 = .ok (.iload_n 3, 1) := by decide +kernel
theorem dX8_hour_112 : decode cX8_hour 112 = .ok (.iload 6, 2) := by decide +kernel
theorem dX8_hour_114 : decode cX8_hour 114 = .ok (.aload_n 0, 1) := by decide +kernel
theorem dX8_hour_115 : decode cX8_hour 115 = .ok (.getfield 57, 3) := by decide +kernel
theorem dX8_hour_118 : decode cX8_hour 118 = .ok (.iload 5, 2) := by decide +kernel
theorem dX8_hour_120 : decode cX8_hour 120 = .ok (.iaload, 1) := by decide +kernel
theorem dX8_hour_121 : decode cX8_hour 121 = .ok (.isub, 1) := by decide +kernel
theorem dX8_hour_122 : decode cX8_hour 122 = .ok (.iadd, 1) := by decide +kernel
theorem dX8_hour_123 : decode cX8_hour 123 = .ok (.istore_n 3, 1) := by decide +kernel
theorem dX8_hour_124 : decode cX8_hour 124 = .ok (.iload 4, 2) := by decide +kernel
theorem dX8_hour_126 : decode cX8_hour 126 = .ok (.iload 6, 2) := by decide +kernel
theorem dX8_hour_128 : decode cX8_hour 128 = .ok (.aload_n 0, 1) := by decide +kernel
theorem dX8_hour_129 : decode cX8_hour 129 = .ok (.getfield 57, 3) := by decide +kernel
theorem dX8_hour_132 : decode cX8_hour 132 = .ok (.iload 5, 2) := by decide +kernel
theorem dX8_hour_134 : decode cX8_hour 134 = .ok (.iaload, 1) := by decide +kernel
theorem dX8_hour_135 : decode cX8_hour 135 = .ok (.if_icmp .le 10, 3) := by decide +kernel
theorem dX8_hour_138 : decode cX8_hour 138 = .ok (.iconst 1, 1) := by decide +kernel
theorem dX8_hour_139 : decode cX8_hour 139 = .ok (.iload 5, 2) := by decide +kernel
theorem dX8_hour_141 : decode cX8_hour 141 = .ok (.ishl, 1) := by decide +kernel
theorem dX8_hour_142 : decode cX8_hour 142 = .ok (.goto 4, 3) := by decide +kernel
theorem dX8_hour_145 : decode cX8_hour 145 = .ok (.iconst 0, 1) := by decide +kernel
theorem dX8_hour_146 : decode cX8_hour 146 = .ok (.ior, 1) := by decide +kernel
theorem dX8_hour_147 : decode cX8_hour 147 = .ok (.istore 4, 2) := by decide +kernel
theorem dX8_hour_149 : decode cX8_hour 149 = .ok (.iinc 5 1, 3) := by decide +kernel
theorem dX8_hour_152 : decode cX8_hour 152 = .ok (.goto (-66), 3) := by decide +kernel
theorem dX8_hour_155 : decode cX8_hour 155 = .ok (.aload_n 0, 1) := by decide +kernel
theorem dX8_hour_156 : decode cX8_hour 156 = .ok (.getfield 13, 3) := by decide +kernel
theorem dX8_hour_159 : decode cX8_hour 159 = .ok (.bipush 50, 2) := by decide +kernel
theorem dX8_hour_161 : decode cX8_hour 161 = .ok (.iload_n 1, 1) := by decide +kernel
theorem dX8_hour_162 : decode cX8_hour 162 = .ok (.iadd, 1) := by decide +kernel
theorem dX8_hour_163 : decode cX8_hour 163 = .ok (.dup2, 1) := by decide +kernel
theorem dX8_hour_164 : decode cX8_hour 164 = .ok (.iaload, 1) := by decide +kernel
theorem dX8_hour_165 : decode cX8_hour 165 = .ok (.iconst 1, 1) := by decide +kernel
theorem dX8_hour_166 : decode cX8_hour 166 = .ok (.isub, 1) := by decide +kernel
theorem dX8_hour_167 : decode cX8_hour 167 = .ok (.iastore, 1) := by decide +kernel
theorem dX8_hour_168 : decode cX8_hour 168 = .ok (.iload_n 2, 1) := by decide +kernel
theorem dX8_hour_169 : decode cX8_hour 169 = .ok (.ifCond .ne 7, 3) := by decide +kernel
theorem dX8_hour_172 : decode cX8_hour 172 = .ok (.iload_n 3, 1) := by decide +kernel
theorem dX8_hour_173 : decode cX8_hour 173 = .ok (.goto 5, 3) := by decide +kernel
theorem dX8_hour_176 : decode cX8_hour 176 = .ok (.iload 4, 2) := by decide +kernel
theorem dX8_hour_178 : decode cX8_hour 178 = .ok (.ireturn, 1) := by decide +kernel
theorem dX8_isMended_0 : decode cX8_isMended 0 = .ok (.aload_n 0, 1) := by decide +kernel
theorem dX8_isMended_1 : decode cX8_isMended 1 = .ok (.invokevirtual 144, 3) := by decide +kernel
theorem dX8_isMended_4 : decode cX8_isMended 4 = .ok (.iload_n 1, 1) := by decide +kernel
theorem dX8_isMended_5 : decode cX8_isMended 5 = .ok (.iand, 1) := by decide +kernel
theorem dX8_isMended_6 : decode cX8_isMended 6 = .ok (.iload_n 1, 1) := by decide +kernel
theorem dX8_isMended_7 : decode cX8_isMended 7 = .ok (.if_icmp .ne 5, 3) := by decide +kernel
theorem dX8_isMended_10 : decode cX8_isMended 10 = .ok (.iconst 1, 1) := by decide +kernel
theorem dX8_isMended_11 : decode cX8_isMended 11 = .ok (.ireturn, 1) := by decide +kernel
theorem dX8_isMended_12 : decode cX8_isMended 12 = .ok (.iconst 0, 1) := by decide +kernel
theorem dX8_isMended_13 : decode cX8_isMended 13 = .ok (.istore_n 3, 1) := by decide +kernel
theorem dX8_isMended_14 : decode cX8_isMended 14 = .ok (.iload_n 3, 1) := by decide +kernel
theorem dX8_isMended_15 : decode cX8_isMended 15 = .ok (.aload_n 0, 1) := by decide +kernel
theorem dX8_isMended_16 : decode cX8_isMended 16 = .ok (.getfield 13, 3) := by decide +kernel
theorem dX8_isMended_19 : decode cX8_isMended 19 = .ok (.iconst 0, 1) := by decide +kernel
theorem dX8_isMended_20 : decode cX8_isMended 20 = .ok (.iaload, 1) := by decide +kernel
theorem dX8_isMended_21 : decode cX8_isMended 21 = .ok (.if_icmp .ge 66, 3) := by decide +kernel
theorem dX8_isMended_24 : decode cX8_isMended 24 = .ok (.iload_n 2, 1) := by decide +kernel
theorem dX8_isMended_25 : decode cX8_isMended 25 = .ok (.ifCond .le 62, 3) := by decide +kernel
theorem dX8_isMended_28 : decode cX8_isMended 28 = .ok (.iload_n 3, 1) := by decide +kernel
theorem dX8_isMended_29 : decode cX8_isMended 29 = .ok (.iconst 1, 1) := by decide +kernel
theorem dX8_isMended_30 : decode cX8_isMended 30 = .ok (.iadd, 1) := by decide +kernel
theorem dX8_isMended_31 : decode cX8_isMended 31 = .ok (.istore 4, 2) := by decide +kernel
theorem dX8_isMended_33 : decode cX8_isMended 33 = .ok (.iload 4, 2) := by decide +kernel
theorem dX8_isMended_35 : decode cX8_isMended 35 = .ok (.aload_n 0, 1) := by decide +kernel
theorem dX8_isMended_36 : decode cX8_isMended 36 = .ok (.getfield 13, 3) := by decide +kernel
theorem dX8_isMended_39 : decode cX8_isMended 39 = .ok (.iconst 0, 1) := by decide +kernel
theorem dX8_isMended_40 : decode cX8_isMended 40 = .ok (.iaload, 1) := by decide +kernel
theorem dX8_isMended_41 : decode cX8_isMended 41 = .ok (.if_icmp .ge 40, 3) := by decide +kernel
theorem dX8_isMended_44 : decode cX8_isMended 44 = .ok (.aload_n 0, 1) := by decide +kernel
theorem dX8_isMended_45 : decode cX8_isMended 45 = .ok (.iload_n 3, 1) := by decide +kernel
theorem dX8_isMended_46 : decode cX8_isMended 46 = .ok (.iload 4, 2) := by decide +kernel
theorem dX8_isMended_48 : decode cX8_isMended 48 = .ok (.invokevirtual 95, 3) := by decide +kernel
theorem dX8_isMended_51 : decode cX8_isMended 51 = .ok (.aload_n 0, 1) := by decide +kernel
theorem dX8_isMended_52 : decode cX8_isMended 52 = .ok (.iload_n 1, 1) := by decide +kernel
theorem dX8_isMended_53 : decode cX8_isMended 53 = .ok (.iload_n 2, 1) := by decide +kernel
theorem dX8_isMended_54 : decode cX8_isMended 54 = .ok (.iconst 1, 1) := by decide +kernel
theorem dX8_isMended_55 : decode cX8_isMended 55 = .ok (.isub, 1) := by decide +kernel
