theorem dX8_no_0 : decode cX8_no 0 = .ok (.aload_n 0, 1) := by decide +kernel
theorem dX8_no_1 : decode cX8_no 1 = .ok (.getfield 1, 3) := by decide +kernel
theorem dX8_no_4 : decode cX8_no 4 = .ok (.iload_n 1, 1) := by decide +kernel
theorem dX8_no_5 : decode cX8_no 5 = .ok (.ineg, 1) := by decide +kernel
theorem dX8_no_6 : decode cX8_no 6 = .ok (.dup2, 1) := by decide +kernel
theorem dX8_no_7 : decode cX8_no 7 = .ok (.iaload, 1) := by decide +kernel
theorem dX8_no_8 : decode cX8_no 8 = .ok (.iconst 1, 1) := by decide +kernel
theorem dX8_no_9 : decode cX8_no 9 = .ok (.iadd, 1) := by decide +kernel
theorem dX8_no_10 : decode cX8_no 10 = .ok (.iastore, 1) := by decide +kernel
theorem dX8_no_11 : decode cX8_no 11 = .ok (.iload_n 1, 1) := by decide +kernel
theorem dX8_no_12 : decode cX8_no 12 = .ok (.ireturn, 1) := by decide +kernel
theorem dX8_init_0 : decode cX8_init 0 = .ok (.aload_n 0, 1) := by decide +kernel
theorem dX8_init_1 : decode cX8_init 1 = .ok (.invokespecial 7, 3) := by decide +kernel
theorem dX8_init_4 : decode cX8_init 4 = .ok (.aload_n 0, 1) := by decide +kernel
theorem dX8_init_5 : decode cX8_init 5 = .ok (.bipush 7, 2) := by decide +kernel
theorem dX8_init_7 : decode cX8_init 7 = .ok (.newarray .int, 2) := by decide +kernel
theorem dX8_init_9 : decode cX8_init 9 = .ok (.putfield 1, 3) := by decide +kernel
theorem dX8_init_12 : decode cX8_init 12 = .ok (.aload_n 0, 1) := by decide +kernel
theorem dX8_init_13 : decode cX8_init 13 = .ok (.bipush 80, 2) := by decide +kernel
theorem dX8_init_15 : decode cX8_init 15 = .ok (.newarray .int, 2) := by decide +kernel
theorem dX8_init_17 : decode cX8_init 17 = .ok (.putfield 13, 3) := by decide +kernel
theorem dX8_init_20 : decode cX8_init 20 = .ok (.aload_n 0, 1) := by decide +kernel
theorem dX8_init_21 : decode cX8_init 21 = .ok (.bipush 80, 2) := by decide +kernel
theorem dX8_init_23 : decode cX8_init 23 = .ok (.newarray .int, 2) := by decide +kernel
theorem dX8_init_25 : decode cX8_init 25 = .ok (.putfield 16, 3) := by decide +kernel
theorem dX8_init_28 : decode cX8_init 28 = .ok (.aload_n 0, 1) := by decide +kernel
theorem dX8_init_29 : decode cX8_init 29 = .ok (.bipush 80, 2) := by decide +kernel
theorem dX8_init_31 : decode cX8_init 31 = .ok (.newarray .int, 2) := by decide +kernel
theorem dX8_init_33 : decode cX8_init 33 = .ok (.putfield 19, 3) := by decide +kernel
theorem dX8_init_36 : decode cX8_init 36 = .ok (.aload_n 0, 1) := by decide +kernel
theorem dX8_init_37 : decode cX8_init 37 = .ok (.bipush 80, 2) := by decide +kernel
theorem dX8_init_39 : decode cX8_init 39 = .ok (.newarray .int, 2) := by decide +kernel
theorem dX8_init_41 : decode cX8_init 41 = .ok (.putfield 22, 3) := by decide +kernel
theorem dX8_init_44 : decode cX8_init 44 = .ok (.aload_n 0, 1) := by decide +kernel
theorem dX8_init_45 : decode cX8_init 45 = .ok (.bipush 64, 2) := by decide +kernel
theorem dX8_init_47 : decode cX8_init 47 = .ok (.newarray .int, 2) := by decide +kernel
theorem dX8_init_49 : decode cX8_init 49 = .ok (.putfield 25, 3) := by decide +kernel
theorem dX8_init_52 : decode cX8_init 52 = .ok (.aload_n 0, 1) := by decide +kernel
theorem dX8_init_53 : decode cX8_init 53 = .ok (.bipush 7, 2) := by decide +kernel
theorem dX8_init_55 : decode cX8_init 55 = .ok (.newarray .char, 2) := by decide +kernel
theorem dX8_init_57 : decode cX8_init 57 = .ok (.dup, 1) := by decide +kernel
theorem dX8_init_58 : decode cX8_init 58 = .ok (.iconst 0, 1) := by decide +kernel
theorem dX8_init_59 : decode cX8_init 59 = .ok (.bipush 112, 2) := by decide +kernel
theorem dX8_init_61 : decode cX8_init 61 = .ok (.castore, 1) := by decide +kernel
theorem dX8_init_62 : decode cX8_init 62 = .ok (.dup, 1) := by decide +kernel
theorem dX8_init_63 : decode cX8_init 63 = .ok (.iconst 1, 1) := by decide +kernel
theorem dX8_init_64 : decode cX8_init 64 = .ok (.bipush 104, 2) := by decide +kernel
theorem dX8_init_66 : decode cX8_init 66 = .ok (.castore, 1) := by decide +kernel
theorem dX8_init_67 : decode cX8_init 67 = .ok (.dup, 1) := by decide +kernel
theorem dX8_init_68 : decode cX8_init 68 = .ok (.iconst 2, 1) := by decide +kernel
theorem dX8_init_69 : decode cX8_init 69 = .ok (.bipush 108, 2) := by decide +kernel
theorem dX8_init_71 : decode cX8_init 71 = .ok (.castore, 1) := by decide +kernel
theorem dX8_init_72 : decode cX8_init 72 = .ok (.dup, 1) := by decide +kernel
theorem dX8_init_73 : decode cX8_init 73 = .ok (.iconst 3, 1) := by decide +kernel
theorem dX8_init_74 : decode cX8_init 74 = .ok (.bipush 114, 2) := by decide +kernel
theorem dX8_init_76 : decode cX8_init 76 = .ok (.castore, 1) := by decide +kernel
theorem dX8_init_77 : decode cX8_init 77 = .ok (.dup, 1) := by decide +kernel
theorem dX8_init_78 : decode cX8_init 78 = .ok (.iconst 4, 1) := by decide +kernel
theorem dX8_init_79 : decode cX8_init 79 = .ok (.bipush 119, 2) := by decide +kernel
theorem dX8_init_81 : decode cX8_init 81 = .ok (.castore, 1) := by decide +kernel
theorem dX8_init_82 : decode cX8_init 82 = .ok (.dup, 1) := by decide +kernel
theorem dX8_init_83 : decode cX8_init 83 = .ok (.iconst 5, 1) := by decide +kernel
theorem dX8_init_84 : decode cX8_init 84 = .ok (.bipush 120, 2) := by decide +kernel
theorem dX8_init_86 : decode cX8_init 86 = .ok (.castore, 1) := by decide +kernel
theorem dX8_init_87 : decode cX8_init 87 = .ok (.dup, 1) := by decide +kernel
theorem dX8_init_88 : decode cX8_init 88 = .ok (.bipush 6, 2) := by decide +kernel
theorem dX8_init_90 : decode cX8_init 90 = .ok (.bipush 109, 2) := by decide +kernel
theorem dX8_init_92 : decode cX8_init 92 = .ok (.castore, 1) := by decide +kernel
theorem dX8_init_93 : decode cX8_init 93 = .ok (.putfield 28, 3) := by decide +kernel
theorem dX8_init_96 : decode cX8_init 96 = .ok (.aload_n 0, 1) := by decide +kernel
theorem dX8_init_97 : decode cX8_init 97 = .ok (.bipush 6, 2) := by decide +kernel
theorem dX8_init_99 : decode cX8_init 99 = .ok (.newarray .char, 2) := by decide +kernel
theorem dX8_init_101 : decode cX8_init 101 = .ok (.dup, 1) := by decide +kernel
theorem dX8_init_102 : decode cX8_init 102 = .ok (.iconst 0, 1) := by decide +kernel
theorem dX8_init_103 : decode cX8_init 103 = .ok (.bipush 115, 2) := by decide +kernel
theorem dX8_init_105 : decode cX8_init 105 = .ok (.castore, 1) := by decide +kernel
theorem dX8_init_106 : decode cX8_init 106 = .ok (.dup, 1) := by decide +kernel
theorem dX8_init_107 : decode cX8_init 107 = .ok (.iconst 1, 1) := by decide +kernel
theorem dX8_init_108 : decode cX8_init 108 = .ok (.bipush 108, 2) := by decide +kernel
theorem dX8_init_110 : decode cX8_init 110 = .ok (.castore, 1) := by decide +kernel
theorem dX8_init_111 : decode cX8_init 111 = .ok (.dup, 1) := by decide +kernel
theorem dX8_init_112 : decode cX8_init 112 = .ok (.iconst 2, 1) := by decide +kernel
theorem dX8_init_113 : decode cX8_init 113 = .ok (.bipush 104, 2) := by decide +kernel
theorem dX8_init_115 : decode cX8_init 115 = .ok (.castore, 1) := by decide +kernel
theorem dX8_init_116 : decode cX8_init 116 = .ok (.dup, 1) := by decide +kernel
theorem dX8_init_117 : decode cX8_init 117 = .ok (.iconst 3, 1) := by decide +kernel
theorem dX8_init_118 : decode cX8_init 118 = .ok (.bipush 116, 2) := by decide +kernel
theorem dX8_init_120 : decode cX8_init 120 = .ok (.castore, 1) := by decide +kernel
theorem dX8_init_121 : decode cX8_init 121 = .ok (.dup, 1) := by decide +kernel
theorem dX8_init_122 : decode cX8_init 122 = .ok (.iconst 4, 1) := by decide +kernel
theorem dX8_init_123 : decode cX8_init 123 = .ok (.bipush 98, 2) := by decide +kernel
theorem dX8_init_125 : decode cX8_init 125 = .ok (.castore, 1) := by decide +kernel
theorem dX8_init_126 : decode cX8_init 126 = .ok (.dup, 1) := by decide +kernel
theorem dX8_init_127 : decode cX8_init 127 = .ok (.iconst 5, 1) := by decide +kernel
theorem dX8_init_128 : decode cX8_init 128 = .ok (.bipush 111, 2) := by decide +kernel
theorem dX8_init_130 : decode cX8_init 130 = .ok (.castore, 1) := by decide +kernel
theorem dX8_init_131 : decode cX8_init 131 = .ok (.putfield 32, 3) := by decide +kernel
theorem dX8_init_134 : decode cX8_init 134 = .ok (.aload_n 0, 1) := by decide +kernel
theorem dX8_init_135 : decode cX8_init 135 = .ok (.iconst 3, 1) := by decide +kernel
theorem dX8_init_136 : decode cX8_init 136 = .ok (.newarray .int, 2) := by decide +kernel
theorem dX8_init_138 : decode cX8_init 138 = .ok (.putfield 35, 3) := by decide +kernel
theorem dX8_init_141 : decode cX8_init 141 = .ok (.aload_n 0, 1) := by decide +kernel
theorem dX8_init_142 : decode cX8_init 142 = .ok (.bipush 6, 2) := by decide +kernel
theorem dX8_init_144 : decode cX8_init 144 = .ok (.newarray .int, 2) := by decide +kernel
theorem dX8_init_146 : decode cX8_init 146 = .ok (.putfield 38, 3) := by decide +kernel
theorem dX8_init_149 : decode cX8_init 149 = .ok (.aload_n 0, 1) := by decide +kernel
theorem dX8_init_150 : decode cX8_init 150 = .ok (.bipush 61, 2) := by decide +kernel
theorem dX8_init_152 : decode cX8_init 152 = .ok (.newarray .boolean, 2) := by decide +kernel
theorem dX8_init_154 : decode cX8_init 154 = .ok (.putfield 41, 3) := by decide +kernel
theorem dX8_init_157 : decode cX8_init 157 = .ok (.aload_n 0, 1) := by decide +kernel
theorem dX8_init_158 : decode cX8_init 158 = .ok (.bipush 6, 2) := by decide +kernel
theorem dX8_init_160 : decode cX8_init 160 = .ok (.newarray .int, 2) := by decide +kernel
theorem dX8_init_162 : decode cX8_init 162 = .ok (.putfield 45, 3) := by decide +kernel
theorem dX8_init_165 : decode cX8_init 165 = .ok (.aload_n 0, 1) := by decide +kernel
theorem dX8_init_166 : decode cX8_init 166 = .ok (.bipush 6, 2) := by decide +kernel
theorem dX8_init_168 : decode cX8_init 168 = .ok (.newarray .int, 2) := by decide +kernel
theorem dX8_init_170 : decode cX8_init 170 = .ok (.putfield 48, 3) := by decide +kernel
theorem dX8_init_173 : decode cX8_init 173 = .ok (.aload_n 0, 1) := by decide +kernel
theorem dX8_init_174 : decode cX8_init 174 = .ok (.bipush 6, 2) := by decide +kernel
theorem dX8_init_176 : decode cX8_init 176 = .ok (.newarray .int, 2) := by decide +kernel
theorem dX8_init_178 : decode cX8_init 178 = .ok (.putfield 51, 3) := by decide +kernel
theorem dX8_init_181 : decode cX8_init 181 = .ok (.aload_n 0, 1) := by decide +kernel
theorem dX8_init_182 : decode cX8_init 182 = .ok (.bipush 6, 2) := by decide +kernel
theorem dX8_init_184 : decode cX8_init 184 = .ok (.newarray .int, 2) := by decide +kernel
theorem dX8_init_186 : decode cX8_init 186 = .ok (.putfield 54, 3) := by decide +kernel
theorem dX8_init_189 : decode cX8_init 189 = .ok (.aload_n 0, 1) := by decide +kernel
theorem dX8_init_190 : decode cX8_init 190 = .ok (.bipush 6, 2) := by decide +kernel
theorem dX8_init_192 : decode cX8_init 192 = .ok (.newarray .int, 2) := by decide +kernel
theorem dX8_init_194 : decode cX8_init 194 = .ok (.putfield 57, 3) := by decide +kernel
theorem dX8_init_197 : decode cX8_init 197 = .ok (.aload_n 0, 1) := by decide +kernel
theorem dX8_init_198 : decode cX8_init 198 = .ok (.bipush 6, 2) := by decide +kernel
theorem dX8_init_200 : decode cX8_init 200 = .ok (.newarray .int, 2) := by decide +kernel
theorem dX8_init_202 : decode cX8_init 202 = .ok (.putfield 60, 3) := by decide +kernel
theorem dX8_init_205 : decode cX8_init 205 = .ok (.aload_n 0, 1) := by decide +kernel
theorem dX8_init_206 : decode cX8_init 206 = .ok (.getfield 13, 3) := by decide +kernel
theorem dX8_init_209 : decode cX8_init 209 = .ok (.iconst 1, 1) := by decide +kernel
theorem dX8_init_210 : decode cX8_init 210 = .ok (.iconst 2, 1) := by decide +kernel
theorem dX8_init_211 : decode cX8_init 211 = .ok (.iastore, 1) := by decide +kernel
theorem dX8_init_212 : decode cX8_init 212 = .ok (.aload_n 0, 1) := by decide +kernel
theorem dX8_init_213 : decode cX8_init 213 = .ok (.getfield 13, 3) := by decide +kernel
theorem dX8_init_216 : decode cX8_init 216 = .ok (.iconst 3, 1) := by decide +kernel
theorem dX8_init_217 : decode cX8_init 217 = .ok (.iconst 1, 1) := by decide +kernel
theorem dX8_init_218 : decode cX8_init 218 = .ok (.iastore, 1) := by decide +kernel
theorem dX8_init_219 : decode cX8_init 219 = .ok (.aload_n 0, 1) := by decide +kernel
theorem dX8_init_220 : decode cX8_init 220 = .ok (.getfield 13, 3) := by decide +kernel
theorem dX8_init_223 : decode cX8_init 223 = .ok (.iconst 4, 1) := by decide +kernel
theorem dX8_init_224 : decode cX8_init 224 = .ok (.bipush 10, 2) := by decide +kernel
theorem dX8_init_226 : decode cX8_init 226 = .ok (.iastore, 1) := by decide +kernel
theorem dX8_init_227 : decode cX8_init 227 = .ok (.aload_n 0, 1) := by decide +kernel
theorem dX8_init_228 : decode cX8_init 228 = .ok (.getfield 13, 3) := by decide +kernel
theorem dX8_init_231 : decode cX8_init 231 = .ok (.iconst 5, 1) := by decide +kernel
theorem dX8_init_232 : decode cX8_init 232 = .ok (.iconst 1, 1) := by decide +kernel
theorem dX8_init_233 : decode cX8_init 233 = .ok (.iastore, 1) := by decide +kernel
theorem dX8_init_234 : decode cX8_init 234 = .ok (.return_, 1) := by decide +kernel
theorem dX8_move_0 : decode cX8_move 0 = .ok (.iconst 0, 1) := by decide +kernel
theorem dX8_move_1 : decode cX8_move 1 = .ok (.istore_n 2, 1) := by decide +kernel
theorem dX8_move_2 : decode cX8_move 2 = .ok (.iload_n 2, 1) := by decide +kernel
theorem dX8_move_3 : decode cX8_move 3 = .ok (.bipush 80, 2) := by decide +kernel
theorem dX8_move_5 : decode cX8_move 5 = .ok (.if_icmp .ge 15, 3) := by decide +kernel
theorem dX8_move_8 : decode cX8_move 8 = .ok (.aload_n 1, 1) := by decide +kernel
theorem dX8_move_9 : decode cX8_move 9 = .ok (.iload_n 2, 1) := by decide +kernel
theorem dX8_move_10 : decode cX8_move 10 = .ok (.aload_n 0, 1) := by decide +kernel
theorem dX8_move_11 : decode cX8_move 11 = .ok (.iload_n 2, 1) := by decide +kernel
theorem dX8_move_12 : decode cX8_move 12 = .ok (.iaload, 1) := by decide +kernel
theorem dX8_move_13 : decode cX8_move 13 = .ok (.iastore, 1) := by decide +kernel
theorem dX8_move_14 : decode cX8_move 14 = .ok (.iinc 2 1, 3) := by decide +kernel
theorem dX8_move_17 : decode cX8_move 17 = .ok (.goto (-15), 3) := by decide +kernel
theorem dX8_move_20 : decode cX8_move 20 = .ok (.return_, 1) := by decide +kernel
theorem dX8_image_0 : decode cX8_image 0 = .ok (.aload_n 0, 1) := by decide +kernel
theorem dX8_image_1 : decode cX8_image 1 = .ok (.iconst 1, 1) := by decide +kernel
theorem dX8_image_2 : decode cX8_image 2 = .ok (.putfield 63, 3) := by decide +kernel
theorem dX8_image_5 : decode cX8_image 5 = .ok (.aload_n 0, 1) := by decide +kernel
theorem dX8_image_6 : decode cX8_image 6 = .ok (.getfield 13, 3) := by decide +kernel
theorem dX8_image_9 : decode cX8_image 9 = .ok (.aload_n 0, 1) := by decide +kernel
theorem dX8_image_10 : decode cX8_image 10 = .ok (.getfield 16, 3) := by decide +kernel
theorem dX8_image_13 : decode cX8_image 13 = .ok (.invokestatic 67, 3) := by decide +kernel
theorem dX8_image_16 : decode cX8_image 16 = .ok (.aload_n 0, 1) := by decide +kernel
theorem dX8_image_17 : decode cX8_image 17 = .ok (.getfield 13, 3) := by decide +kernel
theorem dX8_image_20 : decode cX8_image 20 = .ok (.iconst 2, 1) := by decide +kernel
theorem dX8_image_21 : decode cX8_image 21 = .ok (.iaload, 1) := by decide +kernel
theorem dX8_image_22 : decode cX8_image 22 = .ok (.ireturn, 1) := by decide +kernel
theorem dX8_on_0 : decode cX8_on 0 = .ok (.aload_n 0, 1) := by decide +kernel
theorem dX8_on_1 : decode cX8_on 1 = .ok (.getfield 63, 3) := by decide +kernel
theorem dX8_on_4 : decode cX8_on 4 = .ok (.ifCond .ne 10, 3) := by decide +kernel
theorem dX8_on_7 : decode cX8_on 7 = .ok (.aload_n 0, 1) := by decide +kernel
theorem dX8_on_8 : decode cX8_on 8 = .ok (.bipush (-3), 2) := by decide +kernel
theorem dX8_on_10 : decode cX8_on 10 = .ok (.invokevirtual 71, 3) := by decide +kernel
theorem dX8_on_13 : decode cX8_on 13 = .ok (.ireturn, 1) := by decide +kernel
theorem dX8_on_14 : decode cX8_on 14 = .ok (.aload_n 0, 1) := by decide +kernel
theorem dX8_on_15 : decode cX8_on 15 = .ok (.getfield 16, 3) := by decide +kernel
theorem dX8_on_18 : decode cX8_on 18 = .ok (.aload_n 0, 1) := by decide +kernel
theorem dX8_on_19 : decode cX8_on 19 = .ok (.getfield 13, 3) := by decide +kernel
theorem dX8_on_22 : decode cX8_on 22 = .ok (.invokestatic 67, 3) := by decide +kernel
theorem dX8_on_25 : decode cX8_on 25 = .ok (.aload_n 0, 1) := by decide +kernel
theorem dX8_on_26 : decode cX8_on 26 = .ok (.getfield 13, 3) := by decide +kernel
theorem dX8_on_29 : decode cX8_on 29 = .ok (.iconst 2, 1) := by decide +kernel
theorem dX8_on_30 : decode cX8_on 30 = .ok (.iaload, 1) := by decide +kernel
theorem dX8_on_31 : decode cX8_on 31 = .ok (.ireturn, 1) := by decide +kernel
theorem dX8_letter_0 : decode cX8_letter 0 = .ok (.iload_n 1, 1) := by decide +kernel
theorem dX8_letter_1 : decode cX8_letter 1 = .ok (.ifCond .ge 10, 3) := by decide +kernel
theorem dX8_letter_4 : decode cX8_letter 4 = .ok (.aload_n 0, 1) := by decide +kernel
theorem dX8_letter_5 : decode cX8_letter 5 = .ok (.bipush (-4), 2) := by decide +kernel
theorem dX8_letter_7 : decode cX8_letter 7 = .ok (.invokevirtual 71, 3) := by decide +kernel
theorem dX8_letter_10 : decode cX8_letter 10 = .ok (.ireturn, 1) := by decide +kernel
theorem dX8_letter_11 : decode cX8_letter 11 = .ok (.iload_n 1, 1) := by decide +kernel
theorem dX8_letter_12 : decode cX8_letter 12 = .ok (.sipush 255, 3) := by decide +kernel
theorem dX8_letter_15 : decode cX8_letter 15 = .ok (.if_icmp .gt 12, 3) := by decide +kernel
theorem dX8_letter_18 : decode cX8_letter 18 = .ok (.aload_n 0, 1) := by decide +kernel
theorem dX8_letter_19 : decode cX8_letter 19 = .ok (.getfield 75, 3) := by decide +kernel
theorem dX8_letter_22 : decode cX8_letter 22 = .ok (.bipush 64, 2) := by decide +kernel
theorem dX8_letter_24 : decode cX8_letter 24 = .ok (.if_icmp .ne 10, 3) := by decide +kernel
theorem dX8_letter_27 : decode cX8_letter 27 = .ok (.aload_n 0, 1) := by decide +kernel
theorem dX8_letter_28 : decode cX8_letter 28 = .ok (.bipush (-6), 2) := by decide +kernel
theorem dX8_letter_30 : decode cX8_letter 30 = .ok (.invokevirtual 71, 3) := by decide +kernel
theorem dX8_letter_33 : decode cX8_letter 33 = .ok (.ireturn, 1) := by decide +kernel
theorem dX8_letter_34 : decode cX8_letter 34 = .ok (.aload_n 0, 1) := by decide +kernel
theorem dX8_letter_35 : decode cX8_letter 35 = .ok (.getfield 25, 3) := by decide +kernel
theorem dX8_letter_38 : decode cX8_letter 38 = .ok (.aload_n 0, 1) := by decide +kernel
theorem dX8_letter_39 : decode cX8_letter 39 = .ok (.getfield 75, 3) := by decide +kernel
theorem dX8_letter_42 : decode cX8_letter 42 = .ok (.iload_n 1, 1) := by decide +kernel
theorem dX8_letter_43 : decode cX8_letter 43 = .ok (.iastore, 1) := by decide +kernel
theorem dX8_letter_44 : decode cX8_letter 44 = .ok (.aload_n 0, 1) := by decide +kernel
theorem dX8_letter_45 : decode cX8_letter 45 = .ok (.dup, 1) := by decide +kernel
theorem dX8_letter_46 : decode cX8_letter 46 = .ok (.getfield 75, 3) := by decide +kernel
theorem dX8_letter_49 : decode cX8_letter 49 = .ok (.iconst 1, 1) := by decide +kernel
theorem dX8_letter_50 : decode cX8_letter 50 = .ok (.iadd, 1) := by decide +kernel
theorem dX8_letter_51 : decode cX8_letter 51 = .ok (.putfield 75, 3) := by decide +kernel
theorem dX8_letter_54 : decode cX8_letter 54 = .ok (.aload_n 0, 1) := by decide +kernel
theorem dX8_letter_55 : decode cX8_letter 55 = .ok (.getfield 75, 3) := by decide +kernel
theorem dX8_letter_58 : decode cX8_letter 58 = .ok (.ireturn, 1) := by decide +kernel
theorem dX8_oneOf_0 : decode cX8_oneOf 0 = .ok (.iconst (-1), 1) := by decide +kernel
theorem dX8_oneOf_1 : decode cX8_oneOf 1 = .ok (.istore_n 2, 1) := by decide +kernel
theorem dX8_oneOf_2 : decode cX8_oneOf 2 = .ok (.iconst 0, 1) := by decide +kernel
theorem dX8_oneOf_3 : decode cX8_oneOf 3 = .ok (.istore_n 3, 1) := by decide +kernel
theorem dX8_oneOf_4 : decode cX8_oneOf 4 = .ok (.iload_n 3, 1) := by decide +kernel
theorem dX8_oneOf_5 : decode cX8_oneOf 5 = .ok (.aload_n 1, 1) := by decide +kernel
theorem dX8_oneOf_6 : decode cX8_oneOf 6 = .ok (.arraylength, 1) := by decide +kernel
theorem dX8_oneOf_7 : decode cX8_oneOf 7 = .ok (.if_icmp .ge 48, 3) := by decide +kernel
theorem dX8_oneOf_10 : decode cX8_oneOf 10 = .ok (.aload_n 0, 1) := by decide +kernel
theorem dX8_oneOf_11 : decode cX8_oneOf 11 = .ok (.getfield 79, 3) := by decide +kernel
theorem dX8_oneOf_14 : decode cX8_oneOf 14 = .ok (.ifCond .eq 41, 3) := by decide +kernel
theorem dX8_oneOf_17 : decode cX8_oneOf 17 = .ok (.iload_n 2, 1) := by decide +kernel
theorem dX8_oneOf_18 : decode cX8_oneOf 18 = .ok (.ifCond .ge 37, 3) := by decide +kernel
theorem dX8_oneOf_21 : decode cX8_oneOf 21 = .ok (.aload_n 0, 1) := by decide +kernel
theorem dX8_oneOf_22 : decode cX8_oneOf 22 = .ok (.getfield 82, 3) := by decide +kernel
theorem dX8_oneOf_25 : decode cX8_oneOf 25 = .ok (.aload_n 0, 1) := by decide +kernel
theorem dX8_oneOf_26 : decode cX8_oneOf 26 = .ok (.getfield 75, 3) := by decide +kernel
theorem dX8_oneOf_29 : decode cX8_oneOf 29 = .ok (.if_icmp .ge 20, 3) := by decide +kernel
theorem dX8_oneOf_32 : decode cX8_oneOf 32 = .ok (.aload_n 0, 1) := by decide +kernel
theorem dX8_oneOf_33 : decode cX8_oneOf 33 = .ok (.getfield 25, 3) := by decide +kernel
theorem dX8_oneOf_36 : decode cX8_oneOf 36 = .ok (.aload_n 0, 1) := by decide +kernel
theorem dX8_oneOf_37 : decode cX8_oneOf 37 = .ok (.getfield 82, 3) := by decide +kernel
theorem dX8_oneOf_40 : decode cX8_oneOf 40 = .ok (.iaload, 1) := by decide +kernel
theorem dX8_oneOf_41 : decode cX8_oneOf 41 = .ok (.aload_n 1, 1) := by decide +kernel
theorem dX8_oneOf_42 : decode cX8_oneOf 42 = .ok (.iload_n 3, 1) := by decide +kernel
theorem dX8_oneOf_43 : decode cX8_oneOf 43 = .ok (.caload, 1) := by decide +kernel
theorem dX8_oneOf_44 : decode cX8_oneOf 44 = .ok (.if_icmp .ne 5, 3) := by decide +kernel
theorem dX8_oneOf_47 : decode cX8_oneOf 47 = .ok (.iload_n 3, 1) := by decide +kernel
theorem dX8_oneOf_48 : decode cX8_oneOf 48 = .ok (.istore_n 2, 1) := by decide +kernel
theorem dX8_oneOf_49 : decode cX8_oneOf 49 = .ok (.iinc 3 1, 3) := by decide +kernel
theorem dX8_oneOf_52 : decode cX8_oneOf 52 = .ok (.goto (-48), 3) := by decide +kernel
theorem dX8_oneOf_55 : decode cX8_oneOf 55 = .ok (.iload_n 2, 1) := by decide +kernel
theorem dX8_oneOf_56 : decode cX8_oneOf 56 = .ok (.ifCond .ge 10, 3) := by decide +kernel
theorem dX8_oneOf_59 : decode cX8_oneOf 59 = .ok (.aload_n 0, 1) := by decide +kernel
theorem dX8_oneOf_60 : decode cX8_oneOf 60 = .ok (.iconst 0, 1) := by decide +kernel
theorem dX8_oneOf_61 : decode cX8_oneOf 61 = .ok (.putfield 79, 3) := by decide +kernel
theorem dX8_oneOf_64 : decode cX8_oneOf 64 = .ok (.iconst 0, 1) := by decide +kernel
theorem dX8_oneOf_65 : decode cX8_oneOf 65 = .ok (.ireturn, 1) := by decide +kernel
theorem dX8_oneOf_66 : decode cX8_oneOf 66 = .ok (.aload_n 0, 1) := by decide +kernel
theorem dX8_oneOf_67 : decode cX8_oneOf 67 = .ok (.dup, 1) := by decide +kernel
theorem dX8_oneOf_68 : decode cX8_oneOf 68 = .ok (.getfield 82, 3) := by decide +kernel
theorem dX8_oneOf_71 : decode cX8_oneOf 71 = .ok (.iconst 1, 1) := by decide +kernel
theorem dX8_oneOf_72 : decode cX8_oneOf 72 = .ok (.iadd, 1) := by decide +kernel
theorem dX8_oneOf_73 : decode cX8_oneOf 73 = .ok (.putfield 82, 3) := by decide +kernel
theorem dX8_oneOf_76 : decode cX8_oneOf 76 = .ok (.iload_n 2, 1) := by decide +kernel
theorem dX8_oneOf_77 : decode cX8_oneOf 77 = .ok (.ireturn, 1) := by decide +kernel
theorem dX8_figures_0 : decode cX8_figures 0 = .ok (.iconst 0, 1) := by decide +kernel
theorem dX8_figures_1 : decode cX8_figures 1 = .ok (.istore_n 2, 1) := by decide +kernel
theorem dX8_figures_2 : decode cX8_figures 2 = .ok (.iconst 0, 1) := by decide +kernel
theorem dX8_figures_3 : decode cX8_figures 3 = .ok (.istore_n 3, 1) := by decide +kernel
theorem dX8_figures_4 : decode cX8_figures 4 = .ok (.aload_n 0, 1) := by decide +kernel
theorem dX8_figures_5 : decode cX8_figures 5 = .ok (.getfield 79, 3) := by decide +kernel
theorem dX8_figures_8 : decode cX8_figures 8 = .ok (.ifCond .eq 81, 3) := by decide +kernel
theorem dX8_figures_11 : decode cX8_figures 11 = .ok (.iload_n 3, 1) := by decide +kernel
theorem dX8_figures_12 : decode cX8_figures 12 = .ok (.iload_n 1, 1) := by decide +kernel
theorem dX8_figures_13 : decode cX8_figures 13 = .ok (.if_icmp .ge 76, 3) := by decide +kernel
theorem dX8_figures_16 : decode cX8_figures 16 = .ok (.aload_n 0, 1) := by decide +kernel
theorem dX8_figures_17 : decode cX8_figures 17 = .ok (.getfield 82, 3) := by decide +kernel
theorem dX8_figures_20 : decode cX8_figures 20 = .ok (.aload_n 0, 1) := by decide +kernel
theorem dX8_figures_21 : decode cX8_figures 21 = .ok (.getfield 75, 3) := by decide +kernel
theorem dX8_figures_24 : decode cX8_figures 24 = .ok (.if_icmp .ge 65, 3) := by decide +kernel
theorem dX8_figures_27 : decode cX8_figures 27 = .ok (.aload_n 0, 1) := by decide +kernel
theorem dX8_figures_28 : decode cX8_figures 28 = .ok (.getfield 25, 3) := by decide +kernel
theorem dX8_figures_31 : decode cX8_figures 31 = .ok (.aload_n 0, 1) := by decide +kernel
theorem dX8_figures_32 : decode cX8_figures 32 = .ok (.getfield 82, 3) := by decide +kernel
theorem dX8_figures_35 : decode cX8_figures 35 = .ok (.iaload, 1) := by decide +kernel
theorem dX8_figures_36 : decode cX8_figures 36 = .ok (.bipush 48, 2) := by decide +kernel
theorem dX8_figures_38 : decode cX8_figures 38 = .ok (.if_icmp .lt 51, 3) := by decide +kernel
theorem dX8_figures_41 : decode cX8_figures 41 = .ok (.aload_n 0, 1) := by decide +kernel
theorem dX8_figures_42 : decode cX8_figures 42 = .ok (.getfield 25, 3) := by decide +kernel
theorem dX8_figures_45 : decode cX8_figures 45 = .ok (.aload_n 0, 1) := by decide +kernel
theorem dX8_figures_46 : decode cX8_figures 46 = .ok (.getfield 82, 3) := by decide +kernel
theorem dX8_figures_49 : decode cX8_figures 49 = .ok (.iaload, 1) := by decide +kernel
theorem dX8_figures_50 : decode cX8_figures 50 = .ok (.bipush 57, 2) := by decide +kernel
theorem dX8_figures_52 : decode cX8_figures 52 = .ok (.if_icmp .gt 37, 3) := by decide +kernel
theorem dX8_figures_55 : decode cX8_figures 55 = .ok (.bipush 10, 2) := by decide +kernel
theorem dX8_figures_57 : decode cX8_figures 57 = .ok (.iload_n 2, 1) := by decide +kernel
theorem dX8_figures_58 : decode cX8_figures 58 = .ok (.imul, 1) := by decide +kernel
theorem dX8_figures_59 : decode cX8_figures 59 = .ok (.aload_n 0, 1) := by decide +kernel
theorem dX8_figures_60 : decode cX8_figures 60 = .ok (.getfield 25, 3) := by decide +kernel
theorem dX8_figures_63 : decode cX8_figures 63 = .ok (.aload_n 0, 1) := by decide +kernel
theorem dX8_figures_64 : decode cX8_figures 64 = .ok (.getfield 82, 3) := by decide +kernel
theorem dX8_figures_67 : decode cX8_figures 67 = .ok (.iaload, 1) := by decide +kernel
theorem dX8_figures_68 : decode cX8_figures 68 = .ok (.iadd, 1) := by decide +kernel
theorem dX8_figures_69 : decode cX8_figures 69 = .ok (.bipush 48, 2) := by decide +kernel
theorem dX8_figures_71 : decode cX8_figures 71 = .ok (.isub, 1) := by decide +kernel
theorem dX8_figures_72 : decode cX8_figures 72 = .ok (.istore_n 2, 1) := by decide +kernel
theorem dX8_figures_73 : decode cX8_figures 73 = .ok (.aload_n 0, 1) := by decide +kernel
theorem dX8_figures_74 : decode cX8_figures 74 = .ok (.dup, 1) := by decide +kernel
theorem dX8_figures_75 : decode cX8_figures 75 = .ok (.getfield 82, 3) := by decide +kernel
theorem dX8_figures_78 : decode cX8_figures 78 = .ok (.iconst 1, 1) := by decide +kernel
theorem dX8_figures_79 : decode cX8_figures 79 = .ok (.iadd, 1) := by decide +kernel
theorem dX8_figures_80 : decode cX8_figures 80 = .ok (.putfield 82, 3) := by decide +kernel
theorem dX8_figures_83 : decode cX8_figures 83 = .ok (.iinc 3 1, 3) := by decide +kernel
theorem dX8_figures_86 : decode cX8_figures 86 = .ok (.goto (-82), 3) := by decide +kernel
theorem dX8_figures_89 : decode cX8_figures 89 = .ok (.iload_n 3, 1) := by decide +kernel
theorem dX8_figures_90 : decode cX8_figures 90 = .ok (.ifCond .ne 8, 3) := by decide +kernel
theorem dX8_figures_93 : decode cX8_figures 93 = .ok (.aload_n 0, 1) := by decide +kernel
theorem dX8_figures_94 : decode cX8_figures 94 = .ok (.iconst 0, 1) := by decide +kernel
theorem dX8_figures_95 : decode cX8_figures 95 = .ok (.putfield 79, 3) := by decide +kernel
theorem dX8_figures_98 : decode cX8_figures 98 = .ok (.iload_n 2, 1) := by decide +kernel
theorem dX8_figures_99 : decode cX8_figures 99 = .ok (.ireturn, 1) := by decide +kernel
theorem dX8_statement_0 : decode cX8_statement 0 = .ok (.aload_n 0, 1) := by decide +kernel
theorem dX8_statement_1 : decode cX8_statement 1 = .ok (.aload_n 0, 1) := by decide +kernel
theorem dX8_statement_2 : decode cX8_statement 2 = .ok (.aload_n 0, 1) := by decide +kernel
theorem dX8_statement_3 : decode cX8_statement 3 = .ok (.getfield 28, 3) := by decide +kernel
theorem dX8_statement_6 : decode cX8_statement 6 = .ok (.invokevirtual 85, 3) := by decide +kernel
theorem dX8_statement_9 : decode cX8_statement 9 = .ok (.putfield 89, 3) := by decide +kernel
theorem dX8_statement_12 : decode cX8_statement 12 = .ok (.aload_n 0, 1) := by decide +kernel
theorem dX8_statement_13 : decode cX8_statement 13 = .ok (.getfield 89, 3) := by decide +kernel
theorem dX8_statement_16 : decode cX8_statement 16 = .ok (.ifCond .ne 42, 3) := by decide +kernel
theorem dX8_statement_19 : decode cX8_statement 19 = .ok (.aload_n 0, 1) := by decide +kernel
theorem dX8_statement_20 : decode cX8_statement 20 = .ok (.getfield 35, 3) := by decide +kernel
theorem dX8_statement_23 : decode cX8_statement 23 = .ok (.iconst 0, 1) := by decide +kernel
theorem dX8_statement_24 : decode cX8_statement 24 = .ok (.aload_n 0, 1) := by decide +kernel
theorem dX8_statement_25 : decode cX8_statement 25 = .ok (.aload_n 0, 1) := by decide +kernel
theorem dX8_statement_26 : decode cX8_statement 26 = .ok (.getfield 32, 3) := by decide +kernel
theorem dX8_statement_29 : decode cX8_statement 29 = .ok (.invokevirtual 85, 3) := by decide +kernel
theorem dX8_statement_32 : decode cX8_statement 32 = .ok (.iastore, 1) := by decide +kernel
theorem dX8_statement_33 : decode cX8_statement 33 = .ok (.aload_n 0, 1) := by decide +kernel
theorem dX8_statement_34 : decode cX8_statement 34 = .ok (.getfield 35, 3) := by decide +kernel
theorem dX8_statement_37 : decode cX8_statement 37 = .ok (.iconst 1, 1) := by decide +kernel
theorem dX8_statement_38 : decode cX8_statement 38 = .ok (.aload_n 0, 1) := by decide +kernel
theorem dX8_statement_39 : decode cX8_statement 39 = .ok (.iconst 1, 1) := by decide +kernel
theorem dX8_statement_40 : decode cX8_statement 40 = .ok (.invokevirtual 92, 3) := by decide +kernel
theorem dX8_statement_43 : decode cX8_statement 43 = .ok (.iastore, 1) := by decide +kernel
theorem dX8_statement_44 : decode cX8_statement 44 = .ok (.aload_n 0, 1) := by decide +kernel
theorem dX8_statement_45 : decode cX8_statement 45 = .ok (.getfield 35, 3) := by decide +kernel
theorem dX8_statement_48 : decode cX8_statement 48 = .ok (.iconst 2, 1) := by decide +kernel
theorem dX8_statement_49 : decode cX8_statement 49 = .ok (.aload_n 0, 1) := by decide +kernel
theorem dX8_statement_50 : decode cX8_statement 50 = .ok (.iconst 1, 1) := by decide +kernel
theorem dX8_statement_51 : decode cX8_statement 51 = .ok (.invokevirtual 92, 3) := by decide +kernel
theorem dX8_statement_54 : decode cX8_statement 54 = .ok (.iastore, 1) := by decide +kernel
theorem dX8_statement_55 : decode cX8_statement 55 = .ok (.goto 76, 3) := by decide +kernel
theorem dX8_statement_58 : decode cX8_statement 58 = .ok (.aload_n 0, 1) := by decide +kernel
theorem dX8_statement_59 : decode cX8_statement 59 = .ok (.getfield 89, 3) := by decide +kernel
theorem dX8_statement_62 : decode cX8_statement 62 = .ok (.iconst 5, 1) := by decide +kernel
theorem dX8_statement_63 : decode cX8_statement 63 = .ok (.if_icmp .ne 28, 3) := by decide +kernel
theorem dX8_statement_66 : decode cX8_statement 66 = .ok (.aload_n 0, 1) := by decide +kernel
theorem dX8_statement_67 : decode cX8_statement 67 = .ok (.getfield 35, 3) := by decide +kernel
theorem dX8_statement_70 : decode cX8_statement 70 = .ok (.iconst 0, 1) := by decide +kernel
theorem dX8_statement_71 : decode cX8_statement 71 = .ok (.aload_n 0, 1) := by decide +kernel
theorem dX8_statement_72 : decode cX8_statement 72 = .ok (.iconst 1, 1) := by decide +kernel
theorem dX8_statement_73 : decode cX8_statement 73 = .ok (.invokevirtual 92, 3) := by decide +kernel
theorem dX8_statement_76 : decode cX8_statement 76 = .ok (.iastore, 1) := by decide +kernel
theorem dX8_statement_77 : decode cX8_statement 77 = .ok (.aload_n 0, 1) := by decide +kernel
theorem dX8_statement_78 : decode cX8_statement 78 = .ok (.getfield 35, 3) := by decide +kernel
theorem dX8_statement_81 : decode cX8_statement 81 = .ok (.iconst 1, 1) := by decide +kernel
theorem dX8_statement_82 : decode cX8_statement 82 = .ok (.aload_n 0, 1) := by decide +kernel
theorem dX8_statement_83 : decode cX8_statement 83 = .ok (.iconst 1, 1) := by decide +kernel
theorem dX8_statement_84 : decode cX8_statement 84 = .ok (.invokevirtual 92, 3) := by decide +kernel
theorem dX8_statement_87 : decode cX8_statement 87 = .ok (.iastore, 1) := by decide +kernel
theorem dX8_statement_88 : decode cX8_statement 88 = .ok (.goto 43, 3) := by decide +kernel
theorem dX8_statement_91 : decode cX8_statement 91 = .ok (.aload_n 0, 1) := by decide +kernel
theorem dX8_statement_92 : decode cX8_statement 92 = .ok (.getfield 89, 3) := by decide +kernel
theorem dX8_statement_95 : decode cX8_statement 95 = .ok (.iconst 3, 1) := by decide +kernel
theorem dX8_statement_96 : decode cX8_statement 96 = .ok (.if_icmp .eq 35, 3) := by decide +kernel
theorem dX8_statement_99 : decode cX8_statement 99 = .ok (.aload_n 0, 1) := by decide +kernel
theorem dX8_statement_100 : decode cX8_statement 100 = .ok (.getfield 89, 3) := by decide +kernel
theorem dX8_statement_103 : decode cX8_statement 103 = .ok (.iconst 4, 1) := by decide +kernel
theorem dX8_statement_104 : decode cX8_statement 104 = .ok (.if_icmp .eq 27, 3) := by decide +kernel
theorem dX8_statement_107 : decode cX8_statement 107 = .ok (.aload_n 0, 1) := by decide +kernel
theorem dX8_statement_108 : decode cX8_statement 108 = .ok (.getfield 35, 3) := by decide +kernel
theorem dX8_statement_111 : decode cX8_statement 111 = .ok (.iconst 0, 1) := by decide +kernel
theorem dX8_statement_112 : decode cX8_statement 112 = .ok (.aload_n 0, 1) := by decide +kernel
theorem dX8_statement_113 : decode cX8_statement 113 = .ok (.aload_n 0, 1) := by decide +kernel
theorem dX8_statement_114 : decode cX8_statement 114 = .ok (.getfield 89, 3) := by decide +kernel
theorem dX8_statement_117 : decode cX8_statement 117 = .ok (.bipush 6, 2) := by decide +kernel
theorem dX8_statement_119 : decode cX8_statement 119 = .ok (.if_icmp .ne 7, 3) := by decide +kernel
theorem dX8_statement_122 : decode cX8_statement 122 = .ok (.iconst 2, 1) := by decide +kernel
