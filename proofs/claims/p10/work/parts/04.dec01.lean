theorem dX2_passStatement_0 : decode cX2_passStatement 0 = .ok (.aload_n 0, 1) := by decide +kernel
theorem dX2_passStatement_1 : decode cX2_passStatement 1 = .ok (.getfield 14, 3) := by decide +kernel
theorem dX2_passStatement_4 : decode cX2_passStatement 4 = .ok (.aload_n 0, 1) := by decide +kernel
theorem dX2_passStatement_5 : decode cX2_passStatement 5 = .ok (.getfield 20, 3) := by decide +kernel
theorem dX2_passStatement_8 : decode cX2_passStatement 8 = .ok (.invokevirtual 35, 3) := by decide +kernel
theorem dX2_passStatement_11 : decode cX2_passStatement 11 = .ok (.istore_n 1, 1) := by decide +kernel
theorem dX2_passStatement_12 : decode cX2_passStatement 12 = .ok (.iload_n 1, 1) := by decide +kernel
theorem dX2_passStatement_13 : decode cX2_passStatement 13 = .ok (.invokestatic 39, 3) := by decide +kernel
theorem dX2_passStatement_16 : decode cX2_passStatement 16 = .ok (.istore_n 2, 1) := by decide +kernel
theorem dX2_passStatement_17 : decode cX2_passStatement 17 = .ok (.iload_n 2, 1) := by decide +kernel
theorem dX2_passStatement_18 : decode cX2_passStatement 18 = .ok (.ifCond .ge 5, 3) := by decide +kernel
theorem dX2_passStatement_21 : decode cX2_passStatement 21 = .ok (.iconst 0, 1) := by decide +kernel
theorem dX2_passStatement_22 : decode cX2_passStatement 22 = .ok (.ireturn, 1) := by decide +kernel
theorem dX2_passStatement_23 : decode cX2_passStatement 23 = .ok (.aload_n 0, 1) := by decide +kernel
theorem dX2_passStatement_24 : decode cX2_passStatement 24 = .ok (.dup, 1) := by decide +kernel
theorem dX2_passStatement_25 : decode cX2_passStatement 25 = .ok (.getfield 20, 3) := by decide +kernel
theorem dX2_passStatement_28 : decode cX2_passStatement 28 = .ok (.iconst 1, 1) := by decide +kernel
theorem dX2_passStatement_29 : decode cX2_passStatement 29 = .ok (.iadd, 1) := by decide +kernel
theorem dX2_passStatement_30 : decode cX2_passStatement 30 = .ok (.putfield 20, 3) := by decide +kernel
theorem dX2_passStatement_33 : decode cX2_passStatement 33 = .ok (.iconst 0, 1) := by decide +kernel
theorem dX2_passStatement_34 : decode cX2_passStatement 34 = .ok (.istore_n 3, 1) := by decide +kernel
theorem dX2_passStatement_35 : decode cX2_passStatement 35 = .ok (.iload_n 3, 1) := by decide +kernel
theorem dX2_passStatement_36 : decode cX2_passStatement 36 = .ok (.iload_n 2, 1) := by decide +kernel
theorem dX2_passStatement_37 : decode cX2_passStatement 37 = .ok (.if_icmp .ge 72, 3) := by decide +kernel
theorem dX2_passStatement_40 : decode cX2_passStatement 40 = .ok (.aload_n 0, 1) := by decide +kernel
theorem dX2_passStatement_41 : decode cX2_passStatement 41 = .ok (.getfield 14, 3) := by decide +kernel
theorem dX2_passStatement_44 : decode cX2_passStatement 44 = .ok (.aload_n 0, 1) := by decide +kernel
theorem dX2_passStatement_45 : decode cX2_passStatement 45 = .ok (.getfield 20, 3) := by decide +kernel
theorem dX2_passStatement_48 : decode cX2_passStatement 48 = .ok (.invokevirtual 35, 3) := by decide +kernel
theorem dX2_passStatement_51 : decode cX2_passStatement 51 = .ok (.istore 4, 2) := by decide +kernel
theorem dX2_passStatement_53 : decode cX2_passStatement 53 = .ok (.iload_n 1, 1) := by decide +kernel
theorem dX2_passStatement_54 : decode cX2_passStatement 54 = .ok (.bipush 112, 2) := by decide +kernel
theorem dX2_passStatement_56 : decode cX2_passStatement 56 = .ok (.if_icmp .ne 23, 3) := by decide +kernel
theorem dX2_passStatement_59 : decode cX2_passStatement 59 = .ok (.iload_n 3, 1) := by decide +kernel
theorem dX2_passStatement_60 : decode cX2_passStatement 60 = .ok (.ifCond .ne 19, 3) := by decide +kernel
theorem dX2_passStatement_63 : decode cX2_passStatement 63 = .ok (.iload 4, 2) := by decide +kernel
theorem dX2_passStatement_65 : decode cX2_passStatement 65 = .ok (.invokestatic 42, 3) := by decide +kernel
theorem dX2_passStatement_68 : decode cX2_passStatement 68 = .ok (.ifCond .lt 7, 3) := by decide +kernel
theorem dX2_passStatement_71 : decode cX2_passStatement 71 = .ok (.iconst 1, 1) := by decide +kernel
theorem dX2_passStatement_72 : decode cX2_passStatement 72 = .ok (.goto 12, 3) := by decide +kernel
theorem dX2_passStatement_75 : decode cX2_passStatement 75 = .ok (.iconst 0, 1) := by decide +kernel
theorem dX2_passStatement_76 : decode cX2_passStatement 76 = .ok (.goto 8, 3) := by decide +kernel
theorem dX2_passStatement_79 : decode cX2_passStatement 79 = .ok (.iload 4, 2) := by decide +kernel
theorem dX2_passStatement_81 : decode cX2_passStatement 81 = .ok (.invokestatic 45, 3) := by decide +kernel
theorem dX2_passStatement_84 : decode cX2_passStatement 84 = .ok (.istore 5, 2) := by decide +kernel
theorem dX2_passStatement_86 : decode cX2_passStatement 86 = .ok (.iload 5, 2) := by decide +kernel
theorem dX2_passStatement_88 : decode cX2_passStatement 88 = .ok (.ifCond .ne 5, 3) := by decide +kernel
theorem dX2_passStatement_91 : decode cX2_passStatement 91 = .ok (.iconst 0, 1) := by decide +kernel
theorem dX2_passStatement_92 : decode cX2_passStatement 92 = .ok (.ireturn, 1) := by decide +kernel
theorem dX2_passStatement_93 : decode cX2_passStatement 93 = .ok (.aload_n 0, 1) := by decide +kernel
theorem dX2_passStatement_94 : decode cX2_passStatement 94 = .ok (.dup, 1) := by decide +kernel
theorem dX2_passStatement_95 : decode cX2_passStatement 95 = .ok (.getfield 20, 3) := by decide +kernel
theorem dX2_passStatement_98 : decode cX2_passStatement 98 = .ok (.iconst 1, 1) := by decide +kernel
theorem dX2_passStatement_99 : decode cX2_passStatement 99 = .ok (.iadd, 1) := by decide +kernel
theorem dX2_passStatement_100 : decode cX2_passStatement 100 = .ok (.putfield 20, 3) := by decide +kernel
theorem dX2_passStatement_103 : decode cX2_passStatement 103 = .ok (.iinc 3 1, 3) := by decide +kernel
theorem dX2_passStatement_106 : decode cX2_passStatement 106 = .ok (.goto (-71), 3) := by decide +kernel
theorem dX2_passStatement_109 : decode cX2_passStatement 109 = .ok (.iload_n 1, 1) := by decide +kernel
theorem dX2_passStatement_110 : decode cX2_passStatement 110 = .ok (.bipush 109, 2) := by decide +kernel
theorem dX2_passStatement_112 : decode cX2_passStatement 112 = .ok (.if_icmp .ne 30, 3) := by decide +kernel
theorem dX2_passStatement_115 : decode cX2_passStatement 115 = .ok (.aload_n 0, 1) := by decide +kernel
theorem dX2_passStatement_116 : decode cX2_passStatement 116 = .ok (.getfield 14, 3) := by decide +kernel
theorem dX2_passStatement_119 : decode cX2_passStatement 119 = .ok (.aload_n 0, 1) := by decide +kernel
theorem dX2_passStatement_120 : decode cX2_passStatement 120 = .ok (.getfield 20, 3) := by decide +kernel
theorem dX2_passStatement_123 : decode cX2_passStatement 123 = .ok (.invokevirtual 35, 3) := by decide +kernel
theorem dX2_passStatement_126 : decode cX2_passStatement 126 = .ok (.invokestatic 45, 3) := by decide +kernel
theorem dX2_passStatement_129 : decode cX2_passStatement 129 = .ok (.ifCond .eq 13, 3) := by decide +kernel
theorem dX2_passStatement_132 : decode cX2_passStatement 132 = .ok (.aload_n 0, 1) := by decide +kernel
theorem dX2_passStatement_133 : decode cX2_passStatement 133 = .ok (.dup, 1) := by decide +kernel
theorem dX2_passStatement_134 : decode cX2_passStatement 134 = .ok (.getfield 20, 3) := by decide +kernel
theorem dX2_passStatement_137 : decode cX2_passStatement 137 = .ok (.iconst 1, 1) := by decide +kernel
theorem dX2_passStatement_138 : decode cX2_passStatement 138 = .ok (.iadd, 1) := by decide +kernel
theorem dX2_passStatement_139 : decode cX2_passStatement 139 = .ok (.putfield 20, 3) := by decide +kernel
theorem dX2_passStatement_142 : decode cX2_passStatement 142 = .ok (.aload_n 0, 1) := by decide +kernel
theorem dX2_passStatement_143 : decode cX2_passStatement 143 = .ok (.getfield 14, 3) := by decide +kernel
theorem dX2_passStatement_146 : decode cX2_passStatement 146 = .ok (.aload_n 0, 1) := by decide +kernel
theorem dX2_passStatement_147 : decode cX2_passStatement 147 = .ok (.getfield 20, 3) := by decide +kernel
theorem dX2_passStatement_150 : decode cX2_passStatement 150 = .ok (.invokevirtual 35, 3) := by decide +kernel
theorem dX2_passStatement_153 : decode cX2_passStatement 153 = .ok (.bipush 59, 2) := by decide +kernel
theorem dX2_passStatement_155 : decode cX2_passStatement 155 = .ok (.if_icmp .eq 5, 3) := by decide +kernel
theorem dX2_passStatement_158 : decode cX2_passStatement 158 = .ok (.iconst 0, 1) := by decide +kernel
theorem dX2_passStatement_159 : decode cX2_passStatement 159 = .ok (.ireturn, 1) := by decide +kernel
theorem dX2_passStatement_160 : decode cX2_passStatement 160 = .ok (.aload_n 0, 1) := by decide +kernel
theorem dX2_passStatement_161 : decode cX2_passStatement 161 = .ok (.dup, 1) := by decide +kernel
theorem dX2_passStatement_162 : decode cX2_passStatement 162 = .ok (.getfield 20, 3) := by decide +kernel
theorem dX2_passStatement_165 : decode cX2_passStatement 165 = .ok (.iconst 1, 1) := by decide +kernel
theorem dX2_passStatement_166 : decode cX2_passStatement 166 = .ok (.iadd, 1) := by decide +kernel
theorem dX2_passStatement_167 : decode cX2_passStatement 167 = .ok (.putfield 20, 3) := by decide +kernel
theorem dX2_passStatement_170 : decode cX2_passStatement 170 = .ok (.iconst 1, 1) := by decide +kernel
theorem dX2_passStatement_171 : decode cX2_passStatement 171 = .ok (.ireturn, 1) := by decide +kernel
theorem dX2_lettersBehind_0 : decode cX2_lettersBehind 0 = .ok (.iload_n 0, 1) := by decide +kernel
theorem dX2_lettersBehind_1 : decode cX2_lettersBehind 1 = .ok (.tableswitch 91 104 120 #[87, 91, 91, 91, 87, 87, 91, 91, 83, 91, 89, 91, 91, 91, 91, 89, 85], 83) := by decide +kernel
theorem dX2_lettersBehind_84 : decode cX2_lettersBehind 84 = .ok (.iconst 3, 1) := by decide +kernel
theorem dX2_lettersBehind_85 : decode cX2_lettersBehind 85 = .ok (.ireturn, 1) := by decide +kernel
theorem dX2_lettersBehind_86 : decode cX2_lettersBehind 86 = .ok (.iconst 2, 1) := by decide +kernel
theorem dX2_lettersBehind_87 : decode cX2_lettersBehind 87 = .ok (.ireturn, 1) := by decide +kernel
theorem dX2_lettersBehind_88 : decode cX2_lettersBehind 88 = .ok (.iconst 1, 1) := by decide +kernel
theorem dX2_lettersBehind_89 : decode cX2_lettersBehind 89 = .ok (.ireturn, 1) := by decide +kernel
theorem dX2_lettersBehind_90 : decode cX2_lettersBehind 90 = .ok (.iconst 0, 1) := by decide +kernel
theorem dX2_lettersBehind_91 : decode cX2_lettersBehind 91 = .ok (.ireturn, 1) := by decide +kernel
theorem dX2_lettersBehind_92 : decode cX2_lettersBehind 92 = .ok (.iconst (-1), 1) := by decide +kernel
theorem dX2_lettersBehind_93 : decode cX2_lettersBehind 93 = .ok (.ireturn, 1) := by decide +kernel
theorem dX2_isDigit_0 : decode cX2_isDigit 0 = .ok (.iload_n 0, 1) := by decide +kernel
theorem dX2_isDigit_1 : decode cX2_isDigit 1 = .ok (.bipush 48, 2) := by decide +kernel
theorem dX2_isDigit_3 : decode cX2_isDigit 3 = .ok (.if_icmp .lt 13, 3) := by decide +kernel
theorem dX2_isDigit_6 : decode cX2_isDigit 6 = .ok (.iload_n 0, 1) := by decide +kernel
theorem dX2_isDigit_7 : decode cX2_isDigit 7 = .ok (.bipush 57, 2) := by decide +kernel
theorem dX2_isDigit_9 : decode cX2_isDigit 9 = .ok (.if_icmp .gt 7, 3) := by decide +kernel
theorem dX2_isDigit_12 : decode cX2_isDigit 12 = .ok (.iconst 1, 1) := by decide +kernel
theorem dX2_isDigit_13 : decode cX2_isDigit 13 = .ok (.goto 4, 3) := by decide +kernel
theorem dX2_isDigit_16 : decode cX2_isDigit 16 = .ok (.iconst 0, 1) := by decide +kernel
theorem dX2_isDigit_17 : decode cX2_isDigit 17 = .ok (.ireturn, 1) := by decide +kernel
theorem dX2_digitAt_0 : decode cX2_digitAt 0 = .ok (.aload_n 0, 1) := by decide +kernel
theorem dX2_digitAt_1 : decode cX2_digitAt 1 = .ok (.getfield 14, 3) := by decide +kernel
theorem dX2_digitAt_4 : decode cX2_digitAt 4 = .ok (.iload_n 1, 1) := by decide +kernel
theorem dX2_digitAt_5 : decode cX2_digitAt 5 = .ok (.invokevirtual 35, 3) := by decide +kernel
theorem dX2_digitAt_8 : decode cX2_digitAt 8 = .ok (.bipush 48, 2) := by decide +kernel
theorem dX2_digitAt_10 : decode cX2_digitAt 10 = .ok (.isub, 1) := by decide +kernel
theorem dX2_digitAt_11 : decode cX2_digitAt 11 = .ok (.ireturn, 1) := by decide +kernel
theorem dX2_kindOf_0 : decode cX2_kindOf 0 = .ok (.iconst 0, 1) := by decide +kernel
theorem dX2_kindOf_1 : decode cX2_kindOf 1 = .ok (.istore_n 1, 1) := by decide +kernel
theorem dX2_kindOf_2 : decode cX2_kindOf 2 = .ok (.iload_n 1, 1) := by decide +kernel
theorem dX2_kindOf_3 : decode cX2_kindOf 3 = .ok (.getstatic 49, 3) := by decide +kernel
theorem dX2_kindOf_6 : decode cX2_kindOf 6 = .ok (.arraylength, 1) := by decide +kernel
theorem dX2_kindOf_7 : decode cX2_kindOf 7 = .ok (.if_icmp .ge 20, 3) := by decide +kernel
theorem dX2_kindOf_10 : decode cX2_kindOf 10 = .ok (.getstatic 49, 3) := by decide +kernel
theorem dX2_kindOf_13 : decode cX2_kindOf 13 = .ok (.iload_n 1, 1) := by decide +kernel
theorem dX2_kindOf_14 : decode cX2_kindOf 14 = .ok (.caload, 1) := by decide +kernel
theorem dX2_kindOf_15 : decode cX2_kindOf 15 = .ok (.iload_n 0, 1) := by decide +kernel
theorem dX2_kindOf_16 : decode cX2_kindOf 16 = .ok (.if_icmp .ne 5, 3) := by decide +kernel
theorem dX2_kindOf_19 : decode cX2_kindOf 19 = .ok (.iload_n 1, 1) := by decide +kernel
theorem dX2_kindOf_20 : decode cX2_kindOf 20 = .ok (.ireturn, 1) := by decide +kernel
theorem dX2_kindOf_21 : decode cX2_kindOf 21 = .ok (.iinc 1 1, 3) := by decide +kernel
theorem dX2_kindOf_24 : decode cX2_kindOf 24 = .ok (.goto (-22), 3) := by decide +kernel
theorem dX2_kindOf_27 : decode cX2_kindOf 27 = .ok (.iconst (-1), 1) := by decide +kernel
theorem dX2_kindOf_28 : decode cX2_kindOf 28 = .ok (.ireturn, 1) := by decide +kernel
theorem dX2_tell_0 : decode cX2_tell 0 = .ok (.aload_n 0, 1) := by decide +kernel
theorem dX2_tell_1 : decode cX2_tell 1 = .ok (.aload_n 0, 1) := by decide +kernel
theorem dX2_tell_2 : decode cX2_tell 2 = .ok (.getfield 20, 3) := by decide +kernel
theorem dX2_tell_5 : decode cX2_tell 5 = .ok (.iconst 1, 1) := by decide +kernel
theorem dX2_tell_6 : decode cX2_tell 6 = .ok (.iadd, 1) := by decide +kernel
theorem dX2_tell_7 : decode cX2_tell 7 = .ok (.invokevirtual 53, 3) := by decide +kernel
theorem dX2_tell_10 : decode cX2_tell 10 = .ok (.istore_n 2, 1) := by decide +kernel
theorem dX2_tell_11 : decode cX2_tell 11 = .ok (.aload_n 0, 1) := by decide +kernel
theorem dX2_tell_12 : decode cX2_tell 12 = .ok (.getfield 14, 3) := by decide +kernel
theorem dX2_tell_15 : decode cX2_tell 15 = .ok (.aload_n 0, 1) := by decide +kernel
theorem dX2_tell_16 : decode cX2_tell 16 = .ok (.getfield 20, 3) := by decide +kernel
theorem dX2_tell_19 : decode cX2_tell 19 = .ok (.invokevirtual 35, 3) := by decide +kernel
theorem dX2_tell_22 : decode cX2_tell 22 = .ok (.tableswitch 165 104 120 #[123, 165, 165, 165, 129, 165, 165, 165, 82, 165, 135, 165, 165, 165, 165, 142, 149], 82) := by decide +kernel
theorem dX2_tell_104 : decode cX2_tell 104 = .ok (.aload_n 1, 1) := by decide +kernel
theorem dX2_tell_105 : decode cX2_tell 105 = .ok (.aload_n 0, 1) := by decide +kernel
theorem dX2_tell_106 : decode cX2_tell 106 = .ok (.getfield 14, 3) := by decide +kernel
theorem dX2_tell_109 : decode cX2_tell 109 = .ok (.aload_n 0, 1) := by decide +kernel
theorem dX2_tell_110 : decode cX2_tell 110 = .ok (.getfield 20, 3) := by decide +kernel
theorem dX2_tell_113 : decode cX2_tell 113 = .ok (.iconst 1, 1) := by decide +kernel
theorem dX2_tell_114 : decode cX2_tell 114 = .ok (.iadd, 1) := by decide +kernel
theorem dX2_tell_115 : decode cX2_tell 115 = .ok (.invokevirtual 35, 3) := by decide +kernel
theorem dX2_tell_118 : decode cX2_tell 118 = .ok (.invokestatic 42, 3) := by decide +kernel
theorem dX2_tell_121 : decode cX2_tell 121 = .ok (.aload_n 0, 1) := by decide +kernel
theorem dX2_tell_122 : decode cX2_tell 122 = .ok (.aload_n 0, 1) := by decide +kernel
theorem dX2_tell_123 : decode cX2_tell 123 = .ok (.getfield 20, 3) := by decide +kernel
theorem dX2_tell_126 : decode cX2_tell 126 = .ok (.iconst 2, 1) := by decide +kernel
theorem dX2_tell_127 : decode cX2_tell 127 = .ok (.iadd, 1) := by decide +kernel
theorem dX2_tell_128 : decode cX2_tell 128 = .ok (.invokevirtual 53, 3) := by decide +kernel
theorem dX2_tell_131 : decode cX2_tell 131 = .ok (.aload_n 0, 1) := by decide +kernel
theorem dX2_tell_132 : decode cX2_tell 132 = .ok (.aload_n 0, 1) := by decide +kernel
theorem dX2_tell_133 : decode cX2_tell 133 = .ok (.getfield 20, 3) := by decide +kernel
theorem dX2_tell_136 : decode cX2_tell 136 = .ok (.iconst 3, 1) := by decide +kernel
theorem dX2_tell_137 : decode cX2_tell 137 = .ok (.iadd, 1) := by decide +kernel
theorem dX2_tell_138 : decode cX2_tell 138 = .ok (.invokevirtual 53, 3) := by decide +kernel
theorem dX2_tell_141 : decode cX2_tell 141 = .ok (.invokevirtual 56, 3) := by decide +kernel
theorem dX2_tell_144 : decode cX2_tell 144 = .ok (.ireturn, 1) := by decide +kernel
theorem dX2_tell_145 : decode cX2_tell 145 = .ok (.aload_n 1, 1) := by decide +kernel
theorem dX2_tell_146 : decode cX2_tell 146 = .ok (.iload_n 2, 1) := by decide +kernel
theorem dX2_tell_147 : decode cX2_tell 147 = .ok (.invokevirtual 62, 3) := by decide +kernel
theorem dX2_tell_150 : decode cX2_tell 150 = .ok (.ireturn, 1) := by decide +kernel
theorem dX2_tell_151 : decode cX2_tell 151 = .ok (.aload_n 1, 1) := by decide +kernel
theorem dX2_tell_152 : decode cX2_tell 152 = .ok (.iload_n 2, 1) := by decide +kernel
theorem dX2_tell_153 : decode cX2_tell 153 = .ok (.invokestatic 65, 3) := by decide +kernel
theorem dX2_tell_156 : decode cX2_tell 156 = .ok (.ireturn, 1) := by decide +kernel
theorem dX2_tell_157 : decode cX2_tell 157 = .ok (.aload_n 1, 1) := by decide +kernel
theorem dX2_tell_158 : decode cX2_tell 158 = .ok (.iconst 1, 1) := by decide +kernel
theorem dX2_tell_159 : decode cX2_tell 159 = .ok (.invokevirtual 69, 3) := by decide +kernel
theorem dX2_tell_162 : decode cX2_tell 162 = .ok (.iconst 1, 1) := by decide +kernel
theorem dX2_tell_163 : decode cX2_tell 163 = .ok (.ireturn, 1) := by decide +kernel
theorem dX2_tell_164 : decode cX2_tell 164 = .ok (.aload_n 1, 1) := by decide +kernel
theorem dX2_tell_165 : decode cX2_tell 165 = .ok (.iconst 0, 1) := by decide +kernel
theorem dX2_tell_166 : decode cX2_tell 166 = .ok (.invokevirtual 69, 3) := by decide +kernel
theorem dX2_tell_169 : decode cX2_tell 169 = .ok (.iconst 1, 1) := by decide +kernel
theorem dX2_tell_170 : decode cX2_tell 170 = .ok (.ireturn, 1) := by decide +kernel
theorem dX2_tell_171 : decode cX2_tell 171 = .ok (.aload_n 1, 1) := by decide +kernel
theorem dX2_tell_172 : decode cX2_tell 172 = .ok (.iload_n 2, 1) := by decide +kernel
theorem dX2_tell_173 : decode cX2_tell 173 = .ok (.aload_n 0, 1) := by decide +kernel
theorem dX2_tell_174 : decode cX2_tell 174 = .ok (.aload_n 0, 1) := by decide +kernel
theorem dX2_tell_175 : decode cX2_tell 175 = .ok (.getfield 20, 3) := by decide +kernel
theorem dX2_tell_178 : decode cX2_tell 178 = .ok (.iconst 2, 1) := by decide +kernel
theorem dX2_tell_179 : decode cX2_tell 179 = .ok (.iadd, 1) := by decide +kernel
theorem dX2_tell_180 : decode cX2_tell 180 = .ok (.invokevirtual 53, 3) := by decide +kernel
theorem dX2_tell_183 : decode cX2_tell 183 = .ok (.invokestatic 73, 3) := by decide +kernel
theorem dX2_tell_186 : decode cX2_tell 186 = .ok (.ireturn, 1) := by decide +kernel
theorem dX2_tell_187 : decode cX2_tell 187 = .ok (.aload_n 1, 1) := by decide +kernel
theorem dX2_tell_188 : decode cX2_tell 188 = .ok (.aload_n 0, 1) := by decide +kernel
theorem dX2_tell_189 : decode cX2_tell 189 = .ok (.getfield 14, 3) := by decide +kernel
theorem dX2_tell_192 : decode cX2_tell 192 = .ok (.aload_n 0, 1) := by decide +kernel
theorem dX2_tell_193 : decode cX2_tell 193 = .ok (.getfield 20, 3) := by decide +kernel
theorem dX2_tell_196 : decode cX2_tell 196 = .ok (.iconst 2, 1) := by decide +kernel
theorem dX2_tell_197 : decode cX2_tell 197 = .ok (.iadd, 1) := by decide +kernel
theorem dX2_tell_198 : decode cX2_tell 198 = .ok (.invokevirtual 35, 3) := by decide +kernel
theorem dX2_tell_201 : decode cX2_tell 201 = .ok (.invokestatic 45, 3) := by decide +kernel
theorem dX2_tell_204 : decode cX2_tell 204 = .ok (.ifCond .eq 21, 3) := by decide +kernel
theorem dX2_tell_207 : decode cX2_tell 207 = .ok (.iload_n 2, 1) := by decide +kernel
theorem dX2_tell_208 : decode cX2_tell 208 = .ok (.bipush 10, 2) := by decide +kernel
theorem dX2_tell_210 : decode cX2_tell 210 = .ok (.imul, 1) := by decide +kernel
theorem dX2_tell_211 : decode cX2_tell 211 = .ok (.aload_n 0, 1) := by decide +kernel
theorem dX2_tell_212 : decode cX2_tell 212 = .ok (.aload_n 0, 1) := by decide +kernel
theorem dX2_tell_213 : decode cX2_tell 213 = .ok (.getfield 20, 3) := by decide +kernel
theorem dX2_tell_216 : decode cX2_tell 216 = .ok (.iconst 2, 1) := by decide +kernel
theorem dX2_tell_217 : decode cX2_tell 217 = .ok (.iadd, 1) := by decide +kernel
theorem dX2_tell_218 : decode cX2_tell 218 = .ok (.invokevirtual 53, 3) := by decide +kernel
theorem dX2_tell_221 : decode cX2_tell 221 = .ok (.iadd, 1) := by decide +kernel
theorem dX2_tell_222 : decode cX2_tell 222 = .ok (.goto 4, 3) := by decide +kernel
theorem dX2_tell_225 : decode cX2_tell 225 = .ok (.iload_n 2, 1) := by decide +kernel
theorem dX2_tell_226 : decode cX2_tell 226 = .ok (.putfield 77, 3) := by decide +kernel
theorem dX2_tell_229 : decode cX2_tell 229 = .ok (.iconst 1, 1) := by decide +kernel
theorem dX2_tell_230 : decode cX2_tell 230 = .ok (.ireturn, 1) := by decide +kernel
theorem dX2_tellLaw_0 : decode cX2_tellLaw 0 = .ok (.iload_n 1, 1) := by decide +kernel
theorem dX2_tellLaw_1 : decode cX2_tellLaw 1 = .ok (.invokestatic 80, 3) := by decide +kernel
theorem dX2_tellLaw_4 : decode cX2_tellLaw 4 = .ok (.ifCond .ne 5, 3) := by decide +kernel
theorem dX2_tellLaw_7 : decode cX2_tellLaw 7 = .ok (.iconst 0, 1) := by decide +kernel
theorem dX2_tellLaw_8 : decode cX2_tellLaw 8 = .ok (.ireturn, 1) := by decide +kernel
theorem dX2_tellLaw_9 : decode cX2_tellLaw 9 = .ok (.aload_n 0, 1) := by decide +kernel
theorem dX2_tellLaw_10 : decode cX2_tellLaw 10 = .ok (.iload_n 1, 1) := by decide +kernel
theorem dX2_tellLaw_11 : decode cX2_tellLaw 11 = .ok (.putfield 83, 3) := by decide +kernel
theorem dX2_tellLaw_14 : decode cX2_tellLaw 14 = .ok (.iconst 1, 1) := by decide +kernel
theorem dX2_tellLaw_15 : decode cX2_tellLaw 15 = .ok (.ireturn, 1) := by decide +kernel
theorem dX2_tellChange_0 : decode cX2_tellChange 0 = .ok (.aload_n 0, 1) := by decide +kernel
theorem dX2_tellChange_1 : decode cX2_tellChange 1 = .ok (.iload_n 1, 1) := by decide +kernel
theorem dX2_tellChange_2 : decode cX2_tellChange 2 = .ok (.invokevirtual 86, 3) := by decide +kernel
theorem dX2_tellChange_5 : decode cX2_tellChange 5 = .ok (.ifCond .eq 16, 3) := by decide +kernel
theorem dX2_tellChange_8 : decode cX2_tellChange 8 = .ok (.aload_n 0, 1) := by decide +kernel
theorem dX2_tellChange_9 : decode cX2_tellChange 9 = .ok (.iload_n 2, 1) := by decide +kernel
theorem dX2_tellChange_10 : decode cX2_tellChange 10 = .ok (.invokevirtual 86, 3) := by decide +kernel
theorem dX2_tellChange_13 : decode cX2_tellChange 13 = .ok (.ifCond .eq 8, 3) := by decide +kernel
theorem dX2_tellChange_16 : decode cX2_tellChange 16 = .ok (.iload_n 1, 1) := by decide +kernel
theorem dX2_tellChange_17 : decode cX2_tellChange 17 = .ok (.iload_n 2, 1) := by decide +kernel
theorem dX2_tellChange_18 : decode cX2_tellChange 18 = .ok (.if_icmp .ne 5, 3) := by decide +kernel
theorem dX2_tellChange_21 : decode cX2_tellChange 21 = .ok (.iconst 0, 1) := by decide +kernel
theorem dX2_tellChange_22 : decode cX2_tellChange 22 = .ok (.ireturn, 1) := by decide +kernel
theorem dX2_tellChange_23 : decode cX2_tellChange 23 = .ok (.aload_n 0, 1) := by decide +kernel
theorem dX2_tellChange_24 : decode cX2_tellChange 24 = .ok (.iload_n 1, 1) := by decide +kernel
theorem dX2_tellChange_25 : decode cX2_tellChange 25 = .ok (.iload_n 2, 1) := by decide +kernel
theorem dX2_tellChange_26 : decode cX2_tellChange 26 = .ok (.invokevirtual 89, 3) := by decide +kernel
theorem dX2_tellChange_29 : decode cX2_tellChange 29 = .ok (.iconst 1, 1) := by decide +kernel
theorem dX2_tellChange_30 : decode cX2_tellChange 30 = .ok (.ireturn, 1) := by decide +kernel
theorem dX3_init_0 : decode cX3_init 0 = .ok (.aload_n 0, 1) := by decide +kernel
theorem dX3_init_1 : decode cX3_init 1 = .ok (.invokespecial 3, 3) := by decide +kernel
theorem dX3_init_4 : decode cX3_init 4 = .ok (.aload_n 0, 1) := by decide +kernel
theorem dX3_init_5 : decode cX3_init 5 = .ok (.iconst 0, 1) := by decide +kernel
theorem dX3_init_6 : decode cX3_init 6 = .ok (.putfield 9, 3) := by decide +kernel
theorem dX3_init_9 : decode cX3_init 9 = .ok (.aload_n 0, 1) := by decide +kernel
theorem dX3_init_10 : decode cX3_init 10 = .ok (.iconst 2, 1) := by decide +kernel
theorem dX3_init_11 : decode cX3_init 11 = .ok (.putfield 15, 3) := by decide +kernel
theorem dX3_init_14 : decode cX3_init 14 = .ok (.aload_n 0, 1) := by decide +kernel
theorem dX3_init_15 : decode cX3_init 15 = .ok (.iconst 1, 1) := by decide +kernel
theorem dX3_init_16 : decode cX3_init 16 = .ok (.putfield 18, 3) := by decide +kernel
theorem dX3_init_19 : decode cX3_init 19 = .ok (.aload_n 0, 1) := by decide +kernel
theorem dX3_init_20 : decode cX3_init 20 = .ok (.bipush 10, 2) := by decide +kernel
theorem dX3_init_22 : decode cX3_init 22 = .ok (.putfield 21, 3) := by decide +kernel
theorem dX3_init_25 : decode cX3_init 25 = .ok (.aload_n 0, 1) := by decide +kernel
theorem dX3_init_26 : decode cX3_init 26 = .ok (.iconst 0, 1) := by decide +kernel
theorem dX3_init_27 : decode cX3_init 27 = .ok (.putfield 24, 3) := by decide +kernel
theorem dX3_init_30 : decode cX3_init 30 = .ok (.aload_n 0, 1) := by decide +kernel
theorem dX3_init_31 : decode cX3_init 31 = .ok (.iconst 1, 1) := by decide +kernel
theorem dX3_init_32 : decode cX3_init 32 = .ok (.putfield 27, 3) := by decide +kernel
theorem dX3_init_35 : decode cX3_init 35 = .ok (.aload_n 0, 1) := by decide +kernel
theorem dX3_init_36 : decode cX3_init 36 = .ok (.bipush 6, 2) := by decide +kernel
theorem dX3_init_38 : decode cX3_init 38 = .ok (.newarray .int, 2) := by decide +kernel
theorem dX3_init_40 : decode cX3_init 40 = .ok (.putfield 31, 3) := by decide +kernel
theorem dX3_init_43 : decode cX3_init 43 = .ok (.aload_n 0, 1) := by decide +kernel
theorem dX3_init_44 : decode cX3_init 44 = .ok (.bipush 6, 2) := by decide +kernel
theorem dX3_init_46 : decode cX3_init 46 = .ok (.newarray .int, 2) := by decide +kernel
theorem dX3_init_48 : decode cX3_init 48 = .ok (.putfield 35, 3) := by decide +kernel
theorem dX3_init_51 : decode cX3_init 51 = .ok (.aload_n 0, 1) := by decide +kernel
theorem dX3_init_52 : decode cX3_init 52 = .ok (.bipush 6, 2) := by decide +kernel
theorem dX3_init_54 : decode cX3_init 54 = .ok (.newarray .int, 2) := by decide +kernel
theorem dX3_init_56 : decode cX3_init 56 = .ok (.putfield 38, 3) := by decide +kernel
theorem dX3_init_59 : decode cX3_init 59 = .ok (.aload_n 0, 1) := by decide +kernel
theorem dX3_init_60 : decode cX3_init 60 = .ok (.bipush 6, 2) := by decide +kernel
theorem dX3_init_62 : decode cX3_init 62 = .ok (.newarray .int, 2) := by decide +kernel
theorem dX3_init_64 : decode cX3_init 64 = .ok (.putfield 41, 3) := by decide +kernel
theorem dX3_init_67 : decode cX3_init 67 = .ok (.aload_n 0, 1) := by decide +kernel
theorem dX3_init_68 : decode cX3_init 68 = .ok (.bipush 6, 2) := by decide +kernel
theorem dX3_init_70 : decode cX3_init 70 = .ok (.newarray .int, 2) := by decide +kernel
theorem dX3_init_72 : decode cX3_init 72 = .ok (.putfield 44, 3) := by decide +kernel
theorem dX3_init_75 : decode cX3_init 75 = .ok (.aload_n 0, 1) := by decide +kernel
theorem dX3_init_76 : decode cX3_init 76 = .ok (.bipush 6, 2) := by decide +kernel
theorem dX3_init_78 : decode cX3_init 78 = .ok (.newarray .int, 2) := by decide +kernel
theorem dX3_init_80 : decode cX3_init 80 = .ok (.putfield 47, 3) := by decide +kernel
theorem dX3_init_83 : decode cX3_init 83 = .ok (.aload_n 0, 1) := by decide +kernel
theorem dX3_init_84 : decode cX3_init 84 = .ok (.bipush 6, 2) := by decide +kernel
theorem dX3_init_86 : decode cX3_init 86 = .ok (.newarray .int, 2) := by decide +kernel
theorem dX3_init_88 : decode cX3_init 88 = .ok (.putfield 50, 3) := by decide +kernel
theorem dX3_init_91 : decode cX3_init 91 = .ok (.aload_n 0, 1) := by decide +kernel
theorem dX3_init_92 : decode cX3_init 92 = .ok (.bipush 6, 2) := by decide +kernel
theorem dX3_init_94 : decode cX3_init 94 = .ok (.newarray .int, 2) := by decide +kernel
theorem dX3_init_96 : decode cX3_init 96 = .ok (.putfield 53, 3) := by decide +kernel
theorem dX3_init_99 : decode cX3_init 99 = .ok (.aload_n 0, 1) := by decide +kernel
theorem dX3_init_100 : decode cX3_init 100 = .ok (.bipush 6, 2) := by decide +kernel
theorem dX3_init_102 : decode cX3_init 102 = .ok (.newarray .int, 2) := by decide +kernel
theorem dX3_init_104 : decode cX3_init 104 = .ok (.putfield 56, 3) := by decide +kernel
theorem dX3_init_107 : decode cX3_init 107 = .ok (.aload_n 0, 1) := by decide +kernel
theorem dX3_init_108 : decode cX3_init 108 = .ok (.bipush 6, 2) := by decide +kernel
theorem dX3_init_110 : decode cX3_init 110 = .ok (.newarray .int, 2) := by decide +kernel
theorem dX3_init_112 : decode cX3_init 112 = .ok (.putfield 59, 3) := by decide +kernel
theorem dX3_init_115 : decode cX3_init 115 = .ok (.return_, 1) := by decide +kernel
theorem dX3_copyFrom_0 : decode cX3_copyFrom 0 = .ok (.aload_n 0, 1) := by decide +kernel
theorem dX3_copyFrom_1 : decode cX3_copyFrom 1 = .ok (.aload_n 1, 1) := by decide +kernel
theorem dX3_copyFrom_2 : decode cX3_copyFrom 2 = .ok (.getfield 9, 3) := by decide +kernel
theorem dX3_copyFrom_5 : decode cX3_copyFrom 5 = .ok (.putfield 9, 3) := by decide +kernel
theorem dX3_copyFrom_8 : decode cX3_copyFrom 8 = .ok (.aload_n 0, 1) := by decide +kernel
theorem dX3_copyFrom_9 : decode cX3_copyFrom 9 = .ok (.aload_n 1, 1) := by decide +kernel
theorem dX3_copyFrom_10 : decode cX3_copyFrom 10 = .ok (.getfield 15, 3) := by decide +kernel
theorem dX3_copyFrom_13 : decode cX3_copyFrom 13 = .ok (.putfield 15, 3) := by decide +kernel
theorem dX3_copyFrom_16 : decode cX3_copyFrom 16 = .ok (.aload_n 0, 1) := by decide +kernel
theorem dX3_copyFrom_17 : decode cX3_copyFrom 17 = .ok (.aload_n 1, 1) := by decide +kernel
theorem dX3_copyFrom_18 : decode cX3_copyFrom 18 = .ok (.getfield 18, 3) := by decide +kernel
theorem dX3_copyFrom_21 : decode cX3_copyFrom 21 = .ok (.putfield 18, 3) := by decide +kernel
theorem dX3_copyFrom_24 : decode cX3_copyFrom 24 = .ok (.aload_n 0, 1) := by decide +kernel
theorem dX3_copyFrom_25 : decode cX3_copyFrom 25 = .ok (.aload_n 1, 1) := by decide +kernel
theorem dX3_copyFrom_26 : decode cX3_copyFrom 26 = .ok (.getfield 21, 3) := by decide +kernel
theorem dX3_copyFrom_29 : decode cX3_copyFrom 29 = .ok (.putfield 21, 3) := by decide +kernel
theorem dX3_copyFrom_32 : decode cX3_copyFrom 32 = .ok (.aload_n 0, 1) := by decide +kernel
theorem dX3_copyFrom_33 : decode cX3_copyFrom 33 = .ok (.aload_n 1, 1) := by decide +kernel
theorem dX3_copyFrom_34 : decode cX3_copyFrom 34 = .ok (.getfield 24, 3) := by decide +kernel
theorem dX3_copyFrom_37 : decode cX3_copyFrom 37 = .ok (.putfield 24, 3) := by decide +kernel
theorem dX3_copyFrom_40 : decode cX3_copyFrom 40 = .ok (.aload_n 0, 1) := by decide +kernel
theorem dX3_copyFrom_41 : decode cX3_copyFrom 41 = .ok (.aload_n 1, 1) := by decide +kernel
theorem dX3_copyFrom_42 : decode cX3_copyFrom 42 = .ok (.getfield 27, 3) := by decide +kernel
theorem dX3_copyFrom_45 : decode cX3_copyFrom 45 = .ok (.putfield 27, 3) := by decide +kernel
theorem dX3_copyFrom_48 : decode cX3_copyFrom 48 = .ok (.aload_n 1, 1) := by decide +kernel
theorem dX3_copyFrom_49 : decode cX3_copyFrom 49 = .ok (.getfield 31, 3) := by decide +kernel
theorem dX3_copyFrom_52 : decode cX3_copyFrom 52 = .ok (.iconst 0, 1) := by decide +kernel
theorem dX3_copyFrom_53 : decode cX3_copyFrom 53 = .ok (.aload_n 0, 1) := by decide +kernel
theorem dX3_copyFrom_54 : decode cX3_copyFrom 54 = .ok (.getfield 31, 3) := by decide +kernel
theorem dX3_copyFrom_57 : decode cX3_copyFrom 57 = .ok (.iconst 0, 1) := by decide +kernel
theorem dX3_copyFrom_58 : decode cX3_copyFrom 58 = .ok (.bipush 6, 2) := by decide +kernel
theorem dX3_copyFrom_60 : decode cX3_copyFrom 60 = .ok (.invokestatic 62, 3) := by decide +kernel
theorem dX3_copyFrom_63 : decode cX3_copyFrom 63 = .ok (.aload_n 1, 1) := by decide +kernel
theorem dX3_copyFrom_64 : decode cX3_copyFrom 64 = .ok (.getfield 35, 3) := by decide +kernel
theorem dX3_copyFrom_67 : decode cX3_copyFrom 67 = .ok (.iconst 0, 1) := by decide +kernel
theorem dX3_copyFrom_68 : decode cX3_copyFrom 68 = .ok (.aload_n 0, 1) := by decide +kernel
theorem dX3_copyFrom_69 : decode cX3_copyFrom 69 = .ok (.getfield 35, 3) := by decide +kernel
theorem dX3_copyFrom_72 : decode cX3_copyFrom 72 = .ok (.iconst 0, 1) := by decide +kernel
theorem dX3_copyFrom_73 : decode cX3_copyFrom 73 = .ok (.bipush 6, 2) := by decide +kernel
theorem dX3_copyFrom_75 : decode cX3_copyFrom 75 = .ok (.invokestatic 62, 3) := by decide +kernel
theorem dX3_copyFrom_78 : decode cX3_copyFrom 78 = .ok (.aload_n 1, 1) := by decide +kernel
theorem dX3_copyFrom_79 : decode cX3_copyFrom 79 = .ok (.getfield 38, 3) := by decide +kernel
theorem dX3_copyFrom_82 : decode cX3_copyFrom 82 = .ok (.iconst 0, 1) := by decide +kernel
theorem dX3_copyFrom_83 : decode cX3_copyFrom 83 = .ok (.aload_n 0, 1) := by decide +kernel
theorem dX3_copyFrom_84 : decode cX3_copyFrom 84 = .ok (.getfield 38, 3) := by decide +kernel
theorem dX3_copyFrom_87 : decode cX3_copyFrom 87 = .ok (.iconst 0, 1) := by decide +kernel
theorem dX3_copyFrom_88 : decode cX3_copyFrom 88 = .ok (.bipush 6, 2) := by decide +kernel
theorem dX3_copyFrom_90 : decode cX3_copyFrom 90 = .ok (.invokestatic 62, 3) := by decide +kernel
theorem dX3_copyFrom_93 : decode cX3_copyFrom 93 = .ok (.aload_n 1, 1) := by decide +kernel
theorem dX3_copyFrom_94 : decode cX3_copyFrom 94 = .ok (.getfield 41, 3) := by decide +kernel
theorem dX3_copyFrom_97 : decode cX3_copyFrom 97 = .ok (.iconst 0, 1) := by decide +kernel
theorem dX3_copyFrom_98 : decode cX3_copyFrom 98 = .ok (.aload_n 0, 1) := by decide +kernel
theorem dX3_copyFrom_99 : decode cX3_copyFrom 99 = .ok (.getfield 41, 3) := by decide +kernel
theorem dX3_copyFrom_102 : decode cX3_copyFrom 102 = .ok (.iconst 0, 1) := by decide +kernel
theorem dX3_copyFrom_103 : decode cX3_copyFrom 103 = .ok (.bipush 6, 2) := by decide +kernel
theorem dX3_copyFrom_105 : decode cX3_copyFrom 105 = .ok (.invokestatic 62, 3) := by decide +kernel
theorem dX3_copyFrom_108 : decode cX3_copyFrom 108 = .ok (.aload_n 1, 1) := by decide +kernel
theorem dX3_copyFrom_109 : decode cX3_copyFrom 109 = .ok (.getfield 44, 3) := by decide +kernel
theorem dX3_copyFrom_112 : decode cX3_copyFrom 112 = .ok (.iconst 0, 1) := by decide +kernel
theorem dX3_copyFrom_113 : decode cX3_copyFrom 113 = .ok (.aload_n 0, 1) := by decide +kernel
theorem dX3_copyFrom_114 : decode cX3_copyFrom 114 = .ok (.getfield 44, 3) := by decide +kernel
theorem dX3_copyFrom_117 : decode cX3_copyFrom 117 = .ok (.iconst 0, 1) := by decide +kernel
theorem dX3_copyFrom_118 : decode cX3_copyFrom 118 = .ok (.bipush 6, 2) := by decide +kernel
theorem dX3_copyFrom_120 : decode cX3_copyFrom 120 = .ok (.invokestatic 62, 3) := by decide +kernel
theorem dX3_copyFrom_123 : decode cX3_copyFrom 123 = .ok (.aload_n 1, 1) := by decide +kernel
theorem dX3_copyFrom_124 : decode cX3_copyFrom 124 = .ok (.getfield 47, 3) := by decide +kernel
theorem dX3_copyFrom_127 : decode cX3_copyFrom 127 = .ok (.iconst 0, 1) := by decide +kernel
theorem dX3_copyFrom_128 : decode cX3_copyFrom 128 = .ok (.aload_n 0, 1) := by decide +kernel
theorem dX3_copyFrom_129 : decode cX3_copyFrom 129 = .ok (.getfield 47, 3) := by decide +kernel
theorem dX3_copyFrom_132 : decode cX3_copyFrom 132 = .ok (.iconst 0, 1) := by decide +kernel
theorem dX3_copyFrom_133 : decode cX3_copyFrom 133 = .ok (.bipush 6, 2) := by decide +kernel
theorem dX3_copyFrom_135 : decode cX3_copyFrom 135 = .ok (.invokestatic 62, 3) := by decide +kernel
theorem dX3_copyFrom_138 : decode cX3_copyFrom 138 = .ok (.aload_n 1, 1) := by decide +kernel
theorem dX3_copyFrom_139 : decode cX3_copyFrom 139 = .ok (.getfield 50, 3) := by decide +kernel
theorem dX3_copyFrom_142 : decode cX3_copyFrom 142 = .ok (.iconst 0, 1) := by decide +kernel
theorem dX3_copyFrom_143 : decode cX3_copyFrom 143 = .ok (.aload_n 0, 1) := by decide +kernel
theorem dX3_copyFrom_144 : decode cX3_copyFrom 144 = .ok (.getfield 50, 3) := by decide +kernel
theorem dX3_copyFrom_147 : decode cX3_copyFrom 147 = .ok (.iconst 0, 1) := by decide +kernel
theorem dX3_copyFrom_148 : decode cX3_copyFrom 148 = .ok (.bipush 6, 2) := by decide +kernel
theorem dX3_copyFrom_150 : decode cX3_copyFrom 150 = .ok (.invokestatic 62, 3) := by decide +kernel
theorem dX3_copyFrom_153 : decode cX3_copyFrom 153 = .ok (.aload_n 1, 1) := by decide +kernel
theorem dX3_copyFrom_154 : decode cX3_copyFrom 154 = .ok (.getfield 53, 3) := by decide +kernel
theorem dX3_copyFrom_157 : decode cX3_copyFrom 157 = .ok (.iconst 0, 1) := by decide +kernel
theorem dX3_copyFrom_158 : decode cX3_copyFrom 158 = .ok (.aload_n 0, 1) := by decide +kernel
theorem dX3_copyFrom_159 : decode cX3_copyFrom 159 = .ok (.getfield 53, 3) := by decide +kernel
