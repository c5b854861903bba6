theorem dX8_statement_123 : decode cX8_statement 123 = .ok (.goto 4, 3) := by decide +kernel
theorem dX8_statement_126 : decode cX8_statement 126 = .ok (.iconst 1, 1) := by decide +kernel
theorem dX8_statement_127 : decode cX8_statement 127 = .ok (.invokevirtual 92, 3) := by decide +kernel
theorem dX8_statement_130 : decode cX8_statement 130 = .ok (.iastore, 1) := by decide +kernel
theorem dX8_statement_131 : decode cX8_statement 131 = .ok (.aload_n 0, 1) := by decide +kernel
theorem dX8_statement_132 : decode cX8_statement 132 = .ok (.getfield 79, 3) := by decide +kernel
theorem dX8_statement_135 : decode cX8_statement 135 = .ok (.ifCond .eq 41, 3) := by decide +kernel
theorem dX8_statement_138 : decode cX8_statement 138 = .ok (.aload_n 0, 1) := by decide +kernel
theorem dX8_statement_139 : decode cX8_statement 139 = .ok (.getfield 82, 3) := by decide +kernel
theorem dX8_statement_142 : decode cX8_statement 142 = .ok (.aload_n 0, 1) := by decide +kernel
theorem dX8_statement_143 : decode cX8_statement 143 = .ok (.getfield 75, 3) := by decide +kernel
theorem dX8_statement_146 : decode cX8_statement 146 = .ok (.if_icmp .ge 30, 3) := by decide +kernel
theorem dX8_statement_149 : decode cX8_statement 149 = .ok (.aload_n 0, 1) := by decide +kernel
theorem dX8_statement_150 : decode cX8_statement 150 = .ok (.getfield 25, 3) := by decide +kernel
theorem dX8_statement_153 : decode cX8_statement 153 = .ok (.aload_n 0, 1) := by decide +kernel
theorem dX8_statement_154 : decode cX8_statement 154 = .ok (.getfield 82, 3) := by decide +kernel
theorem dX8_statement_157 : decode cX8_statement 157 = .ok (.iaload, 1) := by decide +kernel
theorem dX8_statement_158 : decode cX8_statement 158 = .ok (.bipush 59, 2) := by decide +kernel
theorem dX8_statement_160 : decode cX8_statement 160 = .ok (.if_icmp .ne 16, 3) := by decide +kernel
theorem dX8_statement_163 : decode cX8_statement 163 = .ok (.aload_n 0, 1) := by decide +kernel
theorem dX8_statement_164 : decode cX8_statement 164 = .ok (.dup, 1) := by decide +kernel
theorem dX8_statement_165 : decode cX8_statement 165 = .ok (.getfield 82, 3) := by decide +kernel
theorem dX8_statement_168 : decode cX8_statement 168 = .ok (.iconst 1, 1) := by decide +kernel
theorem dX8_statement_169 : decode cX8_statement 169 = .ok (.iadd, 1) := by decide +kernel
theorem dX8_statement_170 : decode cX8_statement 170 = .ok (.putfield 82, 3) := by decide +kernel
theorem dX8_statement_173 : decode cX8_statement 173 = .ok (.goto 8, 3) := by decide +kernel
theorem dX8_statement_176 : decode cX8_statement 176 = .ok (.aload_n 0, 1) := by decide +kernel
theorem dX8_statement_177 : decode cX8_statement 177 = .ok (.iconst 0, 1) := by decide +kernel
theorem dX8_statement_178 : decode cX8_statement 178 = .ok (.putfield 79, 3) := by decide +kernel
theorem dX8_statement_181 : decode cX8_statement 181 = .ok (.return_, 1) := by decide +kernel
theorem dX8_isAsItMustBe_0 : decode cX8_isAsItMustBe 0 = .ok (.aload_n 0, 1) := by decide +kernel
theorem dX8_isAsItMustBe_1 : decode cX8_isAsItMustBe 1 = .ok (.getfield 89, 3) := by decide +kernel
theorem dX8_isAsItMustBe_4 : decode cX8_isAsItMustBe 4 = .ok (.tableswitch 136 0 5 #[40, 52, 78, 136, 136, 95], 40) := by decide +kernel
theorem dX8_isAsItMustBe_44 : decode cX8_isAsItMustBe 44 = .ok (.iload_n 1, 1) := by decide +kernel
theorem dX8_isAsItMustBe_45 : decode cX8_isAsItMustBe 45 = .ok (.bipush 6, 2) := by decide +kernel
theorem dX8_isAsItMustBe_47 : decode cX8_isAsItMustBe 47 = .ok (.if_icmp .ge 7, 3) := by decide +kernel
theorem dX8_isAsItMustBe_50 : decode cX8_isAsItMustBe 50 = .ok (.iconst 1, 1) := by decide +kernel
theorem dX8_isAsItMustBe_51 : decode cX8_isAsItMustBe 51 = .ok (.goto 4, 3) := by decide +kernel
theorem dX8_isAsItMustBe_54 : decode cX8_isAsItMustBe 54 = .ok (.iconst 0, 1) := by decide +kernel
theorem dX8_isAsItMustBe_55 : decode cX8_isAsItMustBe 55 = .ok (.ireturn, 1) := by decide +kernel
theorem dX8_isAsItMustBe_56 : decode cX8_isAsItMustBe 56 = .ok (.aload_n 0, 1) := by decide +kernel
theorem dX8_isAsItMustBe_57 : decode cX8_isAsItMustBe 57 = .ok (.getfield 35, 3) := by decide +kernel
theorem dX8_isAsItMustBe_60 : decode cX8_isAsItMustBe 60 = .ok (.iconst 0, 1) := by decide +kernel
theorem dX8_isAsItMustBe_61 : decode cX8_isAsItMustBe 61 = .ok (.iaload, 1) := by decide +kernel
theorem dX8_isAsItMustBe_62 : decode cX8_isAsItMustBe 62 = .ok (.iconst 1, 1) := by decide +kernel
theorem dX8_isAsItMustBe_63 : decode cX8_isAsItMustBe 63 = .ok (.if_icmp .lt 17, 3) := by decide +kernel
theorem dX8_isAsItMustBe_66 : decode cX8_isAsItMustBe 66 = .ok (.aload_n 0, 1) := by decide +kernel
theorem dX8_isAsItMustBe_67 : decode cX8_isAsItMustBe 67 = .ok (.getfield 35, 3) := by decide +kernel
theorem dX8_isAsItMustBe_70 : decode cX8_isAsItMustBe 70 = .ok (.iconst 0, 1) := by decide +kernel
theorem dX8_isAsItMustBe_71 : decode cX8_isAsItMustBe 71 = .ok (.iaload, 1) := by decide +kernel
theorem dX8_isAsItMustBe_72 : decode cX8_isAsItMustBe 72 = .ok (.iconst 3, 1) := by decide +kernel
theorem dX8_isAsItMustBe_73 : decode cX8_isAsItMustBe 73 = .ok (.if_icmp .gt 7, 3) := by decide +kernel
theorem dX8_isAsItMustBe_76 : decode cX8_isAsItMustBe 76 = .ok (.iconst 1, 1) := by decide +kernel
theorem dX8_isAsItMustBe_77 : decode cX8_isAsItMustBe 77 = .ok (.goto 4, 3) := by decide +kernel
theorem dX8_isAsItMustBe_80 : decode cX8_isAsItMustBe 80 = .ok (.iconst 0, 1) := by decide +kernel
theorem dX8_isAsItMustBe_81 : decode cX8_isAsItMustBe 81 = .ok (.ireturn, 1) := by decide +kernel
theorem dX8_isAsItMustBe_82 : decode cX8_isAsItMustBe 82 = .ok (.aload_n 0, 1) := by decide +kernel
theorem dX8_isAsItMustBe_83 : decode cX8_isAsItMustBe 83 = .ok (.getfield 35, 3) := by decide +kernel
theorem dX8_isAsItMustBe_86 : decode cX8_isAsItMustBe 86 = .ok (.iconst 0, 1) := by decide +kernel
theorem dX8_isAsItMustBe_87 : decode cX8_isAsItMustBe 87 = .ok (.iaload, 1) := by decide +kernel
theorem dX8_isAsItMustBe_88 : decode cX8_isAsItMustBe 88 = .ok (.bipush 6, 2) := by decide +kernel
theorem dX8_isAsItMustBe_90 : decode cX8_isAsItMustBe 90 = .ok (.if_icmp .gt 7, 3) := by decide +kernel
theorem dX8_isAsItMustBe_93 : decode cX8_isAsItMustBe 93 = .ok (.iconst 1, 1) := by decide +kernel
theorem dX8_isAsItMustBe_94 : decode cX8_isAsItMustBe 94 = .ok (.goto 4, 3) := by decide +kernel
theorem dX8_isAsItMustBe_97 : decode cX8_isAsItMustBe 97 = .ok (.iconst 0, 1) := by decide +kernel
theorem dX8_isAsItMustBe_98 : decode cX8_isAsItMustBe 98 = .ok (.ireturn, 1) := by decide +kernel
theorem dX8_isAsItMustBe_99 : decode cX8_isAsItMustBe 99 = .ok (.aload_n 0, 1) := by decide +kernel
theorem dX8_isAsItMustBe_100 : decode cX8_isAsItMustBe 100 = .ok (.getfield 35, 3) := by decide +kernel
theorem dX8_isAsItMustBe_103 : decode cX8_isAsItMustBe 103 = .ok (.iconst 0, 1) := by decide +kernel
theorem dX8_isAsItMustBe_104 : decode cX8_isAsItMustBe 104 = .ok (.iaload, 1) := by decide +kernel
theorem dX8_isAsItMustBe_105 : decode cX8_isAsItMustBe 105 = .ok (.iload_n 1, 1) := by decide +kernel
theorem dX8_isAsItMustBe_106 : decode cX8_isAsItMustBe 106 = .ok (.if_icmp .ge 32, 3) := by decide +kernel
theorem dX8_isAsItMustBe_109 : decode cX8_isAsItMustBe 109 = .ok (.aload_n 0, 1) := by decide +kernel
theorem dX8_isAsItMustBe_110 : decode cX8_isAsItMustBe 110 = .ok (.getfield 35, 3) := by decide +kernel
theorem dX8_isAsItMustBe_113 : decode cX8_isAsItMustBe 113 = .ok (.iconst 1, 1) := by decide +kernel
theorem dX8_isAsItMustBe_114 : decode cX8_isAsItMustBe 114 = .ok (.iaload, 1) := by decide +kernel
theorem dX8_isAsItMustBe_115 : decode cX8_isAsItMustBe 115 = .ok (.iload_n 1, 1) := by decide +kernel
theorem dX8_isAsItMustBe_116 : decode cX8_isAsItMustBe 116 = .ok (.if_icmp .ge 22, 3) := by decide +kernel
theorem dX8_isAsItMustBe_119 : decode cX8_isAsItMustBe 119 = .ok (.aload_n 0, 1) := by decide +kernel
theorem dX8_isAsItMustBe_120 : decode cX8_isAsItMustBe 120 = .ok (.getfield 35, 3) := by decide +kernel
theorem dX8_isAsItMustBe_123 : decode cX8_isAsItMustBe 123 = .ok (.iconst 0, 1) := by decide +kernel
theorem dX8_isAsItMustBe_124 : decode cX8_isAsItMustBe 124 = .ok (.iaload, 1) := by decide +kernel
theorem dX8_isAsItMustBe_125 : decode cX8_isAsItMustBe 125 = .ok (.aload_n 0, 1) := by decide +kernel
theorem dX8_isAsItMustBe_126 : decode cX8_isAsItMustBe 126 = .ok (.getfield 35, 3) := by decide +kernel
theorem dX8_isAsItMustBe_129 : decode cX8_isAsItMustBe 129 = .ok (.iconst 1, 1) := by decide +kernel
theorem dX8_isAsItMustBe_130 : decode cX8_isAsItMustBe 130 = .ok (.iaload, 1) := by decide +kernel
theorem dX8_isAsItMustBe_131 : decode cX8_isAsItMustBe 131 = .ok (.if_icmp .eq 7, 3) := by decide +kernel
theorem dX8_isAsItMustBe_134 : decode cX8_isAsItMustBe 134 = .ok (.iconst 1, 1) := by decide +kernel
theorem dX8_isAsItMustBe_135 : decode cX8_isAsItMustBe 135 = .ok (.goto 4, 3) := by decide +kernel
theorem dX8_isAsItMustBe_138 : decode cX8_isAsItMustBe 138 = .ok (.iconst 0, 1) := by decide +kernel
theorem dX8_isAsItMustBe_139 : decode cX8_isAsItMustBe 139 = .ok (.ireturn, 1) := by decide +kernel
theorem dX8_isAsItMustBe_140 : decode cX8_isAsItMustBe 140 = .ok (.iconst 1, 1) := by decide +kernel
theorem dX8_isAsItMustBe_141 : decode cX8_isAsItMustBe 141 = .ok (.ireturn, 1) := by decide +kernel
theorem dX8_come_0 : decode cX8_come 0 = .ok (.aload_n 0, 1) := by decide +kernel
theorem dX8_come_1 : decode cX8_come 1 = .ok (.getfield 13, 3) := by decide +kernel
theorem dX8_come_4 : decode cX8_come 4 = .ok (.iconst 0, 1) := by decide +kernel
theorem dX8_come_5 : decode cX8_come 5 = .ok (.iaload, 1) := by decide +kernel
theorem dX8_come_6 : decode cX8_come 6 = .ok (.istore_n 1, 1) := by decide +kernel
theorem dX8_come_7 : decode cX8_come 7 = .ok (.aload_n 0, 1) := by decide +kernel
theorem dX8_come_8 : decode cX8_come 8 = .ok (.getfield 89, 3) := by decide +kernel
theorem dX8_come_11 : decode cX8_come 11 = .ok (.tableswitch 246 0 6 #[41, 144, 197, 246, 246, 212, 231], 41) := by decide +kernel
theorem dX8_come_52 : decode cX8_come 52 = .ok (.aload_n 0, 1) := by decide +kernel
theorem dX8_come_53 : decode cX8_come 53 = .ok (.getfield 13, 3) := by decide +kernel
theorem dX8_come_56 : decode cX8_come 56 = .ok (.bipush 10, 2) := by decide +kernel
theorem dX8_come_58 : decode cX8_come 58 = .ok (.iload_n 1, 1) := by decide +kernel
theorem dX8_come_59 : decode cX8_come 59 = .ok (.iadd, 1) := by decide +kernel
theorem dX8_come_60 : decode cX8_come 60 = .ok (.aload_n 0, 1) := by decide +kernel
theorem dX8_come_61 : decode cX8_come 61 = .ok (.getfield 35, 3) := by decide +kernel
theorem dX8_come_64 : decode cX8_come 64 = .ok (.iconst 0, 1) := by decide +kernel
theorem dX8_come_65 : decode cX8_come 65 = .ok (.iaload, 1) := by decide +kernel
theorem dX8_come_66 : decode cX8_come 66 = .ok (.iastore, 1) := by decide +kernel
theorem dX8_come_67 : decode cX8_come 67 = .ok (.aload_n 0, 1) := by decide +kernel
theorem dX8_come_68 : decode cX8_come 68 = .ok (.getfield 13, 3) := by decide +kernel
theorem dX8_come_71 : decode cX8_come 71 = .ok (.bipush 20, 2) := by decide +kernel
theorem dX8_come_73 : decode cX8_come 73 = .ok (.iload_n 1, 1) := by decide +kernel
theorem dX8_come_74 : decode cX8_come 74 = .ok (.iadd, 1) := by decide +kernel
theorem dX8_come_75 : decode cX8_come 75 = .ok (.aload_n 0, 1) := by decide +kernel
theorem dX8_come_76 : decode cX8_come 76 = .ok (.getfield 35, 3) := by decide +kernel
theorem dX8_come_79 : decode cX8_come 79 = .ok (.iconst 1, 1) := by decide +kernel
theorem dX8_come_80 : decode cX8_come 80 = .ok (.iaload, 1) := by decide +kernel
theorem dX8_come_81 : decode cX8_come 81 = .ok (.iastore, 1) := by decide +kernel
theorem dX8_come_82 : decode cX8_come 82 = .ok (.aload_n 0, 1) := by decide +kernel
theorem dX8_come_83 : decode cX8_come 83 = .ok (.getfield 13, 3) := by decide +kernel
theorem dX8_come_86 : decode cX8_come 86 = .ok (.bipush 30, 2) := by decide +kernel
theorem dX8_come_88 : decode cX8_come 88 = .ok (.iload_n 1, 1) := by decide +kernel
theorem dX8_come_89 : decode cX8_come 89 = .ok (.iadd, 1) := by decide +kernel
theorem dX8_come_90 : decode cX8_come 90 = .ok (.aload_n 0, 1) := by decide +kernel
theorem dX8_come_91 : decode cX8_come 91 = .ok (.getfield 35, 3) := by decide +kernel
theorem dX8_come_94 : decode cX8_come 94 = .ok (.iconst 2, 1) := by decide +kernel
theorem dX8_come_95 : decode cX8_come 95 = .ok (.iaload, 1) := by decide +kernel
theorem dX8_come_96 : decode cX8_come 96 = .ok (.iastore, 1) := by decide +kernel
theorem dX8_come_97 : decode cX8_come 97 = .ok (.aload_n 0, 1) := by decide +kernel
theorem dX8_come_98 : decode cX8_come 98 = .ok (.getfield 13, 3) := by decide +kernel
theorem dX8_come_101 : decode cX8_come 101 = .ok (.bipush 40, 2) := by decide +kernel
theorem dX8_come_103 : decode cX8_come 103 = .ok (.iload_n 1, 1) := by decide +kernel
theorem dX8_come_104 : decode cX8_come 104 = .ok (.iadd, 1) := by decide +kernel
theorem dX8_come_105 : decode cX8_come 105 = .ok (.iconst 0, 1) := by decide +kernel
theorem dX8_come_106 : decode cX8_come 106 = .ok (.iastore, 1) := by decide +kernel
theorem dX8_come_107 : decode cX8_come 107 = .ok (.aload_n 0, 1) := by decide +kernel
theorem dX8_come_108 : decode cX8_come 108 = .ok (.getfield 13, 3) := by decide +kernel
theorem dX8_come_111 : decode cX8_come 111 = .ok (.bipush 50, 2) := by decide +kernel
theorem dX8_come_113 : decode cX8_come 113 = .ok (.iload_n 1, 1) := by decide +kernel
theorem dX8_come_114 : decode cX8_come 114 = .ok (.iadd, 1) := by decide +kernel
theorem dX8_come_115 : decode cX8_come 115 = .ok (.aload_n 0, 1) := by decide +kernel
theorem dX8_come_116 : decode cX8_come 116 = .ok (.getfield 13, 3) := by decide +kernel
theorem dX8_come_119 : decode cX8_come 119 = .ok (.iconst 1, 1) := by decide +kernel
theorem dX8_come_120 : decode cX8_come 120 = .ok (.iaload, 1) := by decide +kernel
theorem dX8_come_121 : decode cX8_come 121 = .ok (.iastore, 1) := by decide +kernel
theorem dX8_come_122 : decode cX8_come 122 = .ok (.aload_n 0, 1) := by decide +kernel
theorem dX8_come_123 : decode cX8_come 123 = .ok (.getfield 13, 3) := by decide +kernel
theorem dX8_come_126 : decode cX8_come 126 = .ok (.bipush 60, 2) := by decide +kernel
theorem dX8_come_128 : decode cX8_come 128 = .ok (.iload_n 1, 1) := by decide +kernel
theorem dX8_come_129 : decode cX8_come 129 = .ok (.iadd, 1) := by decide +kernel
theorem dX8_come_130 : decode cX8_come 130 = .ok (.iconst 0, 1) := by decide +kernel
theorem dX8_come_131 : decode cX8_come 131 = .ok (.iastore, 1) := by decide +kernel
theorem dX8_come_132 : decode cX8_come 132 = .ok (.aload_n 0, 1) := by decide +kernel
theorem dX8_come_133 : decode cX8_come 133 = .ok (.getfield 13, 3) := by decide +kernel
theorem dX8_come_136 : decode cX8_come 136 = .ok (.bipush 70, 2) := by decide +kernel
theorem dX8_come_138 : decode cX8_come 138 = .ok (.iload_n 1, 1) := by decide +kernel
theorem dX8_come_139 : decode cX8_come 139 = .ok (.iadd, 1) := by decide +kernel
theorem dX8_come_140 : decode cX8_come 140 = .ok (.iload_n 1, 1) := by decide +kernel
theorem dX8_come_141 : decode cX8_come 141 = .ok (.iastore, 1) := by decide +kernel
theorem dX8_come_142 : decode cX8_come 142 = .ok (.aload_n 0, 1) := by decide +kernel
theorem dX8_come_143 : decode cX8_come 143 = .ok (.getfield 13, 3) := by decide +kernel
theorem dX8_come_146 : decode cX8_come 146 = .ok (.iconst 0, 1) := by decide +kernel
theorem dX8_come_147 : decode cX8_come 147 = .ok (.dup2, 1) := by decide +kernel
theorem dX8_come_148 : decode cX8_come 148 = .ok (.iaload, 1) := by decide +kernel
theorem dX8_come_149 : decode cX8_come 149 = .ok (.iconst 1, 1) := by decide +kernel
theorem dX8_come_150 : decode cX8_come 150 = .ok (.iadd, 1) := by decide +kernel
theorem dX8_come_151 : decode cX8_come 151 = .ok (.iastore, 1) := by decide +kernel
theorem dX8_come_152 : decode cX8_come 152 = .ok (.goto 124, 3) := by decide +kernel
theorem dX8_come_155 : decode cX8_come 155 = .ok (.aload_n 0, 1) := by decide +kernel
theorem dX8_come_156 : decode cX8_come 156 = .ok (.getfield 13, 3) := by decide +kernel
theorem dX8_come_159 : decode cX8_come 159 = .ok (.iconst 1, 1) := by decide +kernel
theorem dX8_come_160 : decode cX8_come 160 = .ok (.aload_n 0, 1) := by decide +kernel
theorem dX8_come_161 : decode cX8_come 161 = .ok (.getfield 35, 3) := by decide +kernel
theorem dX8_come_164 : decode cX8_come 164 = .ok (.iconst 0, 1) := by decide +kernel
theorem dX8_come_165 : decode cX8_come 165 = .ok (.iaload, 1) := by decide +kernel
theorem dX8_come_166 : decode cX8_come 166 = .ok (.iastore, 1) := by decide +kernel
theorem dX8_come_167 : decode cX8_come 167 = .ok (.iconst 0, 1) := by decide +kernel
theorem dX8_come_168 : decode cX8_come 168 = .ok (.istore_n 2, 1) := by decide +kernel
theorem dX8_come_169 : decode cX8_come 169 = .ok (.iload_n 2, 1) := by decide +kernel
theorem dX8_come_170 : decode cX8_come 170 = .ok (.iload_n 1, 1) := by decide +kernel
theorem dX8_come_171 : decode cX8_come 171 = .ok (.if_icmp .ge 34, 3) := by decide +kernel
theorem dX8_come_174 : decode cX8_come 174 = .ok (.aload_n 0, 1) := by decide +kernel
theorem dX8_come_175 : decode cX8_come 175 = .ok (.getfield 13, 3) := by decide +kernel
theorem dX8_come_178 : decode cX8_come 178 = .ok (.bipush 50, 2) := by decide +kernel
theorem dX8_come_180 : decode cX8_come 180 = .ok (.iload_n 2, 1) := by decide +kernel
theorem dX8_come_181 : decode cX8_come 181 = .ok (.iadd, 1) := by decide +kernel
theorem dX8_come_182 : decode cX8_come 182 = .ok (.aload_n 0, 1) := by decide +kernel
theorem dX8_come_183 : decode cX8_come 183 = .ok (.getfield 35, 3) := by decide +kernel
theorem dX8_come_186 : decode cX8_come 186 = .ok (.iconst 0, 1) := by decide +kernel
theorem dX8_come_187 : decode cX8_come 187 = .ok (.iaload, 1) := by decide +kernel
theorem dX8_come_188 : decode cX8_come 188 = .ok (.iastore, 1) := by decide +kernel
theorem dX8_come_189 : decode cX8_come 189 = .ok (.aload_n 0, 1) := by decide +kernel
theorem dX8_come_190 : decode cX8_come 190 = .ok (.getfield 13, 3) := by decide +kernel
theorem dX8_come_193 : decode cX8_come 193 = .ok (.bipush 60, 2) := by decide +kernel
theorem dX8_come_195 : decode cX8_come 195 = .ok (.iload_n 2, 1) := by decide +kernel
theorem dX8_come_196 : decode cX8_come 196 = .ok (.iadd, 1) := by decide +kernel
theorem dX8_come_197 : decode cX8_come 197 = .ok (.iconst 0, 1) := by decide +kernel
theorem dX8_come_198 : decode cX8_come 198 = .ok (.iastore, 1) := by decide +kernel
theorem dX8_come_199 : decode cX8_come 199 = .ok (.iinc 2 1, 3) := by decide +kernel
theorem dX8_come_202 : decode cX8_come 202 = .ok (.goto (-33), 3) := by decide +kernel
theorem dX8_come_205 : decode cX8_come 205 = .ok (.goto 71, 3) := by decide +kernel
theorem dX8_come_208 : decode cX8_come 208 = .ok (.aload_n 0, 1) := by decide +kernel
theorem dX8_come_209 : decode cX8_come 209 = .ok (.getfield 13, 3) := by decide +kernel
theorem dX8_come_212 : decode cX8_come 212 = .ok (.iconst 3, 1) := by decide +kernel
theorem dX8_come_213 : decode cX8_come 213 = .ok (.aload_n 0, 1) := by decide +kernel
theorem dX8_come_214 : decode cX8_come 214 = .ok (.getfield 35, 3) := by decide +kernel
theorem dX8_come_217 : decode cX8_come 217 = .ok (.iconst 0, 1) := by decide +kernel
theorem dX8_come_218 : decode cX8_come 218 = .ok (.iaload, 1) := by decide +kernel
theorem dX8_come_219 : decode cX8_come 219 = .ok (.iastore, 1) := by decide +kernel
theorem dX8_come_220 : decode cX8_come 220 = .ok (.goto 56, 3) := by decide +kernel
theorem dX8_come_223 : decode cX8_come 223 = .ok (.aload_n 0, 1) := by decide +kernel
theorem dX8_come_224 : decode cX8_come 224 = .ok (.aload_n 0, 1) := by decide +kernel
theorem dX8_come_225 : decode cX8_come 225 = .ok (.getfield 35, 3) := by decide +kernel
theorem dX8_come_228 : decode cX8_come 228 = .ok (.iconst 0, 1) := by decide +kernel
theorem dX8_come_229 : decode cX8_come 229 = .ok (.iaload, 1) := by decide +kernel
theorem dX8_come_230 : decode cX8_come 230 = .ok (.aload_n 0, 1) := by decide +kernel
theorem dX8_come_231 : decode cX8_come 231 = .ok (.getfield 35, 3) := by decide +kernel
theorem dX8_come_234 : decode cX8_come 234 = .ok (.iconst 1, 1) := by decide +kernel
theorem dX8_come_235 : decode cX8_come 235 = .ok (.iaload, 1) := by decide +kernel
theorem dX8_come_236 : decode cX8_come 236 = .ok (.invokevirtual 95, 3) := by decide +kernel
theorem dX8_come_239 : decode cX8_come 239 = .ok (.goto 37, 3) := by decide +kernel
theorem dX8_come_242 : decode cX8_come 242 = .ok (.aload_n 0, 1) := by decide +kernel
theorem dX8_come_243 : decode cX8_come 243 = .ok (.getfield 13, 3) := by decide +kernel
theorem dX8_come_246 : decode cX8_come 246 = .ok (.iconst 4, 1) := by decide +kernel
theorem dX8_come_247 : decode cX8_come 247 = .ok (.aload_n 0, 1) := by decide +kernel
theorem dX8_come_248 : decode cX8_come 248 = .ok (.getfield 35, 3) := by decide +kernel
theorem dX8_come_251 : decode cX8_come 251 = .ok (.iconst 0, 1) := by decide +kernel
theorem dX8_come_252 : decode cX8_come 252 = .ok (.iaload, 1) := by decide +kernel
theorem dX8_come_253 : decode cX8_come 253 = .ok (.iastore, 1) := by decide +kernel
theorem dX8_come_254 : decode cX8_come 254 = .ok (.goto 22, 3) := by decide +kernel
theorem dX8_come_257 : decode cX8_come 257 = .ok (.aload_n 0, 1) := by decide +kernel
theorem dX8_come_258 : decode cX8_come 258 = .ok (.getfield 13, 3) := by decide +kernel
theorem dX8_come_261 : decode cX8_come 261 = .ok (.iconst 5, 1) := by decide +kernel
theorem dX8_come_262 : decode cX8_come 262 = .ok (.aload_n 0, 1) := by decide +kernel
theorem dX8_come_263 : decode cX8_come 263 = .ok (.getfield 89, 3) := by decide +kernel
theorem dX8_come_266 : decode cX8_come 266 = .ok (.iconst 3, 1) := by decide +kernel
theorem dX8_come_267 : decode cX8_come 267 = .ok (.if_icmp .ne 7, 3) := by decide +kernel
theorem dX8_come_270 : decode cX8_come 270 = .ok (.iconst 1, 1) := by decide +kernel
theorem dX8_come_271 : decode cX8_come 271 = .ok (.goto 4, 3) := by decide +kernel
theorem dX8_come_274 : decode cX8_come 274 = .ok (.iconst 0, 1) := by decide +kernel
theorem dX8_come_275 : decode cX8_come 275 = .ok (.iastore, 1) := by decide +kernel
theorem dX8_come_276 : decode cX8_come 276 = .ok (.return_, 1) := by decide +kernel
theorem dX8_read_0 : decode cX8_read 0 = .ok (.iconst 0, 1) := by decide +kernel
theorem dX8_read_1 : decode cX8_read 1 = .ok (.istore_n 1, 1) := by decide +kernel
theorem dX8_read_2 : decode cX8_read 2 = .ok (.aload_n 0, 1) := by decide +kernel
theorem dX8_read_3 : decode cX8_read 3 = .ok (.iconst 0, 1) := by decide +kernel
theorem dX8_read_4 : decode cX8_read 4 = .ok (.putfield 82, 3) := by decide +kernel
theorem dX8_read_7 : decode cX8_read 7 = .ok (.aload_n 0, 1) := by decide +kernel
theorem dX8_read_8 : decode cX8_read 8 = .ok (.iconst 1, 1) := by decide +kernel
theorem dX8_read_9 : decode cX8_read 9 = .ok (.putfield 79, 3) := by decide +kernel
theorem dX8_read_12 : decode cX8_read 12 = .ok (.aload_n 0, 1) := by decide +kernel
theorem dX8_read_13 : decode cX8_read 13 = .ok (.invokevirtual 99, 3) := by decide +kernel
theorem dX8_read_16 : decode cX8_read 16 = .ok (.iinc 1 1, 3) := by decide +kernel
theorem dX8_read_19 : decode cX8_read 19 = .ok (.aload_n 0, 1) := by decide +kernel
theorem dX8_read_20 : decode cX8_read 20 = .ok (.getfield 79, 3) := by decide +kernel
theorem dX8_read_23 : decode cX8_read 23 = .ok (.ifCond .eq 14, 3) := by decide +kernel
theorem dX8_read_26 : decode cX8_read 26 = .ok (.aload_n 0, 1) := by decide +kernel
theorem dX8_read_27 : decode cX8_read 27 = .ok (.getfield 82, 3) := by decide +kernel
theorem dX8_read_30 : decode cX8_read 30 = .ok (.aload_n 0, 1) := by decide +kernel
theorem dX8_read_31 : decode cX8_read 31 = .ok (.getfield 75, 3) := by decide +kernel
theorem dX8_read_34 : decode cX8_read 34 = .ok (.if_icmp .lt (-22), 3) := by decide +kernel
theorem dX8_read_37 : decode cX8_read 37 = .ok (.aload_n 0, 1) := by decide +kernel
theorem dX8_read_38 : decode cX8_read 38 = .ok (.getfield 79, 3) := by decide +kernel
theorem dX8_read_41 : decode cX8_read 41 = .ok (.ifCond .ne 12, 3) := by decide +kernel
theorem dX8_read_44 : decode cX8_read 44 = .ok (.sipush (-1000), 3) := by decide +kernel
theorem dX8_read_47 : decode cX8_read 47 = .ok (.aload_n 0, 1) := by decide +kernel
theorem dX8_read_48 : decode cX8_read 48 = .ok (.getfield 82, 3) := by decide +kernel
theorem dX8_read_51 : decode cX8_read 51 = .ok (.isub, 1) := by decide +kernel
theorem dX8_read_52 : decode cX8_read 52 = .ok (.ireturn, 1) := by decide +kernel
theorem dX8_read_53 : decode cX8_read 53 = .ok (.aload_n 0, 1) := by decide +kernel
theorem dX8_read_54 : decode cX8_read 54 = .ok (.iconst 0, 1) := by decide +kernel
theorem dX8_read_55 : decode cX8_read 55 = .ok (.putfield 82, 3) := by decide +kernel
theorem dX8_read_58 : decode cX8_read 58 = .ok (.aload_n 0, 1) := by decide +kernel
theorem dX8_read_59 : decode cX8_read 59 = .ok (.getfield 13, 3) := by decide +kernel
theorem dX8_read_62 : decode cX8_read 62 = .ok (.iconst 0, 1) := by decide +kernel
theorem dX8_read_63 : decode cX8_read 63 = .ok (.iaload, 1) := by decide +kernel
theorem dX8_read_64 : decode cX8_read 64 = .ok (.istore_n 2, 1) := by decide +kernel
theorem dX8_read_65 : decode cX8_read 65 = .ok (.aload_n 0, 1) := by decide +kernel
theorem dX8_read_66 : decode cX8_read 66 = .ok (.getfield 82, 3) := by decide +kernel
theorem dX8_read_69 : decode cX8_read 69 = .ok (.aload_n 0, 1) := by decide +kernel
theorem dX8_read_70 : decode cX8_read 70 = .ok (.getfield 75, 3) := by decide +kernel
theorem dX8_read_73 : decode cX8_read 73 = .ok (.if_icmp .ge 44, 3) := by decide +kernel
theorem dX8_read_76 : decode cX8_read 76 = .ok (.aload_n 0, 1) := by decide +kernel
theorem dX8_read_77 : decode cX8_read 77 = .ok (.getfield 82, 3) := by decide +kernel
theorem dX8_read_80 : decode cX8_read 80 = .ok (.istore_n 3, 1) := by decide +kernel
theorem dX8_read_81 : decode cX8_read 81 = .ok (.aload_n 0, 1) := by decide +kernel
theorem dX8_read_82 : decode cX8_read 82 = .ok (.invokevirtual 99, 3) := by decide +kernel
theorem dX8_read_85 : decode cX8_read 85 = .ok (.aload_n 0, 1) := by decide +kernel
theorem dX8_read_86 : decode cX8_read 86 = .ok (.iload_n 2, 1) := by decide +kernel
theorem dX8_read_87 : decode cX8_read 87 = .ok (.invokevirtual 102, 3) := by decide +kernel
theorem dX8_read_90 : decode cX8_read 90 = .ok (.ifCond .ne 9, 3) := by decide +kernel
theorem dX8_read_93 : decode cX8_read 93 = .ok (.sipush (-2000), 3) := by decide +kernel
theorem dX8_read_96 : decode cX8_read 96 = .ok (.iload_n 3, 1) := by decide +kernel
theorem dX8_read_97 : decode cX8_read 97 = .ok (.isub, 1) := by decide +kernel
theorem dX8_read_98 : decode cX8_read 98 = .ok (.ireturn, 1) := by decide +kernel
theorem dX8_read_99 : decode cX8_read 99 = .ok (.iload_n 2, 1) := by decide +kernel
theorem dX8_read_100 : decode cX8_read 100 = .ok (.aload_n 0, 1) := by decide +kernel
theorem dX8_read_101 : decode cX8_read 101 = .ok (.getfield 89, 3) := by decide +kernel
theorem dX8_read_104 : decode cX8_read 104 = .ok (.ifCond .ne 7, 3) := by decide +kernel
theorem dX8_read_107 : decode cX8_read 107 = .ok (.iconst 1, 1) := by decide +kernel
theorem dX8_read_108 : decode cX8_read 108 = .ok (.goto 4, 3) := by decide +kernel
theorem dX8_read_111 : decode cX8_read 111 = .ok (.iconst 0, 1) := by decide +kernel
theorem dX8_read_112 : decode cX8_read 112 = .ok (.iadd, 1) := by decide +kernel
theorem dX8_read_113 : decode cX8_read 113 = .ok (.istore_n 2, 1) := by decide +kernel
theorem dX8_read_114 : decode cX8_read 114 = .ok (.goto (-49), 3) := by decide +kernel
theorem dX8_read_117 : decode cX8_read 117 = .ok (.aload_n 0, 1) := by decide +kernel
theorem dX8_read_118 : decode cX8_read 118 = .ok (.iconst 0, 1) := by decide +kernel
theorem dX8_read_119 : decode cX8_read 119 = .ok (.putfield 82, 3) := by decide +kernel
theorem dX8_read_122 : decode cX8_read 122 = .ok (.aload_n 0, 1) := by decide +kernel
theorem dX8_read_123 : decode cX8_read 123 = .ok (.getfield 82, 3) := by decide +kernel
theorem dX8_read_126 : decode cX8_read 126 = .ok (.aload_n 0, 1) := by decide +kernel
theorem dX8_read_127 : decode cX8_read 127 = .ok (.getfield 75, 3) := by decide +kernel
theorem dX8_read_130 : decode cX8_read 130 = .ok (.if_icmp .ge 14, 3) := by decide +kernel
theorem dX8_read_133 : decode cX8_read 133 = .ok (.aload_n 0, 1) := by decide +kernel
theorem dX8_read_134 : decode cX8_read 134 = .ok (.invokevirtual 99, 3) := by decide +kernel
theorem dX8_read_137 : decode cX8_read 137 = .ok (.aload_n 0, 1) := by decide +kernel
theorem dX8_read_138 : decode cX8_read 138 = .ok (.invokevirtual 106, 3) := by decide +kernel
theorem dX8_read_141 : decode cX8_read 141 = .ok (.goto (-19), 3) := by decide +kernel
theorem dX8_read_144 : decode cX8_read 144 = .ok (.iload_n 1, 1) := by decide +kernel
theorem dX8_read_145 : decode cX8_read 145 = .ok (.ireturn, 1) := by decide +kernel
theorem dX8_school_0 : decode cX8_school 0 = .ok (.aload_n 0, 1) := by decide +kernel
theorem dX8_school_1 : decode cX8_school 1 = .ok (.invokevirtual 109, 3) := by decide +kernel
theorem dX8_school_4 : decode cX8_school 4 = .ok (.istore_n 1, 1) := by decide +kernel
theorem dX8_school_5 : decode cX8_school 5 = .ok (.aload_n 0, 1) := by decide +kernel
theorem dX8_school_6 : decode cX8_school 6 = .ok (.iconst 0, 1) := by decide +kernel
theorem dX8_school_7 : decode cX8_school 7 = .ok (.putfield 75, 3) := by decide +kernel
theorem dX8_school_10 : decode cX8_school 10 = .ok (.iload_n 1, 1) := by decide +kernel
theorem dX8_school_11 : decode cX8_school 11 = .ok (.ireturn, 1) := by decide +kernel
theorem dX8_seatOf_0 : decode cX8_seatOf 0 = .ok (.iconst 0, 1) := by decide +kernel
theorem dX8_seatOf_1 : decode cX8_seatOf 1 = .ok (.istore_n 2, 1) := by decide +kernel
theorem dX8_seatOf_2 : decode cX8_seatOf 2 = .ok (.iconst 0, 1) := by decide +kernel
theorem dX8_seatOf_3 : decode cX8_seatOf 3 = .ok (.istore_n 3, 1) := by decide +kernel
theorem dX8_seatOf_4 : decode cX8_seatOf 4 = .ok (.iload_n 3, 1) := by decide +kernel
theorem dX8_seatOf_5 : decode cX8_seatOf 5 = .ok (.aload_n 0, 1) := by decide +kernel
theorem dX8_seatOf_6 : decode cX8_seatOf 6 = .ok (.getfield 13, 3) := by decide +kernel
theorem dX8_seatOf_9 : decode cX8_seatOf 9 = .ok (.iconst 0, 1) := by decide +kernel
theorem dX8_seatOf_10 : decode cX8_seatOf 10 = .ok (.iaload, 1) := by decide +kernel
theorem dX8_seatOf_11 : decode cX8_seatOf 11 = .ok (.if_icmp .ge 28, 3) := by decide +kernel
theorem dX8_seatOf_14 : decode cX8_seatOf 14 = .ok (.aload_n 0, 1) := by decide +kernel
theorem dX8_seatOf_15 : decode cX8_seatOf 15 = .ok (.getfield 13, 3) := by decide +kernel
theorem dX8_seatOf_18 : decode cX8_seatOf 18 = .ok (.bipush 70, 2) := by decide +kernel
theorem dX8_seatOf_20 : decode cX8_seatOf 20 = .ok (.iload_n 3, 1) := by decide +kernel
theorem dX8_seatOf_21 : decode cX8_seatOf 21 = .ok (.iadd, 1) := by decide +kernel
theorem dX8_seatOf_22 : decode cX8_seatOf 22 = .ok (.iaload, 1) := by decide +kernel
theorem dX8_seatOf_23 : decode cX8_seatOf 23 = .ok (.iload_n 1, 1) := by decide +kernel
theorem dX8_seatOf_24 : decode cX8_seatOf 24 = .ok (.if_icmp .ne 7, 3) := by decide +kernel
theorem dX8_seatOf_27 : decode cX8_seatOf 27 = .ok (.iload_n 3, 1) := by decide +kernel
theorem dX8_seatOf_28 : decode cX8_seatOf 28 = .ok (.goto 4, 3) := by decide +kernel
theorem dX8_seatOf_31 : decode cX8_seatOf 31 = .ok (.iload_n 2, 1) := by decide +kernel
theorem dX8_seatOf_32 : decode cX8_seatOf 32 = .ok (.istore_n 2, 1) := by decide +kernel
theorem dX8_seatOf_33 : decode cX8_seatOf 33 = .ok (.iinc 3 1, 3) := by decide +kernel
theorem dX8_seatOf_36 : decode cX8_seatOf 36 = .ok (.goto (-32), 3) := by decide +kernel
theorem dX8_seatOf_39 : decode cX8_seatOf 39 = .ok (.iload_n 2, 1) := by decide +kernel
theorem dX8_seatOf_40 : decode cX8_seatOf 40 = .ok (.ireturn, 1) := by decide +kernel
theorem dX8_change_0 : decode cX8_change 0 = .ok (.aload_n 0, 1) := by decide +kernel
theorem dX8_change_1 : decode cX8_change 1 = .ok (.iload_n 1, 1) := by decide +kernel
theorem dX8_change_2 : decode cX8_change 2 = .ok (.invokevirtual 113, 3) := by decide +kernel
theorem dX8_change_5 : decode cX8_change 5 = .ok (.istore_n 3, 1) := by decide +kernel
theorem dX8_change_6 : decode cX8_change 6 = .ok (.aload_n 0, 1) := by decide +kernel
theorem dX8_change_7 : decode cX8_change 7 = .ok (.iload_n 2, 1) := by decide +kernel
theorem dX8_change_8 : decode cX8_change 8 = .ok (.invokevirtual 113, 3) := by decide +kernel
theorem dX8_change_11 : decode cX8_change 11 = .ok (.istore 4, 2) := by decide +kernel
theorem dX8_change_13 : decode cX8_change 13 = .ok (.aload_n 0, 1) := by decide +kernel
theorem dX8_change_14 : decode cX8_change 14 = .ok (.getfield 13, 3) := by decide +kernel
theorem dX8_change_17 : decode cX8_change 17 = .ok (.bipush 70, 2) := by decide +kernel
theorem dX8_change_19 : decode cX8_change 19 = .ok (.iload_n 3, 1) := by decide +kernel
theorem dX8_change_20 : decode cX8_change 20 = .ok (.iadd, 1) := by decide +kernel
theorem dX8_change_21 : decode cX8_change 21 = .ok (.iload_n 2, 1) := by decide +kernel
theorem dX8_change_22 : decode cX8_change 22 = .ok (.iastore, 1) := by decide +kernel
theorem dX8_change_23 : decode cX8_change 23 = .ok (.aload_n 0, 1) := by decide +kernel
theorem dX8_change_24 : decode cX8_change 24 = .ok (.getfield 13, 3) := by decide +kernel
theorem dX8_change_27 : decode cX8_change 27 = .ok (.bipush 70, 2) := by decide +kernel
theorem dX8_change_29 : decode cX8_change 29 = .ok (.iload 4, 2) := by decide +kernel
theorem dX8_change_31 : decode cX8_change 31 = .ok (.iadd, 1) := by decide +kernel
theorem dX8_change_32 : decode cX8_change 32 = .ok (.iload_n 1, 1) := by decide +kernel
theorem dX8_change_33 : decode cX8_change 33 = .ok (.iastore, 1) := by decide +kernel
theorem dX8_change_34 : decode cX8_change 34 = .ok (.return_, 1) := by decide +kernel
theorem dX8_beside_0 : decode cX8_beside 0 = .ok (.aload_n 0, 1) := by decide +kernel
theorem dX8_beside_1 : decode cX8_beside 1 = .ok (.getfield 13, 3) := by decide +kernel
theorem dX8_beside_4 : decode cX8_beside 4 = .ok (.iconst 0, 1) := by decide +kernel
theorem dX8_beside_5 : decode cX8_beside 5 = .ok (.iaload, 1) := by decide +kernel
theorem dX8_beside_6 : decode cX8_beside 6 = .ok (.istore_n 3, 1) := by decide +kernel
theorem dX8_beside_7 : decode cX8_beside 7 = .ok (.aload_n 0, 1) := by decide +kernel
theorem dX8_beside_8 : decode cX8_beside 8 = .ok (.iload_n 1, 1) := by decide +kernel
theorem dX8_beside_9 : decode cX8_beside 9 = .ok (.invokevirtual 113, 3) := by decide +kernel
theorem dX8_beside_12 : decode cX8_beside 12 = .ok (.iload_n 2, 1) := by decide +kernel
theorem dX8_beside_13 : decode cX8_beside 13 = .ok (.iadd, 1) := by decide +kernel
theorem dX8_beside_14 : decode cX8_beside 14 = .ok (.istore 4, 2) := by decide +kernel
theorem dX8_beside_16 : decode cX8_beside 16 = .ok (.aload_n 0, 1) := by decide +kernel
theorem dX8_beside_17 : decode cX8_beside 17 = .ok (.getfield 13, 3) := by decide +kernel
theorem dX8_beside_20 : decode cX8_beside 20 = .ok (.iconst 5, 1) := by decide +kernel
theorem dX8_beside_21 : decode cX8_beside 21 = .ok (.iaload, 1) := by decide +kernel
theorem dX8_beside_22 : decode cX8_beside 22 = .ok (.ifCond .ne 17, 3) := by decide +kernel
theorem dX8_beside_25 : decode cX8_beside 25 = .ok (.iload 4, 2) := by decide +kernel
theorem dX8_beside_27 : decode cX8_beside 27 = .ok (.ifCond .lt 9, 3) := by decide +kernel
theorem dX8_beside_30 : decode cX8_beside 30 = .ok (.iload 4, 2) := by decide +kernel
theorem dX8_beside_32 : decode cX8_beside 32 = .ok (.iload_n 3, 1) := by decide +kernel
