theorem dL_isPaying_79 : decode cL_isPaying 79 = .ok (.if_icmp .ge 8, 3) := by decide +kernel
theorem dL_isPaying_82 : decode cL_isPaying 82 = .ok (.bipush (-4), 2) := by decide +kernel
theorem dL_isPaying_84 : decode cL_isPaying 84 = .ok (.goto 30, 3) := by decide +kernel
theorem dL_isPaying_87 : decode cL_isPaying 87 = .ok (.aload_n 0, 1) := by decide +kernel
theorem dL_isPaying_88 : decode cL_isPaying 88 = .ok (.iload_n 2, 1) := by decide +kernel
theorem dL_isPaying_89 : decode cL_isPaying 89 = .ok (.bipush 9, 2) := by decide +kernel
theorem dL_isPaying_91 : decode cL_isPaying 91 = .ok (.iload_n 3, 1) := by decide +kernel
theorem dL_isPaying_92 : decode cL_isPaying 92 = .ok (.iadd, 1) := by decide +kernel
theorem dL_isPaying_93 : decode cL_isPaying 93 = .ok (.invokevirtual 59, 3) := by decide +kernel
theorem dL_isPaying_96 : decode cL_isPaying 96 = .ok (.iload 4, 2) := by decide +kernel
theorem dL_isPaying_98 : decode cL_isPaying 98 = .ok (.iadd, 1) := by decide +kernel
theorem dL_isPaying_99 : decode cL_isPaying 99 = .ok (.bipush 20, 2) := by decide +kernel
theorem dL_isPaying_101 : decode cL_isPaying 101 = .ok (.if_icmp .le 8, 3) := by decide +kernel
theorem dL_isPaying_104 : decode cL_isPaying 104 = .ok (.bipush (-3), 2) := by decide +kernel
theorem dL_isPaying_106 : decode cL_isPaying 106 = .ok (.goto 8, 3) := by decide +kernel
theorem dL_isPaying_109 : decode cL_isPaying 109 = .ok (.iload 5, 2) := by decide +kernel
theorem dL_isPaying_111 : decode cL_isPaying 111 = .ok (.iload 4, 2) := by decide +kernel
theorem dL_isPaying_113 : decode cL_isPaying 113 = .ok (.isub, 1) := by decide +kernel
theorem dL_isPaying_114 : decode cL_isPaying 114 = .ok (.istore 6, 2) := by decide +kernel
theorem dL_isPaying_116 : decode cL_isPaying 116 = .ok (.aload_n 0, 1) := by decide +kernel
theorem dL_isPaying_117 : decode cL_isPaying 117 = .ok (.bipush 8, 2) := by decide +kernel
theorem dL_isPaying_119 : decode cL_isPaying 119 = .ok (.invokevirtual 68, 3) := by decide +kernel
theorem dL_isPaying_122 : decode cL_isPaying 122 = .ok (.istore 7, 2) := by decide +kernel
theorem dL_isPaying_124 : decode cL_isPaying 124 = .ok (.iconst 0, 1) := by decide +kernel
theorem dL_isPaying_125 : decode cL_isPaying 125 = .ok (.istore 8, 2) := by decide +kernel
theorem dL_isPaying_127 : decode cL_isPaying 127 = .ok (.iload 8, 2) := by decide +kernel
theorem dL_isPaying_129 : decode cL_isPaying 129 = .ok (.iload 7, 2) := by decide +kernel
theorem dL_isPaying_131 : decode cL_isPaying 131 = .ok (.if_icmp .ge 75, 3) := by decide +kernel
theorem dL_isPaying_134 : decode cL_isPaying 134 = .ok (.aload_n 0, 1) := by decide +kernel
theorem dL_isPaying_135 : decode cL_isPaying 135 = .ok (.iload 8, 2) := by decide +kernel
theorem dL_isPaying_137 : decode cL_isPaying 137 = .ok (.iconst 0, 1) := by decide +kernel
theorem dL_isPaying_138 : decode cL_isPaying 138 = .ok (.invokevirtual 91, 3) := by decide +kernel
theorem dL_isPaying_141 : decode cL_isPaying 141 = .ok (.iload_n 1, 1) := by decide +kernel
theorem dL_isPaying_142 : decode cL_isPaying 142 = .ok (.if_icmp .ne 58, 3) := by decide +kernel
theorem dL_isPaying_145 : decode cL_isPaying 145 = .ok (.aload_n 0, 1) := by decide +kernel
theorem dL_isPaying_146 : decode cL_isPaying 146 = .ok (.iload 8, 2) := by decide +kernel
theorem dL_isPaying_148 : decode cL_isPaying 148 = .ok (.iconst 1, 1) := by decide +kernel
theorem dL_isPaying_149 : decode cL_isPaying 149 = .ok (.invokevirtual 91, 3) := by decide +kernel
theorem dL_isPaying_152 : decode cL_isPaying 152 = .ok (.iload_n 2, 1) := by decide +kernel
theorem dL_isPaying_153 : decode cL_isPaying 153 = .ok (.if_icmp .ne 47, 3) := by decide +kernel
theorem dL_isPaying_156 : decode cL_isPaying 156 = .ok (.aload_n 0, 1) := by decide +kernel
theorem dL_isPaying_157 : decode cL_isPaying 157 = .ok (.iload 8, 2) := by decide +kernel
theorem dL_isPaying_159 : decode cL_isPaying 159 = .ok (.iconst 2, 1) := by decide +kernel
theorem dL_isPaying_160 : decode cL_isPaying 160 = .ok (.invokevirtual 91, 3) := by decide +kernel
theorem dL_isPaying_163 : decode cL_isPaying 163 = .ok (.iload_n 3, 1) := by decide +kernel
theorem dL_isPaying_164 : decode cL_isPaying 164 = .ok (.if_icmp .ne 36, 3) := by decide +kernel
theorem dL_isPaying_167 : decode cL_isPaying 167 = .ok (.aload_n 0, 1) := by decide +kernel
theorem dL_isPaying_168 : decode cL_isPaying 168 = .ok (.iload 8, 2) := by decide +kernel
theorem dL_isPaying_170 : decode cL_isPaying 170 = .ok (.iconst 3, 1) := by decide +kernel
theorem dL_isPaying_171 : decode cL_isPaying 171 = .ok (.invokevirtual 91, 3) := by decide +kernel
theorem dL_isPaying_174 : decode cL_isPaying 174 = .ok (.iload 4, 2) := by decide +kernel
theorem dL_isPaying_176 : decode cL_isPaying 176 = .ok (.if_icmp .ne 24, 3) := by decide +kernel
theorem dL_isPaying_179 : decode cL_isPaying 179 = .ok (.aload_n 0, 1) := by decide +kernel
theorem dL_isPaying_180 : decode cL_isPaying 180 = .ok (.iload 8, 2) := by decide +kernel
theorem dL_isPaying_182 : decode cL_isPaying 182 = .ok (.invokevirtual 185, 3) := by decide +kernel
theorem dL_isPaying_185 : decode cL_isPaying 185 = .ok (.iload 6, 2) := by decide +kernel
theorem dL_isPaying_187 : decode cL_isPaying 187 = .ok (.ifCond .lt 7, 3) := by decide +kernel
theorem dL_isPaying_190 : decode cL_isPaying 190 = .ok (.iconst 1, 1) := by decide +kernel
theorem dL_isPaying_191 : decode cL_isPaying 191 = .ok (.goto 4, 3) := by decide +kernel
theorem dL_isPaying_194 : decode cL_isPaying 194 = .ok (.iconst 0, 1) := by decide +kernel
theorem dL_isPaying_195 : decode cL_isPaying 195 = .ok (.if_icmp .eq 5, 3) := by decide +kernel
theorem dL_isPaying_198 : decode cL_isPaying 198 = .ok (.iconst 0, 1) := by decide +kernel
theorem dL_isPaying_199 : decode cL_isPaying 199 = .ok (.ireturn, 1) := by decide +kernel
theorem dL_isPaying_200 : decode cL_isPaying 200 = .ok (.iinc 8 1, 3) := by decide +kernel
theorem dL_isPaying_203 : decode cL_isPaying 203 = .ok (.goto (-76), 3) := by decide +kernel
theorem dL_isPaying_206 : decode cL_isPaying 206 = .ok (.aload_n 0, 1) := by decide +kernel
theorem dL_isPaying_207 : decode cL_isPaying 207 = .ok (.iload_n 1, 1) := by decide +kernel
theorem dL_isPaying_208 : decode cL_isPaying 208 = .ok (.iload_n 2, 1) := by decide +kernel
theorem dL_isPaying_209 : decode cL_isPaying 209 = .ok (.iload_n 3, 1) := by decide +kernel
theorem dL_isPaying_210 : decode cL_isPaying 210 = .ok (.iload 4, 2) := by decide +kernel
theorem dL_isPaying_212 : decode cL_isPaying 212 = .ok (.invokevirtual 182, 3) := by decide +kernel
theorem dL_isPaying_215 : decode cL_isPaying 215 = .ok (.iload 6, 2) := by decide +kernel
theorem dL_isPaying_217 : decode cL_isPaying 217 = .ok (.if_icmp .ne 34, 3) := by decide +kernel
theorem dL_isPaying_220 : decode cL_isPaying 220 = .ok (.iload 6, 2) := by decide +kernel
theorem dL_isPaying_222 : decode cL_isPaying 222 = .ok (.ifCond .lt 25, 3) := by decide +kernel
theorem dL_isPaying_225 : decode cL_isPaying 225 = .ok (.aload_n 0, 1) := by decide +kernel
theorem dL_isPaying_226 : decode cL_isPaying 226 = .ok (.bipush 8, 2) := by decide +kernel
theorem dL_isPaying_228 : decode cL_isPaying 228 = .ok (.invokevirtual 68, 3) := by decide +kernel
theorem dL_isPaying_231 : decode cL_isPaying 231 = .ok (.iload 7, 2) := by decide +kernel
theorem dL_isPaying_233 : decode cL_isPaying 233 = .ok (.iload 6, 2) := by decide +kernel
theorem dL_isPaying_235 : decode cL_isPaying 235 = .ok (.ifCond .ne 7, 3) := by decide +kernel
theorem dL_isPaying_238 : decode cL_isPaying 238 = .ok (.iconst 1, 1) := by decide +kernel
theorem dL_isPaying_239 : decode cL_isPaying 239 = .ok (.goto 4, 3) := by decide +kernel
theorem dL_isPaying_242 : decode cL_isPaying 242 = .ok (.iconst 0, 1) := by decide +kernel
theorem dL_isPaying_243 : decode cL_isPaying 243 = .ok (.isub, 1) := by decide +kernel
theorem dL_isPaying_244 : decode cL_isPaying 244 = .ok (.if_icmp .ne 7, 3) := by decide +kernel
theorem dL_isPaying_247 : decode cL_isPaying 247 = .ok (.iconst 1, 1) := by decide +kernel
theorem dL_isPaying_248 : decode cL_isPaying 248 = .ok (.goto 4, 3) := by decide +kernel
theorem dL_isPaying_251 : decode cL_isPaying 251 = .ok (.iconst 0, 1) := by decide +kernel
theorem dL_isPaying_252 : decode cL_isPaying 252 = .ok (.ireturn, 1) := by decide +kernel
theorem dL_isWeek_0 : decode cL_isWeek 0 = .ok (.aload_n 0, 1) := by decide +kernel
theorem dL_isWeek_1 : decode cL_isWeek 1 = .ok (.iconst 1, 1) := by decide +kernel
theorem dL_isWeek_2 : decode cL_isWeek 2 = .ok (.invokevirtual 68, 3) := by decide +kernel
theorem dL_isWeek_5 : decode cL_isWeek 5 = .ok (.sipush 999, 3) := by decide +kernel
theorem dL_isWeek_8 : decode cL_isWeek 8 = .ok (.if_icmp .ne 19, 3) := by decide +kernel
theorem dL_isWeek_11 : decode cL_isWeek 11 = .ok (.aload_n 0, 1) := by decide +kernel
theorem dL_isWeek_12 : decode cL_isWeek 12 = .ok (.iconst 1, 1) := by decide +kernel
theorem dL_isWeek_13 : decode cL_isWeek 13 = .ok (.invokevirtual 189, 3) := by decide +kernel
theorem dL_isWeek_16 : decode cL_isWeek 16 = .ok (.bipush (-10), 2) := by decide +kernel
theorem dL_isWeek_18 : decode cL_isWeek 18 = .ok (.if_icmp .ne 7, 3) := by decide +kernel
theorem dL_isWeek_21 : decode cL_isWeek 21 = .ok (.iconst 1, 1) := by decide +kernel
theorem dL_isWeek_22 : decode cL_isWeek 22 = .ok (.goto 4, 3) := by decide +kernel
theorem dL_isWeek_25 : decode cL_isWeek 25 = .ok (.iconst 0, 1) := by decide +kernel
theorem dL_isWeek_26 : decode cL_isWeek 26 = .ok (.ireturn, 1) := by decide +kernel
theorem dL_isWeek_27 : decode cL_isWeek 27 = .ok (.aload_n 0, 1) := by decide +kernel
theorem dL_isWeek_28 : decode cL_isWeek 28 = .ok (.iconst 0, 1) := by decide +kernel
theorem dL_isWeek_29 : decode cL_isWeek 29 = .ok (.invokevirtual 68, 3) := by decide +kernel
theorem dL_isWeek_32 : decode cL_isWeek 32 = .ok (.istore_n 1, 1) := by decide +kernel
theorem dL_isWeek_33 : decode cL_isWeek 33 = .ok (.iload_n 1, 1) := by decide +kernel
theorem dL_isWeek_34 : decode cL_isWeek 34 = .ok (.newarray .int, 2) := by decide +kernel
theorem dL_isWeek_36 : decode cL_isWeek 36 = .ok (.astore_n 2, 1) := by decide +kernel
theorem dL_isWeek_37 : decode cL_isWeek 37 = .ok (.iload_n 1, 1) := by decide +kernel
theorem dL_isWeek_38 : decode cL_isWeek 38 = .ok (.newarray .int, 2) := by decide +kernel
theorem dL_isWeek_40 : decode cL_isWeek 40 = .ok (.astore_n 3, 1) := by decide +kernel
theorem dL_isWeek_41 : decode cL_isWeek 41 = .ok (.iconst 0, 1) := by decide +kernel
theorem dL_isWeek_42 : decode cL_isWeek 42 = .ok (.istore 4, 2) := by decide +kernel
theorem dL_isWeek_44 : decode cL_isWeek 44 = .ok (.iconst 0, 1) := by decide +kernel
theorem dL_isWeek_45 : decode cL_isWeek 45 = .ok (.istore 5, 2) := by decide +kernel
theorem dL_isWeek_47 : decode cL_isWeek 47 = .ok (.iload 5, 2) := by decide +kernel
theorem dL_isWeek_49 : decode cL_isWeek 49 = .ok (.iload_n 1, 1) := by decide +kernel
theorem dL_isWeek_50 : decode cL_isWeek 50 = .ok (.if_icmp .ge 71, 3) := by decide +kernel
theorem dL_isWeek_53 : decode cL_isWeek 53 = .ok (.aload_n 2, 1) := by decide +kernel
theorem dL_isWeek_54 : decode cL_isWeek 54 = .ok (.iload 5, 2) := by decide +kernel
theorem dL_isWeek_56 : decode cL_isWeek 56 = .ok (.aload_n 0, 1) := by decide +kernel
theorem dL_isWeek_57 : decode cL_isWeek 57 = .ok (.iload 5, 2) := by decide +kernel
theorem dL_isWeek_59 : decode cL_isWeek 59 = .ok (.bipush 7, 2) := by decide +kernel
theorem dL_isWeek_61 : decode cL_isWeek 61 = .ok (.invokevirtual 59, 3) := by decide +kernel
theorem dL_isWeek_64 : decode cL_isWeek 64 = .ok (.aload_n 0, 1) := by decide +kernel
theorem dL_isWeek_65 : decode cL_isWeek 65 = .ok (.iload 5, 2) := by decide +kernel
theorem dL_isWeek_67 : decode cL_isWeek 67 = .ok (.invokestatic 122, 3) := by decide +kernel
theorem dL_isWeek_70 : decode cL_isWeek 70 = .ok (.iadd, 1) := by decide +kernel
theorem dL_isWeek_71 : decode cL_isWeek 71 = .ok (.iastore, 1) := by decide +kernel
theorem dL_isWeek_72 : decode cL_isWeek 72 = .ok (.aload_n 3, 1) := by decide +kernel
theorem dL_isWeek_73 : decode cL_isWeek 73 = .ok (.iload 5, 2) := by decide +kernel
theorem dL_isWeek_75 : decode cL_isWeek 75 = .ok (.aload_n 0, 1) := by decide +kernel
theorem dL_isWeek_76 : decode cL_isWeek 76 = .ok (.iload 5, 2) := by decide +kernel
theorem dL_isWeek_78 : decode cL_isWeek 78 = .ok (.invokestatic 131, 3) := by decide +kernel
theorem dL_isWeek_81 : decode cL_isWeek 81 = .ok (.iastore, 1) := by decide +kernel
theorem dL_isWeek_82 : decode cL_isWeek 82 = .ok (.iload 4, 2) := by decide +kernel
theorem dL_isWeek_84 : decode cL_isWeek 84 = .ok (.aload_n 0, 1) := by decide +kernel
theorem dL_isWeek_85 : decode cL_isWeek 85 = .ok (.iload 5, 2) := by decide +kernel
theorem dL_isWeek_87 : decode cL_isWeek 87 = .ok (.bipush 6, 2) := by decide +kernel
theorem dL_isWeek_89 : decode cL_isWeek 89 = .ok (.invokevirtual 59, 3) := by decide +kernel
theorem dL_isWeek_92 : decode cL_isWeek 92 = .ok (.aload_n 0, 1) := by decide +kernel
theorem dL_isWeek_93 : decode cL_isWeek 93 = .ok (.iload 5, 2) := by decide +kernel
theorem dL_isWeek_95 : decode cL_isWeek 95 = .ok (.invokestatic 87, 3) := by decide +kernel
theorem dL_isWeek_98 : decode cL_isWeek 98 = .ok (.iadd, 1) := by decide +kernel
theorem dL_isWeek_99 : decode cL_isWeek 99 = .ok (.aload_n 0, 1) := by decide +kernel
theorem dL_isWeek_100 : decode cL_isWeek 100 = .ok (.iconst 3, 1) := by decide +kernel
theorem dL_isWeek_101 : decode cL_isWeek 101 = .ok (.invokevirtual 68, 3) := by decide +kernel
theorem dL_isWeek_104 : decode cL_isWeek 104 = .ok (.if_icmp .lt 7, 3) := by decide +kernel
theorem dL_isWeek_107 : decode cL_isWeek 107 = .ok (.iconst 1, 1) := by decide +kernel
theorem dL_isWeek_108 : decode cL_isWeek 108 = .ok (.goto 4, 3) := by decide +kernel
theorem dL_isWeek_111 : decode cL_isWeek 111 = .ok (.iconst 0, 1) := by decide +kernel
theorem dL_isWeek_112 : decode cL_isWeek 112 = .ok (.iadd, 1) := by decide +kernel
theorem dL_isWeek_113 : decode cL_isWeek 113 = .ok (.istore 4, 2) := by decide +kernel
theorem dL_isWeek_115 : decode cL_isWeek 115 = .ok (.iinc 5 1, 3) := by decide +kernel
theorem dL_isWeek_118 : decode cL_isWeek 118 = .ok (.goto (-71), 3) := by decide +kernel
theorem dL_isWeek_121 : decode cL_isWeek 121 = .ok (.aload_n 0, 1) := by decide +kernel
theorem dL_isWeek_122 : decode cL_isWeek 122 = .ok (.iconst 1, 1) := by decide +kernel
theorem dL_isWeek_123 : decode cL_isWeek 123 = .ok (.iconst 1, 1) := by decide +kernel
theorem dL_isWeek_124 : decode cL_isWeek 124 = .ok (.invokevirtual 192, 3) := by decide +kernel
theorem dL_isWeek_127 : decode cL_isWeek 127 = .ok (.istore 5, 2) := by decide +kernel
theorem dL_isWeek_129 : decode cL_isWeek 129 = .ok (.aload_n 0, 1) := by decide +kernel
theorem dL_isWeek_130 : decode cL_isWeek 130 = .ok (.iconst 1, 1) := by decide +kernel
theorem dL_isWeek_131 : decode cL_isWeek 131 = .ok (.iconst 2, 1) := by decide +kernel
theorem dL_isWeek_132 : decode cL_isWeek 132 = .ok (.invokevirtual 192, 3) := by decide +kernel
theorem dL_isWeek_135 : decode cL_isWeek 135 = .ok (.istore 6, 2) := by decide +kernel
theorem dL_isWeek_137 : decode cL_isWeek 137 = .ok (.aload_n 0, 1) := by decide +kernel
theorem dL_isWeek_138 : decode cL_isWeek 138 = .ok (.iconst 1, 1) := by decide +kernel
theorem dL_isWeek_139 : decode cL_isWeek 139 = .ok (.iconst 3, 1) := by decide +kernel
theorem dL_isWeek_140 : decode cL_isWeek 140 = .ok (.invokevirtual 192, 3) := by decide +kernel
theorem dL_isWeek_143 : decode cL_isWeek 143 = .ok (.istore 7, 2) := by decide +kernel
theorem dL_isWeek_145 : decode cL_isWeek 145 = .ok (.aload_n 0, 1) := by decide +kernel
theorem dL_isWeek_146 : decode cL_isWeek 146 = .ok (.iconst 1, 1) := by decide +kernel
theorem dL_isWeek_147 : decode cL_isWeek 147 = .ok (.invokevirtual 189, 3) := by decide +kernel
theorem dL_isWeek_150 : decode cL_isWeek 150 = .ok (.iload 4, 2) := by decide +kernel
theorem dL_isWeek_152 : decode cL_isWeek 152 = .ok (.if_icmp .ne 43, 3) := by decide +kernel
theorem dL_isWeek_155 : decode cL_isWeek 155 = .ok (.aload_n 0, 1) := by decide +kernel
theorem dL_isWeek_156 : decode cL_isWeek 156 = .ok (.bipush 9, 2) := by decide +kernel
theorem dL_isWeek_158 : decode cL_isWeek 158 = .ok (.invokevirtual 68, 3) := by decide +kernel
theorem dL_isWeek_161 : decode cL_isWeek 161 = .ok (.iload 5, 2) := by decide +kernel
theorem dL_isWeek_163 : decode cL_isWeek 163 = .ok (.if_icmp .ne 32, 3) := by decide +kernel
theorem dL_isWeek_166 : decode cL_isWeek 166 = .ok (.aload_n 0, 1) := by decide +kernel
theorem dL_isWeek_167 : decode cL_isWeek 167 = .ok (.bipush 10, 2) := by decide +kernel
theorem dL_isWeek_169 : decode cL_isWeek 169 = .ok (.invokevirtual 68, 3) := by decide +kernel
theorem dL_isWeek_172 : decode cL_isWeek 172 = .ok (.iload 6, 2) := by decide +kernel
theorem dL_isWeek_174 : decode cL_isWeek 174 = .ok (.if_icmp .ne 21, 3) := by decide +kernel
theorem dL_isWeek_177 : decode cL_isWeek 177 = .ok (.aload_n 0, 1) := by decide +kernel
theorem dL_isWeek_178 : decode cL_isWeek 178 = .ok (.bipush 6, 2) := by decide +kernel
theorem dL_isWeek_180 : decode cL_isWeek 180 = .ok (.invokevirtual 68, 3) := by decide +kernel
theorem dL_isWeek_183 : decode cL_isWeek 183 = .ok (.aload_n 0, 1) := by decide +kernel
theorem dL_isWeek_184 : decode cL_isWeek 184 = .ok (.bipush 7, 2) := by decide +kernel
theorem dL_isWeek_186 : decode cL_isWeek 186 = .ok (.invokevirtual 68, 3) := by decide +kernel
theorem dL_isWeek_189 : decode cL_isWeek 189 = .ok (.iadd, 1) := by decide +kernel
theorem dL_isWeek_190 : decode cL_isWeek 190 = .ok (.iload 7, 2) := by decide +kernel
theorem dL_isWeek_192 : decode cL_isWeek 192 = .ok (.if_icmp .eq 5, 3) := by decide +kernel
theorem dL_isWeek_195 : decode cL_isWeek 195 = .ok (.iconst 0, 1) := by decide +kernel
theorem dL_isWeek_196 : decode cL_isWeek 196 = .ok (.ireturn, 1) := by decide +kernel
theorem dL_isWeek_197 : decode cL_isWeek 197 = .ok (.iconst 0, 1) := by decide +kernel
theorem dL_isWeek_198 : decode cL_isWeek 198 = .ok (.istore 8, 2) := by decide +kernel
theorem dL_isWeek_200 : decode cL_isWeek 200 = .ok (.iload 8, 2) := by decide +kernel
theorem dL_isWeek_202 : decode cL_isWeek 202 = .ok (.iload_n 1, 1) := by decide +kernel
theorem dL_isWeek_203 : decode cL_isWeek 203 = .ok (.if_icmp .ge 73, 3) := by decide +kernel
theorem dL_isWeek_206 : decode cL_isWeek 206 = .ok (.aload_n 0, 1) := by decide +kernel
theorem dL_isWeek_207 : decode cL_isWeek 207 = .ok (.iload 8, 2) := by decide +kernel
theorem dL_isWeek_209 : decode cL_isWeek 209 = .ok (.bipush 7, 2) := by decide +kernel
theorem dL_isWeek_211 : decode cL_isWeek 211 = .ok (.invokevirtual 59, 3) := by decide +kernel
theorem dL_isWeek_214 : decode cL_isWeek 214 = .ok (.aload_n 2, 1) := by decide +kernel
theorem dL_isWeek_215 : decode cL_isWeek 215 = .ok (.iload 8, 2) := by decide +kernel
theorem dL_isWeek_217 : decode cL_isWeek 217 = .ok (.iaload, 1) := by decide +kernel
theorem dL_isWeek_218 : decode cL_isWeek 218 = .ok (.if_icmp .ne 50, 3) := by decide +kernel
theorem dL_isWeek_221 : decode cL_isWeek 221 = .ok (.aload_n 0, 1) := by decide +kernel
theorem dL_isWeek_222 : decode cL_isWeek 222 = .ok (.iload 8, 2) := by decide +kernel
theorem dL_isWeek_224 : decode cL_isWeek 224 = .ok (.bipush 8, 2) := by decide +kernel
theorem dL_isWeek_226 : decode cL_isWeek 226 = .ok (.invokevirtual 59, 3) := by decide +kernel
theorem dL_isWeek_229 : decode cL_isWeek 229 = .ok (.aload_n 3, 1) := by decide +kernel
theorem dL_isWeek_230 : decode cL_isWeek 230 = .ok (.iload 8, 2) := by decide +kernel
theorem dL_isWeek_232 : decode cL_isWeek 232 = .ok (.iaload, 1) := by decide +kernel
theorem dL_isWeek_233 : decode cL_isWeek 233 = .ok (.if_icmp .ne 35, 3) := by decide +kernel
theorem dL_isWeek_236 : decode cL_isWeek 236 = .ok (.aload_n 0, 1) := by decide +kernel
theorem dL_isWeek_237 : decode cL_isWeek 237 = .ok (.iload 8, 2) := by decide +kernel
theorem dL_isWeek_239 : decode cL_isWeek 239 = .ok (.iconst 5, 1) := by decide +kernel
theorem dL_isWeek_240 : decode cL_isWeek 240 = .ok (.invokevirtual 59, 3) := by decide +kernel
theorem dL_isWeek_243 : decode cL_isWeek 243 = .ok (.aload_n 3, 1) := by decide +kernel
theorem dL_isWeek_244 : decode cL_isWeek 244 = .ok (.iload 8, 2) := by decide +kernel
theorem dL_isWeek_246 : decode cL_isWeek 246 = .ok (.iaload, 1) := by decide +kernel
theorem dL_isWeek_247 : decode cL_isWeek 247 = .ok (.ifCond .le 13, 3) := by decide +kernel
theorem dL_isWeek_250 : decode cL_isWeek 250 = .ok (.aload_n 0, 1) := by decide +kernel
theorem dL_isWeek_251 : decode cL_isWeek 251 = .ok (.iconst 2, 1) := by decide +kernel
theorem dL_isWeek_252 : decode cL_isWeek 252 = .ok (.invokevirtual 68, 3) := by decide +kernel
theorem dL_isWeek_255 : decode cL_isWeek 255 = .ok (.iconst 2, 1) := by decide +kernel
theorem dL_isWeek_256 : decode cL_isWeek 256 = .ok (.idiv, 1) := by decide +kernel
theorem dL_isWeek_257 : decode cL_isWeek 257 = .ok (.goto 8, 3) := by decide +kernel
theorem dL_isWeek_260 : decode cL_isWeek 260 = .ok (.aload_n 0, 1) := by decide +kernel
theorem dL_isWeek_261 : decode cL_isWeek 261 = .ok (.iconst 2, 1) := by decide +kernel
theorem dL_isWeek_262 : decode cL_isWeek 262 = .ok (.invokevirtual 68, 3) := by decide +kernel
theorem dL_isWeek_265 : decode cL_isWeek 265 = .ok (.if_icmp .eq 5, 3) := by decide +kernel
theorem dL_isWeek_268 : decode cL_isWeek 268 = .ok (.iconst 0, 1) := by decide +kernel
theorem dL_isWeek_269 : decode cL_isWeek 269 = .ok (.ireturn, 1) := by decide +kernel
theorem dL_isWeek_270 : decode cL_isWeek 270 = .ok (.iinc 8 1, 3) := by decide +kernel
theorem dL_isWeek_273 : decode cL_isWeek 273 = .ok (.goto (-73), 3) := by decide +kernel
theorem dL_isWeek_276 : decode cL_isWeek 276 = .ok (.iconst 1, 1) := by decide +kernel
theorem dL_isWeek_277 : decode cL_isWeek 277 = .ok (.ireturn, 1) := by decide +kernel
theorem dL_isMoving_0 : decode cL_isMoving 0 = .ok (.aload_n 0, 1) := by decide +kernel
theorem dL_isMoving_1 : decode cL_isMoving 1 = .ok (.iload_n 1, 1) := by decide +kernel
theorem dL_isMoving_2 : decode cL_isMoving 2 = .ok (.iload_n 2, 1) := by decide +kernel
theorem dL_isMoving_3 : decode cL_isMoving 3 = .ok (.iload_n 3, 1) := by decide +kernel
theorem dL_isMoving_4 : decode cL_isMoving 4 = .ok (.invokevirtual 195, 3) := by decide +kernel
theorem dL_isMoving_7 : decode cL_isMoving 7 = .ok (.istore 4, 2) := by decide +kernel
theorem dL_isMoving_9 : decode cL_isMoving 9 = .ok (.aload_n 0, 1) := by decide +kernel
theorem dL_isMoving_10 : decode cL_isMoving 10 = .ok (.iload_n 2, 1) := by decide +kernel
theorem dL_isMoving_11 : decode cL_isMoving 11 = .ok (.iload_n 3, 1) := by decide +kernel
theorem dL_isMoving_12 : decode cL_isMoving 12 = .ok (.invokevirtual 134, 3) := by decide +kernel
theorem dL_isMoving_15 : decode cL_isMoving 15 = .ok (.iconst (-1), 1) := by decide +kernel
theorem dL_isMoving_16 : decode cL_isMoving 16 = .ok (.if_icmp .eq 7, 3) := by decide +kernel
theorem dL_isMoving_19 : decode cL_isMoving 19 = .ok (.iconst 1, 1) := by decide +kernel
theorem dL_isMoving_20 : decode cL_isMoving 20 = .ok (.goto 4, 3) := by decide +kernel
theorem dL_isMoving_23 : decode cL_isMoving 23 = .ok (.iconst 0, 1) := by decide +kernel
theorem dL_isMoving_24 : decode cL_isMoving 24 = .ok (.istore 5, 2) := by decide +kernel
theorem dL_isMoving_26 : decode cL_isMoving 26 = .ok (.aload_n 0, 1) := by decide +kernel
theorem dL_isMoving_27 : decode cL_isMoving 27 = .ok (.iload_n 1, 1) := by decide +kernel
theorem dL_isMoving_28 : decode cL_isMoving 28 = .ok (.invokevirtual 198, 3) := by decide +kernel
theorem dL_isMoving_31 : decode cL_isMoving 31 = .ok (.istore 6, 2) := by decide +kernel
theorem dL_isMoving_33 : decode cL_isMoving 33 = .ok (.iload 5, 2) := by decide +kernel
theorem dL_isMoving_35 : decode cL_isMoving 35 = .ok (.ifCond .ne 25, 3) := by decide +kernel
theorem dL_isMoving_38 : decode cL_isMoving 38 = .ok (.aload_n 0, 1) := by decide +kernel
theorem dL_isMoving_39 : decode cL_isMoving 39 = .ok (.iload_n 1, 1) := by decide +kernel
theorem dL_isMoving_40 : decode cL_isMoving 40 = .ok (.iload 6, 2) := by decide +kernel
theorem dL_isMoving_42 : decode cL_isMoving 42 = .ok (.bipush 6, 2) := by decide +kernel
theorem dL_isMoving_44 : decode cL_isMoving 44 = .ok (.idiv, 1) := by decide +kernel
theorem dL_isMoving_45 : decode cL_isMoving 45 = .ok (.iload 6, 2) := by decide +kernel
theorem dL_isMoving_47 : decode cL_isMoving 47 = .ok (.bipush 6, 2) := by decide +kernel
theorem dL_isMoving_49 : decode cL_isMoving 49 = .ok (.irem, 1) := by decide +kernel
theorem dL_isMoving_50 : decode cL_isMoving 50 = .ok (.invokevirtual 195, 3) := by decide +kernel
theorem dL_isMoving_53 : decode cL_isMoving 53 = .ok (.iload 4, 2) := by decide +kernel
theorem dL_isMoving_55 : decode cL_isMoving 55 = .ok (.if_icmp .le 5, 3) := by decide +kernel
theorem dL_isMoving_58 : decode cL_isMoving 58 = .ok (.iconst 0, 1) := by decide +kernel
theorem dL_isMoving_59 : decode cL_isMoving 59 = .ok (.ireturn, 1) := by decide +kernel
theorem dL_isMoving_60 : decode cL_isMoving 60 = .ok (.aload_n 0, 1) := by decide +kernel
theorem dL_isMoving_61 : decode cL_isMoving 61 = .ok (.iload_n 1, 1) := by decide +kernel
theorem dL_isMoving_62 : decode cL_isMoving 62 = .ok (.iload_n 2, 1) := by decide +kernel
theorem dL_isMoving_63 : decode cL_isMoving 63 = .ok (.iload_n 3, 1) := by decide +kernel
theorem dL_isMoving_64 : decode cL_isMoving 64 = .ok (.invokevirtual 201, 3) := by decide +kernel
theorem dL_isMoving_67 : decode cL_isMoving 67 = .ok (.istore 7, 2) := by decide +kernel
theorem dL_isMoving_69 : decode cL_isMoving 69 = .ok (.aload_n 0, 1) := by decide +kernel
theorem dL_isMoving_70 : decode cL_isMoving 70 = .ok (.iload_n 1, 1) := by decide +kernel
theorem dL_isMoving_71 : decode cL_isMoving 71 = .ok (.bipush 8, 2) := by decide +kernel
theorem dL_isMoving_73 : decode cL_isMoving 73 = .ok (.invokevirtual 59, 3) := by decide +kernel
theorem dL_isMoving_76 : decode cL_isMoving 76 = .ok (.ifCond .le 15, 3) := by decide +kernel
theorem dL_isMoving_79 : decode cL_isMoving 79 = .ok (.iload 7, 2) := by decide +kernel
theorem dL_isMoving_81 : decode cL_isMoving 81 = .ok (.iconst (-1), 1) := by decide +kernel
theorem dL_isMoving_82 : decode cL_isMoving 82 = .ok (.if_icmp .ne 7, 3) := by decide +kernel
theorem dL_isMoving_85 : decode cL_isMoving 85 = .ok (.iconst 1, 1) := by decide +kernel
theorem dL_isMoving_86 : decode cL_isMoving 86 = .ok (.goto 4, 3) := by decide +kernel
theorem dL_isMoving_89 : decode cL_isMoving 89 = .ok (.iconst 0, 1) := by decide +kernel
theorem dL_isMoving_90 : decode cL_isMoving 90 = .ok (.ireturn, 1) := by decide +kernel
theorem dL_isMoving_91 : decode cL_isMoving 91 = .ok (.iload 5, 2) := by decide +kernel
theorem dL_isMoving_93 : decode cL_isMoving 93 = .ok (.ifCond .eq 16, 3) := by decide +kernel
theorem dL_isMoving_96 : decode cL_isMoving 96 = .ok (.iload 7, 2) := by decide +kernel
theorem dL_isMoving_98 : decode cL_isMoving 98 = .ok (.bipush (-7), 2) := by decide +kernel
theorem dL_isMoving_100 : decode cL_isMoving 100 = .ok (.if_icmp .ne 7, 3) := by decide +kernel
theorem dL_isMoving_103 : decode cL_isMoving 103 = .ok (.iconst 1, 1) := by decide +kernel
theorem dL_isMoving_104 : decode cL_isMoving 104 = .ok (.goto 4, 3) := by decide +kernel
theorem dL_isMoving_107 : decode cL_isMoving 107 = .ok (.iconst 0, 1) := by decide +kernel
theorem dL_isMoving_108 : decode cL_isMoving 108 = .ok (.ireturn, 1) := by decide +kernel
theorem dL_isMoving_109 : decode cL_isMoving 109 = .ok (.iconst (-1), 1) := by decide +kernel
theorem dL_isMoving_110 : decode cL_isMoving 110 = .ok (.istore 8, 2) := by decide +kernel
theorem dL_isMoving_112 : decode cL_isMoving 112 = .ok (.iconst 0, 1) := by decide +kernel
theorem dL_isMoving_113 : decode cL_isMoving 113 = .ok (.istore 9, 2) := by decide +kernel
theorem dL_isMoving_115 : decode cL_isMoving 115 = .ok (.iload 9, 2) := by decide +kernel
theorem dL_isMoving_117 : decode cL_isMoving 117 = .ok (.aload_n 0, 1) := by decide +kernel
theorem dL_isMoving_118 : decode cL_isMoving 118 = .ok (.iconst 0, 1) := by decide +kernel
theorem dL_isMoving_119 : decode cL_isMoving 119 = .ok (.invokevirtual 68, 3) := by decide +kernel
theorem dL_isMoving_122 : decode cL_isMoving 122 = .ok (.if_icmp .ge 29, 3) := by decide +kernel
theorem dL_isMoving_125 : decode cL_isMoving 125 = .ok (.iload 8, 2) := by decide +kernel
theorem dL_isMoving_127 : decode cL_isMoving 127 = .ok (.aload_n 0, 1) := by decide +kernel
theorem dL_isMoving_128 : decode cL_isMoving 128 = .ok (.iload 9, 2) := by decide +kernel
theorem dL_isMoving_130 : decode cL_isMoving 130 = .ok (.iload_n 1, 1) := by decide +kernel
theorem dL_isMoving_131 : decode cL_isMoving 131 = .ok (.invokestatic 71, 3) := by decide +kernel
theorem dL_isMoving_134 : decode cL_isMoving 134 = .ok (.ifCond .eq 7, 3) := by decide +kernel
theorem dL_isMoving_137 : decode cL_isMoving 137 = .ok (.iconst 1, 1) := by decide +kernel
theorem dL_isMoving_138 : decode cL_isMoving 138 = .ok (.goto 4, 3) := by decide +kernel
theorem dL_isMoving_141 : decode cL_isMoving 141 = .ok (.iconst 0, 1) := by decide +kernel
theorem dL_isMoving_142 : decode cL_isMoving 142 = .ok (.iadd, 1) := by decide +kernel
theorem dL_isMoving_143 : decode cL_isMoving 143 = .ok (.istore 8, 2) := by decide +kernel
theorem dL_isMoving_145 : decode cL_isMoving 145 = .ok (.iinc 9 1, 3) := by decide +kernel
theorem dL_isMoving_148 : decode cL_isMoving 148 = .ok (.goto (-33), 3) := by decide +kernel
theorem dL_isMoving_151 : decode cL_isMoving 151 = .ok (.iload 7, 2) := by decide +kernel
theorem dL_isMoving_153 : decode cL_isMoving 153 = .ok (.iload 8, 2) := by decide +kernel
theorem dL_isMoving_155 : decode cL_isMoving 155 = .ok (.if_icmp .ne 17, 3) := by decide +kernel
theorem dL_isMoving_158 : decode cL_isMoving 158 = .ok (.aload_n 0, 1) := by decide +kernel
theorem dL_isMoving_159 : decode cL_isMoving 159 = .ok (.iload_n 2, 1) := by decide +kernel
theorem dL_isMoving_160 : decode cL_isMoving 160 = .ok (.iload_n 3, 1) := by decide +kernel
theorem dL_isMoving_161 : decode cL_isMoving 161 = .ok (.invokevirtual 134, 3) := by decide +kernel
theorem dL_isMoving_164 : decode cL_isMoving 164 = .ok (.iload_n 1, 1) := by decide +kernel
theorem dL_isMoving_165 : decode cL_isMoving 165 = .ok (.if_icmp .ne 7, 3) := by decide +kernel
theorem dL_isMoving_168 : decode cL_isMoving 168 = .ok (.iconst 1, 1) := by decide +kernel
theorem dL_isMoving_169 : decode cL_isMoving 169 = .ok (.goto 4, 3) := by decide +kernel
theorem dL_isMoving_172 : decode cL_isMoving 172 = .ok (.iconst 0, 1) := by decide +kernel
theorem dL_isMoving_173 : decode cL_isMoving 173 = .ok (.ireturn, 1) := by decide +kernel
theorem dL_act_0 : decode cL_act 0 = .ok (.iload_n 2, 1) := by decide +kernel
theorem dL_act_1 : decode cL_act 1 = .ok (.aload_n 0, 1) := by decide +kernel
theorem dL_act_2 : decode cL_act 2 = .ok (.iconst 0, 1) := by decide +kernel
theorem dL_act_3 : decode cL_act 3 = .ok (.invokevirtual 68, 3) := by decide +kernel
theorem dL_act_6 : decode cL_act 6 = .ok (.irem, 1) := by decide +kernel
theorem dL_act_7 : decode cL_act 7 = .ok (.istore 4, 2) := by decide +kernel
theorem dL_act_9 : decode cL_act 9 = .ok (.iload_n 3, 1) := by decide +kernel
theorem dL_act_10 : decode cL_act 10 = .ok (.aload_n 0, 1) := by decide +kernel
theorem dL_act_11 : decode cL_act 11 = .ok (.iconst 0, 1) := by decide +kernel
theorem dL_act_12 : decode cL_act 12 = .ok (.invokevirtual 68, 3) := by decide +kernel
theorem dL_act_15 : decode cL_act 15 = .ok (.irem, 1) := by decide +kernel
theorem dL_act_16 : decode cL_act 16 = .ok (.istore 5, 2) := by decide +kernel
theorem dL_act_18 : decode cL_act 18 = .ok (.iload_n 2, 1) := by decide +kernel
theorem dL_act_19 : decode cL_act 19 = .ok (.bipush 7, 2) := by decide +kernel
theorem dL_act_21 : decode cL_act 21 = .ok (.idiv, 1) := by decide +kernel
theorem dL_act_22 : decode cL_act 22 = .ok (.iconst 2, 1) := by decide +kernel
theorem dL_act_23 : decode cL_act 23 = .ok (.irem, 1) := by decide +kernel
theorem dL_act_24 : decode cL_act 24 = .ok (.istore 6, 2) := by decide +kernel
theorem dL_act_26 : decode cL_act 26 = .ok (.iconst 1, 1) := by decide +kernel
theorem dL_act_27 : decode cL_act 27 = .ok (.iload_n 3, 1) := by decide +kernel
theorem dL_act_28 : decode cL_act 28 = .ok (.iconst 5, 1) := by decide +kernel
theorem dL_act_29 : decode cL_act 29 = .ok (.idiv, 1) := by decide +kernel
theorem dL_act_30 : decode cL_act 30 = .ok (.bipush 6, 2) := by decide +kernel
theorem dL_act_32 : decode cL_act 32 = .ok (.irem, 1) := by decide +kernel
theorem dL_act_33 : decode cL_act 33 = .ok (.iadd, 1) := by decide +kernel
theorem dL_act_34 : decode cL_act 34 = .ok (.istore 7, 2) := by decide +kernel
theorem dL_act_36 : decode cL_act 36 = .ok (.iload_n 1, 1) := by decide +kernel
theorem dL_act_37 : decode cL_act 37 = .ok (.tableswitch 268 0 10 #[59, 59, 59, 70, 70, 70, 89, 89, 102, 176, 195], 59) := by decide +kernel
theorem dL_act_96 : decode cL_act 96 = .ok (.aload_n 0, 1) := by decide +kernel
theorem dL_act_97 : decode cL_act 97 = .ok (.iload 4, 2) := by decide +kernel
theorem dL_act_99 : decode cL_act 99 = .ok (.iload 6, 2) := by decide +kernel
theorem dL_act_101 : decode cL_act 101 = .ok (.iload 7, 2) := by decide +kernel
theorem dL_act_103 : decode cL_act 103 = .ok (.invokestatic 204, 3) := by decide +kernel
theorem dL_act_106 : decode cL_act 106 = .ok (.ireturn, 1) := by decide +kernel
theorem dL_act_107 : decode cL_act 107 = .ok (.aload_n 0, 1) := by decide +kernel
theorem dL_act_108 : decode cL_act 108 = .ok (.iload 4, 2) := by decide +kernel
theorem dL_act_110 : decode cL_act 110 = .ok (.iload 5, 2) := by decide +kernel
theorem dL_act_112 : decode cL_act 112 = .ok (.iload_n 2, 1) := by decide +kernel
theorem dL_act_113 : decode cL_act 113 = .ok (.iconst 3, 1) := by decide +kernel
theorem dL_act_114 : decode cL_act 114 = .ok (.idiv, 1) := by decide +kernel
theorem dL_act_115 : decode cL_act 115 = .ok (.iconst 4, 1) := by decide +kernel
theorem dL_act_116 : decode cL_act 116 = .ok (.irem, 1) := by decide +kernel
theorem dL_act_117 : decode cL_act 117 = .ok (.iload_n 3, 1) := by decide +kernel
theorem dL_act_118 : decode cL_act 118 = .ok (.iconst 3, 1) := by decide +kernel
theorem dL_act_119 : decode cL_act 119 = .ok (.idiv, 1) := by decide +kernel
theorem dL_act_120 : decode cL_act 120 = .ok (.iconst 4, 1) := by decide +kernel
theorem dL_act_121 : decode cL_act 121 = .ok (.irem, 1) := by decide +kernel
theorem dL_act_122 : decode cL_act 122 = .ok (.invokestatic 208, 3) := by decide +kernel
theorem dL_act_125 : decode cL_act 125 = .ok (.ireturn, 1) := by decide +kernel
theorem dL_act_126 : decode cL_act 126 = .ok (.aload_n 0, 1) := by decide +kernel
theorem dL_act_127 : decode cL_act 127 = .ok (.iload 4, 2) := by decide +kernel
theorem dL_act_129 : decode cL_act 129 = .ok (.iload 5, 2) := by decide +kernel
theorem dL_act_131 : decode cL_act 131 = .ok (.iload 6, 2) := by decide +kernel
theorem dL_act_133 : decode cL_act 133 = .ok (.iload 7, 2) := by decide +kernel
theorem dL_act_135 : decode cL_act 135 = .ok (.invokestatic 212, 3) := by decide +kernel
theorem dL_act_138 : decode cL_act 138 = .ok (.ireturn, 1) := by decide +kernel
theorem dL_act_139 : decode cL_act 139 = .ok (.aload_n 0, 1) := by decide +kernel
theorem dL_act_140 : decode cL_act 140 = .ok (.bipush 8, 2) := by decide +kernel
theorem dL_act_142 : decode cL_act 142 = .ok (.invokevirtual 68, 3) := by decide +kernel
theorem dL_act_145 : decode cL_act 145 = .ok (.ifCond .le 55, 3) := by decide +kernel
theorem dL_act_148 : decode cL_act 148 = .ok (.iload_n 3, 1) := by decide +kernel
theorem dL_act_149 : decode cL_act 149 = .ok (.iconst 3, 1) := by decide +kernel
theorem dL_act_150 : decode cL_act 150 = .ok (.irem, 1) := by decide +kernel
theorem dL_act_151 : decode cL_act 151 = .ok (.ifCond .le 49, 3) := by decide +kernel
theorem dL_act_154 : decode cL_act 154 = .ok (.aload_n 0, 1) := by decide +kernel
theorem dL_act_155 : decode cL_act 155 = .ok (.aload_n 0, 1) := by decide +kernel
theorem dL_act_156 : decode cL_act 156 = .ok (.iload_n 2, 1) := by decide +kernel
theorem dL_act_157 : decode cL_act 157 = .ok (.aload_n 0, 1) := by decide +kernel
theorem dL_act_158 : decode cL_act 158 = .ok (.bipush 8, 2) := by decide +kernel
theorem dL_act_160 : decode cL_act 160 = .ok (.invokevirtual 68, 3) := by decide +kernel
theorem dL_act_163 : decode cL_act 163 = .ok (.irem, 1) := by decide +kernel
theorem dL_act_164 : decode cL_act 164 = .ok (.iconst 0, 1) := by decide +kernel
theorem dL_act_165 : decode cL_act 165 = .ok (.invokevirtual 91, 3) := by decide +kernel
theorem dL_act_168 : decode cL_act 168 = .ok (.aload_n 0, 1) := by decide +kernel
theorem dL_act_169 : decode cL_act 169 = .ok (.iload_n 2, 1) := by decide +kernel
theorem dL_act_170 : decode cL_act 170 = .ok (.aload_n 0, 1) := by decide +kernel
theorem dL_act_171 : decode cL_act 171 = .ok (.bipush 8, 2) := by decide +kernel
theorem dL_act_173 : decode cL_act 173 = .ok (.invokevirtual 68, 3) := by decide +kernel
theorem dL_act_176 : decode cL_act 176 = .ok (.irem, 1) := by decide +kernel
theorem dL_act_177 : decode cL_act 177 = .ok (.iconst 1, 1) := by decide +kernel
theorem dL_act_178 : decode cL_act 178 = .ok (.invokevirtual 91, 3) := by decide +kernel
theorem dL_act_181 : decode cL_act 181 = .ok (.aload_n 0, 1) := by decide +kernel
theorem dL_act_182 : decode cL_act 182 = .ok (.iload_n 2, 1) := by decide +kernel
theorem dL_act_183 : decode cL_act 183 = .ok (.aload_n 0, 1) := by decide +kernel
theorem dL_act_184 : decode cL_act 184 = .ok (.bipush 8, 2) := by decide +kernel
theorem dL_act_186 : decode cL_act 186 = .ok (.invokevirtual 68, 3) := by decide +kernel
theorem dL_act_189 : decode cL_act 189 = .ok (.irem, 1) := by decide +kernel
theorem dL_act_190 : decode cL_act 190 = .ok (.iconst 2, 1) := by decide +kernel
theorem dL_act_191 : decode cL_act 191 = .ok (.invokevirtual 91, 3) := by decide +kernel
theorem dL_act_194 : decode cL_act 194 = .ok (.iload 7, 2) := by decide +kernel
theorem dL_act_196 : decode cL_act 196 = .ok (.invokestatic 215, 3) := by decide +kernel
theorem dL_act_199 : decode cL_act 199 = .ok (.ireturn, 1) := by decide +kernel
theorem dL_act_200 : decode cL_act 200 = .ok (.aload_n 0, 1) := by decide +kernel
theorem dL_act_201 : decode cL_act 201 = .ok (.iload 4, 2) := by decide +kernel
theorem dL_act_203 : decode cL_act 203 = .ok (.iload 5, 2) := by decide +kernel
theorem dL_act_205 : decode cL_act 205 = .ok (.iload 6, 2) := by decide +kernel
theorem dL_act_207 : decode cL_act 207 = .ok (.iload 7, 2) := by decide +kernel
theorem dL_act_209 : decode cL_act 209 = .ok (.invokestatic 215, 3) := by decide +kernel
theorem dL_act_212 : decode cL_act 212 = .ok (.ireturn, 1) := by decide +kernel
theorem dL_act_213 : decode cL_act 213 = .ok (.aload_n 0, 1) := by decide +kernel
theorem dL_act_214 : decode cL_act 214 = .ok (.iload 4, 2) := by decide +kernel
theorem dL_act_216 : decode cL_act 216 = .ok (.iload_n 2, 1) := by decide +kernel
theorem dL_act_217 : decode cL_act 217 = .ok (.iconst 3, 1) := by decide +kernel
theorem dL_act_218 : decode cL_act 218 = .ok (.idiv, 1) := by decide +kernel
theorem dL_act_219 : decode cL_act 219 = .ok (.bipush 6, 2) := by decide +kernel
theorem dL_act_221 : decode cL_act 221 = .ok (.irem, 1) := by decide +kernel
theorem dL_act_222 : decode cL_act 222 = .ok (.iload_n 3, 1) := by decide +kernel
theorem dL_act_223 : decode cL_act 223 = .ok (.iconst 3, 1) := by decide +kernel
theorem dL_act_224 : decode cL_act 224 = .ok (.idiv, 1) := by decide +kernel
theorem dL_act_225 : decode cL_act 225 = .ok (.bipush 6, 2) := by decide +kernel
theorem dL_act_227 : decode cL_act 227 = .ok (.irem, 1) := by decide +kernel
theorem dL_act_228 : decode cL_act 228 = .ok (.invokestatic 218, 3) := by decide +kernel
theorem dL_act_231 : decode cL_act 231 = .ok (.ireturn, 1) := by decide +kernel
theorem dL_act_232 : decode cL_act 232 = .ok (.aload_n 0, 1) := by decide +kernel
theorem dL_act_233 : decode cL_act 233 = .ok (.iload 4, 2) := by decide +kernel
theorem dL_act_235 : decode cL_act 235 = .ok (.bipush 6, 2) := by decide +kernel
theorem dL_act_237 : decode cL_act 237 = .ok (.invokevirtual 59, 3) := by decide +kernel
theorem dL_act_240 : decode cL_act 240 = .ok (.istore 8, 2) := by decide +kernel
theorem dL_act_242 : decode cL_act 242 = .ok (.aload_n 0, 1) := by decide +kernel
theorem dL_act_243 : decode cL_act 243 = .ok (.iload 4, 2) := by decide +kernel
theorem dL_act_245 : decode cL_act 245 = .ok (.bipush 7, 2) := by decide +kernel
theorem dL_act_247 : decode cL_act 247 = .ok (.invokevirtual 59, 3) := by decide +kernel
theorem dL_act_250 : decode cL_act 250 = .ok (.istore 9, 2) := by decide +kernel
theorem dL_act_252 : decode cL_act 252 = .ok (.aload_n 0, 1) := by decide +kernel
theorem dL_act_253 : decode cL_act 253 = .ok (.iload 4, 2) := by decide +kernel
theorem dL_act_255 : decode cL_act 255 = .ok (.invokevirtual 221, 3) := by decide +kernel
theorem dL_act_258 : decode cL_act 258 = .ok (.iload 8, 2) := by decide +kernel
theorem dL_act_260 : decode cL_act 260 = .ok (.ifCond .ne 8, 3) := by decide +kernel
theorem dL_act_263 : decode cL_act 263 = .ok (.bipush (-8), 2) := by decide +kernel
theorem dL_act_265 : decode cL_act 265 = .ok (.goto 7, 3) := by decide +kernel
theorem dL_act_268 : decode cL_act 268 = .ok (.iload 8, 2) := by decide +kernel
theorem dL_act_270 : decode cL_act 270 = .ok (.iconst 2, 1) := by decide +kernel
theorem dL_act_271 : decode cL_act 271 = .ok (.idiv, 1) := by decide +kernel
theorem dL_act_272 : decode cL_act 272 = .ok (.if_icmp .ne 31, 3) := by decide +kernel
theorem dL_act_275 : decode cL_act 275 = .ok (.aload_n 0, 1) := by decide +kernel
theorem dL_act_276 : decode cL_act 276 = .ok (.iload 4, 2) := by decide +kernel
theorem dL_act_278 : decode cL_act 278 = .ok (.bipush 7, 2) := by decide +kernel
theorem dL_act_280 : decode cL_act 280 = .ok (.invokevirtual 59, 3) := by decide +kernel
theorem dL_act_283 : decode cL_act 283 = .ok (.iload 9, 2) := by decide +kernel
theorem dL_act_285 : decode cL_act 285 = .ok (.iload 8, 2) := by decide +kernel
theorem dL_act_287 : decode cL_act 287 = .ok (.ifCond .ne 7, 3) := by decide +kernel
theorem dL_act_290 : decode cL_act 290 = .ok (.iconst 0, 1) := by decide +kernel
theorem dL_act_291 : decode cL_act 291 = .ok (.goto 4, 3) := by decide +kernel
theorem dL_act_294 : decode cL_act 294 = .ok (.iconst 1, 1) := by decide +kernel
theorem dL_act_295 : decode cL_act 295 = .ok (.iadd, 1) := by decide +kernel
theorem dL_act_296 : decode cL_act 296 = .ok (.if_icmp .ne 7, 3) := by decide +kernel
theorem dL_act_299 : decode cL_act 299 = .ok (.iconst 1, 1) := by decide +kernel
theorem dL_act_300 : decode cL_act 300 = .ok (.goto 4, 3) := by decide +kernel
theorem dL_act_303 : decode cL_act 303 = .ok (.iconst 0, 1) := by decide +kernel
theorem dL_act_304 : decode cL_act 304 = .ok (.ireturn, 1) := by decide +kernel
theorem dL_act_305 : decode cL_act 305 = .ok (.aload_n 0, 1) := by decide +kernel
theorem dL_act_306 : decode cL_act 306 = .ok (.invokestatic 224, 3) := by decide +kernel
theorem dL_act_309 : decode cL_act 309 = .ok (.ireturn, 1) := by decide +kernel
theorem dL_isDoneAgain_0 : decode cL_isDoneAgain 0 = .ok (.aload_n 1, 1) := by decide +kernel
theorem dL_isDoneAgain_1 : decode cL_isDoneAgain 1 = .ok (.bipush 14, 2) := by decide +kernel
theorem dL_isDoneAgain_3 : decode cL_isDoneAgain 3 = .ok (.invokevirtual 34, 3) := by decide +kernel
theorem dL_isDoneAgain_6 : decode cL_isDoneAgain 6 = .ok (.istore_n 2, 1) := by decide +kernel
theorem dL_isDoneAgain_7 : decode cL_isDoneAgain 7 = .ok (.aload_n 1, 1) := by decide +kernel
theorem dL_isDoneAgain_8 : decode cL_isDoneAgain 8 = .ok (.ldc 228, 2) := by decide +kernel
