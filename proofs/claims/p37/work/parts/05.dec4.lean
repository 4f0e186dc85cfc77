theorem dL_isJoin_121 : decode cL_isJoin 121 = .ok (.iconst (-1), 1) := by decide +kernel
theorem dL_isJoin_122 : decode cL_isJoin 122 = .ok (.if_icmp .ne 7, 3) := by decide +kernel
theorem dL_isJoin_125 : decode cL_isJoin 125 = .ok (.iconst 1, 1) := by decide +kernel
theorem dL_isJoin_126 : decode cL_isJoin 126 = .ok (.goto 4, 3) := by decide +kernel
theorem dL_isJoin_129 : decode cL_isJoin 129 = .ok (.iconst 0, 1) := by decide +kernel
theorem dL_isJoin_130 : decode cL_isJoin 130 = .ok (.istore 5, 2) := by decide +kernel
theorem dL_isJoin_132 : decode cL_isJoin 132 = .ok (.iconst 0, 1) := by decide +kernel
theorem dL_isJoin_133 : decode cL_isJoin 133 = .ok (.istore 6, 2) := by decide +kernel
theorem dL_isJoin_135 : decode cL_isJoin 135 = .ok (.iload 5, 2) := by decide +kernel
theorem dL_isJoin_137 : decode cL_isJoin 137 = .ok (.ifCond .eq 57, 3) := by decide +kernel
theorem dL_isJoin_140 : decode cL_isJoin 140 = .ok (.iload 6, 2) := by decide +kernel
theorem dL_isJoin_142 : decode cL_isJoin 142 = .ok (.iload_n 2, 1) := by decide +kernel
theorem dL_isJoin_143 : decode cL_isJoin 143 = .ok (.if_icmp .ge 51, 3) := by decide +kernel
theorem dL_isJoin_146 : decode cL_isJoin 146 = .ok (.aload_n 0, 1) := by decide +kernel
theorem dL_isJoin_147 : decode cL_isJoin 147 = .ok (.iload_n 1, 1) := by decide +kernel
theorem dL_isJoin_148 : decode cL_isJoin 148 = .ok (.iload 6, 2) := by decide +kernel
theorem dL_isJoin_150 : decode cL_isJoin 150 = .ok (.invokevirtual 132, 3) := by decide +kernel
theorem dL_isJoin_153 : decode cL_isJoin 153 = .ok (.istore 7, 2) := by decide +kernel
theorem dL_isJoin_155 : decode cL_isJoin 155 = .ok (.iload_n 3, 1) := by decide +kernel
theorem dL_isJoin_156 : decode cL_isJoin 156 = .ok (.iload 7, 2) := by decide +kernel
theorem dL_isJoin_158 : decode cL_isJoin 158 = .ok (.invokestatic 113, 3) := by decide +kernel
theorem dL_isJoin_161 : decode cL_isJoin 161 = .ok (.ifCond .eq 17, 3) := by decide +kernel
theorem dL_isJoin_164 : decode cL_isJoin 164 = .ok (.iload_n 3, 1) := by decide +kernel
theorem dL_isJoin_165 : decode cL_isJoin 165 = .ok (.aload_n 0, 1) := by decide +kernel
theorem dL_isJoin_166 : decode cL_isJoin 166 = .ok (.iload_n 1, 1) := by decide +kernel
theorem dL_isJoin_167 : decode cL_isJoin 167 = .ok (.iconst 0, 1) := by decide +kernel
theorem dL_isJoin_168 : decode cL_isJoin 168 = .ok (.invokevirtual 105, 3) := by decide +kernel
theorem dL_isJoin_171 : decode cL_isJoin 171 = .ok (.if_icmp .eq 7, 3) := by decide +kernel
theorem dL_isJoin_174 : decode cL_isJoin 174 = .ok (.iconst 1, 1) := by decide +kernel
theorem dL_isJoin_175 : decode cL_isJoin 175 = .ok (.goto 4, 3) := by decide +kernel
theorem dL_isJoin_178 : decode cL_isJoin 178 = .ok (.iconst 0, 1) := by decide +kernel
theorem dL_isJoin_179 : decode cL_isJoin 179 = .ok (.istore 5, 2) := by decide +kernel
theorem dL_isJoin_181 : decode cL_isJoin 181 = .ok (.iload_n 3, 1) := by decide +kernel
theorem dL_isJoin_182 : decode cL_isJoin 182 = .ok (.iload 7, 2) := by decide +kernel
theorem dL_isJoin_184 : decode cL_isJoin 184 = .ok (.invokestatic 117, 3) := by decide +kernel
theorem dL_isJoin_187 : decode cL_isJoin 187 = .ok (.istore_n 3, 1) := by decide +kernel
theorem dL_isJoin_188 : decode cL_isJoin 188 = .ok (.iinc 6 1, 3) := by decide +kernel
theorem dL_isJoin_191 : decode cL_isJoin 191 = .ok (.goto (-56), 3) := by decide +kernel
theorem dL_isJoin_194 : decode cL_isJoin 194 = .ok (.iload 5, 2) := by decide +kernel
theorem dL_isJoin_196 : decode cL_isJoin 196 = .ok (.ifCond .eq 17, 3) := by decide +kernel
theorem dL_isJoin_199 : decode cL_isJoin 199 = .ok (.iload_n 3, 1) := by decide +kernel
theorem dL_isJoin_200 : decode cL_isJoin 200 = .ok (.aload_n 0, 1) := by decide +kernel
theorem dL_isJoin_201 : decode cL_isJoin 201 = .ok (.iload_n 1, 1) := by decide +kernel
theorem dL_isJoin_202 : decode cL_isJoin 202 = .ok (.iconst 0, 1) := by decide +kernel
theorem dL_isJoin_203 : decode cL_isJoin 203 = .ok (.invokevirtual 105, 3) := by decide +kernel
theorem dL_isJoin_206 : decode cL_isJoin 206 = .ok (.if_icmp .ne 7, 3) := by decide +kernel
theorem dL_isJoin_209 : decode cL_isJoin 209 = .ok (.iconst 1, 1) := by decide +kernel
theorem dL_isJoin_210 : decode cL_isJoin 210 = .ok (.goto 4, 3) := by decide +kernel
theorem dL_isJoin_213 : decode cL_isJoin 213 = .ok (.iconst 0, 1) := by decide +kernel
theorem dL_isJoin_214 : decode cL_isJoin 214 = .ok (.ireturn, 1) := by decide +kernel
theorem dL_areRows_0 : decode cL_areRows 0 = .ok (.iconst 0, 1) := by decide +kernel
theorem dL_areRows_1 : decode cL_areRows 1 = .ok (.istore_n 1, 1) := by decide +kernel
theorem dL_areRows_2 : decode cL_areRows 2 = .ok (.iconst 0, 1) := by decide +kernel
theorem dL_areRows_3 : decode cL_areRows 3 = .ok (.istore_n 2, 1) := by decide +kernel
theorem dL_areRows_4 : decode cL_areRows 4 = .ok (.iconst 0, 1) := by decide +kernel
theorem dL_areRows_5 : decode cL_areRows 5 = .ok (.istore_n 3, 1) := by decide +kernel
theorem dL_areRows_6 : decode cL_areRows 6 = .ok (.iconst 0, 1) := by decide +kernel
theorem dL_areRows_7 : decode cL_areRows 7 = .ok (.istore 4, 2) := by decide +kernel
theorem dL_areRows_9 : decode cL_areRows 9 = .ok (.aload_n 0, 1) := by decide +kernel
theorem dL_areRows_10 : decode cL_areRows 10 = .ok (.aload_n 0, 1) := by decide +kernel
theorem dL_areRows_11 : decode cL_areRows 11 = .ok (.iconst 0, 1) := by decide +kernel
theorem dL_areRows_12 : decode cL_areRows 12 = .ok (.invokevirtual 79, 3) := by decide +kernel
theorem dL_areRows_15 : decode cL_areRows 15 = .ok (.iconst 0, 1) := by decide +kernel
theorem dL_areRows_16 : decode cL_areRows 16 = .ok (.invokevirtual 85, 3) := by decide +kernel
theorem dL_areRows_19 : decode cL_areRows 19 = .ok (.iconst (-1), 1) := by decide +kernel
theorem dL_areRows_20 : decode cL_areRows 20 = .ok (.if_icmp .ne 7, 3) := by decide +kernel
theorem dL_areRows_23 : decode cL_areRows 23 = .ok (.iconst 1, 1) := by decide +kernel
theorem dL_areRows_24 : decode cL_areRows 24 = .ok (.goto 4, 3) := by decide +kernel
theorem dL_areRows_27 : decode cL_areRows 27 = .ok (.iconst 0, 1) := by decide +kernel
theorem dL_areRows_28 : decode cL_areRows 28 = .ok (.istore 5, 2) := by decide +kernel
theorem dL_areRows_30 : decode cL_areRows 30 = .ok (.iconst 0, 1) := by decide +kernel
theorem dL_areRows_31 : decode cL_areRows 31 = .ok (.istore 6, 2) := by decide +kernel
theorem dL_areRows_33 : decode cL_areRows 33 = .ok (.iload 5, 2) := by decide +kernel
theorem dL_areRows_35 : decode cL_areRows 35 = .ok (.ifCond .eq 224, 3) := by decide +kernel
theorem dL_areRows_38 : decode cL_areRows 38 = .ok (.iload 6, 2) := by decide +kernel
theorem dL_areRows_40 : decode cL_areRows 40 = .ok (.aload_n 0, 1) := by decide +kernel
theorem dL_areRows_41 : decode cL_areRows 41 = .ok (.iconst 0, 1) := by decide +kernel
theorem dL_areRows_42 : decode cL_areRows 42 = .ok (.invokevirtual 79, 3) := by decide +kernel
theorem dL_areRows_45 : decode cL_areRows 45 = .ok (.if_icmp .ge 214, 3) := by decide +kernel
theorem dL_areRows_48 : decode cL_areRows 48 = .ok (.iload_n 1, 1) := by decide +kernel
theorem dL_areRows_49 : decode cL_areRows 49 = .ok (.aload_n 0, 1) := by decide +kernel
theorem dL_areRows_50 : decode cL_areRows 50 = .ok (.iload 6, 2) := by decide +kernel
theorem dL_areRows_52 : decode cL_areRows 52 = .ok (.invokevirtual 96, 3) := by decide +kernel
theorem dL_areRows_55 : decode cL_areRows 55 = .ok (.iadd, 1) := by decide +kernel
theorem dL_areRows_56 : decode cL_areRows 56 = .ok (.istore_n 1, 1) := by decide +kernel
theorem dL_areRows_57 : decode cL_areRows 57 = .ok (.iload_n 2, 1) := by decide +kernel
theorem dL_areRows_58 : decode cL_areRows 58 = .ok (.iconst 0, 1) := by decide +kernel
theorem dL_areRows_59 : decode cL_areRows 59 = .ok (.aload_n 0, 1) := by decide +kernel
theorem dL_areRows_60 : decode cL_areRows 60 = .ok (.iload 6, 2) := by decide +kernel
theorem dL_areRows_62 : decode cL_areRows 62 = .ok (.iconst 2, 1) := by decide +kernel
theorem dL_areRows_63 : decode cL_areRows 63 = .ok (.invokevirtual 85, 3) := by decide +kernel
theorem dL_areRows_66 : decode cL_areRows 66 = .ok (.invokestatic 91, 3) := by decide +kernel
theorem dL_areRows_69 : decode cL_areRows 69 = .ok (.iadd, 1) := by decide +kernel
theorem dL_areRows_70 : decode cL_areRows 70 = .ok (.istore_n 2, 1) := by decide +kernel
theorem dL_areRows_71 : decode cL_areRows 71 = .ok (.iload_n 3, 1) := by decide +kernel
theorem dL_areRows_72 : decode cL_areRows 72 = .ok (.aload_n 0, 1) := by decide +kernel
theorem dL_areRows_73 : decode cL_areRows 73 = .ok (.iload 6, 2) := by decide +kernel
theorem dL_areRows_75 : decode cL_areRows 75 = .ok (.iconst 0, 1) := by decide +kernel
theorem dL_areRows_76 : decode cL_areRows 76 = .ok (.invokevirtual 85, 3) := by decide +kernel
theorem dL_areRows_79 : decode cL_areRows 79 = .ok (.iadd, 1) := by decide +kernel
theorem dL_areRows_80 : decode cL_areRows 80 = .ok (.istore_n 3, 1) := by decide +kernel
theorem dL_areRows_81 : decode cL_areRows 81 = .ok (.iload 4, 2) := by decide +kernel
theorem dL_areRows_83 : decode cL_areRows 83 = .ok (.aload_n 0, 1) := by decide +kernel
theorem dL_areRows_84 : decode cL_areRows 84 = .ok (.iload 6, 2) := by decide +kernel
theorem dL_areRows_86 : decode cL_areRows 86 = .ok (.iconst 1, 1) := by decide +kernel
theorem dL_areRows_87 : decode cL_areRows 87 = .ok (.invokevirtual 85, 3) := by decide +kernel
theorem dL_areRows_90 : decode cL_areRows 90 = .ok (.iadd, 1) := by decide +kernel
theorem dL_areRows_91 : decode cL_areRows 91 = .ok (.istore 4, 2) := by decide +kernel
theorem dL_areRows_93 : decode cL_areRows 93 = .ok (.aload_n 0, 1) := by decide +kernel
theorem dL_areRows_94 : decode cL_areRows 94 = .ok (.iload 6, 2) := by decide +kernel
theorem dL_areRows_96 : decode cL_areRows 96 = .ok (.invokestatic 138, 3) := by decide +kernel
theorem dL_areRows_99 : decode cL_areRows 99 = .ok (.ifCond .eq 16, 3) := by decide +kernel
theorem dL_areRows_102 : decode cL_areRows 102 = .ok (.aload_n 0, 1) := by decide +kernel
theorem dL_areRows_103 : decode cL_areRows 103 = .ok (.iload 6, 2) := by decide +kernel
theorem dL_areRows_105 : decode cL_areRows 105 = .ok (.invokestatic 142, 3) := by decide +kernel
theorem dL_areRows_108 : decode cL_areRows 108 = .ok (.ifCond .eq 7, 3) := by decide +kernel
theorem dL_areRows_111 : decode cL_areRows 111 = .ok (.iconst 1, 1) := by decide +kernel
theorem dL_areRows_112 : decode cL_areRows 112 = .ok (.goto 4, 3) := by decide +kernel
theorem dL_areRows_115 : decode cL_areRows 115 = .ok (.iconst 0, 1) := by decide +kernel
theorem dL_areRows_116 : decode cL_areRows 116 = .ok (.istore 5, 2) := by decide +kernel
theorem dL_areRows_118 : decode cL_areRows 118 = .ok (.iconst 0, 1) := by decide +kernel
theorem dL_areRows_119 : decode cL_areRows 119 = .ok (.istore 7, 2) := by decide +kernel
theorem dL_areRows_121 : decode cL_areRows 121 = .ok (.iload 5, 2) := by decide +kernel
theorem dL_areRows_123 : decode cL_areRows 123 = .ok (.ifCond .eq 130, 3) := by decide +kernel
theorem dL_areRows_126 : decode cL_areRows 126 = .ok (.iload 7, 2) := by decide +kernel
theorem dL_areRows_128 : decode cL_areRows 128 = .ok (.aload_n 0, 1) := by decide +kernel
theorem dL_areRows_129 : decode cL_areRows 129 = .ok (.iconst 0, 1) := by decide +kernel
theorem dL_areRows_130 : decode cL_areRows 130 = .ok (.invokevirtual 79, 3) := by decide +kernel
theorem dL_areRows_133 : decode cL_areRows 133 = .ok (.if_icmp .ge 120, 3) := by decide +kernel
theorem dL_areRows_136 : decode cL_areRows 136 = .ok (.aload_n 0, 1) := by decide +kernel
theorem dL_areRows_137 : decode cL_areRows 137 = .ok (.iload 6, 2) := by decide +kernel
theorem dL_areRows_139 : decode cL_areRows 139 = .ok (.iconst 2, 1) := by decide +kernel
theorem dL_areRows_140 : decode cL_areRows 140 = .ok (.invokevirtual 85, 3) := by decide +kernel
theorem dL_areRows_143 : decode cL_areRows 143 = .ok (.ifCond .lt 24, 3) := by decide +kernel
theorem dL_areRows_146 : decode cL_areRows 146 = .ok (.aload_n 0, 1) := by decide +kernel
theorem dL_areRows_147 : decode cL_areRows 147 = .ok (.iload 6, 2) := by decide +kernel
theorem dL_areRows_149 : decode cL_areRows 149 = .ok (.iconst 2, 1) := by decide +kernel
theorem dL_areRows_150 : decode cL_areRows 150 = .ok (.invokevirtual 85, 3) := by decide +kernel
theorem dL_areRows_153 : decode cL_areRows 153 = .ok (.aload_n 0, 1) := by decide +kernel
theorem dL_areRows_154 : decode cL_areRows 154 = .ok (.iload 7, 2) := by decide +kernel
theorem dL_areRows_156 : decode cL_areRows 156 = .ok (.iconst 2, 1) := by decide +kernel
theorem dL_areRows_157 : decode cL_areRows 157 = .ok (.invokevirtual 85, 3) := by decide +kernel
theorem dL_areRows_160 : decode cL_areRows 160 = .ok (.if_icmp .ne 7, 3) := by decide +kernel
theorem dL_areRows_163 : decode cL_areRows 163 = .ok (.iconst 1, 1) := by decide +kernel
theorem dL_areRows_164 : decode cL_areRows 164 = .ok (.goto 4, 3) := by decide +kernel
theorem dL_areRows_167 : decode cL_areRows 167 = .ok (.iconst 0, 1) := by decide +kernel
theorem dL_areRows_168 : decode cL_areRows 168 = .ok (.istore 8, 2) := by decide +kernel
theorem dL_areRows_170 : decode cL_areRows 170 = .ok (.aload_n 0, 1) := by decide +kernel
theorem dL_areRows_171 : decode cL_areRows 171 = .ok (.iload 6, 2) := by decide +kernel
theorem dL_areRows_173 : decode cL_areRows 173 = .ok (.iload 7, 2) := by decide +kernel
theorem dL_areRows_175 : decode cL_areRows 175 = .ok (.invokevirtual 145, 3) := by decide +kernel
theorem dL_areRows_178 : decode cL_areRows 178 = .ok (.istore 9, 2) := by decide +kernel
theorem dL_areRows_180 : decode cL_areRows 180 = .ok (.iload 8, 2) := by decide +kernel
theorem dL_areRows_182 : decode cL_areRows 182 = .ok (.ifCond .eq 51, 3) := by decide +kernel
theorem dL_areRows_185 : decode cL_areRows 185 = .ok (.iload 9, 2) := by decide +kernel
theorem dL_areRows_187 : decode cL_areRows 187 = .ok (.ifCond .lt 42, 3) := by decide +kernel
theorem dL_areRows_190 : decode cL_areRows 190 = .ok (.iload 9, 2) := by decide +kernel
theorem dL_areRows_192 : decode cL_areRows 192 = .ok (.ifCond .ne 7, 3) := by decide +kernel
theorem dL_areRows_195 : decode cL_areRows 195 = .ok (.iconst 1, 1) := by decide +kernel
theorem dL_areRows_196 : decode cL_areRows 196 = .ok (.goto 4, 3) := by decide +kernel
theorem dL_areRows_199 : decode cL_areRows 199 = .ok (.iconst 0, 1) := by decide +kernel
theorem dL_areRows_200 : decode cL_areRows 200 = .ok (.aload_n 0, 1) := by decide +kernel
theorem dL_areRows_201 : decode cL_areRows 201 = .ok (.iload 6, 2) := by decide +kernel
theorem dL_areRows_203 : decode cL_areRows 203 = .ok (.iconst 0, 1) := by decide +kernel
theorem dL_areRows_204 : decode cL_areRows 204 = .ok (.invokevirtual 105, 3) := by decide +kernel
theorem dL_areRows_207 : decode cL_areRows 207 = .ok (.aload_n 0, 1) := by decide +kernel
theorem dL_areRows_208 : decode cL_areRows 208 = .ok (.iload 7, 2) := by decide +kernel
theorem dL_areRows_210 : decode cL_areRows 210 = .ok (.iconst 0, 1) := by decide +kernel
theorem dL_areRows_211 : decode cL_areRows 211 = .ok (.invokevirtual 105, 3) := by decide +kernel
theorem dL_areRows_214 : decode cL_areRows 214 = .ok (.if_icmp .ne 7, 3) := by decide +kernel
theorem dL_areRows_217 : decode cL_areRows 217 = .ok (.iconst 1, 1) := by decide +kernel
theorem dL_areRows_218 : decode cL_areRows 218 = .ok (.goto 4, 3) := by decide +kernel
theorem dL_areRows_221 : decode cL_areRows 221 = .ok (.iconst 0, 1) := by decide +kernel
theorem dL_areRows_222 : decode cL_areRows 222 = .ok (.if_icmp .ne 7, 3) := by decide +kernel
theorem dL_areRows_225 : decode cL_areRows 225 = .ok (.iconst 1, 1) := by decide +kernel
theorem dL_areRows_226 : decode cL_areRows 226 = .ok (.goto 19, 3) := by decide +kernel
theorem dL_areRows_229 : decode cL_areRows 229 = .ok (.iconst 0, 1) := by decide +kernel
theorem dL_areRows_230 : decode cL_areRows 230 = .ok (.goto 15, 3) := by decide +kernel
theorem dL_areRows_233 : decode cL_areRows 233 = .ok (.iload 9, 2) := by decide +kernel
theorem dL_areRows_235 : decode cL_areRows 235 = .ok (.bipush (-4), 2) := by decide +kernel
theorem dL_areRows_237 : decode cL_areRows 237 = .ok (.if_icmp .ne 7, 3) := by decide +kernel
theorem dL_areRows_240 : decode cL_areRows 240 = .ok (.iconst 1, 1) := by decide +kernel
theorem dL_areRows_241 : decode cL_areRows 241 = .ok (.goto 4, 3) := by decide +kernel
theorem dL_areRows_244 : decode cL_areRows 244 = .ok (.iconst 0, 1) := by decide +kernel
theorem dL_areRows_245 : decode cL_areRows 245 = .ok (.istore 5, 2) := by decide +kernel
theorem dL_areRows_247 : decode cL_areRows 247 = .ok (.iinc 7 1, 3) := by decide +kernel
theorem dL_areRows_250 : decode cL_areRows 250 = .ok (.goto (-129), 3) := by decide +kernel
theorem dL_areRows_253 : decode cL_areRows 253 = .ok (.iinc 6 1, 3) := by decide +kernel
theorem dL_areRows_256 : decode cL_areRows 256 = .ok (.goto (-223), 3) := by decide +kernel
theorem dL_areRows_259 : decode cL_areRows 259 = .ok (.iload 5, 2) := by decide +kernel
theorem dL_areRows_261 : decode cL_areRows 261 = .ok (.ifCond .eq 59, 3) := by decide +kernel
theorem dL_areRows_264 : decode cL_areRows 264 = .ok (.iload_n 1, 1) := by decide +kernel
theorem dL_areRows_265 : decode cL_areRows 265 = .ok (.aload_n 0, 1) := by decide +kernel
theorem dL_areRows_266 : decode cL_areRows 266 = .ok (.iconst 1, 1) := by decide +kernel
theorem dL_areRows_267 : decode cL_areRows 267 = .ok (.invokevirtual 79, 3) := by decide +kernel
theorem dL_areRows_270 : decode cL_areRows 270 = .ok (.if_icmp .ne 50, 3) := by decide +kernel
theorem dL_areRows_273 : decode cL_areRows 273 = .ok (.iload_n 3, 1) := by decide +kernel
theorem dL_areRows_274 : decode cL_areRows 274 = .ok (.aload_n 0, 1) := by decide +kernel
theorem dL_areRows_275 : decode cL_areRows 275 = .ok (.iconst 2, 1) := by decide +kernel
theorem dL_areRows_276 : decode cL_areRows 276 = .ok (.invokevirtual 79, 3) := by decide +kernel
theorem dL_areRows_279 : decode cL_areRows 279 = .ok (.if_icmp .ne 41, 3) := by decide +kernel
theorem dL_areRows_282 : decode cL_areRows 282 = .ok (.iload_n 2, 1) := by decide +kernel
theorem dL_areRows_283 : decode cL_areRows 283 = .ok (.aload_n 0, 1) := by decide +kernel
theorem dL_areRows_284 : decode cL_areRows 284 = .ok (.iconst 3, 1) := by decide +kernel
theorem dL_areRows_285 : decode cL_areRows 285 = .ok (.invokevirtual 79, 3) := by decide +kernel
theorem dL_areRows_288 : decode cL_areRows 288 = .ok (.if_icmp .ne 32, 3) := by decide +kernel
theorem dL_areRows_291 : decode cL_areRows 291 = .ok (.aload_n 0, 1) := by decide +kernel
theorem dL_areRows_292 : decode cL_areRows 292 = .ok (.invokevirtual 148, 3) := by decide +kernel
theorem dL_areRows_295 : decode cL_areRows 295 = .ok (.iload_n 3, 1) := by decide +kernel
theorem dL_areRows_296 : decode cL_areRows 296 = .ok (.ifCond .ne 8, 3) := by decide +kernel
theorem dL_areRows_299 : decode cL_areRows 299 = .ok (.bipush (-4), 2) := by decide +kernel
theorem dL_areRows_301 : decode cL_areRows 301 = .ok (.goto 12, 3) := by decide +kernel
theorem dL_areRows_304 : decode cL_areRows 304 = .ok (.iload 4, 2) := by decide +kernel
theorem dL_areRows_306 : decode cL_areRows 306 = .ok (.i2f, 1) := by decide +kernel
theorem dL_areRows_307 : decode cL_areRows 307 = .ok (.iload_n 3, 1) := by decide +kernel
theorem dL_areRows_308 : decode cL_areRows 308 = .ok (.i2f, 1) := by decide +kernel
theorem dL_areRows_309 : decode cL_areRows 309 = .ok (.fdiv, 1) := by decide +kernel
theorem dL_areRows_310 : decode cL_areRows 310 = .ok (.invokestatic 151, 3) := by decide +kernel
theorem dL_areRows_313 : decode cL_areRows 313 = .ok (.if_icmp .ne 7, 3) := by decide +kernel
theorem dL_areRows_316 : decode cL_areRows 316 = .ok (.iconst 1, 1) := by decide +kernel
theorem dL_areRows_317 : decode cL_areRows 317 = .ok (.goto 4, 3) := by decide +kernel
theorem dL_areRows_320 : decode cL_areRows 320 = .ok (.iconst 0, 1) := by decide +kernel
theorem dL_areRows_321 : decode cL_areRows 321 = .ok (.ireturn, 1) := by decide +kernel
theorem dL_worth_0 : decode cL_worth 0 = .ok (.iload_n 1, 1) := by decide +kernel
theorem dL_worth_1 : decode cL_worth 1 = .ok (.ifCond .ne 13, 3) := by decide +kernel
theorem dL_worth_4 : decode cL_worth 4 = .ok (.aload_n 0, 1) := by decide +kernel
theorem dL_worth_5 : decode cL_worth 5 = .ok (.iload_n 2, 1) := by decide +kernel
theorem dL_worth_6 : decode cL_worth 6 = .ok (.iconst 0, 1) := by decide +kernel
theorem dL_worth_7 : decode cL_worth 7 = .ok (.invokevirtual 85, 3) := by decide +kernel
theorem dL_worth_10 : decode cL_worth 10 = .ok (.ineg, 1) := by decide +kernel
theorem dL_worth_11 : decode cL_worth 11 = .ok (.goto 24, 3) := by decide +kernel
theorem dL_worth_14 : decode cL_worth 14 = .ok (.iload_n 1, 1) := by decide +kernel
theorem dL_worth_15 : decode cL_worth 15 = .ok (.iconst 1, 1) := by decide +kernel
theorem dL_worth_16 : decode cL_worth 16 = .ok (.if_icmp .ne 12, 3) := by decide +kernel
theorem dL_worth_19 : decode cL_worth 19 = .ok (.aload_n 0, 1) := by decide +kernel
theorem dL_worth_20 : decode cL_worth 20 = .ok (.iload_n 2, 1) := by decide +kernel
theorem dL_worth_21 : decode cL_worth 21 = .ok (.iconst 2, 1) := by decide +kernel
theorem dL_worth_22 : decode cL_worth 22 = .ok (.invokevirtual 85, 3) := by decide +kernel
theorem dL_worth_25 : decode cL_worth 25 = .ok (.goto 10, 3) := by decide +kernel
theorem dL_worth_28 : decode cL_worth 28 = .ok (.aload_n 0, 1) := by decide +kernel
theorem dL_worth_29 : decode cL_worth 29 = .ok (.iload_n 2, 1) := by decide +kernel
theorem dL_worth_30 : decode cL_worth 30 = .ok (.iconst 5, 1) := by decide +kernel
theorem dL_worth_31 : decode cL_worth 31 = .ok (.invokevirtual 85, 3) := by decide +kernel
theorem dL_worth_34 : decode cL_worth 34 = .ok (.ineg, 1) := by decide +kernel
theorem dL_worth_35 : decode cL_worth 35 = .ok (.ireturn, 1) := by decide +kernel
theorem dL_areRanked_0 : decode cL_areRanked 0 = .ok (.aload_n 0, 1) := by decide +kernel
theorem dL_areRanked_1 : decode cL_areRanked 1 = .ok (.iload_n 1, 1) := by decide +kernel
theorem dL_areRanked_2 : decode cL_areRanked 2 = .ok (.aload_n 0, 1) := by decide +kernel
theorem dL_areRanked_3 : decode cL_areRanked 3 = .ok (.iconst 0, 1) := by decide +kernel
theorem dL_areRanked_4 : decode cL_areRanked 4 = .ok (.invokevirtual 79, 3) := by decide +kernel
theorem dL_areRanked_7 : decode cL_areRanked 7 = .ok (.invokevirtual 157, 3) := by decide +kernel
theorem dL_areRanked_10 : decode cL_areRanked 10 = .ok (.iconst (-1), 1) := by decide +kernel
theorem dL_areRanked_11 : decode cL_areRanked 11 = .ok (.if_icmp .ne 7, 3) := by decide +kernel
theorem dL_areRanked_14 : decode cL_areRanked 14 = .ok (.iconst 1, 1) := by decide +kernel
theorem dL_areRanked_15 : decode cL_areRanked 15 = .ok (.goto 4, 3) := by decide +kernel
theorem dL_areRanked_18 : decode cL_areRanked 18 = .ok (.iconst 0, 1) := by decide +kernel
theorem dL_areRanked_19 : decode cL_areRanked 19 = .ok (.istore_n 2, 1) := by decide +kernel
theorem dL_areRanked_20 : decode cL_areRanked 20 = .ok (.iconst 1, 1) := by decide +kernel
theorem dL_areRanked_21 : decode cL_areRanked 21 = .ok (.istore_n 3, 1) := by decide +kernel
theorem dL_areRanked_22 : decode cL_areRanked 22 = .ok (.iload_n 2, 1) := by decide +kernel
theorem dL_areRanked_23 : decode cL_areRanked 23 = .ok (.ifCond .eq 76, 3) := by decide +kernel
theorem dL_areRanked_26 : decode cL_areRanked 26 = .ok (.iload_n 3, 1) := by decide +kernel
theorem dL_areRanked_27 : decode cL_areRanked 27 = .ok (.aload_n 0, 1) := by decide +kernel
theorem dL_areRanked_28 : decode cL_areRanked 28 = .ok (.iconst 0, 1) := by decide +kernel
theorem dL_areRanked_29 : decode cL_areRanked 29 = .ok (.invokevirtual 79, 3) := by decide +kernel
theorem dL_areRanked_32 : decode cL_areRanked 32 = .ok (.if_icmp .ge 67, 3) := by decide +kernel
theorem dL_areRanked_35 : decode cL_areRanked 35 = .ok (.aload_n 0, 1) := by decide +kernel
theorem dL_areRanked_36 : decode cL_areRanked 36 = .ok (.iload_n 1, 1) := by decide +kernel
theorem dL_areRanked_37 : decode cL_areRanked 37 = .ok (.iload_n 3, 1) := by decide +kernel
theorem dL_areRanked_38 : decode cL_areRanked 38 = .ok (.iconst 1, 1) := by decide +kernel
theorem dL_areRanked_39 : decode cL_areRanked 39 = .ok (.isub, 1) := by decide +kernel
theorem dL_areRanked_40 : decode cL_areRanked 40 = .ok (.invokevirtual 157, 3) := by decide +kernel
theorem dL_areRanked_43 : decode cL_areRanked 43 = .ok (.istore 4, 2) := by decide +kernel
theorem dL_areRanked_45 : decode cL_areRanked 45 = .ok (.aload_n 0, 1) := by decide +kernel
theorem dL_areRanked_46 : decode cL_areRanked 46 = .ok (.iload_n 1, 1) := by decide +kernel
theorem dL_areRanked_47 : decode cL_areRanked 47 = .ok (.iload_n 3, 1) := by decide +kernel
theorem dL_areRanked_48 : decode cL_areRanked 48 = .ok (.invokevirtual 157, 3) := by decide +kernel
theorem dL_areRanked_51 : decode cL_areRanked 51 = .ok (.istore 5, 2) := by decide +kernel
theorem dL_areRanked_53 : decode cL_areRanked 53 = .ok (.aload_n 0, 1) := by decide +kernel
theorem dL_areRanked_54 : decode cL_areRanked 54 = .ok (.iload_n 1, 1) := by decide +kernel
theorem dL_areRanked_55 : decode cL_areRanked 55 = .ok (.iload 4, 2) := by decide +kernel
theorem dL_areRanked_57 : decode cL_areRanked 57 = .ok (.invokestatic 160, 3) := by decide +kernel
theorem dL_areRanked_60 : decode cL_areRanked 60 = .ok (.aload_n 0, 1) := by decide +kernel
theorem dL_areRanked_61 : decode cL_areRanked 61 = .ok (.iload_n 1, 1) := by decide +kernel
theorem dL_areRanked_62 : decode cL_areRanked 62 = .ok (.iload 5, 2) := by decide +kernel
theorem dL_areRanked_64 : decode cL_areRanked 64 = .ok (.invokestatic 160, 3) := by decide +kernel
theorem dL_areRanked_67 : decode cL_areRanked 67 = .ok (.isub, 1) := by decide +kernel
theorem dL_areRanked_68 : decode cL_areRanked 68 = .ok (.istore 6, 2) := by decide +kernel
theorem dL_areRanked_70 : decode cL_areRanked 70 = .ok (.iload 6, 2) := by decide +kernel
theorem dL_areRanked_72 : decode cL_areRanked 72 = .ok (.ifCond .gt 15, 3) := by decide +kernel
theorem dL_areRanked_75 : decode cL_areRanked 75 = .ok (.iload 6, 2) := by decide +kernel
theorem dL_areRanked_77 : decode cL_areRanked 77 = .ok (.ifCond .ne 14, 3) := by decide +kernel
theorem dL_areRanked_80 : decode cL_areRanked 80 = .ok (.iload 4, 2) := by decide +kernel
theorem dL_areRanked_82 : decode cL_areRanked 82 = .ok (.iload 5, 2) := by decide +kernel
theorem dL_areRanked_84 : decode cL_areRanked 84 = .ok (.if_icmp .ge 7, 3) := by decide +kernel
theorem dL_areRanked_87 : decode cL_areRanked 87 = .ok (.iconst 1, 1) := by decide +kernel
theorem dL_areRanked_88 : decode cL_areRanked 88 = .ok (.goto 4, 3) := by decide +kernel
theorem dL_areRanked_91 : decode cL_areRanked 91 = .ok (.iconst 0, 1) := by decide +kernel
theorem dL_areRanked_92 : decode cL_areRanked 92 = .ok (.istore_n 2, 1) := by decide +kernel
theorem dL_areRanked_93 : decode cL_areRanked 93 = .ok (.iinc 3 1, 3) := by decide +kernel
theorem dL_areRanked_96 : decode cL_areRanked 96 = .ok (.goto (-74), 3) := by decide +kernel
theorem dL_areRanked_99 : decode cL_areRanked 99 = .ok (.iload_n 2, 1) := by decide +kernel
theorem dL_areRanked_100 : decode cL_areRanked 100 = .ok (.ireturn, 1) := by decide +kernel
theorem dL_isFit_0 : decode cL_isFit 0 = .ok (.aload_n 0, 1) := by decide +kernel
theorem dL_isFit_1 : decode cL_isFit 1 = .ok (.invokestatic 164, 3) := by decide +kernel
theorem dL_isFit_4 : decode cL_isFit 4 = .ok (.ifCond .eq 46, 3) := by decide +kernel
theorem dL_isFit_7 : decode cL_isFit 7 = .ok (.aload_n 0, 1) := by decide +kernel
theorem dL_isFit_8 : decode cL_isFit 8 = .ok (.invokestatic 168, 3) := by decide +kernel
theorem dL_isFit_11 : decode cL_isFit 11 = .ok (.ifCond .eq 39, 3) := by decide +kernel
theorem dL_isFit_14 : decode cL_isFit 14 = .ok (.aload_n 0, 1) := by decide +kernel
theorem dL_isFit_15 : decode cL_isFit 15 = .ok (.iconst 0, 1) := by decide +kernel
theorem dL_isFit_16 : decode cL_isFit 16 = .ok (.invokestatic 171, 3) := by decide +kernel
theorem dL_isFit_19 : decode cL_isFit 19 = .ok (.ifCond .eq 31, 3) := by decide +kernel
theorem dL_isFit_22 : decode cL_isFit 22 = .ok (.aload_n 0, 1) := by decide +kernel
theorem dL_isFit_23 : decode cL_isFit 23 = .ok (.iconst 1, 1) := by decide +kernel
theorem dL_isFit_24 : decode cL_isFit 24 = .ok (.invokestatic 171, 3) := by decide +kernel
theorem dL_isFit_27 : decode cL_isFit 27 = .ok (.ifCond .eq 23, 3) := by decide +kernel
theorem dL_isFit_30 : decode cL_isFit 30 = .ok (.aload_n 0, 1) := by decide +kernel
theorem dL_isFit_31 : decode cL_isFit 31 = .ok (.iconst 2, 1) := by decide +kernel
theorem dL_isFit_32 : decode cL_isFit 32 = .ok (.invokestatic 171, 3) := by decide +kernel
theorem dL_isFit_35 : decode cL_isFit 35 = .ok (.ifCond .eq 15, 3) := by decide +kernel
theorem dL_isFit_38 : decode cL_isFit 38 = .ok (.aload_n 0, 1) := by decide +kernel
theorem dL_isFit_39 : decode cL_isFit 39 = .ok (.invokevirtual 174, 3) := by decide +kernel
theorem dL_isFit_42 : decode cL_isFit 42 = .ok (.iconst 1, 1) := by decide +kernel
theorem dL_isFit_43 : decode cL_isFit 43 = .ok (.if_icmp .ne 7, 3) := by decide +kernel
theorem dL_isFit_46 : decode cL_isFit 46 = .ok (.iconst 1, 1) := by decide +kernel
theorem dL_isFit_47 : decode cL_isFit 47 = .ok (.goto 4, 3) := by decide +kernel
theorem dL_isFit_50 : decode cL_isFit 50 = .ok (.iconst 0, 1) := by decide +kernel
theorem dL_isFit_51 : decode cL_isFit 51 = .ok (.ireturn, 1) := by decide +kernel
theorem dL_isMade_0 : decode cL_isMade 0 = .ok (.aload_n 0, 1) := by decide +kernel
theorem dL_isMade_1 : decode cL_isMade 1 = .ok (.invokestatic 177, 3) := by decide +kernel
theorem dL_isMade_4 : decode cL_isMade 4 = .ok (.lstore_n 2, 1) := by decide +kernel
theorem dL_isMade_5 : decode cL_isMade 5 = .ok (.aload_n 0, 1) := by decide +kernel
theorem dL_isMade_6 : decode cL_isMade 6 = .ok (.iload_n 1, 1) := by decide +kernel
theorem dL_isMade_7 : decode cL_isMade 7 = .ok (.iconst 0, 1) := by decide +kernel
theorem dL_isMade_8 : decode cL_isMade 8 = .ok (.invokevirtual 85, 3) := by decide +kernel
theorem dL_isMade_11 : decode cL_isMade 11 = .ok (.istore 4, 2) := by decide +kernel
theorem dL_isMade_13 : decode cL_isMade 13 = .ok (.aload_n 0, 1) := by decide +kernel
theorem dL_isMade_14 : decode cL_isMade 14 = .ok (.iload_n 1, 1) := by decide +kernel
theorem dL_isMade_15 : decode cL_isMade 15 = .ok (.invokevirtual 126, 3) := by decide +kernel
theorem dL_isMade_18 : decode cL_isMade 18 = .ok (.istore 5, 2) := by decide +kernel
theorem dL_isMade_20 : decode cL_isMade 20 = .ok (.aload_n 0, 1) := by decide +kernel
theorem dL_isMade_21 : decode cL_isMade 21 = .ok (.iconst 4, 1) := by decide +kernel
theorem dL_isMade_22 : decode cL_isMade 22 = .ok (.invokevirtual 79, 3) := by decide +kernel
theorem dL_isMade_25 : decode cL_isMade 25 = .ok (.istore 6, 2) := by decide +kernel
theorem dL_isMade_27 : decode cL_isMade 27 = .ok (.aload_n 0, 1) := by decide +kernel
theorem dL_isMade_28 : decode cL_isMade 28 = .ok (.iload_n 1, 1) := by decide +kernel
theorem dL_isMade_29 : decode cL_isMade 29 = .ok (.invokevirtual 47, 3) := by decide +kernel
theorem dL_isMade_32 : decode cL_isMade 32 = .ok (.istore 7, 2) := by decide +kernel
theorem dL_isMade_34 : decode cL_isMade 34 = .ok (.iload 7, 2) := by decide +kernel
theorem dL_isMade_36 : decode cL_isMade 36 = .ok (.ifCond .ge 27, 3) := by decide +kernel
theorem dL_isMade_39 : decode cL_isMade 39 = .ok (.iload 7, 2) := by decide +kernel
theorem dL_isMade_41 : decode cL_isMade 41 = .ok (.bipush (-3), 2) := by decide +kernel
theorem dL_isMade_43 : decode cL_isMade 43 = .ok (.if_icmp .ne 16, 3) := by decide +kernel
theorem dL_isMade_46 : decode cL_isMade 46 = .ok (.aload_n 0, 1) := by decide +kernel
theorem dL_isMade_47 : decode cL_isMade 47 = .ok (.invokestatic 177, 3) := by decide +kernel
theorem dL_isMade_50 : decode cL_isMade 50 = .ok (.lload_n 2, 1) := by decide +kernel
theorem dL_isMade_51 : decode cL_isMade 51 = .ok (.lcmp, 1) := by decide +kernel
theorem dL_isMade_52 : decode cL_isMade 52 = .ok (.ifCond .ne 7, 3) := by decide +kernel
theorem dL_isMade_55 : decode cL_isMade 55 = .ok (.iconst 1, 1) := by decide +kernel
theorem dL_isMade_56 : decode cL_isMade 56 = .ok (.goto 109, 3) := by decide +kernel
theorem dL_isMade_59 : decode cL_isMade 59 = .ok (.iconst 0, 1) := by decide +kernel
theorem dL_isMade_60 : decode cL_isMade 60 = .ok (.goto 105, 3) := by decide +kernel
theorem dL_isMade_63 : decode cL_isMade 63 = .ok (.iload 7, 2) := by decide +kernel
theorem dL_isMade_65 : decode cL_isMade 65 = .ok (.iload 5, 2) := by decide +kernel
theorem dL_isMade_67 : decode cL_isMade 67 = .ok (.if_icmp .ne 97, 3) := by decide +kernel
theorem dL_isMade_70 : decode cL_isMade 70 = .ok (.aload_n 0, 1) := by decide +kernel
theorem dL_isMade_71 : decode cL_isMade 71 = .ok (.iconst 4, 1) := by decide +kernel
theorem dL_isMade_72 : decode cL_isMade 72 = .ok (.invokevirtual 79, 3) := by decide +kernel
theorem dL_isMade_75 : decode cL_isMade 75 = .ok (.iload 6, 2) := by decide +kernel
theorem dL_isMade_77 : decode cL_isMade 77 = .ok (.iload 5, 2) := by decide +kernel
theorem dL_isMade_79 : decode cL_isMade 79 = .ok (.iadd, 1) := by decide +kernel
theorem dL_isMade_80 : decode cL_isMade 80 = .ok (.if_icmp .ne 84, 3) := by decide +kernel
theorem dL_isMade_83 : decode cL_isMade 83 = .ok (.aload_n 0, 1) := by decide +kernel
theorem dL_isMade_84 : decode cL_isMade 84 = .ok (.iconst 0, 1) := by decide +kernel
theorem dL_isMade_85 : decode cL_isMade 85 = .ok (.invokevirtual 82, 3) := by decide +kernel
theorem dL_isMade_88 : decode cL_isMade 88 = .ok (.aload_n 0, 1) := by decide +kernel
theorem dL_isMade_89 : decode cL_isMade 89 = .ok (.iload_n 1, 1) := by decide +kernel
theorem dL_isMade_90 : decode cL_isMade 90 = .ok (.iconst 0, 1) := by decide +kernel
theorem dL_isMade_91 : decode cL_isMade 91 = .ok (.invokevirtual 105, 3) := by decide +kernel
theorem dL_isMade_94 : decode cL_isMade 94 = .ok (.if_icmp .ne 70, 3) := by decide +kernel
theorem dL_isMade_97 : decode cL_isMade 97 = .ok (.aload_n 0, 1) := by decide +kernel
theorem dL_isMade_98 : decode cL_isMade 98 = .ok (.iload_n 1, 1) := by decide +kernel
theorem dL_isMade_99 : decode cL_isMade 99 = .ok (.invokevirtual 50, 3) := by decide +kernel
theorem dL_isMade_102 : decode cL_isMade 102 = .ok (.iload 4, 2) := by decide +kernel
theorem dL_isMade_104 : decode cL_isMade 104 = .ok (.if_icmp .ne 60, 3) := by decide +kernel
theorem dL_isMade_107 : decode cL_isMade 107 = .ok (.aload_n 0, 1) := by decide +kernel
theorem dL_isMade_108 : decode cL_isMade 108 = .ok (.iconst 0, 1) := by decide +kernel
theorem dL_isMade_109 : decode cL_isMade 109 = .ok (.invokevirtual 82, 3) := by decide +kernel
theorem dL_isMade_112 : decode cL_isMade 112 = .ok (.aload_n 0, 1) := by decide +kernel
theorem dL_isMade_113 : decode cL_isMade 113 = .ok (.iload_n 1, 1) := by decide +kernel
theorem dL_isMade_114 : decode cL_isMade 114 = .ok (.iconst 0, 1) := by decide +kernel
theorem dL_isMade_115 : decode cL_isMade 115 = .ok (.invokevirtual 105, 3) := by decide +kernel
theorem dL_isMade_118 : decode cL_isMade 118 = .ok (.if_icmp .ne 46, 3) := by decide +kernel
theorem dL_isMade_121 : decode cL_isMade 121 = .ok (.aload_n 0, 1) := by decide +kernel
theorem dL_isMade_122 : decode cL_isMade 122 = .ok (.iconst 4, 1) := by decide +kernel
theorem dL_isMade_123 : decode cL_isMade 123 = .ok (.invokevirtual 79, 3) := by decide +kernel
theorem dL_isMade_126 : decode cL_isMade 126 = .ok (.iload 6, 2) := by decide +kernel
theorem dL_isMade_128 : decode cL_isMade 128 = .ok (.iload 5, 2) := by decide +kernel
theorem dL_isMade_130 : decode cL_isMade 130 = .ok (.iadd, 1) := by decide +kernel
theorem dL_isMade_131 : decode cL_isMade 131 = .ok (.iload 4, 2) := by decide +kernel
theorem dL_isMade_133 : decode cL_isMade 133 = .ok (.iadd, 1) := by decide +kernel
theorem dL_isMade_134 : decode cL_isMade 134 = .ok (.if_icmp .ne 30, 3) := by decide +kernel
theorem dL_isMade_137 : decode cL_isMade 137 = .ok (.aload_n 0, 1) := by decide +kernel
theorem dL_isMade_138 : decode cL_isMade 138 = .ok (.invokevirtual 72, 3) := by decide +kernel
theorem dL_isMade_141 : decode cL_isMade 141 = .ok (.ifCond .lt 23, 3) := by decide +kernel
theorem dL_isMade_144 : decode cL_isMade 144 = .ok (.aload_n 0, 1) := by decide +kernel
theorem dL_isMade_145 : decode cL_isMade 145 = .ok (.invokevirtual 72, 3) := by decide +kernel
theorem dL_isMade_148 : decode cL_isMade 148 = .ok (.ifCond .lt 16, 3) := by decide +kernel
theorem dL_isMade_151 : decode cL_isMade 151 = .ok (.aload_n 0, 1) := by decide +kernel
theorem dL_isMade_152 : decode cL_isMade 152 = .ok (.invokestatic 177, 3) := by decide +kernel
theorem dL_isMade_155 : decode cL_isMade 155 = .ok (.lload_n 2, 1) := by decide +kernel
theorem dL_isMade_156 : decode cL_isMade 156 = .ok (.lcmp, 1) := by decide +kernel
theorem dL_isMade_157 : decode cL_isMade 157 = .ok (.ifCond .ne 7, 3) := by decide +kernel
theorem dL_isMade_160 : decode cL_isMade 160 = .ok (.iconst 1, 1) := by decide +kernel
theorem dL_isMade_161 : decode cL_isMade 161 = .ok (.goto 4, 3) := by decide +kernel
theorem dL_isMade_164 : decode cL_isMade 164 = .ok (.iconst 0, 1) := by decide +kernel
theorem dL_isMade_165 : decode cL_isMade 165 = .ok (.istore 8, 2) := by decide +kernel
theorem dL_isMade_167 : decode cL_isMade 167 = .ok (.iconst 0, 1) := by decide +kernel
theorem dL_isMade_168 : decode cL_isMade 168 = .ok (.istore 9, 2) := by decide +kernel
theorem dL_isMade_170 : decode cL_isMade 170 = .ok (.iload 8, 2) := by decide +kernel
theorem dL_isMade_172 : decode cL_isMade 172 = .ok (.ifCond .eq 37, 3) := by decide +kernel
theorem dL_isMade_175 : decode cL_isMade 175 = .ok (.iload 9, 2) := by decide +kernel
theorem dL_isMade_177 : decode cL_isMade 177 = .ok (.iload 4, 2) := by decide +kernel
theorem dL_isMade_179 : decode cL_isMade 179 = .ok (.if_icmp .ge 30, 3) := by decide +kernel
theorem dL_isMade_182 : decode cL_isMade 182 = .ok (.aload_n 0, 1) := by decide +kernel
theorem dL_isMade_183 : decode cL_isMade 183 = .ok (.iload_n 1, 1) := by decide +kernel
theorem dL_isMade_184 : decode cL_isMade 184 = .ok (.invokevirtual 31, 3) := by decide +kernel
theorem dL_isMade_187 : decode cL_isMade 187 = .ok (.aload_n 0, 1) := by decide +kernel
theorem dL_isMade_188 : decode cL_isMade 188 = .ok (.iload_n 1, 1) := by decide +kernel
theorem dL_isMade_189 : decode cL_isMade 189 = .ok (.iconst 0, 1) := by decide +kernel
theorem dL_isMade_190 : decode cL_isMade 190 = .ok (.invokevirtual 88, 3) := by decide +kernel
theorem dL_isMade_193 : decode cL_isMade 193 = .ok (.if_icmp .ne 7, 3) := by decide +kernel
theorem dL_isMade_196 : decode cL_isMade 196 = .ok (.iconst 1, 1) := by decide +kernel
theorem dL_isMade_197 : decode cL_isMade 197 = .ok (.goto 4, 3) := by decide +kernel
theorem dL_isMade_200 : decode cL_isMade 200 = .ok (.iconst 0, 1) := by decide +kernel
theorem dL_isMade_201 : decode cL_isMade 201 = .ok (.istore 8, 2) := by decide +kernel
theorem dL_isMade_203 : decode cL_isMade 203 = .ok (.iinc 9 1, 3) := by decide +kernel
theorem dL_isMade_206 : decode cL_isMade 206 = .ok (.goto (-36), 3) := by decide +kernel
theorem dL_isMade_209 : decode cL_isMade 209 = .ok (.iload 8, 2) := by decide +kernel
theorem dL_isMade_211 : decode cL_isMade 211 = .ok (.ifCond .eq 16, 3) := by decide +kernel
theorem dL_isMade_214 : decode cL_isMade 214 = .ok (.aload_n 0, 1) := by decide +kernel
theorem dL_isMade_215 : decode cL_isMade 215 = .ok (.invokestatic 177, 3) := by decide +kernel
theorem dL_isMade_218 : decode cL_isMade 218 = .ok (.lload_n 2, 1) := by decide +kernel
theorem dL_isMade_219 : decode cL_isMade 219 = .ok (.lcmp, 1) := by decide +kernel
theorem dL_isMade_220 : decode cL_isMade 220 = .ok (.ifCond .ne 7, 3) := by decide +kernel
theorem dL_isMade_223 : decode cL_isMade 223 = .ok (.iconst 1, 1) := by decide +kernel
theorem dL_isMade_224 : decode cL_isMade 224 = .ok (.goto 4, 3) := by decide +kernel
theorem dL_isMade_227 : decode cL_isMade 227 = .ok (.iconst 0, 1) := by decide +kernel
theorem dL_isMade_228 : decode cL_isMade 228 = .ok (.ireturn, 1) := by decide +kernel
theorem dL_law_0 : decode cL_law 0 = .ok (.new 19, 3) := by decide +kernel
theorem dL_law_3 : decode cL_law 3 = .ok (.dup, 1) := by decide +kernel
theorem dL_law_4 : decode cL_law 4 = .ok (.invokespecial 181, 3) := by decide +kernel
theorem dL_law_7 : decode cL_law 7 = .ok (.astore_n 1, 1) := by decide +kernel
theorem dL_law_8 : decode cL_law 8 = .ok (.aload_n 1, 1) := by decide +kernel
theorem dL_law_9 : decode cL_law 9 = .ok (.iconst 3, 1) := by decide +kernel
theorem dL_law_10 : decode cL_law 10 = .ok (.invokevirtual 41, 3) := by decide +kernel
theorem dL_law_13 : decode cL_law 13 = .ok (.pop, 1) := by decide +kernel
theorem dL_law_14 : decode cL_law 14 = .ok (.aload_n 1, 1) := by decide +kernel
theorem dL_law_15 : decode cL_law 15 = .ok (.sipush 531, 3) := by decide +kernel
theorem dL_law_18 : decode cL_law 18 = .ok (.iconst 3, 1) := by decide +kernel
theorem dL_law_19 : decode cL_law 19 = .ok (.invokevirtual 24, 3) := by decide +kernel
theorem dL_law_22 : decode cL_law 22 = .ok (.pop, 1) := by decide +kernel
theorem dL_law_23 : decode cL_law 23 = .ok (.aload_n 1, 1) := by decide +kernel
theorem dL_law_24 : decode cL_law 24 = .ok (.iconst 3, 1) := by decide +kernel
theorem dL_law_25 : decode cL_law 25 = .ok (.iconst 1, 1) := by decide +kernel
theorem dL_law_26 : decode cL_law 26 = .ok (.invokevirtual 24, 3) := by decide +kernel
theorem dL_law_29 : decode cL_law 29 = .ok (.pop, 1) := by decide +kernel
theorem dL_law_30 : decode cL_law 30 = .ok (.aload_n 1, 1) := by decide +kernel
theorem dL_law_31 : decode cL_law 31 = .ok (.ldc 182, 2) := by decide +kernel
theorem dL_law_33 : decode cL_law 33 = .ok (.iconst 5, 1) := by decide +kernel
theorem dL_law_34 : decode cL_law 34 = .ok (.invokevirtual 24, 3) := by decide +kernel
theorem dL_law_37 : decode cL_law 37 = .ok (.pop, 1) := by decide +kernel
theorem dL_law_38 : decode cL_law 38 = .ok (.aload_n 1, 1) := by decide +kernel
theorem dL_law_39 : decode cL_law 39 = .ok (.bipush 51, 2) := by decide +kernel
theorem dL_law_41 : decode cL_law 41 = .ok (.iconst 2, 1) := by decide +kernel
theorem dL_law_42 : decode cL_law 42 = .ok (.invokevirtual 24, 3) := by decide +kernel
theorem dL_law_45 : decode cL_law 45 = .ok (.pop, 1) := by decide +kernel
theorem dL_law_46 : decode cL_law 46 = .ok (.aload_n 0, 1) := by decide +kernel
theorem dL_law_47 : decode cL_law 47 = .ok (.arraylength, 1) := by decide +kernel
theorem dL_law_48 : decode cL_law 48 = .ok (.bipush 40, 2) := by decide +kernel
theorem dL_law_50 : decode cL_law 50 = .ok (.if_icmp .ge 8, 3) := by decide +kernel
theorem dL_law_53 : decode cL_law 53 = .ok (.aload_n 0, 1) := by decide +kernel
theorem dL_law_54 : decode cL_law 54 = .ok (.arraylength, 1) := by decide +kernel
theorem dL_law_55 : decode cL_law 55 = .ok (.goto 5, 3) := by decide +kernel
theorem dL_law_58 : decode cL_law 58 = .ok (.bipush 40, 2) := by decide +kernel
theorem dL_law_60 : decode cL_law 60 = .ok (.istore_n 2, 1) := by decide +kernel
theorem dL_law_61 : decode cL_law 61 = .ok (.iconst 0, 1) := by decide +kernel
theorem dL_law_62 : decode cL_law 62 = .ok (.istore_n 3, 1) := by decide +kernel
theorem dL_law_63 : decode cL_law 63 = .ok (.iload_n 3, 1) := by decide +kernel
theorem dL_law_64 : decode cL_law 64 = .ok (.iload_n 2, 1) := by decide +kernel
theorem dL_law_65 : decode cL_law 65 = .ok (.if_icmp .ge 63, 3) := by decide +kernel
theorem dL_law_68 : decode cL_law 68 = .ok (.aload_n 1, 1) := by decide +kernel
theorem dL_law_69 : decode cL_law 69 = .ok (.invokestatic 177, 3) := by decide +kernel
theorem dL_law_72 : decode cL_law 72 = .ok (.lstore 4, 2) := by decide +kernel
theorem dL_law_74 : decode cL_law 74 = .ok (.aload_n 1, 1) := by decide +kernel
theorem dL_law_75 : decode cL_law 75 = .ok (.aload_n 0, 1) := by decide +kernel
theorem dL_law_76 : decode cL_law 76 = .ok (.iload_n 3, 1) := by decide +kernel
theorem dL_law_77 : decode cL_law 77 = .ok (.invokestatic 183, 3) := by decide +kernel
theorem dL_law_80 : decode cL_law 80 = .ok (.invokestatic 187, 3) := by decide +kernel
theorem dL_law_83 : decode cL_law 83 = .ok (.ifCond .ge 39, 3) := by decide +kernel
theorem dL_law_86 : decode cL_law 86 = .ok (.aload_n 1, 1) := by decide +kernel
theorem dL_law_87 : decode cL_law 87 = .ok (.invokestatic 177, 3) := by decide +kernel
theorem dL_law_90 : decode cL_law 90 = .ok (.lload 4, 2) := by decide +kernel
theorem dL_law_92 : decode cL_law 92 = .ok (.lcmp, 1) := by decide +kernel
theorem dL_law_93 : decode cL_law 93 = .ok (.ifCond .eq 29, 3) := by decide +kernel
theorem dL_law_96 : decode cL_law 96 = .ok (.aload_n 0, 1) := by decide +kernel
theorem dL_law_97 : decode cL_law 97 = .ok (.iload_n 3, 1) := by decide +kernel
theorem dL_law_98 : decode cL_law 98 = .ok (.invokestatic 183, 3) := by decide +kernel
theorem dL_law_101 : decode cL_law 101 = .ok (.bipush 15, 2) := by decide +kernel
theorem dL_law_103 : decode cL_law 103 = .ok (.iand, 1) := by decide +kernel
theorem dL_law_104 : decode cL_law 104 = .ok (.iconst 5, 1) := by decide +kernel
theorem dL_law_105 : decode cL_law 105 = .ok (.if_icmp .ne 7, 3) := by decide +kernel
theorem dL_law_108 : decode cL_law 108 = .ok (.iconst 1, 1) := by decide +kernel
theorem dL_law_109 : decode cL_law 109 = .ok (.goto 4, 3) := by decide +kernel
theorem dL_law_112 : decode cL_law 112 = .ok (.iconst 0, 1) := by decide +kernel
theorem dL_law_113 : decode cL_law 113 = .ok (.istore 6, 2) := by decide +kernel
theorem dL_law_115 : decode cL_law 115 = .ok (.iload 6, 2) := by decide +kernel
theorem dL_law_117 : decode cL_law 117 = .ok (.ifCond .ne 5, 3) := by decide +kernel
theorem dL_law_120 : decode cL_law 120 = .ok (.iconst 0, 1) := by decide +kernel
theorem dL_law_121 : decode cL_law 121 = .ok (.ireturn, 1) := by decide +kernel
theorem dL_law_122 : decode cL_law 122 = .ok (.iinc 3 1, 3) := by decide +kernel
theorem dL_law_125 : decode cL_law 125 = .ok (.goto (-62), 3) := by decide +kernel
theorem dL_law_128 : decode cL_law 128 = .ok (.aload_n 1, 1) := by decide +kernel
theorem dL_law_129 : decode cL_law 129 = .ok (.invokestatic 191, 3) := by decide +kernel
theorem dL_law_132 : decode cL_law 132 = .ok (.istore_n 3, 1) := by decide +kernel
theorem dL_law_133 : decode cL_law 133 = .ok (.iconst 0, 1) := by decide +kernel
theorem dL_law_134 : decode cL_law 134 = .ok (.istore 4, 2) := by decide +kernel
theorem dL_law_136 : decode cL_law 136 = .ok (.iload_n 3, 1) := by decide +kernel
theorem dL_law_137 : decode cL_law 137 = .ok (.ifCond .eq 26, 3) := by decide +kernel
theorem dL_law_140 : decode cL_law 140 = .ok (.iload 4, 2) := by decide +kernel
theorem dL_law_142 : decode cL_law 142 = .ok (.aload_n 1, 1) := by decide +kernel
theorem dL_law_143 : decode cL_law 143 = .ok (.iconst 0, 1) := by decide +kernel
theorem dL_law_144 : decode cL_law 144 = .ok (.invokevirtual 79, 3) := by decide +kernel
theorem dL_law_147 : decode cL_law 147 = .ok (.if_icmp .ge 16, 3) := by decide +kernel
theorem dL_law_150 : decode cL_law 150 = .ok (.aload_n 1, 1) := by decide +kernel
theorem dL_law_151 : decode cL_law 151 = .ok (.iload 4, 2) := by decide +kernel
theorem dL_law_153 : decode cL_law 153 = .ok (.invokestatic 194, 3) := by decide +kernel
theorem dL_law_156 : decode cL_law 156 = .ok (.istore_n 3, 1) := by decide +kernel
theorem dL_law_157 : decode cL_law 157 = .ok (.iinc 4 1, 3) := by decide +kernel
theorem dL_law_160 : decode cL_law 160 = .ok (.goto (-24), 3) := by decide +kernel
theorem dL_law_163 : decode cL_law 163 = .ok (.aload_n 1, 1) := by decide +kernel
theorem dL_law_164 : decode cL_law 164 = .ok (.invokevirtual 63, 3) := by decide +kernel
theorem dL_law_167 : decode cL_law 167 = .ok (.pop, 1) := by decide +kernel
theorem dL_law_168 : decode cL_law 168 = .ok (.aload_n 1, 1) := by decide +kernel
theorem dL_law_169 : decode cL_law 169 = .ok (.invokestatic 177, 3) := by decide +kernel
theorem dL_law_172 : decode cL_law 172 = .ok (.lstore 4, 2) := by decide +kernel
theorem dL_law_174 : decode cL_law 174 = .ok (.aload_n 1, 1) := by decide +kernel
theorem dL_law_175 : decode cL_law 175 = .ok (.invokevirtual 66, 3) := by decide +kernel
theorem dL_law_178 : decode cL_law 178 = .ok (.istore 6, 2) := by decide +kernel
theorem dL_law_180 : decode cL_law 180 = .ok (.iconst 0, 1) := by decide +kernel
theorem dL_law_181 : decode cL_law 181 = .ok (.istore 7, 2) := by decide +kernel
theorem dL_law_183 : decode cL_law 183 = .ok (.iload_n 3, 1) := by decide +kernel
theorem dL_law_184 : decode cL_law 184 = .ok (.ifCond .eq 78, 3) := by decide +kernel
theorem dL_law_187 : decode cL_law 187 = .ok (.iload 7, 2) := by decide +kernel
theorem dL_law_189 : decode cL_law 189 = .ok (.getstatic 53, 3) := by decide +kernel
theorem dL_law_192 : decode cL_law 192 = .ok (.arraylength, 1) := by decide +kernel
theorem dL_law_193 : decode cL_law 193 = .ok (.if_icmp .ge 69, 3) := by decide +kernel
theorem dL_law_196 : decode cL_law 196 = .ok (.aload_n 1, 1) := by decide +kernel
theorem dL_law_197 : decode cL_law 197 = .ok (.getstatic 53, 3) := by decide +kernel
theorem dL_law_200 : decode cL_law 200 = .ok (.iload 7, 2) := by decide +kernel
theorem dL_law_202 : decode cL_law 202 = .ok (.aaload, 1) := by decide +kernel
theorem dL_law_203 : decode cL_law 203 = .ok (.invokestatic 59, 3) := by decide +kernel
theorem dL_law_206 : decode cL_law 206 = .ok (.invokevirtual 63, 3) := by decide +kernel
theorem dL_law_209 : decode cL_law 209 = .ok (.istore 8, 2) := by decide +kernel
theorem dL_law_211 : decode cL_law 211 = .ok (.iload 8, 2) := by decide +kernel
theorem dL_law_213 : decode cL_law 213 = .ok (.ifCond .ge 13, 3) := by decide +kernel
theorem dL_law_216 : decode cL_law 216 = .ok (.iload 8, 2) := by decide +kernel
theorem dL_law_218 : decode cL_law 218 = .ok (.bipush (-3), 2) := by decide +kernel
theorem dL_law_220 : decode cL_law 220 = .ok (.if_icmp .lt 34, 3) := by decide +kernel
theorem dL_law_223 : decode cL_law 223 = .ok (.goto 17, 3) := by decide +kernel
theorem dL_law_226 : decode cL_law 226 = .ok (.aload_n 1, 1) := by decide +kernel
theorem dL_law_227 : decode cL_law 227 = .ok (.invokestatic 168, 3) := by decide +kernel
theorem dL_law_230 : decode cL_law 230 = .ok (.ifCond .eq 24, 3) := by decide +kernel
theorem dL_law_233 : decode cL_law 233 = .ok (.aload_n 1, 1) := by decide +kernel
theorem dL_law_234 : decode cL_law 234 = .ok (.invokevirtual 72, 3) := by decide +kernel
theorem dL_law_237 : decode cL_law 237 = .ok (.ifCond .lt 17, 3) := by decide +kernel
theorem dL_law_240 : decode cL_law 240 = .ok (.aload_n 1, 1) := by decide +kernel
theorem dL_law_241 : decode cL_law 241 = .ok (.invokestatic 177, 3) := by decide +kernel
theorem dL_law_244 : decode cL_law 244 = .ok (.lload 4, 2) := by decide +kernel
theorem dL_law_246 : decode cL_law 246 = .ok (.lcmp, 1) := by decide +kernel
theorem dL_law_247 : decode cL_law 247 = .ok (.ifCond .ne 7, 3) := by decide +kernel
theorem dL_law_250 : decode cL_law 250 = .ok (.iconst 1, 1) := by decide +kernel
theorem dL_law_251 : decode cL_law 251 = .ok (.goto 4, 3) := by decide +kernel
theorem dL_law_254 : decode cL_law 254 = .ok (.iconst 0, 1) := by decide +kernel
theorem dL_law_255 : decode cL_law 255 = .ok (.istore_n 3, 1) := by decide +kernel
theorem dL_law_256 : decode cL_law 256 = .ok (.iinc 7 1, 3) := by decide +kernel
theorem dL_law_259 : decode cL_law 259 = .ok (.goto (-76), 3) := by decide +kernel
theorem dL_law_262 : decode cL_law 262 = .ok (.iconst 0, 1) := by decide +kernel
theorem dL_law_263 : decode cL_law 263 = .ok (.istore 7, 2) := by decide +kernel
theorem dL_law_265 : decode cL_law 265 = .ok (.iload_n 3, 1) := by decide +kernel
theorem dL_law_266 : decode cL_law 266 = .ok (.ifCond .eq 67, 3) := by decide +kernel
theorem dL_law_269 : decode cL_law 269 = .ok (.iload 7, 2) := by decide +kernel
theorem dL_law_271 : decode cL_law 271 = .ok (.iconst 4, 1) := by decide +kernel
theorem dL_law_272 : decode cL_law 272 = .ok (.if_icmp .ge 61, 3) := by decide +kernel
theorem dL_law_275 : decode cL_law 275 = .ok (.aload_n 1, 1) := by decide +kernel
theorem dL_law_276 : decode cL_law 276 = .ok (.iconst 2, 1) := by decide +kernel
theorem dL_law_277 : decode cL_law 277 = .ok (.iload 7, 2) := by decide +kernel
theorem dL_law_279 : decode cL_law 279 = .ok (.iadd, 1) := by decide +kernel
theorem dL_law_280 : decode cL_law 280 = .ok (.invokevirtual 41, 3) := by decide +kernel
theorem dL_law_283 : decode cL_law 283 = .ok (.pop, 1) := by decide +kernel
theorem dL_law_284 : decode cL_law 284 = .ok (.aload_n 1, 1) := by decide +kernel
theorem dL_law_285 : decode cL_law 285 = .ok (.sipush 4413, 3) := by decide +kernel
theorem dL_law_288 : decode cL_law 288 = .ok (.bipush 111, 2) := by decide +kernel
theorem dL_law_290 : decode cL_law 290 = .ok (.iload 7, 2) := by decide +kernel
theorem dL_law_292 : decode cL_law 292 = .ok (.imul, 1) := by decide +kernel
theorem dL_law_293 : decode cL_law 293 = .ok (.iadd, 1) := by decide +kernel
theorem dL_law_294 : decode cL_law 294 = .ok (.iconst 4, 1) := by decide +kernel
theorem dL_law_295 : decode cL_law 295 = .ok (.invokevirtual 24, 3) := by decide +kernel
theorem dL_law_298 : decode cL_law 298 = .ok (.pop, 1) := by decide +kernel
theorem dL_law_299 : decode cL_law 299 = .ok (.aload_n 1, 1) := by decide +kernel
theorem dL_law_300 : decode cL_law 300 = .ok (.iload 7, 2) := by decide +kernel
theorem dL_law_302 : decode cL_law 302 = .ok (.invokevirtual 47, 3) := by decide +kernel
theorem dL_law_305 : decode cL_law 305 = .ok (.pop, 1) := by decide +kernel
theorem dL_law_306 : decode cL_law 306 = .ok (.aload_n 1, 1) := by decide +kernel
theorem dL_law_307 : decode cL_law 307 = .ok (.iload 7, 2) := by decide +kernel
theorem dL_law_309 : decode cL_law 309 = .ok (.invokevirtual 50, 3) := by decide +kernel
theorem dL_law_312 : decode cL_law 312 = .ok (.pop, 1) := by decide +kernel
theorem dL_law_313 : decode cL_law 313 = .ok (.aload_n 1, 1) := by decide +kernel
theorem dL_law_314 : decode cL_law 314 = .ok (.iload 7, 2) := by decide +kernel
theorem dL_law_316 : decode cL_law 316 = .ok (.iconst 0, 1) := by decide +kernel
theorem dL_law_317 : decode cL_law 317 = .ok (.iconst 1, 1) := by decide +kernel
theorem dL_law_318 : decode cL_law 318 = .ok (.invokevirtual 34, 3) := by decide +kernel
theorem dL_law_321 : decode cL_law 321 = .ok (.pop, 1) := by decide +kernel
theorem dL_law_322 : decode cL_law 322 = .ok (.aload_n 1, 1) := by decide +kernel
theorem dL_law_323 : decode cL_law 323 = .ok (.invokestatic 191, 3) := by decide +kernel
theorem dL_law_326 : decode cL_law 326 = .ok (.istore_n 3, 1) := by decide +kernel
theorem dL_law_327 : decode cL_law 327 = .ok (.iinc 7 1, 3) := by decide +kernel
theorem dL_law_330 : decode cL_law 330 = .ok (.goto (-65), 3) := by decide +kernel
theorem dL_law_333 : decode cL_law 333 = .ok (.iload_n 3, 1) := by decide +kernel
theorem dL_law_334 : decode cL_law 334 = .ok (.ifCond .eq 35, 3) := by decide +kernel
theorem dL_law_337 : decode cL_law 337 = .ok (.aload_n 1, 1) := by decide +kernel
theorem dL_law_338 : decode cL_law 338 = .ok (.invokevirtual 69, 3) := by decide +kernel
theorem dL_law_341 : decode cL_law 341 = .ok (.iload 6, 2) := by decide +kernel
theorem dL_law_343 : decode cL_law 343 = .ok (.if_icmp .ne 26, 3) := by decide +kernel
theorem dL_law_346 : decode cL_law 346 = .ok (.aload_n 1, 1) := by decide +kernel
theorem dL_law_347 : decode cL_law 347 = .ok (.invokestatic 177, 3) := by decide +kernel
theorem dL_law_350 : decode cL_law 350 = .ok (.lload 4, 2) := by decide +kernel
theorem dL_law_352 : decode cL_law 352 = .ok (.lcmp, 1) := by decide +kernel
theorem dL_law_353 : decode cL_law 353 = .ok (.ifCond .ne 16, 3) := by decide +kernel
theorem dL_law_356 : decode cL_law 356 = .ok (.aload_n 1, 1) := by decide +kernel
theorem dL_law_357 : decode cL_law 357 = .ok (.invokevirtual 72, 3) := by decide +kernel
theorem dL_law_360 : decode cL_law 360 = .ok (.bipush (-4), 2) := by decide +kernel
theorem dL_law_362 : decode cL_law 362 = .ok (.if_icmp .ne 7, 3) := by decide +kernel
theorem dL_law_365 : decode cL_law 365 = .ok (.iconst 1, 1) := by decide +kernel
theorem dL_law_366 : decode cL_law 366 = .ok (.goto 4, 3) := by decide +kernel
theorem dL_law_369 : decode cL_law 369 = .ok (.iconst 0, 1) := by decide +kernel
theorem dL_law_370 : decode cL_law 370 = .ok (.ireturn, 1) := by decide +kernel
