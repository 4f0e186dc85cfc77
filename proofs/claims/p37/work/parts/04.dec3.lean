theorem dL_cell_0 : decode cL_cell 0 = .ok (.aload_n 0, 1) := by decide +kernel
theorem dL_cell_1 : decode cL_cell 1 = .ok (.arraylength, 1) := by decide +kernel
theorem dL_cell_2 : decode cL_cell 2 = .ok (.ifCond .ne 11, 3) := by decide +kernel
theorem dL_cell_5 : decode cL_cell 5 = .ok (.sipush 577, 3) := by decide +kernel
theorem dL_cell_8 : decode cL_cell 8 = .ok (.iload_n 1, 1) := by decide +kernel
theorem dL_cell_9 : decode cL_cell 9 = .ok (.imul, 1) := by decide +kernel
theorem dL_cell_10 : decode cL_cell 10 = .ok (.goto 12, 3) := by decide +kernel
theorem dL_cell_13 : decode cL_cell 13 = .ok (.aload_n 0, 1) := by decide +kernel
theorem dL_cell_14 : decode cL_cell 14 = .ok (.iload_n 1, 1) := by decide +kernel
theorem dL_cell_15 : decode cL_cell 15 = .ok (.ldc 7, 2) := by decide +kernel
theorem dL_cell_17 : decode cL_cell 17 = .ok (.iand, 1) := by decide +kernel
theorem dL_cell_18 : decode cL_cell 18 = .ok (.aload_n 0, 1) := by decide +kernel
theorem dL_cell_19 : decode cL_cell 19 = .ok (.arraylength, 1) := by decide +kernel
theorem dL_cell_20 : decode cL_cell 20 = .ok (.irem, 1) := by decide +kernel
theorem dL_cell_21 : decode cL_cell 21 = .ok (.iaload, 1) := by decide +kernel
theorem dL_cell_22 : decode cL_cell 22 = .ok (.ireturn, 1) := by decide +kernel
theorem dL_write_0 : decode cL_write 0 = .ok (.iconst 0, 1) := by decide +kernel
theorem dL_write_1 : decode cL_write 1 = .ok (.istore_n 2, 1) := by decide +kernel
theorem dL_write_2 : decode cL_write 2 = .ok (.iload_n 2, 1) := by decide +kernel
theorem dL_write_3 : decode cL_write 3 = .ok (.aload_n 1, 1) := by decide +kernel
theorem dL_write_4 : decode cL_write 4 = .ok (.invokevirtual 8, 3) := by decide +kernel
theorem dL_write_7 : decode cL_write 7 = .ok (.if_icmp .ge 19, 3) := by decide +kernel
theorem dL_write_10 : decode cL_write 10 = .ok (.aload_n 0, 1) := by decide +kernel
theorem dL_write_11 : decode cL_write 11 = .ok (.aload_n 1, 1) := by decide +kernel
theorem dL_write_12 : decode cL_write 12 = .ok (.iload_n 2, 1) := by decide +kernel
theorem dL_write_13 : decode cL_write 13 = .ok (.invokevirtual 14, 3) := by decide +kernel
theorem dL_write_16 : decode cL_write 16 = .ok (.invokevirtual 18, 3) := by decide +kernel
theorem dL_write_19 : decode cL_write 19 = .ok (.pop, 1) := by decide +kernel
theorem dL_write_20 : decode cL_write 20 = .ok (.iinc 2 1, 3) := by decide +kernel
theorem dL_write_23 : decode cL_write 23 = .ok (.goto (-21), 3) := by decide +kernel
theorem dL_write_26 : decode cL_write 26 = .ok (.aload_n 0, 1) := by decide +kernel
theorem dL_write_27 : decode cL_write 27 = .ok (.areturn, 1) := by decide +kernel
theorem dL_act_0 : decode cL_act 0 = .ok (.iload_n 1, 1) := by decide +kernel
theorem dL_act_1 : decode cL_act 1 = .ok (.iconst 4, 1) := by decide +kernel
theorem dL_act_2 : decode cL_act 2 = .ok (.ishr, 1) := by decide +kernel
theorem dL_act_3 : decode cL_act 3 = .ok (.ldc 7, 2) := by decide +kernel
theorem dL_act_5 : decode cL_act 5 = .ok (.iand, 1) := by decide +kernel
theorem dL_act_6 : decode cL_act 6 = .ok (.istore_n 2, 1) := by decide +kernel
theorem dL_act_7 : decode cL_act 7 = .ok (.iload_n 2, 1) := by decide +kernel
theorem dL_act_8 : decode cL_act 8 = .ok (.bipush 7, 2) := by decide +kernel
theorem dL_act_10 : decode cL_act 10 = .ok (.irem, 1) := by decide +kernel
theorem dL_act_11 : decode cL_act 11 = .ok (.istore_n 3, 1) := by decide +kernel
theorem dL_act_12 : decode cL_act 12 = .ok (.iload_n 1, 1) := by decide +kernel
theorem dL_act_13 : decode cL_act 13 = .ok (.bipush 15, 2) := by decide +kernel
theorem dL_act_15 : decode cL_act 15 = .ok (.iand, 1) := by decide +kernel
theorem dL_act_16 : decode cL_act 16 = .ok (.tableswitch 225 0 14 #[76, 95, 133, 139, 139, 156, 184, 184, 184, 195, 195, 195, 201, 207, 207], 76) := by decide +kernel
theorem dL_act_92 : decode cL_act 92 = .ok (.aload_n 0, 1) := by decide +kernel
theorem dL_act_93 : decode cL_act 93 = .ok (.iload_n 2, 1) := by decide +kernel
theorem dL_act_94 : decode cL_act 94 = .ok (.iconst 3, 1) := by decide +kernel
theorem dL_act_95 : decode cL_act 95 = .ok (.ishr, 1) := by decide +kernel
theorem dL_act_96 : decode cL_act 96 = .ok (.sipush 1000, 3) := by decide +kernel
theorem dL_act_99 : decode cL_act 99 = .ok (.irem, 1) := by decide +kernel
theorem dL_act_100 : decode cL_act 100 = .ok (.iconst 1, 1) := by decide +kernel
theorem dL_act_101 : decode cL_act 101 = .ok (.iload_n 2, 1) := by decide +kernel
theorem dL_act_102 : decode cL_act 102 = .ok (.iconst 3, 1) := by decide +kernel
theorem dL_act_103 : decode cL_act 103 = .ok (.ishr, 1) := by decide +kernel
theorem dL_act_104 : decode cL_act 104 = .ok (.iconst 4, 1) := by decide +kernel
theorem dL_act_105 : decode cL_act 105 = .ok (.irem, 1) := by decide +kernel
theorem dL_act_106 : decode cL_act 106 = .ok (.iadd, 1) := by decide +kernel
theorem dL_act_107 : decode cL_act 107 = .ok (.invokevirtual 24, 3) := by decide +kernel
theorem dL_act_110 : decode cL_act 110 = .ok (.ireturn, 1) := by decide +kernel
theorem dL_act_111 : decode cL_act 111 = .ok (.iload_n 2, 1) := by decide +kernel
theorem dL_act_112 : decode cL_act 112 = .ok (.bipush 8, 2) := by decide +kernel
theorem dL_act_114 : decode cL_act 114 = .ok (.ishr, 1) := by decide +kernel
theorem dL_act_115 : decode cL_act 115 = .ok (.iconst 1, 1) := by decide +kernel
theorem dL_act_116 : decode cL_act 116 = .ok (.iand, 1) := by decide +kernel
theorem dL_act_117 : decode cL_act 117 = .ok (.ifCond .ne 26, 3) := by decide +kernel
theorem dL_act_120 : decode cL_act 120 = .ok (.aload_n 0, 1) := by decide +kernel
theorem dL_act_121 : decode cL_act 121 = .ok (.iload_n 2, 1) := by decide +kernel
theorem dL_act_122 : decode cL_act 122 = .ok (.iconst 1, 1) := by decide +kernel
theorem dL_act_123 : decode cL_act 123 = .ok (.iand, 1) := by decide +kernel
theorem dL_act_124 : decode cL_act 124 = .ok (.ifCond .ne 9, 3) := by decide +kernel
theorem dL_act_127 : decode cL_act 127 = .ok (.sipush 441, 3) := by decide +kernel
theorem dL_act_130 : decode cL_act 130 = .ok (.goto 6, 3) := by decide +kernel
theorem dL_act_133 : decode cL_act 133 = .ok (.sipush 531, 3) := by decide +kernel
theorem dL_act_136 : decode cL_act 136 = .ok (.iconst 3, 1) := by decide +kernel
theorem dL_act_137 : decode cL_act 137 = .ok (.invokevirtual 24, 3) := by decide +kernel
theorem dL_act_140 : decode cL_act 140 = .ok (.goto 8, 3) := by decide +kernel
theorem dL_act_143 : decode cL_act 143 = .ok (.aload_n 0, 1) := by decide +kernel
theorem dL_act_144 : decode cL_act 144 = .ok (.iload_n 3, 1) := by decide +kernel
theorem dL_act_145 : decode cL_act 145 = .ok (.invokevirtual 28, 3) := by decide +kernel
theorem dL_act_148 : decode cL_act 148 = .ok (.ireturn, 1) := by decide +kernel
theorem dL_act_149 : decode cL_act 149 = .ok (.aload_n 0, 1) := by decide +kernel
theorem dL_act_150 : decode cL_act 150 = .ok (.iload_n 3, 1) := by decide +kernel
theorem dL_act_151 : decode cL_act 151 = .ok (.invokevirtual 31, 3) := by decide +kernel
theorem dL_act_154 : decode cL_act 154 = .ok (.ireturn, 1) := by decide +kernel
theorem dL_act_155 : decode cL_act 155 = .ok (.aload_n 0, 1) := by decide +kernel
theorem dL_act_156 : decode cL_act 156 = .ok (.iload_n 3, 1) := by decide +kernel
theorem dL_act_157 : decode cL_act 157 = .ok (.iload_n 2, 1) := by decide +kernel
theorem dL_act_158 : decode cL_act 158 = .ok (.iconst 4, 1) := by decide +kernel
theorem dL_act_159 : decode cL_act 159 = .ok (.ishr, 1) := by decide +kernel
theorem dL_act_160 : decode cL_act 160 = .ok (.iconst 4, 1) := by decide +kernel
theorem dL_act_161 : decode cL_act 161 = .ok (.irem, 1) := by decide +kernel
theorem dL_act_162 : decode cL_act 162 = .ok (.iload_n 2, 1) := by decide +kernel
theorem dL_act_163 : decode cL_act 163 = .ok (.bipush 7, 2) := by decide +kernel
theorem dL_act_165 : decode cL_act 165 = .ok (.ishr, 1) := by decide +kernel
theorem dL_act_166 : decode cL_act 166 = .ok (.iconst 5, 1) := by decide +kernel
theorem dL_act_167 : decode cL_act 167 = .ok (.irem, 1) := by decide +kernel
theorem dL_act_168 : decode cL_act 168 = .ok (.invokevirtual 34, 3) := by decide +kernel
theorem dL_act_171 : decode cL_act 171 = .ok (.ireturn, 1) := by decide +kernel
theorem dL_act_172 : decode cL_act 172 = .ok (.iload_n 2, 1) := by decide +kernel
theorem dL_act_173 : decode cL_act 173 = .ok (.bipush 8, 2) := by decide +kernel
theorem dL_act_175 : decode cL_act 175 = .ok (.ishr, 1) := by decide +kernel
theorem dL_act_176 : decode cL_act 176 = .ok (.iconst 1, 1) := by decide +kernel
theorem dL_act_177 : decode cL_act 177 = .ok (.iand, 1) := by decide +kernel
theorem dL_act_178 : decode cL_act 178 = .ok (.ifCond .ne 11, 3) := by decide +kernel
theorem dL_act_181 : decode cL_act 181 = .ok (.aload_n 0, 1) := by decide +kernel
theorem dL_act_182 : decode cL_act 182 = .ok (.iload_n 3, 1) := by decide +kernel
theorem dL_act_183 : decode cL_act 183 = .ok (.invokevirtual 38, 3) := by decide +kernel
theorem dL_act_186 : decode cL_act 186 = .ok (.goto 13, 3) := by decide +kernel
theorem dL_act_189 : decode cL_act 189 = .ok (.aload_n 0, 1) := by decide +kernel
theorem dL_act_190 : decode cL_act 190 = .ok (.iload_n 2, 1) := by decide +kernel
theorem dL_act_191 : decode cL_act 191 = .ok (.iconst 4, 1) := by decide +kernel
theorem dL_act_192 : decode cL_act 192 = .ok (.ishr, 1) := by decide +kernel
theorem dL_act_193 : decode cL_act 193 = .ok (.bipush 10, 2) := by decide +kernel
theorem dL_act_195 : decode cL_act 195 = .ok (.irem, 1) := by decide +kernel
theorem dL_act_196 : decode cL_act 196 = .ok (.invokevirtual 41, 3) := by decide +kernel
theorem dL_act_199 : decode cL_act 199 = .ok (.ireturn, 1) := by decide +kernel
theorem dL_act_200 : decode cL_act 200 = .ok (.aload_n 0, 1) := by decide +kernel
theorem dL_act_201 : decode cL_act 201 = .ok (.iload_n 2, 1) := by decide +kernel
theorem dL_act_202 : decode cL_act 202 = .ok (.iconst 4, 1) := by decide +kernel
theorem dL_act_203 : decode cL_act 203 = .ok (.ishr, 1) := by decide +kernel
theorem dL_act_204 : decode cL_act 204 = .ok (.bipush 11, 2) := by decide +kernel
theorem dL_act_206 : decode cL_act 206 = .ok (.irem, 1) := by decide +kernel
theorem dL_act_207 : decode cL_act 207 = .ok (.invokevirtual 44, 3) := by decide +kernel
theorem dL_act_210 : decode cL_act 210 = .ok (.ireturn, 1) := by decide +kernel
theorem dL_act_211 : decode cL_act 211 = .ok (.aload_n 0, 1) := by decide +kernel
theorem dL_act_212 : decode cL_act 212 = .ok (.iload_n 3, 1) := by decide +kernel
theorem dL_act_213 : decode cL_act 213 = .ok (.invokevirtual 47, 3) := by decide +kernel
theorem dL_act_216 : decode cL_act 216 = .ok (.ireturn, 1) := by decide +kernel
theorem dL_act_217 : decode cL_act 217 = .ok (.aload_n 0, 1) := by decide +kernel
theorem dL_act_218 : decode cL_act 218 = .ok (.iload_n 3, 1) := by decide +kernel
theorem dL_act_219 : decode cL_act 219 = .ok (.invokevirtual 50, 3) := by decide +kernel
theorem dL_act_222 : decode cL_act 222 = .ok (.ireturn, 1) := by decide +kernel
theorem dL_act_223 : decode cL_act 223 = .ok (.aload_n 0, 1) := by decide +kernel
theorem dL_act_224 : decode cL_act 224 = .ok (.getstatic 53, 3) := by decide +kernel
theorem dL_act_227 : decode cL_act 227 = .ok (.iload_n 2, 1) := by decide +kernel
theorem dL_act_228 : decode cL_act 228 = .ok (.getstatic 53, 3) := by decide +kernel
theorem dL_act_231 : decode cL_act 231 = .ok (.arraylength, 1) := by decide +kernel
theorem dL_act_232 : decode cL_act 232 = .ok (.irem, 1) := by decide +kernel
theorem dL_act_233 : decode cL_act 233 = .ok (.aaload, 1) := by decide +kernel
theorem dL_act_234 : decode cL_act 234 = .ok (.invokestatic 59, 3) := by decide +kernel
theorem dL_act_237 : decode cL_act 237 = .ok (.invokevirtual 63, 3) := by decide +kernel
theorem dL_act_240 : decode cL_act 240 = .ok (.ireturn, 1) := by decide +kernel
theorem dL_act_241 : decode cL_act 241 = .ok (.iload_n 2, 1) := by decide +kernel
theorem dL_act_242 : decode cL_act 242 = .ok (.iconst 3, 1) := by decide +kernel
theorem dL_act_243 : decode cL_act 243 = .ok (.iand, 1) := by decide +kernel
theorem dL_act_244 : decode cL_act 244 = .ok (.ifCond .ne 10, 3) := by decide +kernel
theorem dL_act_247 : decode cL_act 247 = .ok (.aload_n 0, 1) := by decide +kernel
theorem dL_act_248 : decode cL_act 248 = .ok (.invokevirtual 66, 3) := by decide +kernel
theorem dL_act_251 : decode cL_act 251 = .ok (.goto 21, 3) := by decide +kernel
theorem dL_act_254 : decode cL_act 254 = .ok (.iload_n 2, 1) := by decide +kernel
theorem dL_act_255 : decode cL_act 255 = .ok (.iconst 3, 1) := by decide +kernel
theorem dL_act_256 : decode cL_act 256 = .ok (.iand, 1) := by decide +kernel
theorem dL_act_257 : decode cL_act 257 = .ok (.iconst 1, 1) := by decide +kernel
theorem dL_act_258 : decode cL_act 258 = .ok (.if_icmp .ne 10, 3) := by decide +kernel
theorem dL_act_261 : decode cL_act 261 = .ok (.aload_n 0, 1) := by decide +kernel
theorem dL_act_262 : decode cL_act 262 = .ok (.invokevirtual 69, 3) := by decide +kernel
theorem dL_act_265 : decode cL_act 265 = .ok (.goto 7, 3) := by decide +kernel
theorem dL_act_268 : decode cL_act 268 = .ok (.aload_n 0, 1) := by decide +kernel
theorem dL_act_269 : decode cL_act 269 = .ok (.invokevirtual 72, 3) := by decide +kernel
theorem dL_act_272 : decode cL_act 272 = .ok (.ireturn, 1) := by decide +kernel
theorem dL_digest_0 : decode cL_digest 0 = .ok (.ldc2_w 75, 3) := by decide +kernel
theorem dL_digest_3 : decode cL_digest 3 = .ok (.lstore_n 1, 1) := by decide +kernel
theorem dL_digest_4 : decode cL_digest 4 = .ok (.iconst 0, 1) := by decide +kernel
theorem dL_digest_5 : decode cL_digest 5 = .ok (.istore_n 3, 1) := by decide +kernel
theorem dL_digest_6 : decode cL_digest 6 = .ok (.iload_n 3, 1) := by decide +kernel
theorem dL_digest_7 : decode cL_digest 7 = .ok (.bipush 9, 2) := by decide +kernel
theorem dL_digest_9 : decode cL_digest 9 = .ok (.if_icmp .ge 22, 3) := by decide +kernel
theorem dL_digest_12 : decode cL_digest 12 = .ok (.ldc2_w 77, 3) := by decide +kernel
theorem dL_digest_15 : decode cL_digest 15 = .ok (.lload_n 1, 1) := by decide +kernel
theorem dL_digest_16 : decode cL_digest 16 = .ok (.lmul, 1) := by decide +kernel
theorem dL_digest_17 : decode cL_digest 17 = .ok (.aload_n 0, 1) := by decide +kernel
theorem dL_digest_18 : decode cL_digest 18 = .ok (.iload_n 3, 1) := by decide +kernel
theorem dL_digest_19 : decode cL_digest 19 = .ok (.invokevirtual 79, 3) := by decide +kernel
theorem dL_digest_22 : decode cL_digest 22 = .ok (.i2l, 1) := by decide +kernel
theorem dL_digest_23 : decode cL_digest 23 = .ok (.ladd, 1) := by decide +kernel
theorem dL_digest_24 : decode cL_digest 24 = .ok (.lstore_n 1, 1) := by decide +kernel
theorem dL_digest_25 : decode cL_digest 25 = .ok (.iinc 3 1, 3) := by decide +kernel
theorem dL_digest_28 : decode cL_digest 28 = .ok (.goto (-22), 3) := by decide +kernel
theorem dL_digest_31 : decode cL_digest 31 = .ok (.iconst 0, 1) := by decide +kernel
theorem dL_digest_32 : decode cL_digest 32 = .ok (.istore_n 3, 1) := by decide +kernel
theorem dL_digest_33 : decode cL_digest 33 = .ok (.iload_n 3, 1) := by decide +kernel
theorem dL_digest_34 : decode cL_digest 34 = .ok (.iconst 3, 1) := by decide +kernel
theorem dL_digest_35 : decode cL_digest 35 = .ok (.if_icmp .ge 22, 3) := by decide +kernel
theorem dL_digest_38 : decode cL_digest 38 = .ok (.ldc2_w 77, 3) := by decide +kernel
theorem dL_digest_41 : decode cL_digest 41 = .ok (.lload_n 1, 1) := by decide +kernel
theorem dL_digest_42 : decode cL_digest 42 = .ok (.lmul, 1) := by decide +kernel
theorem dL_digest_43 : decode cL_digest 43 = .ok (.aload_n 0, 1) := by decide +kernel
theorem dL_digest_44 : decode cL_digest 44 = .ok (.iload_n 3, 1) := by decide +kernel
theorem dL_digest_45 : decode cL_digest 45 = .ok (.invokevirtual 82, 3) := by decide +kernel
theorem dL_digest_48 : decode cL_digest 48 = .ok (.i2l, 1) := by decide +kernel
theorem dL_digest_49 : decode cL_digest 49 = .ok (.ladd, 1) := by decide +kernel
theorem dL_digest_50 : decode cL_digest 50 = .ok (.lstore_n 1, 1) := by decide +kernel
theorem dL_digest_51 : decode cL_digest 51 = .ok (.iinc 3 1, 3) := by decide +kernel
theorem dL_digest_54 : decode cL_digest 54 = .ok (.goto (-21), 3) := by decide +kernel
theorem dL_digest_57 : decode cL_digest 57 = .ok (.iconst 0, 1) := by decide +kernel
theorem dL_digest_58 : decode cL_digest 58 = .ok (.istore_n 3, 1) := by decide +kernel
theorem dL_digest_59 : decode cL_digest 59 = .ok (.iload_n 3, 1) := by decide +kernel
theorem dL_digest_60 : decode cL_digest 60 = .ok (.aload_n 0, 1) := by decide +kernel
theorem dL_digest_61 : decode cL_digest 61 = .ok (.iconst 0, 1) := by decide +kernel
theorem dL_digest_62 : decode cL_digest 62 = .ok (.invokevirtual 79, 3) := by decide +kernel
theorem dL_digest_65 : decode cL_digest 65 = .ok (.if_icmp .ge 44, 3) := by decide +kernel
theorem dL_digest_68 : decode cL_digest 68 = .ok (.iconst 0, 1) := by decide +kernel
theorem dL_digest_69 : decode cL_digest 69 = .ok (.istore 4, 2) := by decide +kernel
theorem dL_digest_71 : decode cL_digest 71 = .ok (.iload 4, 2) := by decide +kernel
theorem dL_digest_73 : decode cL_digest 73 = .ok (.aload_n 0, 1) := by decide +kernel
theorem dL_digest_74 : decode cL_digest 74 = .ok (.iload_n 3, 1) := by decide +kernel
theorem dL_digest_75 : decode cL_digest 75 = .ok (.iconst 0, 1) := by decide +kernel
theorem dL_digest_76 : decode cL_digest 76 = .ok (.invokevirtual 85, 3) := by decide +kernel
theorem dL_digest_79 : decode cL_digest 79 = .ok (.if_icmp .ge 24, 3) := by decide +kernel
theorem dL_digest_82 : decode cL_digest 82 = .ok (.ldc2_w 77, 3) := by decide +kernel
theorem dL_digest_85 : decode cL_digest 85 = .ok (.lload_n 1, 1) := by decide +kernel
theorem dL_digest_86 : decode cL_digest 86 = .ok (.lmul, 1) := by decide +kernel
theorem dL_digest_87 : decode cL_digest 87 = .ok (.aload_n 0, 1) := by decide +kernel
theorem dL_digest_88 : decode cL_digest 88 = .ok (.iload_n 3, 1) := by decide +kernel
theorem dL_digest_89 : decode cL_digest 89 = .ok (.iload 4, 2) := by decide +kernel
theorem dL_digest_91 : decode cL_digest 91 = .ok (.invokevirtual 88, 3) := by decide +kernel
theorem dL_digest_94 : decode cL_digest 94 = .ok (.i2l, 1) := by decide +kernel
theorem dL_digest_95 : decode cL_digest 95 = .ok (.ladd, 1) := by decide +kernel
theorem dL_digest_96 : decode cL_digest 96 = .ok (.lstore_n 1, 1) := by decide +kernel
theorem dL_digest_97 : decode cL_digest 97 = .ok (.iinc 4 1, 3) := by decide +kernel
theorem dL_digest_100 : decode cL_digest 100 = .ok (.goto (-29), 3) := by decide +kernel
theorem dL_digest_103 : decode cL_digest 103 = .ok (.iinc 3 1, 3) := by decide +kernel
theorem dL_digest_106 : decode cL_digest 106 = .ok (.goto (-47), 3) := by decide +kernel
theorem dL_digest_109 : decode cL_digest 109 = .ok (.lload_n 1, 1) := by decide +kernel
theorem dL_digest_110 : decode cL_digest 110 = .ok (.lreturn, 1) := by decide +kernel
theorem dL_can_0 : decode cL_can 0 = .ok (.iload_n 1, 1) := by decide +kernel
theorem dL_can_1 : decode cL_can 1 = .ok (.ifCond .ne 17, 3) := by decide +kernel
theorem dL_can_4 : decode cL_can 4 = .ok (.iload_n 0, 1) := by decide +kernel
theorem dL_can_5 : decode cL_can 5 = .ok (.iconst 1, 1) := by decide +kernel
theorem dL_can_6 : decode cL_can 6 = .ok (.iand, 1) := by decide +kernel
theorem dL_can_7 : decode cL_can 7 = .ok (.ifCond .ne 7, 3) := by decide +kernel
theorem dL_can_10 : decode cL_can 10 = .ok (.iconst 1, 1) := by decide +kernel
theorem dL_can_11 : decode cL_can 11 = .ok (.goto 27, 3) := by decide +kernel
theorem dL_can_14 : decode cL_can 14 = .ok (.iconst 0, 1) := by decide +kernel
theorem dL_can_15 : decode cL_can 15 = .ok (.goto 23, 3) := by decide +kernel
theorem dL_can_18 : decode cL_can 18 = .ok (.iload_n 0, 1) := by decide +kernel
theorem dL_can_19 : decode cL_can 19 = .ok (.iconst 1, 1) := by decide +kernel
theorem dL_can_20 : decode cL_can 20 = .ok (.iand, 1) := by decide +kernel
theorem dL_can_21 : decode cL_can 21 = .ok (.iconst 1, 1) := by decide +kernel
theorem dL_can_22 : decode cL_can 22 = .ok (.if_icmp .ne 15, 3) := by decide +kernel
theorem dL_can_25 : decode cL_can 25 = .ok (.iload_n 0, 1) := by decide +kernel
theorem dL_can_26 : decode cL_can 26 = .ok (.iload_n 1, 1) := by decide +kernel
theorem dL_can_27 : decode cL_can 27 = .ok (.ishr, 1) := by decide +kernel
theorem dL_can_28 : decode cL_can 28 = .ok (.iconst 1, 1) := by decide +kernel
theorem dL_can_29 : decode cL_can 29 = .ok (.iand, 1) := by decide +kernel
theorem dL_can_30 : decode cL_can 30 = .ok (.ifCond .ne 7, 3) := by decide +kernel
theorem dL_can_33 : decode cL_can 33 = .ok (.iconst 1, 1) := by decide +kernel
theorem dL_can_34 : decode cL_can 34 = .ok (.goto 4, 3) := by decide +kernel
theorem dL_can_37 : decode cL_can 37 = .ok (.iconst 0, 1) := by decide +kernel
theorem dL_can_38 : decode cL_can 38 = .ok (.ireturn, 1) := by decide +kernel
theorem dL_behind_0 : decode cL_behind 0 = .ok (.iload_n 0, 1) := by decide +kernel
theorem dL_behind_1 : decode cL_behind 1 = .ok (.iconst 1, 1) := by decide +kernel
theorem dL_behind_2 : decode cL_behind 2 = .ok (.ishr, 1) := by decide +kernel
theorem dL_behind_3 : decode cL_behind 3 = .ok (.iload_n 1, 1) := by decide +kernel
theorem dL_behind_4 : decode cL_behind 4 = .ok (.ifCond .ne 7, 3) := by decide +kernel
theorem dL_behind_7 : decode cL_behind 7 = .ok (.iconst 0, 1) := by decide +kernel
theorem dL_behind_8 : decode cL_behind 8 = .ok (.goto 8, 3) := by decide +kernel
theorem dL_behind_11 : decode cL_behind 11 = .ok (.iconst 1, 1) := by decide +kernel
theorem dL_behind_12 : decode cL_behind 12 = .ok (.iload_n 1, 1) := by decide +kernel
theorem dL_behind_13 : decode cL_behind 13 = .ok (.iconst 1, 1) := by decide +kernel
theorem dL_behind_14 : decode cL_behind 14 = .ok (.isub, 1) := by decide +kernel
theorem dL_behind_15 : decode cL_behind 15 = .ok (.ishl, 1) := by decide +kernel
theorem dL_behind_16 : decode cL_behind 16 = .ok (.ior, 1) := by decide +kernel
theorem dL_behind_17 : decode cL_behind 17 = .ok (.ireturn, 1) := by decide +kernel
theorem dL_isRow_0 : decode cL_isRow 0 = .ok (.aload_n 0, 1) := by decide +kernel
theorem dL_isRow_1 : decode cL_isRow 1 = .ok (.iload_n 1, 1) := by decide +kernel
theorem dL_isRow_2 : decode cL_isRow 2 = .ok (.iconst 0, 1) := by decide +kernel
theorem dL_isRow_3 : decode cL_isRow 3 = .ok (.invokevirtual 85, 3) := by decide +kernel
theorem dL_isRow_6 : decode cL_isRow 6 = .ok (.istore_n 2, 1) := by decide +kernel
theorem dL_isRow_7 : decode cL_isRow 7 = .ok (.iconst 0, 1) := by decide +kernel
theorem dL_isRow_8 : decode cL_isRow 8 = .ok (.istore_n 3, 1) := by decide +kernel
theorem dL_isRow_9 : decode cL_isRow 9 = .ok (.iconst 0, 1) := by decide +kernel
theorem dL_isRow_10 : decode cL_isRow 10 = .ok (.istore 4, 2) := by decide +kernel
theorem dL_isRow_12 : decode cL_isRow 12 = .ok (.iconst 0, 1) := by decide +kernel
theorem dL_isRow_13 : decode cL_isRow 13 = .ok (.istore 5, 2) := by decide +kernel
theorem dL_isRow_15 : decode cL_isRow 15 = .ok (.iconst 0, 1) := by decide +kernel
theorem dL_isRow_16 : decode cL_isRow 16 = .ok (.istore 6, 2) := by decide +kernel
theorem dL_isRow_18 : decode cL_isRow 18 = .ok (.bipush (-4), 2) := by decide +kernel
theorem dL_isRow_20 : decode cL_isRow 20 = .ok (.istore 7, 2) := by decide +kernel
theorem dL_isRow_22 : decode cL_isRow 22 = .ok (.iload_n 2, 1) := by decide +kernel
theorem dL_isRow_23 : decode cL_isRow 23 = .ok (.iconst 1, 1) := by decide +kernel
theorem dL_isRow_24 : decode cL_isRow 24 = .ok (.isub, 1) := by decide +kernel
theorem dL_isRow_25 : decode cL_isRow 25 = .ok (.istore 8, 2) := by decide +kernel
theorem dL_isRow_27 : decode cL_isRow 27 = .ok (.iload 8, 2) := by decide +kernel
theorem dL_isRow_29 : decode cL_isRow 29 = .ok (.ifCond .lt 79, 3) := by decide +kernel
theorem dL_isRow_32 : decode cL_isRow 32 = .ok (.aload_n 0, 1) := by decide +kernel
theorem dL_isRow_33 : decode cL_isRow 33 = .ok (.iload_n 1, 1) := by decide +kernel
theorem dL_isRow_34 : decode cL_isRow 34 = .ok (.iload 8, 2) := by decide +kernel
theorem dL_isRow_36 : decode cL_isRow 36 = .ok (.invokevirtual 88, 3) := by decide +kernel
theorem dL_isRow_39 : decode cL_isRow 39 = .ok (.istore 9, 2) := by decide +kernel
theorem dL_isRow_41 : decode cL_isRow 41 = .ok (.iload 8, 2) := by decide +kernel
theorem dL_isRow_43 : decode cL_isRow 43 = .ok (.iload 9, 2) := by decide +kernel
theorem dL_isRow_45 : decode cL_isRow 45 = .ok (.iadd, 1) := by decide +kernel
theorem dL_isRow_46 : decode cL_isRow 46 = .ok (.iload_n 2, 1) := by decide +kernel
theorem dL_isRow_47 : decode cL_isRow 47 = .ok (.irem, 1) := by decide +kernel
theorem dL_isRow_48 : decode cL_isRow 48 = .ok (.istore 10, 2) := by decide +kernel
theorem dL_isRow_50 : decode cL_isRow 50 = .ok (.iload_n 3, 1) := by decide +kernel
theorem dL_isRow_51 : decode cL_isRow 51 = .ok (.iload 9, 2) := by decide +kernel
theorem dL_isRow_53 : decode cL_isRow 53 = .ok (.iadd, 1) := by decide +kernel
theorem dL_isRow_54 : decode cL_isRow 54 = .ok (.istore_n 3, 1) := by decide +kernel
theorem dL_isRow_55 : decode cL_isRow 55 = .ok (.iload 4, 2) := by decide +kernel
theorem dL_isRow_57 : decode cL_isRow 57 = .ok (.iload 9, 2) := by decide +kernel
theorem dL_isRow_59 : decode cL_isRow 59 = .ok (.invokestatic 91, 3) := by decide +kernel
theorem dL_isRow_62 : decode cL_isRow 62 = .ok (.istore 4, 2) := by decide +kernel
theorem dL_isRow_64 : decode cL_isRow 64 = .ok (.iload 5, 2) := by decide +kernel
theorem dL_isRow_66 : decode cL_isRow 66 = .ok (.iload 9, 2) := by decide +kernel
theorem dL_isRow_68 : decode cL_isRow 68 = .ok (.iconst 2, 1) := by decide +kernel
theorem dL_isRow_69 : decode cL_isRow 69 = .ok (.irem, 1) := by decide +kernel
theorem dL_isRow_70 : decode cL_isRow 70 = .ok (.iadd, 1) := by decide +kernel
theorem dL_isRow_71 : decode cL_isRow 71 = .ok (.istore 5, 2) := by decide +kernel
theorem dL_isRow_73 : decode cL_isRow 73 = .ok (.iload 6, 2) := by decide +kernel
theorem dL_isRow_75 : decode cL_isRow 75 = .ok (.iload 10, 2) := by decide +kernel
theorem dL_isRow_77 : decode cL_isRow 77 = .ok (.ishr, 1) := by decide +kernel
theorem dL_isRow_78 : decode cL_isRow 78 = .ok (.iconst 1, 1) := by decide +kernel
theorem dL_isRow_79 : decode cL_isRow 79 = .ok (.iand, 1) := by decide +kernel
theorem dL_isRow_80 : decode cL_isRow 80 = .ok (.iconst 1, 1) := by decide +kernel
theorem dL_isRow_81 : decode cL_isRow 81 = .ok (.if_icmp .ne 8, 3) := by decide +kernel
theorem dL_isRow_84 : decode cL_isRow 84 = .ok (.iload 8, 2) := by decide +kernel
theorem dL_isRow_86 : decode cL_isRow 86 = .ok (.goto 5, 3) := by decide +kernel
theorem dL_isRow_89 : decode cL_isRow 89 = .ok (.iload 7, 2) := by decide +kernel
theorem dL_isRow_91 : decode cL_isRow 91 = .ok (.istore 7, 2) := by decide +kernel
theorem dL_isRow_93 : decode cL_isRow 93 = .ok (.iload 6, 2) := by decide +kernel
theorem dL_isRow_95 : decode cL_isRow 95 = .ok (.iconst 1, 1) := by decide +kernel
theorem dL_isRow_96 : decode cL_isRow 96 = .ok (.iload 10, 2) := by decide +kernel
theorem dL_isRow_98 : decode cL_isRow 98 = .ok (.ishl, 1) := by decide +kernel
theorem dL_isRow_99 : decode cL_isRow 99 = .ok (.ior, 1) := by decide +kernel
theorem dL_isRow_100 : decode cL_isRow 100 = .ok (.istore 6, 2) := by decide +kernel
theorem dL_isRow_102 : decode cL_isRow 102 = .ok (.iinc 8 (-1), 3) := by decide +kernel
theorem dL_isRow_105 : decode cL_isRow 105 = .ok (.goto (-78), 3) := by decide +kernel
theorem dL_isRow_108 : decode cL_isRow 108 = .ok (.iload 7, 2) := by decide +kernel
theorem dL_isRow_110 : decode cL_isRow 110 = .ok (.bipush (-4), 2) := by decide +kernel
theorem dL_isRow_112 : decode cL_isRow 112 = .ok (.if_icmp .ne 7, 3) := by decide +kernel
theorem dL_isRow_115 : decode cL_isRow 115 = .ok (.iconst 1, 1) := by decide +kernel
theorem dL_isRow_116 : decode cL_isRow 116 = .ok (.goto 4, 3) := by decide +kernel
theorem dL_isRow_119 : decode cL_isRow 119 = .ok (.iconst 0, 1) := by decide +kernel
theorem dL_isRow_120 : decode cL_isRow 120 = .ok (.istore 8, 2) := by decide +kernel
theorem dL_isRow_122 : decode cL_isRow 122 = .ok (.aload_n 0, 1) := by decide +kernel
theorem dL_isRow_123 : decode cL_isRow 123 = .ok (.iload_n 1, 1) := by decide +kernel
theorem dL_isRow_124 : decode cL_isRow 124 = .ok (.iconst 1, 1) := by decide +kernel
theorem dL_isRow_125 : decode cL_isRow 125 = .ok (.invokevirtual 85, 3) := by decide +kernel
theorem dL_isRow_128 : decode cL_isRow 128 = .ok (.iload_n 3, 1) := by decide +kernel
theorem dL_isRow_129 : decode cL_isRow 129 = .ok (.if_icmp .ne 82, 3) := by decide +kernel
theorem dL_isRow_132 : decode cL_isRow 132 = .ok (.aload_n 0, 1) := by decide +kernel
theorem dL_isRow_133 : decode cL_isRow 133 = .ok (.iload_n 1, 1) := by decide +kernel
theorem dL_isRow_134 : decode cL_isRow 134 = .ok (.iconst 5, 1) := by decide +kernel
theorem dL_isRow_135 : decode cL_isRow 135 = .ok (.invokevirtual 85, 3) := by decide +kernel
theorem dL_isRow_138 : decode cL_isRow 138 = .ok (.iload 4, 2) := by decide +kernel
theorem dL_isRow_140 : decode cL_isRow 140 = .ok (.if_icmp .ne 71, 3) := by decide +kernel
theorem dL_isRow_143 : decode cL_isRow 143 = .ok (.aload_n 0, 1) := by decide +kernel
theorem dL_isRow_144 : decode cL_isRow 144 = .ok (.iload_n 1, 1) := by decide +kernel
theorem dL_isRow_145 : decode cL_isRow 145 = .ok (.bipush 6, 2) := by decide +kernel
theorem dL_isRow_147 : decode cL_isRow 147 = .ok (.invokevirtual 85, 3) := by decide +kernel
theorem dL_isRow_150 : decode cL_isRow 150 = .ok (.iload 5, 2) := by decide +kernel
theorem dL_isRow_152 : decode cL_isRow 152 = .ok (.if_icmp .ne 59, 3) := by decide +kernel
theorem dL_isRow_155 : decode cL_isRow 155 = .ok (.aload_n 0, 1) := by decide +kernel
theorem dL_isRow_156 : decode cL_isRow 156 = .ok (.iload_n 1, 1) := by decide +kernel
theorem dL_isRow_157 : decode cL_isRow 157 = .ok (.iconst 3, 1) := by decide +kernel
theorem dL_isRow_158 : decode cL_isRow 158 = .ok (.invokevirtual 85, 3) := by decide +kernel
theorem dL_isRow_161 : decode cL_isRow 161 = .ok (.iload 7, 2) := by decide +kernel
theorem dL_isRow_163 : decode cL_isRow 163 = .ok (.if_icmp .ne 48, 3) := by decide +kernel
theorem dL_isRow_166 : decode cL_isRow 166 = .ok (.aload_n 0, 1) := by decide +kernel
theorem dL_isRow_167 : decode cL_isRow 167 = .ok (.iload_n 1, 1) := by decide +kernel
theorem dL_isRow_168 : decode cL_isRow 168 = .ok (.invokevirtual 96, 3) := by decide +kernel
theorem dL_isRow_171 : decode cL_isRow 171 = .ok (.iload 8, 2) := by decide +kernel
theorem dL_isRow_173 : decode cL_isRow 173 = .ok (.ifCond .eq 7, 3) := by decide +kernel
theorem dL_isRow_176 : decode cL_isRow 176 = .ok (.iconst 1, 1) := by decide +kernel
theorem dL_isRow_177 : decode cL_isRow 177 = .ok (.goto 4, 3) := by decide +kernel
theorem dL_isRow_180 : decode cL_isRow 180 = .ok (.iconst 0, 1) := by decide +kernel
theorem dL_isRow_181 : decode cL_isRow 181 = .ok (.if_icmp .ne 30, 3) := by decide +kernel
theorem dL_isRow_184 : decode cL_isRow 184 = .ok (.aload_n 0, 1) := by decide +kernel
theorem dL_isRow_185 : decode cL_isRow 185 = .ok (.iload_n 1, 1) := by decide +kernel
theorem dL_isRow_186 : decode cL_isRow 186 = .ok (.invokevirtual 99, 3) := by decide +kernel
theorem dL_isRow_189 : decode cL_isRow 189 = .ok (.aload_n 0, 1) := by decide +kernel
theorem dL_isRow_190 : decode cL_isRow 190 = .ok (.iload_n 1, 1) := by decide +kernel
theorem dL_isRow_191 : decode cL_isRow 191 = .ok (.invokevirtual 96, 3) := by decide +kernel
theorem dL_isRow_194 : decode cL_isRow 194 = .ok (.if_icmp .ne 17, 3) := by decide +kernel
theorem dL_isRow_197 : decode cL_isRow 197 = .ok (.aload_n 0, 1) := by decide +kernel
theorem dL_isRow_198 : decode cL_isRow 198 = .ok (.iload_n 1, 1) := by decide +kernel
theorem dL_isRow_199 : decode cL_isRow 199 = .ok (.iload_n 2, 1) := by decide +kernel
theorem dL_isRow_200 : decode cL_isRow 200 = .ok (.invokevirtual 88, 3) := by decide +kernel
theorem dL_isRow_203 : decode cL_isRow 203 = .ok (.iconst (-1), 1) := by decide +kernel
theorem dL_isRow_204 : decode cL_isRow 204 = .ok (.if_icmp .ne 7, 3) := by decide +kernel
theorem dL_isRow_207 : decode cL_isRow 207 = .ok (.iconst 1, 1) := by decide +kernel
theorem dL_isRow_208 : decode cL_isRow 208 = .ok (.goto 4, 3) := by decide +kernel
theorem dL_isRow_211 : decode cL_isRow 211 = .ok (.iconst 0, 1) := by decide +kernel
theorem dL_isRow_212 : decode cL_isRow 212 = .ok (.istore 9, 2) := by decide +kernel
theorem dL_isRow_214 : decode cL_isRow 214 = .ok (.iload 9, 2) := by decide +kernel
theorem dL_isRow_216 : decode cL_isRow 216 = .ok (.ifCond .eq 62, 3) := by decide +kernel
theorem dL_isRow_219 : decode cL_isRow 219 = .ok (.aload_n 0, 1) := by decide +kernel
theorem dL_isRow_220 : decode cL_isRow 220 = .ok (.iload_n 1, 1) := by decide +kernel
theorem dL_isRow_221 : decode cL_isRow 221 = .ok (.iconst 2, 1) := by decide +kernel
theorem dL_isRow_222 : decode cL_isRow 222 = .ok (.invokevirtual 85, 3) := by decide +kernel
theorem dL_isRow_225 : decode cL_isRow 225 = .ok (.iload 8, 2) := by decide +kernel
theorem dL_isRow_227 : decode cL_isRow 227 = .ok (.ifCond .eq 9, 3) := by decide +kernel
theorem dL_isRow_230 : decode cL_isRow 230 = .ok (.iload_n 3, 1) := by decide +kernel
theorem dL_isRow_231 : decode cL_isRow 231 = .ok (.iload_n 2, 1) := by decide +kernel
theorem dL_isRow_232 : decode cL_isRow 232 = .ok (.idiv, 1) := by decide +kernel
theorem dL_isRow_233 : decode cL_isRow 233 = .ok (.goto 5, 3) := by decide +kernel
theorem dL_isRow_236 : decode cL_isRow 236 = .ok (.bipush (-4), 2) := by decide +kernel
theorem dL_isRow_238 : decode cL_isRow 238 = .ok (.if_icmp .ne 40, 3) := by decide +kernel
theorem dL_isRow_241 : decode cL_isRow 241 = .ok (.iload 8, 2) := by decide +kernel
theorem dL_isRow_243 : decode cL_isRow 243 = .ok (.ifCond .eq 9, 3) := by decide +kernel
theorem dL_isRow_246 : decode cL_isRow 246 = .ok (.iload_n 3, 1) := by decide +kernel
theorem dL_isRow_247 : decode cL_isRow 247 = .ok (.iload_n 2, 1) := by decide +kernel
theorem dL_isRow_248 : decode cL_isRow 248 = .ok (.irem, 1) := by decide +kernel
theorem dL_isRow_249 : decode cL_isRow 249 = .ok (.ifCond .ne 29, 3) := by decide +kernel
theorem dL_isRow_252 : decode cL_isRow 252 = .ok (.iload_n 2, 1) := by decide +kernel
theorem dL_isRow_253 : decode cL_isRow 253 = .ok (.aload_n 0, 1) := by decide +kernel
theorem dL_isRow_254 : decode cL_isRow 254 = .ok (.iload_n 1, 1) := by decide +kernel
theorem dL_isRow_255 : decode cL_isRow 255 = .ok (.iconst 4, 1) := by decide +kernel
theorem dL_isRow_256 : decode cL_isRow 256 = .ok (.invokevirtual 85, 3) := by decide +kernel
theorem dL_isRow_259 : decode cL_isRow 259 = .ok (.irem, 1) := by decide +kernel
theorem dL_isRow_260 : decode cL_isRow 260 = .ok (.ifCond .ne 18, 3) := by decide +kernel
theorem dL_isRow_263 : decode cL_isRow 263 = .ok (.aload_n 0, 1) := by decide +kernel
theorem dL_isRow_264 : decode cL_isRow 264 = .ok (.iload_n 1, 1) := by decide +kernel
theorem dL_isRow_265 : decode cL_isRow 265 = .ok (.invokevirtual 102, 3) := by decide +kernel
theorem dL_isRow_268 : decode cL_isRow 268 = .ok (.iload_n 2, 1) := by decide +kernel
theorem dL_isRow_269 : decode cL_isRow 269 = .ok (.iconst 2, 1) := by decide +kernel
theorem dL_isRow_270 : decode cL_isRow 270 = .ok (.iadd, 1) := by decide +kernel
theorem dL_isRow_271 : decode cL_isRow 271 = .ok (.if_icmp .ne 7, 3) := by decide +kernel
theorem dL_isRow_274 : decode cL_isRow 274 = .ok (.iconst 1, 1) := by decide +kernel
theorem dL_isRow_275 : decode cL_isRow 275 = .ok (.goto 4, 3) := by decide +kernel
theorem dL_isRow_278 : decode cL_isRow 278 = .ok (.iconst 0, 1) := by decide +kernel
theorem dL_isRow_279 : decode cL_isRow 279 = .ok (.istore 9, 2) := by decide +kernel
theorem dL_isRow_281 : decode cL_isRow 281 = .ok (.iconst 0, 1) := by decide +kernel
theorem dL_isRow_282 : decode cL_isRow 282 = .ok (.istore 10, 2) := by decide +kernel
theorem dL_isRow_284 : decode cL_isRow 284 = .ok (.iload 9, 2) := by decide +kernel
theorem dL_isRow_286 : decode cL_isRow 286 = .ok (.ifCond .eq 102, 3) := by decide +kernel
theorem dL_isRow_289 : decode cL_isRow 289 = .ok (.iload 10, 2) := by decide +kernel
theorem dL_isRow_291 : decode cL_isRow 291 = .ok (.iload_n 2, 1) := by decide +kernel
theorem dL_isRow_292 : decode cL_isRow 292 = .ok (.if_icmp .ge 96, 3) := by decide +kernel
theorem dL_isRow_295 : decode cL_isRow 295 = .ok (.aload_n 0, 1) := by decide +kernel
theorem dL_isRow_296 : decode cL_isRow 296 = .ok (.iload_n 1, 1) := by decide +kernel
theorem dL_isRow_297 : decode cL_isRow 297 = .ok (.iload 10, 2) := by decide +kernel
theorem dL_isRow_299 : decode cL_isRow 299 = .ok (.invokevirtual 105, 3) := by decide +kernel
theorem dL_isRow_302 : decode cL_isRow 302 = .ok (.istore 11, 2) := by decide +kernel
theorem dL_isRow_304 : decode cL_isRow 304 = .ok (.aload_n 0, 1) := by decide +kernel
theorem dL_isRow_305 : decode cL_isRow 305 = .ok (.iload_n 1, 1) := by decide +kernel
theorem dL_isRow_306 : decode cL_isRow 306 = .ok (.iload 10, 2) := by decide +kernel
theorem dL_isRow_308 : decode cL_isRow 308 = .ok (.invokevirtual 88, 3) := by decide +kernel
theorem dL_isRow_311 : decode cL_isRow 311 = .ok (.istore 12, 2) := by decide +kernel
theorem dL_isRow_313 : decode cL_isRow 313 = .ok (.iload 8, 2) := by decide +kernel
theorem dL_isRow_315 : decode cL_isRow 315 = .ok (.ifCond .eq 53, 3) := by decide +kernel
theorem dL_isRow_318 : decode cL_isRow 318 = .ok (.iload 11, 2) := by decide +kernel
theorem dL_isRow_320 : decode cL_isRow 320 = .ok (.invokestatic 108, 3) := by decide +kernel
theorem dL_isRow_323 : decode cL_isRow 323 = .ok (.iload_n 3, 1) := by decide +kernel
theorem dL_isRow_324 : decode cL_isRow 324 = .ok (.iload_n 2, 1) := by decide +kernel
theorem dL_isRow_325 : decode cL_isRow 325 = .ok (.idiv, 1) := by decide +kernel
theorem dL_isRow_326 : decode cL_isRow 326 = .ok (.if_icmp .ne 38, 3) := by decide +kernel
theorem dL_isRow_329 : decode cL_isRow 329 = .ok (.iload 11, 2) := by decide +kernel
theorem dL_isRow_331 : decode cL_isRow 331 = .ok (.iload 12, 2) := by decide +kernel
theorem dL_isRow_333 : decode cL_isRow 333 = .ok (.invokestatic 113, 3) := by decide +kernel
theorem dL_isRow_336 : decode cL_isRow 336 = .ok (.ifCond .eq 28, 3) := by decide +kernel
theorem dL_isRow_339 : decode cL_isRow 339 = .ok (.iload 11, 2) := by decide +kernel
theorem dL_isRow_341 : decode cL_isRow 341 = .ok (.iload 12, 2) := by decide +kernel
theorem dL_isRow_343 : decode cL_isRow 343 = .ok (.invokestatic 117, 3) := by decide +kernel
theorem dL_isRow_346 : decode cL_isRow 346 = .ok (.aload_n 0, 1) := by decide +kernel
theorem dL_isRow_347 : decode cL_isRow 347 = .ok (.iload_n 1, 1) := by decide +kernel
theorem dL_isRow_348 : decode cL_isRow 348 = .ok (.iload 10, 2) := by decide +kernel
theorem dL_isRow_350 : decode cL_isRow 350 = .ok (.iconst 1, 1) := by decide +kernel
theorem dL_isRow_351 : decode cL_isRow 351 = .ok (.iadd, 1) := by decide +kernel
theorem dL_isRow_352 : decode cL_isRow 352 = .ok (.iload_n 2, 1) := by decide +kernel
theorem dL_isRow_353 : decode cL_isRow 353 = .ok (.irem, 1) := by decide +kernel
theorem dL_isRow_354 : decode cL_isRow 354 = .ok (.invokevirtual 105, 3) := by decide +kernel
theorem dL_isRow_357 : decode cL_isRow 357 = .ok (.if_icmp .ne 7, 3) := by decide +kernel
theorem dL_isRow_360 : decode cL_isRow 360 = .ok (.iconst 1, 1) := by decide +kernel
theorem dL_isRow_361 : decode cL_isRow 361 = .ok (.goto 19, 3) := by decide +kernel
theorem dL_isRow_364 : decode cL_isRow 364 = .ok (.iconst 0, 1) := by decide +kernel
theorem dL_isRow_365 : decode cL_isRow 365 = .ok (.goto 15, 3) := by decide +kernel
theorem dL_isRow_368 : decode cL_isRow 368 = .ok (.iload 11, 2) := by decide +kernel
theorem dL_isRow_370 : decode cL_isRow 370 = .ok (.bipush (-4), 2) := by decide +kernel
theorem dL_isRow_372 : decode cL_isRow 372 = .ok (.if_icmp .ne 7, 3) := by decide +kernel
theorem dL_isRow_375 : decode cL_isRow 375 = .ok (.iconst 1, 1) := by decide +kernel
theorem dL_isRow_376 : decode cL_isRow 376 = .ok (.goto 4, 3) := by decide +kernel
theorem dL_isRow_379 : decode cL_isRow 379 = .ok (.iconst 0, 1) := by decide +kernel
theorem dL_isRow_380 : decode cL_isRow 380 = .ok (.istore 9, 2) := by decide +kernel
theorem dL_isRow_382 : decode cL_isRow 382 = .ok (.iinc 10 1, 3) := by decide +kernel
theorem dL_isRow_385 : decode cL_isRow 385 = .ok (.goto (-101), 3) := by decide +kernel
theorem dL_isRow_388 : decode cL_isRow 388 = .ok (.iload 9, 2) := by decide +kernel
theorem dL_isRow_390 : decode cL_isRow 390 = .ok (.ireturn, 1) := by decide +kernel
theorem dL_isJuggler_0 : decode cL_isJuggler 0 = .ok (.aload_n 0, 1) := by decide +kernel
theorem dL_isJuggler_1 : decode cL_isJuggler 1 = .ok (.iconst 0, 1) := by decide +kernel
theorem dL_isJuggler_2 : decode cL_isJuggler 2 = .ok (.invokevirtual 82, 3) := by decide +kernel
theorem dL_isJuggler_5 : decode cL_isJuggler 5 = .ok (.istore_n 1, 1) := by decide +kernel
theorem dL_isJuggler_6 : decode cL_isJuggler 6 = .ok (.iconst 0, 1) := by decide +kernel
theorem dL_isJuggler_7 : decode cL_isJuggler 7 = .ok (.istore_n 2, 1) := by decide +kernel
theorem dL_isJuggler_8 : decode cL_isJuggler 8 = .ok (.iload_n 1, 1) := by decide +kernel
theorem dL_isJuggler_9 : decode cL_isJuggler 9 = .ok (.invokestatic 108, 3) := by decide +kernel
theorem dL_isJuggler_12 : decode cL_isJuggler 12 = .ok (.aload_n 0, 1) := by decide +kernel
theorem dL_isJuggler_13 : decode cL_isJuggler 13 = .ok (.iconst 1, 1) := by decide +kernel
theorem dL_isJuggler_14 : decode cL_isJuggler 14 = .ok (.invokevirtual 82, 3) := by decide +kernel
theorem dL_isJuggler_17 : decode cL_isJuggler 17 = .ok (.if_icmp .ne 55, 3) := by decide +kernel
theorem dL_isJuggler_20 : decode cL_isJuggler 20 = .ok (.aload_n 0, 1) := by decide +kernel
theorem dL_isJuggler_21 : decode cL_isJuggler 21 = .ok (.iconst 4, 1) := by decide +kernel
theorem dL_isJuggler_22 : decode cL_isJuggler 22 = .ok (.invokevirtual 82, 3) := by decide +kernel
theorem dL_isJuggler_25 : decode cL_isJuggler 25 = .ok (.iload_n 1, 1) := by decide +kernel
theorem dL_isJuggler_26 : decode cL_isJuggler 26 = .ok (.iconst 1, 1) := by decide +kernel
theorem dL_isJuggler_27 : decode cL_isJuggler 27 = .ok (.iand, 1) := by decide +kernel
theorem dL_isJuggler_28 : decode cL_isJuggler 28 = .ok (.if_icmp .ne 44, 3) := by decide +kernel
theorem dL_isJuggler_31 : decode cL_isJuggler 31 = .ok (.aload_n 0, 1) := by decide +kernel
theorem dL_isJuggler_32 : decode cL_isJuggler 32 = .ok (.iconst 3, 1) := by decide +kernel
theorem dL_isJuggler_33 : decode cL_isJuggler 33 = .ok (.invokevirtual 82, 3) := by decide +kernel
theorem dL_isJuggler_36 : decode cL_isJuggler 36 = .ok (.aload_n 0, 1) := by decide +kernel
theorem dL_isJuggler_37 : decode cL_isJuggler 37 = .ok (.iconst 2, 1) := by decide +kernel
theorem dL_isJuggler_38 : decode cL_isJuggler 38 = .ok (.invokevirtual 82, 3) := by decide +kernel
theorem dL_isJuggler_41 : decode cL_isJuggler 41 = .ok (.iconst 2, 1) := by decide +kernel
theorem dL_isJuggler_42 : decode cL_isJuggler 42 = .ok (.irem, 1) := by decide +kernel
theorem dL_isJuggler_43 : decode cL_isJuggler 43 = .ok (.if_icmp .ne 29, 3) := by decide +kernel
theorem dL_isJuggler_46 : decode cL_isJuggler 46 = .ok (.aload_n 0, 1) := by decide +kernel
theorem dL_isJuggler_47 : decode cL_isJuggler 47 = .ok (.iconst (-1), 1) := by decide +kernel
theorem dL_isJuggler_48 : decode cL_isJuggler 48 = .ok (.invokevirtual 120, 3) := by decide +kernel
theorem dL_isJuggler_51 : decode cL_isJuggler 51 = .ok (.iconst (-1), 1) := by decide +kernel
theorem dL_isJuggler_52 : decode cL_isJuggler 52 = .ok (.if_icmp .ne 20, 3) := by decide +kernel
theorem dL_isJuggler_55 : decode cL_isJuggler 55 = .ok (.aload_n 0, 1) := by decide +kernel
theorem dL_isJuggler_56 : decode cL_isJuggler 56 = .ok (.iconst 5, 1) := by decide +kernel
theorem dL_isJuggler_57 : decode cL_isJuggler 57 = .ok (.invokevirtual 79, 3) := by decide +kernel
theorem dL_isJuggler_60 : decode cL_isJuggler 60 = .ok (.aload_n 0, 1) := by decide +kernel
theorem dL_isJuggler_61 : decode cL_isJuggler 61 = .ok (.iconst 4, 1) := by decide +kernel
theorem dL_isJuggler_62 : decode cL_isJuggler 62 = .ok (.invokevirtual 79, 3) := by decide +kernel
theorem dL_isJuggler_65 : decode cL_isJuggler 65 = .ok (.if_icmp .gt 7, 3) := by decide +kernel
theorem dL_isJuggler_68 : decode cL_isJuggler 68 = .ok (.iconst 1, 1) := by decide +kernel
theorem dL_isJuggler_69 : decode cL_isJuggler 69 = .ok (.goto 4, 3) := by decide +kernel
theorem dL_isJuggler_72 : decode cL_isJuggler 72 = .ok (.iconst 0, 1) := by decide +kernel
theorem dL_isJuggler_73 : decode cL_isJuggler 73 = .ok (.istore_n 3, 1) := by decide +kernel
theorem dL_isJuggler_74 : decode cL_isJuggler 74 = .ok (.iconst 0, 1) := by decide +kernel
theorem dL_isJuggler_75 : decode cL_isJuggler 75 = .ok (.istore 4, 2) := by decide +kernel
theorem dL_isJuggler_77 : decode cL_isJuggler 77 = .ok (.iload_n 3, 1) := by decide +kernel
theorem dL_isJuggler_78 : decode cL_isJuggler 78 = .ok (.ifCond .eq 58, 3) := by decide +kernel
theorem dL_isJuggler_81 : decode cL_isJuggler 81 = .ok (.iload 4, 2) := by decide +kernel
theorem dL_isJuggler_83 : decode cL_isJuggler 83 = .ok (.bipush 10, 2) := by decide +kernel
theorem dL_isJuggler_85 : decode cL_isJuggler 85 = .ok (.if_icmp .ge 51, 3) := by decide +kernel
theorem dL_isJuggler_88 : decode cL_isJuggler 88 = .ok (.iload_n 1, 1) := by decide +kernel
theorem dL_isJuggler_89 : decode cL_isJuggler 89 = .ok (.iload 4, 2) := by decide +kernel
theorem dL_isJuggler_91 : decode cL_isJuggler 91 = .ok (.invokestatic 113, 3) := by decide +kernel
theorem dL_isJuggler_94 : decode cL_isJuggler 94 = .ok (.istore 5, 2) := by decide +kernel
theorem dL_isJuggler_96 : decode cL_isJuggler 96 = .ok (.iload 5, 2) := by decide +kernel
theorem dL_isJuggler_98 : decode cL_isJuggler 98 = .ok (.ifCond .eq 13, 3) := by decide +kernel
theorem dL_isJuggler_101 : decode cL_isJuggler 101 = .ok (.aload_n 0, 1) := by decide +kernel
theorem dL_isJuggler_102 : decode cL_isJuggler 102 = .ok (.iload_n 2, 1) := by decide +kernel
theorem dL_isJuggler_103 : decode cL_isJuggler 103 = .ok (.invokevirtual 120, 3) := by decide +kernel
theorem dL_isJuggler_106 : decode cL_isJuggler 106 = .ok (.iload 4, 2) := by decide +kernel
theorem dL_isJuggler_108 : decode cL_isJuggler 108 = .ok (.if_icmp .ne 7, 3) := by decide +kernel
theorem dL_isJuggler_111 : decode cL_isJuggler 111 = .ok (.iconst 1, 1) := by decide +kernel
theorem dL_isJuggler_112 : decode cL_isJuggler 112 = .ok (.goto 4, 3) := by decide +kernel
theorem dL_isJuggler_115 : decode cL_isJuggler 115 = .ok (.iconst 0, 1) := by decide +kernel
theorem dL_isJuggler_116 : decode cL_isJuggler 116 = .ok (.istore_n 3, 1) := by decide +kernel
theorem dL_isJuggler_117 : decode cL_isJuggler 117 = .ok (.iload_n 2, 1) := by decide +kernel
theorem dL_isJuggler_118 : decode cL_isJuggler 118 = .ok (.iload 5, 2) := by decide +kernel
theorem dL_isJuggler_120 : decode cL_isJuggler 120 = .ok (.ifCond .eq 7, 3) := by decide +kernel
theorem dL_isJuggler_123 : decode cL_isJuggler 123 = .ok (.iconst 1, 1) := by decide +kernel
theorem dL_isJuggler_124 : decode cL_isJuggler 124 = .ok (.goto 4, 3) := by decide +kernel
theorem dL_isJuggler_127 : decode cL_isJuggler 127 = .ok (.iconst 0, 1) := by decide +kernel
theorem dL_isJuggler_128 : decode cL_isJuggler 128 = .ok (.iadd, 1) := by decide +kernel
theorem dL_isJuggler_129 : decode cL_isJuggler 129 = .ok (.istore_n 2, 1) := by decide +kernel
theorem dL_isJuggler_130 : decode cL_isJuggler 130 = .ok (.iinc 4 1, 3) := by decide +kernel
theorem dL_isJuggler_133 : decode cL_isJuggler 133 = .ok (.goto (-56), 3) := by decide +kernel
theorem dL_isJuggler_136 : decode cL_isJuggler 136 = .ok (.iload_n 3, 1) := by decide +kernel
theorem dL_isJuggler_137 : decode cL_isJuggler 137 = .ok (.ifCond .eq 33, 3) := by decide +kernel
theorem dL_isJuggler_140 : decode cL_isJuggler 140 = .ok (.aload_n 0, 1) := by decide +kernel
theorem dL_isJuggler_141 : decode cL_isJuggler 141 = .ok (.iconst 5, 1) := by decide +kernel
theorem dL_isJuggler_142 : decode cL_isJuggler 142 = .ok (.invokevirtual 82, 3) := by decide +kernel
theorem dL_isJuggler_145 : decode cL_isJuggler 145 = .ok (.iload_n 2, 1) := by decide +kernel
theorem dL_isJuggler_146 : decode cL_isJuggler 146 = .ok (.if_icmp .ne 24, 3) := by decide +kernel
theorem dL_isJuggler_149 : decode cL_isJuggler 149 = .ok (.aload_n 0, 1) := by decide +kernel
theorem dL_isJuggler_150 : decode cL_isJuggler 150 = .ok (.iload_n 2, 1) := by decide +kernel
theorem dL_isJuggler_151 : decode cL_isJuggler 151 = .ok (.invokevirtual 120, 3) := by decide +kernel
theorem dL_isJuggler_154 : decode cL_isJuggler 154 = .ok (.iconst (-1), 1) := by decide +kernel
theorem dL_isJuggler_155 : decode cL_isJuggler 155 = .ok (.if_icmp .ne 15, 3) := by decide +kernel
theorem dL_isJuggler_158 : decode cL_isJuggler 158 = .ok (.aload_n 0, 1) := by decide +kernel
theorem dL_isJuggler_159 : decode cL_isJuggler 159 = .ok (.invokevirtual 123, 3) := by decide +kernel
theorem dL_isJuggler_162 : decode cL_isJuggler 162 = .ok (.iconst 1, 1) := by decide +kernel
theorem dL_isJuggler_163 : decode cL_isJuggler 163 = .ok (.if_icmp .lt 7, 3) := by decide +kernel
theorem dL_isJuggler_166 : decode cL_isJuggler 166 = .ok (.iconst 1, 1) := by decide +kernel
theorem dL_isJuggler_167 : decode cL_isJuggler 167 = .ok (.goto 4, 3) := by decide +kernel
theorem dL_isJuggler_170 : decode cL_isJuggler 170 = .ok (.iconst 0, 1) := by decide +kernel
theorem dL_isJuggler_171 : decode cL_isJuggler 171 = .ok (.ireturn, 1) := by decide +kernel
theorem dL_isJoin_0 : decode cL_isJoin 0 = .ok (.aload_n 0, 1) := by decide +kernel
theorem dL_isJoin_1 : decode cL_isJoin 1 = .ok (.iload_n 1, 1) := by decide +kernel
theorem dL_isJoin_2 : decode cL_isJoin 2 = .ok (.invokevirtual 126, 3) := by decide +kernel
theorem dL_isJoin_5 : decode cL_isJoin 5 = .ok (.istore_n 2, 1) := by decide +kernel
theorem dL_isJoin_6 : decode cL_isJoin 6 = .ok (.aload_n 0, 1) := by decide +kernel
theorem dL_isJoin_7 : decode cL_isJoin 7 = .ok (.iconst 0, 1) := by decide +kernel
theorem dL_isJoin_8 : decode cL_isJoin 8 = .ok (.invokevirtual 82, 3) := by decide +kernel
theorem dL_isJoin_11 : decode cL_isJoin 11 = .ok (.istore_n 3, 1) := by decide +kernel
theorem dL_isJoin_12 : decode cL_isJoin 12 = .ok (.aload_n 0, 1) := by decide +kernel
theorem dL_isJoin_13 : decode cL_isJoin 13 = .ok (.iload_n 1, 1) := by decide +kernel
theorem dL_isJoin_14 : decode cL_isJoin 14 = .ok (.invokevirtual 96, 3) := by decide +kernel
theorem dL_isJoin_17 : decode cL_isJoin 17 = .ok (.iconst 1, 1) := by decide +kernel
theorem dL_isJoin_18 : decode cL_isJoin 18 = .ok (.if_icmp .ne 21, 3) := by decide +kernel
theorem dL_isJoin_21 : decode cL_isJoin 21 = .ok (.aload_n 0, 1) := by decide +kernel
theorem dL_isJoin_22 : decode cL_isJoin 22 = .ok (.iload_n 1, 1) := by decide +kernel
theorem dL_isJoin_23 : decode cL_isJoin 23 = .ok (.iconst 2, 1) := by decide +kernel
theorem dL_isJoin_24 : decode cL_isJoin 24 = .ok (.invokevirtual 85, 3) := by decide +kernel
theorem dL_isJoin_27 : decode cL_isJoin 27 = .ok (.aload_n 0, 1) := by decide +kernel
theorem dL_isJoin_28 : decode cL_isJoin 28 = .ok (.iconst 1, 1) := by decide +kernel
theorem dL_isJoin_29 : decode cL_isJoin 29 = .ok (.invokevirtual 82, 3) := by decide +kernel
theorem dL_isJoin_32 : decode cL_isJoin 32 = .ok (.if_icmp .ne 7, 3) := by decide +kernel
theorem dL_isJoin_35 : decode cL_isJoin 35 = .ok (.iconst 1, 1) := by decide +kernel
theorem dL_isJoin_36 : decode cL_isJoin 36 = .ok (.goto 4, 3) := by decide +kernel
theorem dL_isJoin_39 : decode cL_isJoin 39 = .ok (.iconst 0, 1) := by decide +kernel
theorem dL_isJoin_40 : decode cL_isJoin 40 = .ok (.istore 4, 2) := by decide +kernel
theorem dL_isJoin_42 : decode cL_isJoin 42 = .ok (.iload 4, 2) := by decide +kernel
theorem dL_isJoin_44 : decode cL_isJoin 44 = .ok (.ifCond .ne 43, 3) := by decide +kernel
theorem dL_isJoin_47 : decode cL_isJoin 47 = .ok (.iload_n 2, 1) := by decide +kernel
theorem dL_isJoin_48 : decode cL_isJoin 48 = .ok (.bipush (-4), 2) := by decide +kernel
theorem dL_isJoin_50 : decode cL_isJoin 50 = .ok (.if_icmp .ne 35, 3) := by decide +kernel
theorem dL_isJoin_53 : decode cL_isJoin 53 = .ok (.aload_n 0, 1) := by decide +kernel
theorem dL_isJoin_54 : decode cL_isJoin 54 = .ok (.iload_n 1, 1) := by decide +kernel
theorem dL_isJoin_55 : decode cL_isJoin 55 = .ok (.invokevirtual 129, 3) := by decide +kernel
theorem dL_isJoin_58 : decode cL_isJoin 58 = .ok (.iload_n 2, 1) := by decide +kernel
theorem dL_isJoin_59 : decode cL_isJoin 59 = .ok (.if_icmp .ne 26, 3) := by decide +kernel
theorem dL_isJoin_62 : decode cL_isJoin 62 = .ok (.aload_n 0, 1) := by decide +kernel
theorem dL_isJoin_63 : decode cL_isJoin 63 = .ok (.iload_n 1, 1) := by decide +kernel
theorem dL_isJoin_64 : decode cL_isJoin 64 = .ok (.iconst 0, 1) := by decide +kernel
theorem dL_isJoin_65 : decode cL_isJoin 65 = .ok (.invokevirtual 132, 3) := by decide +kernel
theorem dL_isJoin_68 : decode cL_isJoin 68 = .ok (.iload_n 2, 1) := by decide +kernel
theorem dL_isJoin_69 : decode cL_isJoin 69 = .ok (.if_icmp .ne 16, 3) := by decide +kernel
theorem dL_isJoin_72 : decode cL_isJoin 72 = .ok (.aload_n 0, 1) := by decide +kernel
theorem dL_isJoin_73 : decode cL_isJoin 73 = .ok (.iload_n 1, 1) := by decide +kernel
theorem dL_isJoin_74 : decode cL_isJoin 74 = .ok (.invokevirtual 135, 3) := by decide +kernel
theorem dL_isJoin_77 : decode cL_isJoin 77 = .ok (.iload_n 2, 1) := by decide +kernel
theorem dL_isJoin_78 : decode cL_isJoin 78 = .ok (.if_icmp .ne 7, 3) := by decide +kernel
theorem dL_isJoin_81 : decode cL_isJoin 81 = .ok (.iconst 1, 1) := by decide +kernel
theorem dL_isJoin_82 : decode cL_isJoin 82 = .ok (.goto 4, 3) := by decide +kernel
theorem dL_isJoin_85 : decode cL_isJoin 85 = .ok (.iconst 0, 1) := by decide +kernel
theorem dL_isJoin_86 : decode cL_isJoin 86 = .ok (.ireturn, 1) := by decide +kernel
theorem dL_isJoin_87 : decode cL_isJoin 87 = .ok (.iload_n 2, 1) := by decide +kernel
theorem dL_isJoin_88 : decode cL_isJoin 88 = .ok (.ifCond .lt 41, 3) := by decide +kernel
theorem dL_isJoin_91 : decode cL_isJoin 91 = .ok (.iload_n 2, 1) := by decide +kernel
theorem dL_isJoin_92 : decode cL_isJoin 92 = .ok (.bipush 9, 2) := by decide +kernel
theorem dL_isJoin_94 : decode cL_isJoin 94 = .ok (.if_icmp .gt 35, 3) := by decide +kernel
theorem dL_isJoin_97 : decode cL_isJoin 97 = .ok (.aload_n 0, 1) := by decide +kernel
theorem dL_isJoin_98 : decode cL_isJoin 98 = .ok (.iload_n 1, 1) := by decide +kernel
theorem dL_isJoin_99 : decode cL_isJoin 99 = .ok (.invokevirtual 129, 3) := by decide +kernel
theorem dL_isJoin_102 : decode cL_isJoin 102 = .ok (.iload_n 2, 1) := by decide +kernel
theorem dL_isJoin_103 : decode cL_isJoin 103 = .ok (.if_icmp .ne 26, 3) := by decide +kernel
theorem dL_isJoin_106 : decode cL_isJoin 106 = .ok (.aload_n 0, 1) := by decide +kernel
theorem dL_isJoin_107 : decode cL_isJoin 107 = .ok (.iload_n 1, 1) := by decide +kernel
theorem dL_isJoin_108 : decode cL_isJoin 108 = .ok (.invokevirtual 135, 3) := by decide +kernel
theorem dL_isJoin_111 : decode cL_isJoin 111 = .ok (.iload_n 2, 1) := by decide +kernel
theorem dL_isJoin_112 : decode cL_isJoin 112 = .ok (.if_icmp .ne 17, 3) := by decide +kernel
theorem dL_isJoin_115 : decode cL_isJoin 115 = .ok (.aload_n 0, 1) := by decide +kernel
theorem dL_isJoin_116 : decode cL_isJoin 116 = .ok (.iload_n 1, 1) := by decide +kernel
theorem dL_isJoin_117 : decode cL_isJoin 117 = .ok (.iload_n 2, 1) := by decide +kernel
theorem dL_isJoin_118 : decode cL_isJoin 118 = .ok (.invokevirtual 132, 3) := by decide +kernel
