theorem dL_now_3 : decode cL_now 3 = .ok (.aload_n 0, 1) := by decide +kernel
theorem dL_now_4 : decode cL_now 4 = .ok (.invokevirtual 112, 3) := by decide +kernel
theorem dL_now_7 : decode cL_now 7 = .ok (.ldc2_w 116, 3) := by decide +kernel
theorem dL_now_10 : decode cL_now 10 = .ok (.lrem, 1) := by decide +kernel
theorem dL_now_11 : decode cL_now 11 = .ok (.ladd, 1) := by decide +kernel
theorem dL_now_12 : decode cL_now 12 = .ok (.lstore_n 1, 1) := by decide +kernel
theorem dL_now_13 : decode cL_now 13 = .ok (.iconst 0, 1) := by decide +kernel
theorem dL_now_14 : decode cL_now 14 = .ok (.istore_n 3, 1) := by decide +kernel
theorem dL_now_15 : decode cL_now 15 = .ok (.iload_n 3, 1) := by decide +kernel
theorem dL_now_16 : decode cL_now 16 = .ok (.bipush 13, 2) := by decide +kernel
theorem dL_now_18 : decode cL_now 18 = .ok (.if_icmp .ge 25, 3) := by decide +kernel
theorem dL_now_21 : decode cL_now 21 = .ok (.ldc2_w 118, 3) := by decide +kernel
theorem dL_now_24 : decode cL_now 24 = .ok (.lload_n 1, 1) := by decide +kernel
theorem dL_now_25 : decode cL_now 25 = .ok (.lmul, 1) := by decide +kernel
theorem dL_now_26 : decode cL_now 26 = .ok (.aload_n 0, 1) := by decide +kernel
theorem dL_now_27 : decode cL_now 27 = .ok (.iload_n 3, 1) := by decide +kernel
theorem dL_now_28 : decode cL_now 28 = .ok (.invokestatic 105, 3) := by decide +kernel
theorem dL_now_31 : decode cL_now 31 = .ok (.ladd, 1) := by decide +kernel
theorem dL_now_32 : decode cL_now 32 = .ok (.ldc2_w 120, 3) := by decide +kernel
theorem dL_now_35 : decode cL_now 35 = .ok (.lrem, 1) := by decide +kernel
theorem dL_now_36 : decode cL_now 36 = .ok (.lstore_n 1, 1) := by decide +kernel
theorem dL_now_37 : decode cL_now 37 = .ok (.iinc 3 1, 3) := by decide +kernel
theorem dL_now_40 : decode cL_now 40 = .ok (.goto (-25), 3) := by decide +kernel
theorem dL_now_43 : decode cL_now 43 = .ok (.iconst 0, 1) := by decide +kernel
theorem dL_now_44 : decode cL_now 44 = .ok (.istore_n 3, 1) := by decide +kernel
theorem dL_now_45 : decode cL_now 45 = .ok (.iload_n 3, 1) := by decide +kernel
theorem dL_now_46 : decode cL_now 46 = .ok (.aload_n 0, 1) := by decide +kernel
theorem dL_now_47 : decode cL_now 47 = .ok (.invokestatic 122, 3) := by decide +kernel
theorem dL_now_50 : decode cL_now 50 = .ok (.if_icmp .ge 47, 3) := by decide +kernel
theorem dL_now_53 : decode cL_now 53 = .ok (.iconst 0, 1) := by decide +kernel
theorem dL_now_54 : decode cL_now 54 = .ok (.istore 4, 2) := by decide +kernel
theorem dL_now_56 : decode cL_now 56 = .ok (.iload 4, 2) := by decide +kernel
theorem dL_now_58 : decode cL_now 58 = .ok (.bipush 8, 2) := by decide +kernel
theorem dL_now_60 : decode cL_now 60 = .ok (.if_icmp .ge 31, 3) := by decide +kernel
theorem dL_now_63 : decode cL_now 63 = .ok (.ldc2_w 118, 3) := by decide +kernel
theorem dL_now_66 : decode cL_now 66 = .ok (.lload_n 1, 1) := by decide +kernel
theorem dL_now_67 : decode cL_now 67 = .ok (.lmul, 1) := by decide +kernel
theorem dL_now_68 : decode cL_now 68 = .ok (.aload_n 0, 1) := by decide +kernel
theorem dL_now_69 : decode cL_now 69 = .ok (.iload_n 3, 1) := by decide +kernel
theorem dL_now_70 : decode cL_now 70 = .ok (.iload 4, 2) := by decide +kernel
theorem dL_now_72 : decode cL_now 72 = .ok (.invokestatic 126, 3) := by decide +kernel
theorem dL_now_75 : decode cL_now 75 = .ok (.ladd, 1) := by decide +kernel
theorem dL_now_76 : decode cL_now 76 = .ok (.ldc2_w 129, 3) := by decide +kernel
theorem dL_now_79 : decode cL_now 79 = .ok (.ladd, 1) := by decide +kernel
theorem dL_now_80 : decode cL_now 80 = .ok (.ldc2_w 120, 3) := by decide +kernel
theorem dL_now_83 : decode cL_now 83 = .ok (.lrem, 1) := by decide +kernel
theorem dL_now_84 : decode cL_now 84 = .ok (.lstore_n 1, 1) := by decide +kernel
theorem dL_now_85 : decode cL_now 85 = .ok (.iinc 4 1, 3) := by decide +kernel
theorem dL_now_88 : decode cL_now 88 = .ok (.goto (-32), 3) := by decide +kernel
theorem dL_now_91 : decode cL_now 91 = .ok (.iinc 3 1, 3) := by decide +kernel
theorem dL_now_94 : decode cL_now 94 = .ok (.goto (-49), 3) := by decide +kernel
theorem dL_now_97 : decode cL_now 97 = .ok (.lload_n 1, 1) := by decide +kernel
theorem dL_now_98 : decode cL_now 98 = .ok (.lreturn, 1) := by decide +kernel
theorem dL_alike_0 : decode cL_alike 0 = .ok (.iload_n 2, 1) := by decide +kernel
theorem dL_alike_1 : decode cL_alike 1 = .ok (.bipush 12, 2) := by decide +kernel
theorem dL_alike_3 : decode cL_alike 3 = .ok (.irem, 1) := by decide +kernel
theorem dL_alike_4 : decode cL_alike 4 = .ok (.istore_n 3, 1) := by decide +kernel
theorem dL_alike_5 : decode cL_alike 5 = .ok (.iconst 1, 1) := by decide +kernel
theorem dL_alike_6 : decode cL_alike 6 = .ok (.iload_n 2, 1) := by decide +kernel
theorem dL_alike_7 : decode cL_alike 7 = .ok (.bipush 12, 2) := by decide +kernel
theorem dL_alike_9 : decode cL_alike 9 = .ok (.idiv, 1) := by decide +kernel
theorem dL_alike_10 : decode cL_alike 10 = .ok (.bipush 60, 2) := by decide +kernel
theorem dL_alike_12 : decode cL_alike 12 = .ok (.irem, 1) := by decide +kernel
theorem dL_alike_13 : decode cL_alike 13 = .ok (.iadd, 1) := by decide +kernel
theorem dL_alike_14 : decode cL_alike 14 = .ok (.istore 4, 2) := by decide +kernel
theorem dL_alike_16 : decode cL_alike 16 = .ok (.aload_n 0, 1) := by decide +kernel
theorem dL_alike_17 : decode cL_alike 17 = .ok (.invokestatic 131, 3) := by decide +kernel
theorem dL_alike_20 : decode cL_alike 20 = .ok (.aload_n 1, 1) := by decide +kernel
theorem dL_alike_21 : decode cL_alike 21 = .ok (.invokestatic 131, 3) := by decide +kernel
theorem dL_alike_24 : decode cL_alike 24 = .ok (.lcmp, 1) := by decide +kernel
theorem dL_alike_25 : decode cL_alike 25 = .ok (.ifCond .ne 165, 3) := by decide +kernel
theorem dL_alike_28 : decode cL_alike 28 = .ok (.aload_n 0, 1) := by decide +kernel
theorem dL_alike_29 : decode cL_alike 29 = .ok (.invokevirtual 135, 3) := by decide +kernel
theorem dL_alike_32 : decode cL_alike 32 = .ok (.aload_n 1, 1) := by decide +kernel
theorem dL_alike_33 : decode cL_alike 33 = .ok (.invokevirtual 135, 3) := by decide +kernel
theorem dL_alike_36 : decode cL_alike 36 = .ok (.if_icmp .ne 154, 3) := by decide +kernel
theorem dL_alike_39 : decode cL_alike 39 = .ok (.aload_n 0, 1) := by decide +kernel
theorem dL_alike_40 : decode cL_alike 40 = .ok (.invokevirtual 138, 3) := by decide +kernel
theorem dL_alike_43 : decode cL_alike 43 = .ok (.aload_n 1, 1) := by decide +kernel
theorem dL_alike_44 : decode cL_alike 44 = .ok (.invokevirtual 138, 3) := by decide +kernel
theorem dL_alike_47 : decode cL_alike 47 = .ok (.if_icmp .ne 143, 3) := by decide +kernel
theorem dL_alike_50 : decode cL_alike 50 = .ok (.aload_n 0, 1) := by decide +kernel
theorem dL_alike_51 : decode cL_alike 51 = .ok (.iload 4, 2) := by decide +kernel
theorem dL_alike_53 : decode cL_alike 53 = .ok (.invokestatic 141, 3) := by decide +kernel
theorem dL_alike_56 : decode cL_alike 56 = .ok (.aload_n 1, 1) := by decide +kernel
theorem dL_alike_57 : decode cL_alike 57 = .ok (.iload 4, 2) := by decide +kernel
theorem dL_alike_59 : decode cL_alike 59 = .ok (.invokestatic 141, 3) := by decide +kernel
theorem dL_alike_62 : decode cL_alike 62 = .ok (.lcmp, 1) := by decide +kernel
theorem dL_alike_63 : decode cL_alike 63 = .ok (.ifCond .ne 127, 3) := by decide +kernel
theorem dL_alike_66 : decode cL_alike 66 = .ok (.aload_n 0, 1) := by decide +kernel
theorem dL_alike_67 : decode cL_alike 67 = .ok (.iload_n 3, 1) := by decide +kernel
theorem dL_alike_68 : decode cL_alike 68 = .ok (.iload 4, 2) := by decide +kernel
theorem dL_alike_70 : decode cL_alike 70 = .ok (.iload_n 2, 1) := by decide +kernel
theorem dL_alike_71 : decode cL_alike 71 = .ok (.bipush 8, 2) := by decide +kernel
theorem dL_alike_73 : decode cL_alike 73 = .ok (.irem, 1) := by decide +kernel
theorem dL_alike_74 : decode cL_alike 74 = .ok (.invokestatic 143, 3) := by decide +kernel
theorem dL_alike_77 : decode cL_alike 77 = .ok (.aload_n 1, 1) := by decide +kernel
theorem dL_alike_78 : decode cL_alike 78 = .ok (.iload_n 3, 1) := by decide +kernel
theorem dL_alike_79 : decode cL_alike 79 = .ok (.iload 4, 2) := by decide +kernel
theorem dL_alike_81 : decode cL_alike 81 = .ok (.iload_n 2, 1) := by decide +kernel
theorem dL_alike_82 : decode cL_alike 82 = .ok (.bipush 8, 2) := by decide +kernel
theorem dL_alike_84 : decode cL_alike 84 = .ok (.irem, 1) := by decide +kernel
theorem dL_alike_85 : decode cL_alike 85 = .ok (.invokestatic 143, 3) := by decide +kernel
theorem dL_alike_88 : decode cL_alike 88 = .ok (.lcmp, 1) := by decide +kernel
theorem dL_alike_89 : decode cL_alike 89 = .ok (.ifCond .ne 101, 3) := by decide +kernel
theorem dL_alike_92 : decode cL_alike 92 = .ok (.aload_n 0, 1) := by decide +kernel
theorem dL_alike_93 : decode cL_alike 93 = .ok (.iload_n 3, 1) := by decide +kernel
theorem dL_alike_94 : decode cL_alike 94 = .ok (.invokestatic 146, 3) := by decide +kernel
theorem dL_alike_97 : decode cL_alike 97 = .ok (.aload_n 1, 1) := by decide +kernel
theorem dL_alike_98 : decode cL_alike 98 = .ok (.iload_n 3, 1) := by decide +kernel
theorem dL_alike_99 : decode cL_alike 99 = .ok (.invokestatic 146, 3) := by decide +kernel
theorem dL_alike_102 : decode cL_alike 102 = .ok (.lcmp, 1) := by decide +kernel
theorem dL_alike_103 : decode cL_alike 103 = .ok (.ifCond .ne 87, 3) := by decide +kernel
theorem dL_alike_106 : decode cL_alike 106 = .ok (.aload_n 0, 1) := by decide +kernel
theorem dL_alike_107 : decode cL_alike 107 = .ok (.iload_n 3, 1) := by decide +kernel
theorem dL_alike_108 : decode cL_alike 108 = .ok (.invokestatic 148, 3) := by decide +kernel
theorem dL_alike_111 : decode cL_alike 111 = .ok (.aload_n 1, 1) := by decide +kernel
theorem dL_alike_112 : decode cL_alike 112 = .ok (.iload_n 3, 1) := by decide +kernel
theorem dL_alike_113 : decode cL_alike 113 = .ok (.invokestatic 148, 3) := by decide +kernel
theorem dL_alike_116 : decode cL_alike 116 = .ok (.lcmp, 1) := by decide +kernel
theorem dL_alike_117 : decode cL_alike 117 = .ok (.ifCond .ne 73, 3) := by decide +kernel
theorem dL_alike_120 : decode cL_alike 120 = .ok (.aload_n 0, 1) := by decide +kernel
theorem dL_alike_121 : decode cL_alike 121 = .ok (.iconst 1, 1) := by decide +kernel
theorem dL_alike_122 : decode cL_alike 122 = .ok (.iload_n 2, 1) := by decide +kernel
theorem dL_alike_123 : decode cL_alike 123 = .ok (.bipush 9, 2) := by decide +kernel
theorem dL_alike_125 : decode cL_alike 125 = .ok (.irem, 1) := by decide +kernel
theorem dL_alike_126 : decode cL_alike 126 = .ok (.iadd, 1) := by decide +kernel
theorem dL_alike_127 : decode cL_alike 127 = .ok (.iload_n 2, 1) := by decide +kernel
theorem dL_alike_128 : decode cL_alike 128 = .ok (.iconst 2, 1) := by decide +kernel
theorem dL_alike_129 : decode cL_alike 129 = .ok (.irem, 1) := by decide +kernel
theorem dL_alike_130 : decode cL_alike 130 = .ok (.ifCond .ne 7, 3) := by decide +kernel
theorem dL_alike_133 : decode cL_alike 133 = .ok (.iconst 1, 1) := by decide +kernel
theorem dL_alike_134 : decode cL_alike 134 = .ok (.goto 4, 3) := by decide +kernel
theorem dL_alike_137 : decode cL_alike 137 = .ok (.iconst 0, 1) := by decide +kernel
theorem dL_alike_138 : decode cL_alike 138 = .ok (.invokestatic 150, 3) := by decide +kernel
theorem dL_alike_141 : decode cL_alike 141 = .ok (.aload_n 1, 1) := by decide +kernel
theorem dL_alike_142 : decode cL_alike 142 = .ok (.iconst 1, 1) := by decide +kernel
theorem dL_alike_143 : decode cL_alike 143 = .ok (.iload_n 2, 1) := by decide +kernel
theorem dL_alike_144 : decode cL_alike 144 = .ok (.bipush 9, 2) := by decide +kernel
theorem dL_alike_146 : decode cL_alike 146 = .ok (.irem, 1) := by decide +kernel
theorem dL_alike_147 : decode cL_alike 147 = .ok (.iadd, 1) := by decide +kernel
theorem dL_alike_148 : decode cL_alike 148 = .ok (.iload_n 2, 1) := by decide +kernel
theorem dL_alike_149 : decode cL_alike 149 = .ok (.iconst 2, 1) := by decide +kernel
theorem dL_alike_150 : decode cL_alike 150 = .ok (.irem, 1) := by decide +kernel
theorem dL_alike_151 : decode cL_alike 151 = .ok (.ifCond .ne 7, 3) := by decide +kernel
theorem dL_alike_154 : decode cL_alike 154 = .ok (.iconst 1, 1) := by decide +kernel
theorem dL_alike_155 : decode cL_alike 155 = .ok (.goto 4, 3) := by decide +kernel
theorem dL_alike_158 : decode cL_alike 158 = .ok (.iconst 0, 1) := by decide +kernel
theorem dL_alike_159 : decode cL_alike 159 = .ok (.invokestatic 150, 3) := by decide +kernel
theorem dL_alike_162 : decode cL_alike 162 = .ok (.lcmp, 1) := by decide +kernel
theorem dL_alike_163 : decode cL_alike 163 = .ok (.ifCond .ne 27, 3) := by decide +kernel
theorem dL_alike_166 : decode cL_alike 166 = .ok (.aload_n 0, 1) := by decide +kernel
theorem dL_alike_167 : decode cL_alike 167 = .ok (.iload_n 2, 1) := by decide +kernel
theorem dL_alike_168 : decode cL_alike 168 = .ok (.bipush 20, 2) := by decide +kernel
theorem dL_alike_170 : decode cL_alike 170 = .ok (.irem, 1) := by decide +kernel
theorem dL_alike_171 : decode cL_alike 171 = .ok (.invokestatic 153, 3) := by decide +kernel
theorem dL_alike_174 : decode cL_alike 174 = .ok (.aload_n 1, 1) := by decide +kernel
theorem dL_alike_175 : decode cL_alike 175 = .ok (.iload_n 2, 1) := by decide +kernel
theorem dL_alike_176 : decode cL_alike 176 = .ok (.bipush 20, 2) := by decide +kernel
theorem dL_alike_178 : decode cL_alike 178 = .ok (.irem, 1) := by decide +kernel
theorem dL_alike_179 : decode cL_alike 179 = .ok (.invokestatic 153, 3) := by decide +kernel
theorem dL_alike_182 : decode cL_alike 182 = .ok (.lcmp, 1) := by decide +kernel
theorem dL_alike_183 : decode cL_alike 183 = .ok (.ifCond .ne 7, 3) := by decide +kernel
theorem dL_alike_186 : decode cL_alike 186 = .ok (.iconst 1, 1) := by decide +kernel
theorem dL_alike_187 : decode cL_alike 187 = .ok (.goto 4, 3) := by decide +kernel
theorem dL_alike_190 : decode cL_alike 190 = .ok (.iconst 0, 1) := by decide +kernel
theorem dL_alike_191 : decode cL_alike 191 = .ok (.istore 5, 2) := by decide +kernel
theorem dL_alike_193 : decode cL_alike 193 = .ok (.iconst 0, 1) := by decide +kernel
theorem dL_alike_194 : decode cL_alike 194 = .ok (.istore 6, 2) := by decide +kernel
theorem dL_alike_196 : decode cL_alike 196 = .ok (.iload 6, 2) := by decide +kernel
theorem dL_alike_198 : decode cL_alike 198 = .ok (.iconst 4, 1) := by decide +kernel
theorem dL_alike_199 : decode cL_alike 199 = .ok (.if_icmp .ge 105, 3) := by decide +kernel
theorem dL_alike_202 : decode cL_alike 202 = .ok (.iload 5, 2) := by decide +kernel
theorem dL_alike_204 : decode cL_alike 204 = .ok (.ifCond .eq 100, 3) := by decide +kernel
theorem dL_alike_207 : decode cL_alike 207 = .ok (.aload_n 0, 1) := by decide +kernel
theorem dL_alike_208 : decode cL_alike 208 = .ok (.iload 4, 2) := by decide +kernel
theorem dL_alike_210 : decode cL_alike 210 = .ok (.iload 6, 2) := by decide +kernel
theorem dL_alike_212 : decode cL_alike 212 = .ok (.invokestatic 155, 3) := by decide +kernel
theorem dL_alike_215 : decode cL_alike 215 = .ok (.aload_n 1, 1) := by decide +kernel
theorem dL_alike_216 : decode cL_alike 216 = .ok (.iload 4, 2) := by decide +kernel
theorem dL_alike_218 : decode cL_alike 218 = .ok (.iload 6, 2) := by decide +kernel
theorem dL_alike_220 : decode cL_alike 220 = .ok (.invokestatic 155, 3) := by decide +kernel
theorem dL_alike_223 : decode cL_alike 223 = .ok (.lcmp, 1) := by decide +kernel
theorem dL_alike_224 : decode cL_alike 224 = .ok (.ifCond .ne 71, 3) := by decide +kernel
theorem dL_alike_227 : decode cL_alike 227 = .ok (.aload_n 0, 1) := by decide +kernel
theorem dL_alike_228 : decode cL_alike 228 = .ok (.iload 6, 2) := by decide +kernel
theorem dL_alike_230 : decode cL_alike 230 = .ok (.invokestatic 157, 3) := by decide +kernel
theorem dL_alike_233 : decode cL_alike 233 = .ok (.aload_n 1, 1) := by decide +kernel
theorem dL_alike_234 : decode cL_alike 234 = .ok (.iload 6, 2) := by decide +kernel
theorem dL_alike_236 : decode cL_alike 236 = .ok (.invokestatic 157, 3) := by decide +kernel
theorem dL_alike_239 : decode cL_alike 239 = .ok (.lcmp, 1) := by decide +kernel
theorem dL_alike_240 : decode cL_alike 240 = .ok (.ifCond .ne 55, 3) := by decide +kernel
theorem dL_alike_243 : decode cL_alike 243 = .ok (.aload_n 0, 1) := by decide +kernel
theorem dL_alike_244 : decode cL_alike 244 = .ok (.iload 6, 2) := by decide +kernel
theorem dL_alike_246 : decode cL_alike 246 = .ok (.invokestatic 159, 3) := by decide +kernel
theorem dL_alike_249 : decode cL_alike 249 = .ok (.aload_n 1, 1) := by decide +kernel
theorem dL_alike_250 : decode cL_alike 250 = .ok (.iload 6, 2) := by decide +kernel
theorem dL_alike_252 : decode cL_alike 252 = .ok (.invokestatic 159, 3) := by decide +kernel
theorem dL_alike_255 : decode cL_alike 255 = .ok (.lcmp, 1) := by decide +kernel
theorem dL_alike_256 : decode cL_alike 256 = .ok (.ifCond .ne 39, 3) := by decide +kernel
theorem dL_alike_259 : decode cL_alike 259 = .ok (.aload_n 0, 1) := by decide +kernel
theorem dL_alike_260 : decode cL_alike 260 = .ok (.iload_n 2, 1) := by decide +kernel
theorem dL_alike_261 : decode cL_alike 261 = .ok (.bipush 7, 2) := by decide +kernel
theorem dL_alike_263 : decode cL_alike 263 = .ok (.iload 6, 2) := by decide +kernel
theorem dL_alike_265 : decode cL_alike 265 = .ok (.imul, 1) := by decide +kernel
theorem dL_alike_266 : decode cL_alike 266 = .ok (.iadd, 1) := by decide +kernel
theorem dL_alike_267 : decode cL_alike 267 = .ok (.bipush 60, 2) := by decide +kernel
theorem dL_alike_269 : decode cL_alike 269 = .ok (.irem, 1) := by decide +kernel
theorem dL_alike_270 : decode cL_alike 270 = .ok (.invokestatic 161, 3) := by decide +kernel
theorem dL_alike_273 : decode cL_alike 273 = .ok (.aload_n 1, 1) := by decide +kernel
theorem dL_alike_274 : decode cL_alike 274 = .ok (.iload_n 2, 1) := by decide +kernel
theorem dL_alike_275 : decode cL_alike 275 = .ok (.bipush 7, 2) := by decide +kernel
theorem dL_alike_277 : decode cL_alike 277 = .ok (.iload 6, 2) := by decide +kernel
theorem dL_alike_279 : decode cL_alike 279 = .ok (.imul, 1) := by decide +kernel
theorem dL_alike_280 : decode cL_alike 280 = .ok (.iadd, 1) := by decide +kernel
theorem dL_alike_281 : decode cL_alike 281 = .ok (.bipush 60, 2) := by decide +kernel
theorem dL_alike_283 : decode cL_alike 283 = .ok (.irem, 1) := by decide +kernel
theorem dL_alike_284 : decode cL_alike 284 = .ok (.invokestatic 161, 3) := by decide +kernel
theorem dL_alike_287 : decode cL_alike 287 = .ok (.lcmp, 1) := by decide +kernel
theorem dL_alike_288 : decode cL_alike 288 = .ok (.ifCond .ne 7, 3) := by decide +kernel
theorem dL_alike_291 : decode cL_alike 291 = .ok (.iconst 1, 1) := by decide +kernel
theorem dL_alike_292 : decode cL_alike 292 = .ok (.goto 4, 3) := by decide +kernel
theorem dL_alike_295 : decode cL_alike 295 = .ok (.iconst 0, 1) := by decide +kernel
theorem dL_alike_296 : decode cL_alike 296 = .ok (.istore 5, 2) := by decide +kernel
theorem dL_alike_298 : decode cL_alike 298 = .ok (.iinc 6 1, 3) := by decide +kernel
theorem dL_alike_301 : decode cL_alike 301 = .ok (.goto (-105), 3) := by decide +kernel
theorem dL_alike_304 : decode cL_alike 304 = .ok (.ldc2_w 163, 3) := by decide +kernel
theorem dL_alike_307 : decode cL_alike 307 = .ok (.sipush 10000, 3) := by decide +kernel
theorem dL_alike_310 : decode cL_alike 310 = .ok (.iconst 1, 1) := by decide +kernel
theorem dL_alike_311 : decode cL_alike 311 = .ok (.iload_n 2, 1) := by decide +kernel
theorem dL_alike_312 : decode cL_alike 312 = .ok (.bipush 8, 2) := by decide +kernel
theorem dL_alike_314 : decode cL_alike 314 = .ok (.irem, 1) := by decide +kernel
theorem dL_alike_315 : decode cL_alike 315 = .ok (.iadd, 1) := by decide +kernel
theorem dL_alike_316 : decode cL_alike 316 = .ok (.imul, 1) := by decide +kernel
theorem dL_alike_317 : decode cL_alike 317 = .ok (.iload_n 2, 1) := by decide +kernel
theorem dL_alike_318 : decode cL_alike 318 = .ok (.bipush 8, 2) := by decide +kernel
theorem dL_alike_320 : decode cL_alike 320 = .ok (.idiv, 1) := by decide +kernel
theorem dL_alike_321 : decode cL_alike 321 = .ok (.sipush 10000, 3) := by decide +kernel
theorem dL_alike_324 : decode cL_alike 324 = .ok (.irem, 1) := by decide +kernel
theorem dL_alike_325 : decode cL_alike 325 = .ok (.iadd, 1) := by decide +kernel
theorem dL_alike_326 : decode cL_alike 326 = .ok (.i2l, 1) := by decide +kernel
theorem dL_alike_327 : decode cL_alike 327 = .ok (.lmul, 1) := by decide +kernel
theorem dL_alike_328 : decode cL_alike 328 = .ok (.iload_n 2, 1) := by decide +kernel
theorem dL_alike_329 : decode cL_alike 329 = .ok (.ldc 165, 2) := by decide +kernel
theorem dL_alike_331 : decode cL_alike 331 = .ok (.irem, 1) := by decide +kernel
theorem dL_alike_332 : decode cL_alike 332 = .ok (.i2l, 1) := by decide +kernel
theorem dL_alike_333 : decode cL_alike 333 = .ok (.ladd, 1) := by decide +kernel
theorem dL_alike_334 : decode cL_alike 334 = .ok (.lstore 6, 2) := by decide +kernel
theorem dL_alike_336 : decode cL_alike 336 = .ok (.iload 5, 2) := by decide +kernel
theorem dL_alike_338 : decode cL_alike 338 = .ok (.ifCond .eq 45, 3) := by decide +kernel
theorem dL_alike_341 : decode cL_alike 341 = .ok (.aload_n 0, 1) := by decide +kernel
theorem dL_alike_342 : decode cL_alike 342 = .ok (.iconst 2, 1) := by decide +kernel
theorem dL_alike_343 : decode cL_alike 343 = .ok (.lload 6, 2) := by decide +kernel
theorem dL_alike_345 : decode cL_alike 345 = .ok (.invokestatic 166, 3) := by decide +kernel
theorem dL_alike_348 : decode cL_alike 348 = .ok (.aload_n 1, 1) := by decide +kernel
theorem dL_alike_349 : decode cL_alike 349 = .ok (.iconst 2, 1) := by decide +kernel
theorem dL_alike_350 : decode cL_alike 350 = .ok (.lload 6, 2) := by decide +kernel
theorem dL_alike_352 : decode cL_alike 352 = .ok (.invokestatic 166, 3) := by decide +kernel
theorem dL_alike_355 : decode cL_alike 355 = .ok (.lcmp, 1) := by decide +kernel
theorem dL_alike_356 : decode cL_alike 356 = .ok (.ifCond .ne 27, 3) := by decide +kernel
theorem dL_alike_359 : decode cL_alike 359 = .ok (.aload_n 0, 1) := by decide +kernel
theorem dL_alike_360 : decode cL_alike 360 = .ok (.iload_n 2, 1) := by decide +kernel
theorem dL_alike_361 : decode cL_alike 361 = .ok (.i2l, 1) := by decide +kernel
theorem dL_alike_362 : decode cL_alike 362 = .ok (.iload 4, 2) := by decide +kernel
theorem dL_alike_364 : decode cL_alike 364 = .ok (.invokestatic 170, 3) := by decide +kernel
theorem dL_alike_367 : decode cL_alike 367 = .ok (.aload_n 1, 1) := by decide +kernel
theorem dL_alike_368 : decode cL_alike 368 = .ok (.iload_n 2, 1) := by decide +kernel
theorem dL_alike_369 : decode cL_alike 369 = .ok (.i2l, 1) := by decide +kernel
theorem dL_alike_370 : decode cL_alike 370 = .ok (.iload 4, 2) := by decide +kernel
theorem dL_alike_372 : decode cL_alike 372 = .ok (.invokestatic 170, 3) := by decide +kernel
theorem dL_alike_375 : decode cL_alike 375 = .ok (.lcmp, 1) := by decide +kernel
theorem dL_alike_376 : decode cL_alike 376 = .ok (.ifCond .ne 7, 3) := by decide +kernel
theorem dL_alike_379 : decode cL_alike 379 = .ok (.iconst 1, 1) := by decide +kernel
theorem dL_alike_380 : decode cL_alike 380 = .ok (.goto 4, 3) := by decide +kernel
theorem dL_alike_383 : decode cL_alike 383 = .ok (.iconst 0, 1) := by decide +kernel
theorem dL_alike_384 : decode cL_alike 384 = .ok (.ireturn, 1) := by decide +kernel
theorem dL_errors_0 : decode cL_errors 0 = .ok (.aload_n 0, 1) := by decide +kernel
theorem dL_errors_1 : decode cL_errors 1 = .ok (.invokestatic 131, 3) := by decide +kernel
theorem dL_errors_4 : decode cL_errors 4 = .ok (.lstore_n 1, 1) := by decide +kernel
theorem dL_errors_5 : decode cL_errors 5 = .ok (.aload_n 0, 1) := by decide +kernel
theorem dL_errors_6 : decode cL_errors 6 = .ok (.iconst 0, 1) := by decide +kernel
theorem dL_errors_7 : decode cL_errors 7 = .ok (.invokestatic 105, 3) := by decide +kernel
theorem dL_errors_10 : decode cL_errors 10 = .ok (.l2i, 1) := by decide +kernel
theorem dL_errors_11 : decode cL_errors 11 = .ok (.istore_n 3, 1) := by decide +kernel
theorem dL_errors_12 : decode cL_errors 12 = .ok (.aload_n 0, 1) := by decide +kernel
theorem dL_errors_13 : decode cL_errors 13 = .ok (.invokestatic 122, 3) := by decide +kernel
theorem dL_errors_16 : decode cL_errors 16 = .ok (.istore 4, 2) := by decide +kernel
theorem dL_errors_18 : decode cL_errors 18 = .ok (.aload_n 0, 1) := by decide +kernel
theorem dL_errors_19 : decode cL_errors 19 = .ok (.iconst (-1), 1) := by decide +kernel
theorem dL_errors_20 : decode cL_errors 20 = .ok (.invokestatic 173, 3) := by decide +kernel
theorem dL_errors_23 : decode cL_errors 23 = .ok (.ldc2_w 17, 3) := by decide +kernel
theorem dL_errors_26 : decode cL_errors 26 = .ok (.lcmp, 1) := by decide +kernel
theorem dL_errors_27 : decode cL_errors 27 = .ok (.ifCond .ne 323, 3) := by decide +kernel
theorem dL_errors_30 : decode cL_errors 30 = .ok (.aload_n 0, 1) := by decide +kernel
theorem dL_errors_31 : decode cL_errors 31 = .ok (.sipush 256, 3) := by decide +kernel
theorem dL_errors_34 : decode cL_errors 34 = .ok (.invokestatic 173, 3) := by decide +kernel
theorem dL_errors_37 : decode cL_errors 37 = .ok (.ldc2_w 17, 3) := by decide +kernel
theorem dL_errors_40 : decode cL_errors 40 = .ok (.lcmp, 1) := by decide +kernel
theorem dL_errors_41 : decode cL_errors 41 = .ok (.ifCond .ne 309, 3) := by decide +kernel
theorem dL_errors_44 : decode cL_errors 44 = .ok (.aload_n 0, 1) := by decide +kernel
theorem dL_errors_45 : decode cL_errors 45 = .ok (.bipush 13, 2) := by decide +kernel
theorem dL_errors_47 : decode cL_errors 47 = .ok (.invokestatic 105, 3) := by decide +kernel
theorem dL_errors_50 : decode cL_errors 50 = .ok (.ldc2_w 17, 3) := by decide +kernel
theorem dL_errors_53 : decode cL_errors 53 = .ok (.lcmp, 1) := by decide +kernel
theorem dL_errors_54 : decode cL_errors 54 = .ok (.ifCond .ne 296, 3) := by decide +kernel
theorem dL_errors_57 : decode cL_errors 57 = .ok (.aload_n 0, 1) := by decide +kernel
theorem dL_errors_58 : decode cL_errors 58 = .ok (.iload 4, 2) := by decide +kernel
theorem dL_errors_60 : decode cL_errors 60 = .ok (.bipush 9, 2) := by decide +kernel
theorem dL_errors_62 : decode cL_errors 62 = .ok (.invokestatic 126, 3) := by decide +kernel
theorem dL_errors_65 : decode cL_errors 65 = .ok (.ldc2_w 36, 3) := by decide +kernel
theorem dL_errors_68 : decode cL_errors 68 = .ok (.lcmp, 1) := by decide +kernel
theorem dL_errors_69 : decode cL_errors 69 = .ok (.ifCond .ne 281, 3) := by decide +kernel
theorem dL_errors_72 : decode cL_errors 72 = .ok (.iload 4, 2) := by decide +kernel
theorem dL_errors_74 : decode cL_errors 74 = .ok (.ifCond .eq 60, 3) := by decide +kernel
theorem dL_errors_77 : decode cL_errors 77 = .ok (.aload_n 0, 1) := by decide +kernel
theorem dL_errors_78 : decode cL_errors 78 = .ok (.iconst 0, 1) := by decide +kernel
theorem dL_errors_79 : decode cL_errors 79 = .ok (.bipush 8, 2) := by decide +kernel
theorem dL_errors_81 : decode cL_errors 81 = .ok (.invokestatic 126, 3) := by decide +kernel
theorem dL_errors_84 : decode cL_errors 84 = .ok (.ldc2_w 17, 3) := by decide +kernel
theorem dL_errors_87 : decode cL_errors 87 = .ok (.lcmp, 1) := by decide +kernel
theorem dL_errors_88 : decode cL_errors 88 = .ok (.ifCond .ne 262, 3) := by decide +kernel
theorem dL_errors_91 : decode cL_errors 91 = .ok (.aload_n 0, 1) := by decide +kernel
theorem dL_errors_92 : decode cL_errors 92 = .ok (.iconst 0, 1) := by decide +kernel
theorem dL_errors_93 : decode cL_errors 93 = .ok (.bipush 100, 2) := by decide +kernel
theorem dL_errors_95 : decode cL_errors 95 = .ok (.iconst 0, 1) := by decide +kernel
theorem dL_errors_96 : decode cL_errors 96 = .ok (.invokestatic 143, 3) := by decide +kernel
theorem dL_errors_99 : decode cL_errors 99 = .ok (.ldc2_w 17, 3) := by decide +kernel
theorem dL_errors_102 : decode cL_errors 102 = .ok (.lcmp, 1) := by decide +kernel
theorem dL_errors_103 : decode cL_errors 103 = .ok (.ifCond .ne 247, 3) := by decide +kernel
theorem dL_errors_106 : decode cL_errors 106 = .ok (.aload_n 0, 1) := by decide +kernel
theorem dL_errors_107 : decode cL_errors 107 = .ok (.iconst 0, 1) := by decide +kernel
theorem dL_errors_108 : decode cL_errors 108 = .ok (.iconst 0, 1) := by decide +kernel
theorem dL_errors_109 : decode cL_errors 109 = .ok (.bipush 8, 2) := by decide +kernel
theorem dL_errors_111 : decode cL_errors 111 = .ok (.invokestatic 143, 3) := by decide +kernel
theorem dL_errors_114 : decode cL_errors 114 = .ok (.ldc2_w 17, 3) := by decide +kernel
theorem dL_errors_117 : decode cL_errors 117 = .ok (.lcmp, 1) := by decide +kernel
theorem dL_errors_118 : decode cL_errors 118 = .ok (.ifCond .ne 232, 3) := by decide +kernel
theorem dL_errors_121 : decode cL_errors 121 = .ok (.aload_n 0, 1) := by decide +kernel
theorem dL_errors_122 : decode cL_errors 122 = .ok (.iconst 0, 1) := by decide +kernel
theorem dL_errors_123 : decode cL_errors 123 = .ok (.iload_n 3, 1) := by decide +kernel
theorem dL_errors_124 : decode cL_errors 124 = .ok (.invokestatic 175, 3) := by decide +kernel
theorem dL_errors_127 : decode cL_errors 127 = .ok (.ldc2_w 36, 3) := by decide +kernel
theorem dL_errors_130 : decode cL_errors 130 = .ok (.lcmp, 1) := by decide +kernel
theorem dL_errors_131 : decode cL_errors 131 = .ok (.ifCond .ne 219, 3) := by decide +kernel
theorem dL_errors_134 : decode cL_errors 134 = .ok (.aload_n 0, 1) := by decide +kernel
theorem dL_errors_135 : decode cL_errors 135 = .ok (.iload_n 3, 1) := by decide +kernel
theorem dL_errors_136 : decode cL_errors 136 = .ok (.invokestatic 153, 3) := by decide +kernel
theorem dL_errors_139 : decode cL_errors 139 = .ok (.ldc2_w 36, 3) := by decide +kernel
theorem dL_errors_142 : decode cL_errors 142 = .ok (.lcmp, 1) := by decide +kernel
theorem dL_errors_143 : decode cL_errors 143 = .ok (.ifCond .ne 207, 3) := by decide +kernel
theorem dL_errors_146 : decode cL_errors 146 = .ok (.aload_n 0, 1) := by decide +kernel
theorem dL_errors_147 : decode cL_errors 147 = .ok (.iconst (-1), 1) := by decide +kernel
theorem dL_errors_148 : decode cL_errors 148 = .ok (.invokestatic 161, 3) := by decide +kernel
theorem dL_errors_151 : decode cL_errors 151 = .ok (.ldc2_w 17, 3) := by decide +kernel
theorem dL_errors_154 : decode cL_errors 154 = .ok (.lcmp, 1) := by decide +kernel
theorem dL_errors_155 : decode cL_errors 155 = .ok (.ifCond .ne 195, 3) := by decide +kernel
theorem dL_errors_158 : decode cL_errors 158 = .ok (.aload_n 0, 1) := by decide +kernel
theorem dL_errors_159 : decode cL_errors 159 = .ok (.iconst 0, 1) := by decide +kernel
theorem dL_errors_160 : decode cL_errors 160 = .ok (.invokestatic 177, 3) := by decide +kernel
theorem dL_errors_163 : decode cL_errors 163 = .ok (.ldc2_w 17, 3) := by decide +kernel
theorem dL_errors_166 : decode cL_errors 166 = .ok (.lcmp, 1) := by decide +kernel
theorem dL_errors_167 : decode cL_errors 167 = .ok (.ifCond .ne 183, 3) := by decide +kernel
theorem dL_errors_170 : decode cL_errors 170 = .ok (.aload_n 0, 1) := by decide +kernel
theorem dL_errors_171 : decode cL_errors 171 = .ok (.bipush 100, 2) := by decide +kernel
theorem dL_errors_173 : decode cL_errors 173 = .ok (.invokestatic 177, 3) := by decide +kernel
theorem dL_errors_176 : decode cL_errors 176 = .ok (.ldc2_w 17, 3) := by decide +kernel
theorem dL_errors_179 : decode cL_errors 179 = .ok (.lcmp, 1) := by decide +kernel
theorem dL_errors_180 : decode cL_errors 180 = .ok (.ifCond .ne 170, 3) := by decide +kernel
theorem dL_errors_183 : decode cL_errors 183 = .ok (.aload_n 0, 1) := by decide +kernel
theorem dL_errors_184 : decode cL_errors 184 = .ok (.iconst 4, 1) := by decide +kernel
theorem dL_errors_185 : decode cL_errors 185 = .ok (.invokestatic 179, 3) := by decide +kernel
theorem dL_errors_188 : decode cL_errors 188 = .ok (.ldc2_w 17, 3) := by decide +kernel
theorem dL_errors_191 : decode cL_errors 191 = .ok (.lcmp, 1) := by decide +kernel
theorem dL_errors_192 : decode cL_errors 192 = .ok (.ifCond .ne 158, 3) := by decide +kernel
theorem dL_errors_195 : decode cL_errors 195 = .ok (.aload_n 0, 1) := by decide +kernel
theorem dL_errors_196 : decode cL_errors 196 = .ok (.iconst (-1), 1) := by decide +kernel
theorem dL_errors_197 : decode cL_errors 197 = .ok (.invokestatic 179, 3) := by decide +kernel
theorem dL_errors_200 : decode cL_errors 200 = .ok (.ldc2_w 17, 3) := by decide +kernel
theorem dL_errors_203 : decode cL_errors 203 = .ok (.lcmp, 1) := by decide +kernel
theorem dL_errors_204 : decode cL_errors 204 = .ok (.ifCond .ne 146, 3) := by decide +kernel
theorem dL_errors_207 : decode cL_errors 207 = .ok (.iload 4, 2) := by decide +kernel
theorem dL_errors_209 : decode cL_errors 209 = .ok (.bipush 12, 2) := by decide +kernel
