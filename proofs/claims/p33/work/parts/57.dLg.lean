theorem dL_tells_124 : decode cL_tells 124 = .ok (.bipush 80, 2) := by decide +kernel
theorem dL_tells_126 : decode cL_tells 126 = .ok (.idiv, 1) := by decide +kernel
theorem dL_tells_127 : decode cL_tells 127 = .ok (.iconst 5, 1) := by decide +kernel
theorem dL_tells_128 : decode cL_tells 128 = .ok (.irem, 1) := by decide +kernel
theorem dL_tells_129 : decode cL_tells 129 = .ok (.istore 5, 2) := by decide +kernel
theorem dL_tells_131 : decode cL_tells 131 = .ok (.iload_n 2, 1) := by decide +kernel
theorem dL_tells_132 : decode cL_tells 132 = .ok (.sipush 400, 3) := by decide +kernel
theorem dL_tells_135 : decode cL_tells 135 = .ok (.idiv, 1) := by decide +kernel
theorem dL_tells_136 : decode cL_tells 136 = .ok (.iconst 5, 1) := by decide +kernel
theorem dL_tells_137 : decode cL_tells 137 = .ok (.irem, 1) := by decide +kernel
theorem dL_tells_138 : decode cL_tells 138 = .ok (.istore 6, 2) := by decide +kernel
theorem dL_tells_140 : decode cL_tells 140 = .ok (.iconst 0, 1) := by decide +kernel
theorem dL_tells_141 : decode cL_tells 141 = .ok (.istore 7, 2) := by decide +kernel
theorem dL_tells_143 : decode cL_tells 143 = .ok (.iload 7, 2) := by decide +kernel
theorem dL_tells_145 : decode cL_tells 145 = .ok (.iload 5, 2) := by decide +kernel
theorem dL_tells_147 : decode cL_tells 147 = .ok (.if_icmp .ge 73, 3) := by decide +kernel
theorem dL_tells_150 : decode cL_tells 150 = .ok (.iload 7, 2) := by decide +kernel
theorem dL_tells_152 : decode cL_tells 152 = .ok (.iload_n 3, 1) := by decide +kernel
theorem dL_tells_153 : decode cL_tells 153 = .ok (.if_icmp .ge 67, 3) := by decide +kernel
theorem dL_tells_156 : decode cL_tells 156 = .ok (.iload 4, 2) := by decide +kernel
theorem dL_tells_158 : decode cL_tells 158 = .ok (.ifCond .eq 62, 3) := by decide +kernel
theorem dL_tells_161 : decode cL_tells 161 = .ok (.aload_n 0, 1) := by decide +kernel
theorem dL_tells_162 : decode cL_tells 162 = .ok (.bipush 103, 2) := by decide +kernel
theorem dL_tells_164 : decode cL_tells 164 = .ok (.invokestatic 173, 3) := by decide +kernel
theorem dL_tells_167 : decode cL_tells 167 = .ok (.lconst 0, 1) := by decide +kernel
theorem dL_tells_168 : decode cL_tells 168 = .ok (.lcmp, 1) := by decide +kernel
theorem dL_tells_169 : decode cL_tells 169 = .ok (.ifCond .le 42, 3) := by decide +kernel
theorem dL_tells_172 : decode cL_tells 172 = .ok (.aload_n 0, 1) := by decide +kernel
theorem dL_tells_173 : decode cL_tells 173 = .ok (.bipush 48, 2) := by decide +kernel
theorem dL_tells_175 : decode cL_tells 175 = .ok (.iload_n 2, 1) := by decide +kernel
theorem dL_tells_176 : decode cL_tells 176 = .ok (.iload 7, 2) := by decide +kernel
theorem dL_tells_178 : decode cL_tells 178 = .ok (.ishr, 1) := by decide +kernel
theorem dL_tells_179 : decode cL_tells 179 = .ok (.iconst 3, 1) := by decide +kernel
theorem dL_tells_180 : decode cL_tells 180 = .ok (.iand, 1) := by decide +kernel
theorem dL_tells_181 : decode cL_tells 181 = .ok (.iadd, 1) := by decide +kernel
theorem dL_tells_182 : decode cL_tells 182 = .ok (.invokestatic 173, 3) := by decide +kernel
theorem dL_tells_185 : decode cL_tells 185 = .ok (.lconst 0, 1) := by decide +kernel
theorem dL_tells_186 : decode cL_tells 186 = .ok (.lcmp, 1) := by decide +kernel
theorem dL_tells_187 : decode cL_tells 187 = .ok (.ifCond .le 24, 3) := by decide +kernel
theorem dL_tells_190 : decode cL_tells 190 = .ok (.aload_n 0, 1) := by decide +kernel
theorem dL_tells_191 : decode cL_tells 191 = .ok (.iload_n 2, 1) := by decide +kernel
theorem dL_tells_192 : decode cL_tells 192 = .ok (.sipush 2000, 3) := by decide +kernel
theorem dL_tells_195 : decode cL_tells 195 = .ok (.idiv, 1) := by decide +kernel
theorem dL_tells_196 : decode cL_tells 196 = .ok (.iload 7, 2) := by decide +kernel
theorem dL_tells_198 : decode cL_tells 198 = .ok (.iadd, 1) := by decide +kernel
theorem dL_tells_199 : decode cL_tells 199 = .ok (.iload_n 3, 1) := by decide +kernel
theorem dL_tells_200 : decode cL_tells 200 = .ok (.irem, 1) := by decide +kernel
theorem dL_tells_201 : decode cL_tells 201 = .ok (.invokestatic 233, 3) := by decide +kernel
theorem dL_tells_204 : decode cL_tells 204 = .ok (.ifCond .eq 7, 3) := by decide +kernel
theorem dL_tells_207 : decode cL_tells 207 = .ok (.iconst 1, 1) := by decide +kernel
theorem dL_tells_208 : decode cL_tells 208 = .ok (.goto 4, 3) := by decide +kernel
theorem dL_tells_211 : decode cL_tells 211 = .ok (.iconst 0, 1) := by decide +kernel
theorem dL_tells_212 : decode cL_tells 212 = .ok (.istore 4, 2) := by decide +kernel
theorem dL_tells_214 : decode cL_tells 214 = .ok (.iinc 7 1, 3) := by decide +kernel
theorem dL_tells_217 : decode cL_tells 217 = .ok (.goto (-74), 3) := by decide +kernel
theorem dL_tells_220 : decode cL_tells 220 = .ok (.iconst 0, 1) := by decide +kernel
theorem dL_tells_221 : decode cL_tells 221 = .ok (.istore 7, 2) := by decide +kernel
theorem dL_tells_223 : decode cL_tells 223 = .ok (.iload 7, 2) := by decide +kernel
theorem dL_tells_225 : decode cL_tells 225 = .ok (.iload 6, 2) := by decide +kernel
theorem dL_tells_227 : decode cL_tells 227 = .ok (.if_icmp .ge 50, 3) := by decide +kernel
theorem dL_tells_230 : decode cL_tells 230 = .ok (.iload 4, 2) := by decide +kernel
theorem dL_tells_232 : decode cL_tells 232 = .ok (.ifCond .eq 45, 3) := by decide +kernel
theorem dL_tells_235 : decode cL_tells 235 = .ok (.aload_n 0, 1) := by decide +kernel
theorem dL_tells_236 : decode cL_tells 236 = .ok (.bipush 104, 2) := by decide +kernel
theorem dL_tells_238 : decode cL_tells 238 = .ok (.invokestatic 173, 3) := by decide +kernel
theorem dL_tells_241 : decode cL_tells 241 = .ok (.lconst 0, 1) := by decide +kernel
theorem dL_tells_242 : decode cL_tells 242 = .ok (.lcmp, 1) := by decide +kernel
theorem dL_tells_243 : decode cL_tells 243 = .ok (.ifCond .le 25, 3) := by decide +kernel
theorem dL_tells_246 : decode cL_tells 246 = .ok (.aload_n 0, 1) := by decide +kernel
theorem dL_tells_247 : decode cL_tells 247 = .ok (.bipush 48, 2) := by decide +kernel
theorem dL_tells_249 : decode cL_tells 249 = .ok (.iload_n 1, 1) := by decide +kernel
theorem dL_tells_250 : decode cL_tells 250 = .ok (.iload 7, 2) := by decide +kernel
theorem dL_tells_252 : decode cL_tells 252 = .ok (.ishr, 1) := by decide +kernel
theorem dL_tells_253 : decode cL_tells 253 = .ok (.iconst 3, 1) := by decide +kernel
theorem dL_tells_254 : decode cL_tells 254 = .ok (.iand, 1) := by decide +kernel
theorem dL_tells_255 : decode cL_tells 255 = .ok (.iadd, 1) := by decide +kernel
theorem dL_tells_256 : decode cL_tells 256 = .ok (.invokestatic 173, 3) := by decide +kernel
theorem dL_tells_259 : decode cL_tells 259 = .ok (.lconst 0, 1) := by decide +kernel
theorem dL_tells_260 : decode cL_tells 260 = .ok (.lcmp, 1) := by decide +kernel
theorem dL_tells_261 : decode cL_tells 261 = .ok (.ifCond .le 7, 3) := by decide +kernel
theorem dL_tells_264 : decode cL_tells 264 = .ok (.iconst 1, 1) := by decide +kernel
theorem dL_tells_265 : decode cL_tells 265 = .ok (.goto 4, 3) := by decide +kernel
theorem dL_tells_268 : decode cL_tells 268 = .ok (.iconst 0, 1) := by decide +kernel
theorem dL_tells_269 : decode cL_tells 269 = .ok (.istore 4, 2) := by decide +kernel
theorem dL_tells_271 : decode cL_tells 271 = .ok (.iinc 7 1, 3) := by decide +kernel
theorem dL_tells_274 : decode cL_tells 274 = .ok (.goto (-51), 3) := by decide +kernel
theorem dL_tells_277 : decode cL_tells 277 = .ok (.iload 4, 2) := by decide +kernel
theorem dL_tells_279 : decode cL_tells 279 = .ok (.ifCond .eq 83, 3) := by decide +kernel
theorem dL_tells_282 : decode cL_tells 282 = .ok (.aload_n 0, 1) := by decide +kernel
theorem dL_tells_283 : decode cL_tells 283 = .ok (.invokevirtual 135, 3) := by decide +kernel
theorem dL_tells_286 : decode cL_tells 286 = .ok (.bipush (-9), 2) := by decide +kernel
theorem dL_tells_288 : decode cL_tells 288 = .ok (.if_icmp .ne 74, 3) := by decide +kernel
theorem dL_tells_291 : decode cL_tells 291 = .ok (.aload_n 0, 1) := by decide +kernel
theorem dL_tells_292 : decode cL_tells 292 = .ok (.invokestatic 237, 3) := by decide +kernel
theorem dL_tells_295 : decode cL_tells 295 = .ok (.iload 5, 2) := by decide +kernel
theorem dL_tells_297 : decode cL_tells 297 = .ok (.iload_n 3, 1) := by decide +kernel
theorem dL_tells_298 : decode cL_tells 298 = .ok (.if_icmp .ge 8, 3) := by decide +kernel
theorem dL_tells_301 : decode cL_tells 301 = .ok (.iload 5, 2) := by decide +kernel
theorem dL_tells_303 : decode cL_tells 303 = .ok (.goto 4, 3) := by decide +kernel
theorem dL_tells_306 : decode cL_tells 306 = .ok (.iload_n 3, 1) := by decide +kernel
theorem dL_tells_307 : decode cL_tells 307 = .ok (.iload 6, 2) := by decide +kernel
theorem dL_tells_309 : decode cL_tells 309 = .ok (.iadd, 1) := by decide +kernel
theorem dL_tells_310 : decode cL_tells 310 = .ok (.i2l, 1) := by decide +kernel
theorem dL_tells_311 : decode cL_tells 311 = .ok (.lcmp, 1) := by decide +kernel
theorem dL_tells_312 : decode cL_tells 312 = .ok (.ifCond .ne 50, 3) := by decide +kernel
theorem dL_tells_315 : decode cL_tells 315 = .ok (.aload_n 0, 1) := by decide +kernel
theorem dL_tells_316 : decode cL_tells 316 = .ok (.iconst 3, 1) := by decide +kernel
theorem dL_tells_317 : decode cL_tells 317 = .ok (.invokestatic 105, 3) := by decide +kernel
theorem dL_tells_320 : decode cL_tells 320 = .ok (.iload 6, 2) := by decide +kernel
theorem dL_tells_322 : decode cL_tells 322 = .ok (.i2l, 1) := by decide +kernel
theorem dL_tells_323 : decode cL_tells 323 = .ok (.lcmp, 1) := by decide +kernel
theorem dL_tells_324 : decode cL_tells 324 = .ok (.ifCond .ne 38, 3) := by decide +kernel
theorem dL_tells_327 : decode cL_tells 327 = .ok (.aload_n 0, 1) := by decide +kernel
theorem dL_tells_328 : decode cL_tells 328 = .ok (.bipush 6, 2) := by decide +kernel
theorem dL_tells_330 : decode cL_tells 330 = .ok (.invokestatic 105, 3) := by decide +kernel
theorem dL_tells_333 : decode cL_tells 333 = .ok (.lconst 0, 1) := by decide +kernel
theorem dL_tells_334 : decode cL_tells 334 = .ok (.lcmp, 1) := by decide +kernel
theorem dL_tells_335 : decode cL_tells 335 = .ok (.ifCond .ne 27, 3) := by decide +kernel
theorem dL_tells_338 : decode cL_tells 338 = .ok (.aload_n 0, 1) := by decide +kernel
theorem dL_tells_339 : decode cL_tells 339 = .ok (.invokevirtual 112, 3) := by decide +kernel
theorem dL_tells_342 : decode cL_tells 342 = .ok (.lconst 0, 1) := by decide +kernel
theorem dL_tells_343 : decode cL_tells 343 = .ok (.lcmp, 1) := by decide +kernel
theorem dL_tells_344 : decode cL_tells 344 = .ok (.ifCond .ne 18, 3) := by decide +kernel
theorem dL_tells_347 : decode cL_tells 347 = .ok (.aload_n 0, 1) := by decide +kernel
theorem dL_tells_348 : decode cL_tells 348 = .ok (.invokestatic 222, 3) := by decide +kernel
theorem dL_tells_351 : decode cL_tells 351 = .ok (.ldc2_w 21, 3) := by decide +kernel
theorem dL_tells_354 : decode cL_tells 354 = .ok (.lcmp, 1) := by decide +kernel
theorem dL_tells_355 : decode cL_tells 355 = .ok (.ifCond .ne 7, 3) := by decide +kernel
theorem dL_tells_358 : decode cL_tells 358 = .ok (.iconst 1, 1) := by decide +kernel
theorem dL_tells_359 : decode cL_tells 359 = .ok (.goto 4, 3) := by decide +kernel
theorem dL_tells_362 : decode cL_tells 362 = .ok (.iconst 0, 1) := by decide +kernel
theorem dL_tells_363 : decode cL_tells 363 = .ok (.ireturn, 1) := by decide +kernel
theorem dL_act_0 : decode cL_act 0 = .ok (.iload_n 2, 1) := by decide +kernel
theorem dL_act_1 : decode cL_act 1 = .ok (.bipush 12, 2) := by decide +kernel
theorem dL_act_3 : decode cL_act 3 = .ok (.irem, 1) := by decide +kernel
theorem dL_act_4 : decode cL_act 4 = .ok (.istore_n 3, 1) := by decide +kernel
theorem dL_act_5 : decode cL_act 5 = .ok (.iload_n 1, 1) := by decide +kernel
theorem dL_act_6 : decode cL_act 6 = .ok (.bipush 14, 2) := by decide +kernel
theorem dL_act_8 : decode cL_act 8 = .ok (.irem, 1) := by decide +kernel
theorem dL_act_9 : decode cL_act 9 = .ok (.tableswitch 156 0 12 #[67, 67, 67, 67, 67, 78, 78, 86, 86, 99, 124, 140, 151], 67) := by decide +kernel
theorem dL_act_76 : decode cL_act 76 = .ok (.aload_n 0, 1) := by decide +kernel
theorem dL_act_77 : decode cL_act 77 = .ok (.iconst 1, 1) := by decide +kernel
theorem dL_act_78 : decode cL_act 78 = .ok (.iload_n 2, 1) := by decide +kernel
theorem dL_act_79 : decode cL_act 79 = .ok (.bipush 30, 2) := by decide +kernel
theorem dL_act_81 : decode cL_act 81 = .ok (.irem, 1) := by decide +kernel
theorem dL_act_82 : decode cL_act 82 = .ok (.iadd, 1) := by decide +kernel
theorem dL_act_83 : decode cL_act 83 = .ok (.invokestatic 177, 3) := by decide +kernel
theorem dL_act_86 : decode cL_act 86 = .ok (.lreturn, 1) := by decide +kernel
theorem dL_act_87 : decode cL_act 87 = .ok (.aload_n 0, 1) := by decide +kernel
theorem dL_act_88 : decode cL_act 88 = .ok (.iload_n 2, 1) := by decide +kernel
theorem dL_act_89 : decode cL_act 89 = .ok (.iconst 4, 1) := by decide +kernel
theorem dL_act_90 : decode cL_act 90 = .ok (.irem, 1) := by decide +kernel
theorem dL_act_91 : decode cL_act 91 = .ok (.invokestatic 179, 3) := by decide +kernel
theorem dL_act_94 : decode cL_act 94 = .ok (.lreturn, 1) := by decide +kernel
theorem dL_act_95 : decode cL_act 95 = .ok (.aload_n 0, 1) := by decide +kernel
theorem dL_act_96 : decode cL_act 96 = .ok (.iload_n 3, 1) := by decide +kernel
theorem dL_act_97 : decode cL_act 97 = .ok (.iload_n 2, 1) := by decide +kernel
theorem dL_act_98 : decode cL_act 98 = .ok (.bipush 12, 2) := by decide +kernel
theorem dL_act_100 : decode cL_act 100 = .ok (.idiv, 1) := by decide +kernel
theorem dL_act_101 : decode cL_act 101 = .ok (.bipush 20, 2) := by decide +kernel
theorem dL_act_103 : decode cL_act 103 = .ok (.irem, 1) := by decide +kernel
theorem dL_act_104 : decode cL_act 104 = .ok (.invokestatic 175, 3) := by decide +kernel
theorem dL_act_107 : decode cL_act 107 = .ok (.lreturn, 1) := by decide +kernel
theorem dL_act_108 : decode cL_act 108 = .ok (.iload_n 2, 1) := by decide +kernel
theorem dL_act_109 : decode cL_act 109 = .ok (.iconst 3, 1) := by decide +kernel
theorem dL_act_110 : decode cL_act 110 = .ok (.irem, 1) := by decide +kernel
theorem dL_act_111 : decode cL_act 111 = .ok (.ifCond .ne 16, 3) := by decide +kernel
theorem dL_act_114 : decode cL_act 114 = .ok (.aload_n 0, 1) := by decide +kernel
theorem dL_act_115 : decode cL_act 115 = .ok (.iload_n 2, 1) := by decide +kernel
theorem dL_act_116 : decode cL_act 116 = .ok (.iconst 3, 1) := by decide +kernel
theorem dL_act_117 : decode cL_act 117 = .ok (.idiv, 1) := by decide +kernel
theorem dL_act_118 : decode cL_act 118 = .ok (.bipush 12, 2) := by decide +kernel
theorem dL_act_120 : decode cL_act 120 = .ok (.irem, 1) := by decide +kernel
theorem dL_act_121 : decode cL_act 121 = .ok (.invokestatic 183, 3) := by decide +kernel
theorem dL_act_124 : decode cL_act 124 = .ok (.goto 8, 3) := by decide +kernel
theorem dL_act_127 : decode cL_act 127 = .ok (.aload_n 0, 1) := by decide +kernel
theorem dL_act_128 : decode cL_act 128 = .ok (.iload_n 3, 1) := by decide +kernel
theorem dL_act_129 : decode cL_act 129 = .ok (.invokestatic 181, 3) := by decide +kernel
theorem dL_act_132 : decode cL_act 132 = .ok (.lreturn, 1) := by decide +kernel
theorem dL_act_133 : decode cL_act 133 = .ok (.aload_n 0, 1) := by decide +kernel
theorem dL_act_134 : decode cL_act 134 = .ok (.iload_n 2, 1) := by decide +kernel
theorem dL_act_135 : decode cL_act 135 = .ok (.iconst 5, 1) := by decide +kernel
theorem dL_act_136 : decode cL_act 136 = .ok (.irem, 1) := by decide +kernel
theorem dL_act_137 : decode cL_act 137 = .ok (.iconst 1, 1) := by decide +kernel
theorem dL_act_138 : decode cL_act 138 = .ok (.iload_n 2, 1) := by decide +kernel
theorem dL_act_139 : decode cL_act 139 = .ok (.iconst 5, 1) := by decide +kernel
theorem dL_act_140 : decode cL_act 140 = .ok (.idiv, 1) := by decide +kernel
theorem dL_act_141 : decode cL_act 141 = .ok (.bipush 12, 2) := by decide +kernel
theorem dL_act_143 : decode cL_act 143 = .ok (.irem, 1) := by decide +kernel
theorem dL_act_144 : decode cL_act 144 = .ok (.iadd, 1) := by decide +kernel
theorem dL_act_145 : decode cL_act 145 = .ok (.invokestatic 185, 3) := by decide +kernel
theorem dL_act_148 : decode cL_act 148 = .ok (.lreturn, 1) := by decide +kernel
theorem dL_act_149 : decode cL_act 149 = .ok (.aload_n 0, 1) := by decide +kernel
theorem dL_act_150 : decode cL_act 150 = .ok (.ldc2_w 239, 3) := by decide +kernel
theorem dL_act_153 : decode cL_act 153 = .ok (.iload_n 2, 1) := by decide +kernel
theorem dL_act_154 : decode cL_act 154 = .ok (.i2l, 1) := by decide +kernel
theorem dL_act_155 : decode cL_act 155 = .ok (.lmul, 1) := by decide +kernel
theorem dL_act_156 : decode cL_act 156 = .ok (.invokevirtual 226, 3) := by decide +kernel
theorem dL_act_159 : decode cL_act 159 = .ok (.lreturn, 1) := by decide +kernel
theorem dL_act_160 : decode cL_act 160 = .ok (.aload_n 0, 1) := by decide +kernel
theorem dL_act_161 : decode cL_act 161 = .ok (.invokestatic 222, 3) := by decide +kernel
theorem dL_act_164 : decode cL_act 164 = .ok (.lreturn, 1) := by decide +kernel
theorem dL_act_165 : decode cL_act 165 = .ok (.iload_n 2, 1) := by decide +kernel
theorem dL_act_166 : decode cL_act 166 = .ok (.iconst 2, 1) := by decide +kernel
theorem dL_act_167 : decode cL_act 167 = .ok (.irem, 1) := by decide +kernel
theorem dL_act_168 : decode cL_act 168 = .ok (.ifCond .ne 15, 3) := by decide +kernel
theorem dL_act_171 : decode cL_act 171 = .ok (.aload_n 0, 1) := by decide +kernel
theorem dL_act_172 : decode cL_act 172 = .ok (.iload_n 2, 1) := by decide +kernel
theorem dL_act_173 : decode cL_act 173 = .ok (.iconst 2, 1) := by decide +kernel
theorem dL_act_174 : decode cL_act 174 = .ok (.idiv, 1) := by decide +kernel
theorem dL_act_175 : decode cL_act 175 = .ok (.iconst 1, 1) := by decide +kernel
theorem dL_act_176 : decode cL_act 176 = .ok (.iand, 1) := by decide +kernel
theorem dL_act_177 : decode cL_act 177 = .ok (.invokestatic 189, 3) := by decide +kernel
theorem dL_act_180 : decode cL_act 180 = .ok (.goto 12, 3) := by decide +kernel
theorem dL_act_183 : decode cL_act 183 = .ok (.aload_n 0, 1) := by decide +kernel
theorem dL_act_184 : decode cL_act 184 = .ok (.iload_n 2, 1) := by decide +kernel
theorem dL_act_185 : decode cL_act 185 = .ok (.iconst 2, 1) := by decide +kernel
theorem dL_act_186 : decode cL_act 186 = .ok (.idiv, 1) := by decide +kernel
theorem dL_act_187 : decode cL_act 187 = .ok (.iconst 1, 1) := by decide +kernel
theorem dL_act_188 : decode cL_act 188 = .ok (.iand, 1) := by decide +kernel
theorem dL_act_189 : decode cL_act 189 = .ok (.invokestatic 191, 3) := by decide +kernel
theorem dL_act_192 : decode cL_act 192 = .ok (.lreturn, 1) := by decide +kernel
theorem dL_law_0 : decode cL_law 0 = .ok (.new 10, 3) := by decide +kernel
theorem dL_law_3 : decode cL_law 3 = .ok (.dup, 1) := by decide +kernel
theorem dL_law_4 : decode cL_law 4 = .ok (.invokespecial 241, 3) := by decide +kernel
theorem dL_law_7 : decode cL_law 7 = .ok (.astore_n 1, 1) := by decide +kernel
theorem dL_law_8 : decode cL_law 8 = .ok (.new 10, 3) := by decide +kernel
theorem dL_law_11 : decode cL_law 11 = .ok (.dup, 1) := by decide +kernel
theorem dL_law_12 : decode cL_law 12 = .ok (.invokespecial 241, 3) := by decide +kernel
theorem dL_law_15 : decode cL_law 15 = .ok (.astore_n 2, 1) := by decide +kernel
theorem dL_law_16 : decode cL_law 16 = .ok (.aload_n 1, 1) := by decide +kernel
theorem dL_law_17 : decode cL_law 17 = .ok (.aload_n 2, 1) := by decide +kernel
theorem dL_law_18 : decode cL_law 18 = .ok (.aload_n 0, 1) := by decide +kernel
theorem dL_law_19 : decode cL_law 19 = .ok (.iconst 0, 1) := by decide +kernel
theorem dL_law_20 : decode cL_law 20 = .ok (.invokestatic 242, 3) := by decide +kernel
theorem dL_law_23 : decode cL_law 23 = .ok (.invokestatic 246, 3) := by decide +kernel
theorem dL_law_26 : decode cL_law 26 = .ok (.ifCond .eq 21, 3) := by decide +kernel
theorem dL_law_29 : decode cL_law 29 = .ok (.aload_n 1, 1) := by decide +kernel
theorem dL_law_30 : decode cL_law 30 = .ok (.invokestatic 250, 3) := by decide +kernel
theorem dL_law_33 : decode cL_law 33 = .ok (.ifCond .eq 14, 3) := by decide +kernel
theorem dL_law_36 : decode cL_law 36 = .ok (.aload_n 1, 1) := by decide +kernel
theorem dL_law_37 : decode cL_law 37 = .ok (.invokestatic 254, 3) := by decide +kernel
theorem dL_law_40 : decode cL_law 40 = .ok (.ifCond .eq 7, 3) := by decide +kernel
theorem dL_law_43 : decode cL_law 43 = .ok (.iconst 1, 1) := by decide +kernel
theorem dL_law_44 : decode cL_law 44 = .ok (.goto 4, 3) := by decide +kernel
theorem dL_law_47 : decode cL_law 47 = .ok (.iconst 0, 1) := by decide +kernel
theorem dL_law_48 : decode cL_law 48 = .ok (.istore_n 3, 1) := by decide +kernel
theorem dL_law_49 : decode cL_law 49 = .ok (.iconst 0, 1) := by decide +kernel
theorem dL_law_50 : decode cL_law 50 = .ok (.istore 4, 2) := by decide +kernel
theorem dL_law_52 : decode cL_law 52 = .ok (.iload 4, 2) := by decide +kernel
theorem dL_law_54 : decode cL_law 54 = .ok (.bipush 30, 2) := by decide +kernel
theorem dL_law_56 : decode cL_law 56 = .ok (.if_icmp .ge 208, 3) := by decide +kernel
theorem dL_law_59 : decode cL_law 59 = .ok (.iload_n 3, 1) := by decide +kernel
theorem dL_law_60 : decode cL_law 60 = .ok (.ifCond .eq 204, 3) := by decide +kernel
theorem dL_law_63 : decode cL_law 63 = .ok (.aload_n 0, 1) := by decide +kernel
theorem dL_law_64 : decode cL_law 64 = .ok (.iconst 2, 1) := by decide +kernel
theorem dL_law_65 : decode cL_law 65 = .ok (.iload 4, 2) := by decide +kernel
theorem dL_law_67 : decode cL_law 67 = .ok (.imul, 1) := by decide +kernel
theorem dL_law_68 : decode cL_law 68 = .ok (.invokestatic 242, 3) := by decide +kernel
theorem dL_law_71 : decode cL_law 71 = .ok (.istore 5, 2) := by decide +kernel
theorem dL_law_73 : decode cL_law 73 = .ok (.aload_n 0, 1) := by decide +kernel
theorem dL_law_74 : decode cL_law 74 = .ok (.iconst 2, 1) := by decide +kernel
theorem dL_law_75 : decode cL_law 75 = .ok (.iload 4, 2) := by decide +kernel
theorem dL_law_77 : decode cL_law 77 = .ok (.imul, 1) := by decide +kernel
theorem dL_law_78 : decode cL_law 78 = .ok (.iconst 1, 1) := by decide +kernel
theorem dL_law_79 : decode cL_law 79 = .ok (.iadd, 1) := by decide +kernel
theorem dL_law_80 : decode cL_law 80 = .ok (.invokestatic 242, 3) := by decide +kernel
theorem dL_law_83 : decode cL_law 83 = .ok (.istore 6, 2) := by decide +kernel
theorem dL_law_85 : decode cL_law 85 = .ok (.iload 4, 2) := by decide +kernel
theorem dL_law_87 : decode cL_law 87 = .ok (.bipush 15, 2) := by decide +kernel
theorem dL_law_89 : decode cL_law 89 = .ok (.irem, 1) := by decide +kernel
theorem dL_law_90 : decode cL_law 90 = .ok (.ifCond .ne 34, 3) := by decide +kernel
theorem dL_law_93 : decode cL_law 93 = .ok (.aload_n 1, 1) := by decide +kernel
theorem dL_law_94 : decode cL_law 94 = .ok (.iload 5, 2) := by decide +kernel
theorem dL_law_96 : decode cL_law 96 = .ok (.iload 6, 2) := by decide +kernel
theorem dL_law_98 : decode cL_law 98 = .ok (.invokestatic 257, 3) := by decide +kernel
theorem dL_law_101 : decode cL_law 101 = .ok (.ifCond .eq 18, 3) := by decide +kernel
theorem dL_law_104 : decode cL_law 104 = .ok (.aload_n 2, 1) := by decide +kernel
theorem dL_law_105 : decode cL_law 105 = .ok (.iload 5, 2) := by decide +kernel
theorem dL_law_107 : decode cL_law 107 = .ok (.iload 6, 2) := by decide +kernel
theorem dL_law_109 : decode cL_law 109 = .ok (.invokestatic 257, 3) := by decide +kernel
theorem dL_law_112 : decode cL_law 112 = .ok (.ifCond .eq 7, 3) := by decide +kernel
theorem dL_law_115 : decode cL_law 115 = .ok (.iconst 1, 1) := by decide +kernel
theorem dL_law_116 : decode cL_law 116 = .ok (.goto 4, 3) := by decide +kernel
theorem dL_law_119 : decode cL_law 119 = .ok (.iconst 0, 1) := by decide +kernel
theorem dL_law_120 : decode cL_law 120 = .ok (.istore_n 3, 1) := by decide +kernel
theorem dL_law_121 : decode cL_law 121 = .ok (.goto 137, 3) := by decide +kernel
theorem dL_law_124 : decode cL_law 124 = .ok (.aload_n 1, 1) := by decide +kernel
theorem dL_law_125 : decode cL_law 125 = .ok (.iload 5, 2) := by decide +kernel
theorem dL_law_127 : decode cL_law 127 = .ok (.iload 6, 2) := by decide +kernel
theorem dL_law_129 : decode cL_law 129 = .ok (.invokestatic 261, 3) := by decide +kernel
theorem dL_law_132 : decode cL_law 132 = .ok (.aload_n 2, 1) := by decide +kernel
theorem dL_law_133 : decode cL_law 133 = .ok (.iload 5, 2) := by decide +kernel
theorem dL_law_135 : decode cL_law 135 = .ok (.iload 6, 2) := by decide +kernel
theorem dL_law_137 : decode cL_law 137 = .ok (.invokestatic 261, 3) := by decide +kernel
theorem dL_law_140 : decode cL_law 140 = .ok (.lcmp, 1) := by decide +kernel
theorem dL_law_141 : decode cL_law 141 = .ok (.ifCond .ne 7, 3) := by decide +kernel
theorem dL_law_144 : decode cL_law 144 = .ok (.iconst 1, 1) := by decide +kernel
theorem dL_law_145 : decode cL_law 145 = .ok (.goto 4, 3) := by decide +kernel
theorem dL_law_148 : decode cL_law 148 = .ok (.iconst 0, 1) := by decide +kernel
theorem dL_law_149 : decode cL_law 149 = .ok (.istore_n 3, 1) := by decide +kernel
theorem dL_law_150 : decode cL_law 150 = .ok (.iload 4, 2) := by decide +kernel
theorem dL_law_152 : decode cL_law 152 = .ok (.iconst 4, 1) := by decide +kernel
theorem dL_law_153 : decode cL_law 153 = .ok (.irem, 1) := by decide +kernel
theorem dL_law_154 : decode cL_law 154 = .ok (.ifCond .ne 27, 3) := by decide +kernel
theorem dL_law_157 : decode cL_law 157 = .ok (.iload_n 3, 1) := by decide +kernel
theorem dL_law_158 : decode cL_law 158 = .ok (.ifCond .eq 21, 3) := by decide +kernel
theorem dL_law_161 : decode cL_law 161 = .ok (.aload_n 2, 1) := by decide +kernel
theorem dL_law_162 : decode cL_law 162 = .ok (.invokestatic 250, 3) := by decide +kernel
theorem dL_law_165 : decode cL_law 165 = .ok (.ifCond .eq 14, 3) := by decide +kernel
theorem dL_law_168 : decode cL_law 168 = .ok (.aload_n 2, 1) := by decide +kernel
theorem dL_law_169 : decode cL_law 169 = .ok (.invokestatic 254, 3) := by decide +kernel
theorem dL_law_172 : decode cL_law 172 = .ok (.ifCond .eq 7, 3) := by decide +kernel
theorem dL_law_175 : decode cL_law 175 = .ok (.iconst 1, 1) := by decide +kernel
theorem dL_law_176 : decode cL_law 176 = .ok (.goto 4, 3) := by decide +kernel
theorem dL_law_179 : decode cL_law 179 = .ok (.iconst 0, 1) := by decide +kernel
theorem dL_law_180 : decode cL_law 180 = .ok (.istore_n 3, 1) := by decide +kernel
theorem dL_law_181 : decode cL_law 181 = .ok (.iload 4, 2) := by decide +kernel
theorem dL_law_183 : decode cL_law 183 = .ok (.bipush 15, 2) := by decide +kernel
theorem dL_law_185 : decode cL_law 185 = .ok (.irem, 1) := by decide +kernel
theorem dL_law_186 : decode cL_law 186 = .ok (.bipush 14, 2) := by decide +kernel
theorem dL_law_188 : decode cL_law 188 = .ok (.if_icmp .ne 42, 3) := by decide +kernel
theorem dL_law_191 : decode cL_law 191 = .ok (.iload_n 3, 1) := by decide +kernel
theorem dL_law_192 : decode cL_law 192 = .ok (.ifCond .eq 36, 3) := by decide +kernel
theorem dL_law_195 : decode cL_law 195 = .ok (.aload_n 2, 1) := by decide +kernel
theorem dL_law_196 : decode cL_law 196 = .ok (.iload 6, 2) := by decide +kernel
theorem dL_law_198 : decode cL_law 198 = .ok (.invokestatic 264, 3) := by decide +kernel
theorem dL_law_201 : decode cL_law 201 = .ok (.ifCond .eq 27, 3) := by decide +kernel
theorem dL_law_204 : decode cL_law 204 = .ok (.aload_n 1, 1) := by decide +kernel
theorem dL_law_205 : decode cL_law 205 = .ok (.iconst 1, 1) := by decide +kernel
theorem dL_law_206 : decode cL_law 206 = .ok (.invokestatic 189, 3) := by decide +kernel
theorem dL_law_209 : decode cL_law 209 = .ok (.lconst 0, 1) := by decide +kernel
theorem dL_law_210 : decode cL_law 210 = .ok (.lcmp, 1) := by decide +kernel
theorem dL_law_211 : decode cL_law 211 = .ok (.ifCond .lt 17, 3) := by decide +kernel
theorem dL_law_214 : decode cL_law 214 = .ok (.aload_n 1, 1) := by decide +kernel
theorem dL_law_215 : decode cL_law 215 = .ok (.iconst 1, 1) := by decide +kernel
theorem dL_law_216 : decode cL_law 216 = .ok (.invokestatic 191, 3) := by decide +kernel
theorem dL_law_219 : decode cL_law 219 = .ok (.lconst 0, 1) := by decide +kernel
theorem dL_law_220 : decode cL_law 220 = .ok (.lcmp, 1) := by decide +kernel
theorem dL_law_221 : decode cL_law 221 = .ok (.ifCond .lt 7, 3) := by decide +kernel
theorem dL_law_224 : decode cL_law 224 = .ok (.iconst 1, 1) := by decide +kernel
theorem dL_law_225 : decode cL_law 225 = .ok (.goto 4, 3) := by decide +kernel
theorem dL_law_228 : decode cL_law 228 = .ok (.iconst 0, 1) := by decide +kernel
theorem dL_law_229 : decode cL_law 229 = .ok (.istore_n 3, 1) := by decide +kernel
theorem dL_law_230 : decode cL_law 230 = .ok (.iload_n 3, 1) := by decide +kernel
theorem dL_law_231 : decode cL_law 231 = .ok (.ifCond .eq 25, 3) := by decide +kernel
theorem dL_law_234 : decode cL_law 234 = .ok (.iload 4, 2) := by decide +kernel
theorem dL_law_236 : decode cL_law 236 = .ok (.bipush 6, 2) := by decide +kernel
theorem dL_law_238 : decode cL_law 238 = .ok (.irem, 1) := by decide +kernel
theorem dL_law_239 : decode cL_law 239 = .ok (.ifCond .gt 13, 3) := by decide +kernel
theorem dL_law_242 : decode cL_law 242 = .ok (.aload_n 1, 1) := by decide +kernel
theorem dL_law_243 : decode cL_law 243 = .ok (.aload_n 2, 1) := by decide +kernel
theorem dL_law_244 : decode cL_law 244 = .ok (.iload 6, 2) := by decide +kernel
theorem dL_law_246 : decode cL_law 246 = .ok (.invokestatic 246, 3) := by decide +kernel
theorem dL_law_249 : decode cL_law 249 = .ok (.ifCond .eq 7, 3) := by decide +kernel
theorem dL_law_252 : decode cL_law 252 = .ok (.iconst 1, 1) := by decide +kernel
theorem dL_law_253 : decode cL_law 253 = .ok (.goto 4, 3) := by decide +kernel
theorem dL_law_256 : decode cL_law 256 = .ok (.iconst 0, 1) := by decide +kernel
theorem dL_law_257 : decode cL_law 257 = .ok (.istore_n 3, 1) := by decide +kernel
theorem dL_law_258 : decode cL_law 258 = .ok (.iinc 4 1, 3) := by decide +kernel
theorem dL_law_261 : decode cL_law 261 = .ok (.goto (-209), 3) := by decide +kernel
theorem dL_law_264 : decode cL_law 264 = .ok (.iload_n 3, 1) := by decide +kernel
theorem dL_law_265 : decode cL_law 265 = .ok (.ifCond .eq 18, 3) := by decide +kernel
theorem dL_law_268 : decode cL_law 268 = .ok (.aload_n 1, 1) := by decide +kernel
theorem dL_law_269 : decode cL_law 269 = .ok (.aload_n 2, 1) := by decide +kernel
theorem dL_law_270 : decode cL_law 270 = .ok (.ldc_w 267, 3) := by decide +kernel
theorem dL_law_273 : decode cL_law 273 = .ok (.invokestatic 246, 3) := by decide +kernel
theorem dL_law_276 : decode cL_law 276 = .ok (.ifCond .eq 7, 3) := by decide +kernel
theorem dL_law_279 : decode cL_law 279 = .ok (.iconst 1, 1) := by decide +kernel
theorem dL_law_280 : decode cL_law 280 = .ok (.goto 4, 3) := by decide +kernel
theorem dL_law_283 : decode cL_law 283 = .ok (.iconst 0, 1) := by decide +kernel
theorem dL_law_284 : decode cL_law 284 = .ok (.ireturn, 1) := by decide +kernel
