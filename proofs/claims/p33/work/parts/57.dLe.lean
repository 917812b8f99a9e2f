theorem dL_built_1092 : decode cL_built 1092 = .ok (.invokestatic 197, 3) := by decide +kernel
theorem dL_built_1095 : decode cL_built 1095 = .ok (.ifCond .eq 7, 3) := by decide +kernel
theorem dL_built_1098 : decode cL_built 1098 = .ok (.iconst 1, 1) := by decide +kernel
theorem dL_built_1099 : decode cL_built 1099 = .ok (.goto 4, 3) := by decide +kernel
theorem dL_built_1102 : decode cL_built 1102 = .ok (.iconst 0, 1) := by decide +kernel
theorem dL_built_1103 : decode cL_built 1103 = .ok (.ireturn, 1) := by decide +kernel
theorem dL_follows_0 : decode cL_follows 0 = .ok (.aload_n 0, 1) := by decide +kernel
theorem dL_follows_1 : decode cL_follows 1 = .ok (.invokestatic 131, 3) := by decide +kernel
theorem dL_follows_4 : decode cL_follows 4 = .ok (.lstore_n 2, 1) := by decide +kernel
theorem dL_follows_5 : decode cL_follows 5 = .ok (.aload_n 0, 1) := by decide +kernel
theorem dL_follows_6 : decode cL_follows 6 = .ok (.iconst 0, 1) := by decide +kernel
theorem dL_follows_7 : decode cL_follows 7 = .ok (.invokestatic 105, 3) := by decide +kernel
theorem dL_follows_10 : decode cL_follows 10 = .ok (.l2i, 1) := by decide +kernel
theorem dL_follows_11 : decode cL_follows 11 = .ok (.istore 4, 2) := by decide +kernel
theorem dL_follows_13 : decode cL_follows 13 = .ok (.aload_n 0, 1) := by decide +kernel
theorem dL_follows_14 : decode cL_follows 14 = .ok (.invokestatic 122, 3) := by decide +kernel
theorem dL_follows_17 : decode cL_follows 17 = .ok (.istore 5, 2) := by decide +kernel
theorem dL_follows_19 : decode cL_follows 19 = .ok (.iconst 1, 1) := by decide +kernel
theorem dL_follows_20 : decode cL_follows 20 = .ok (.iload_n 1, 1) := by decide +kernel
theorem dL_follows_21 : decode cL_follows 21 = .ok (.bipush 50, 2) := by decide +kernel
theorem dL_follows_23 : decode cL_follows 23 = .ok (.irem, 1) := by decide +kernel
theorem dL_follows_24 : decode cL_follows 24 = .ok (.iadd, 1) := by decide +kernel
theorem dL_follows_25 : decode cL_follows 25 = .ok (.istore 6, 2) := by decide +kernel
theorem dL_follows_27 : decode cL_follows 27 = .ok (.aload_n 0, 1) := by decide +kernel
theorem dL_follows_28 : decode cL_follows 28 = .ok (.bipush 7, 2) := by decide +kernel
theorem dL_follows_30 : decode cL_follows 30 = .ok (.invokestatic 105, 3) := by decide +kernel
theorem dL_follows_33 : decode cL_follows 33 = .ok (.lstore 7, 2) := by decide +kernel
theorem dL_follows_35 : decode cL_follows 35 = .ok (.aload_n 0, 1) := by decide +kernel
theorem dL_follows_36 : decode cL_follows 36 = .ok (.iconst 1, 1) := by decide +kernel
theorem dL_follows_37 : decode cL_follows 37 = .ok (.invokestatic 189, 3) := by decide +kernel
theorem dL_follows_40 : decode cL_follows 40 = .ok (.lload 7, 2) := by decide +kernel
theorem dL_follows_42 : decode cL_follows 42 = .ok (.lcmp, 1) := by decide +kernel
theorem dL_follows_43 : decode cL_follows 43 = .ok (.ifCond .ne 7, 3) := by decide +kernel
theorem dL_follows_46 : decode cL_follows 46 = .ok (.iconst 1, 1) := by decide +kernel
theorem dL_follows_47 : decode cL_follows 47 = .ok (.goto 4, 3) := by decide +kernel
theorem dL_follows_50 : decode cL_follows 50 = .ok (.iconst 0, 1) := by decide +kernel
theorem dL_follows_51 : decode cL_follows 51 = .ok (.istore 9, 2) := by decide +kernel
theorem dL_follows_53 : decode cL_follows 53 = .ok (.aload_n 0, 1) := by decide +kernel
theorem dL_follows_54 : decode cL_follows 54 = .ok (.iconst 2, 1) := by decide +kernel
theorem dL_follows_55 : decode cL_follows 55 = .ok (.invokestatic 105, 3) := by decide +kernel
theorem dL_follows_58 : decode cL_follows 58 = .ok (.lstore 10, 2) := by decide +kernel
theorem dL_follows_60 : decode cL_follows 60 = .ok (.lconst 0, 1) := by decide +kernel
theorem dL_follows_61 : decode cL_follows 61 = .ok (.lstore 12, 2) := by decide +kernel
theorem dL_follows_63 : decode cL_follows 63 = .ok (.iconst 0, 1) := by decide +kernel
theorem dL_follows_64 : decode cL_follows 64 = .ok (.istore 14, 2) := by decide +kernel
theorem dL_follows_66 : decode cL_follows 66 = .ok (.iload 14, 2) := by decide +kernel
theorem dL_follows_68 : decode cL_follows 68 = .ok (.iload 5, 2) := by decide +kernel
theorem dL_follows_70 : decode cL_follows 70 = .ok (.if_icmp .ge 21, 3) := by decide +kernel
theorem dL_follows_73 : decode cL_follows 73 = .ok (.lload 12, 2) := by decide +kernel
theorem dL_follows_75 : decode cL_follows 75 = .ok (.aload_n 0, 1) := by decide +kernel
theorem dL_follows_76 : decode cL_follows 76 = .ok (.iload 14, 2) := by decide +kernel
theorem dL_follows_78 : decode cL_follows 78 = .ok (.iconst 3, 1) := by decide +kernel
theorem dL_follows_79 : decode cL_follows 79 = .ok (.invokestatic 126, 3) := by decide +kernel
theorem dL_follows_82 : decode cL_follows 82 = .ok (.ladd, 1) := by decide +kernel
theorem dL_follows_83 : decode cL_follows 83 = .ok (.lstore 12, 2) := by decide +kernel
theorem dL_follows_85 : decode cL_follows 85 = .ok (.iinc 14 1, 3) := by decide +kernel
theorem dL_follows_88 : decode cL_follows 88 = .ok (.goto (-22), 3) := by decide +kernel
theorem dL_follows_91 : decode cL_follows 91 = .ok (.aload_n 0, 1) := by decide +kernel
theorem dL_follows_92 : decode cL_follows 92 = .ok (.iload 6, 2) := by decide +kernel
theorem dL_follows_94 : decode cL_follows 94 = .ok (.iconst 0, 1) := by decide +kernel
theorem dL_follows_95 : decode cL_follows 95 = .ok (.invokestatic 155, 3) := by decide +kernel
theorem dL_follows_98 : decode cL_follows 98 = .ok (.lstore 14, 2) := by decide +kernel
theorem dL_follows_100 : decode cL_follows 100 = .ok (.aload_n 0, 1) := by decide +kernel
theorem dL_follows_101 : decode cL_follows 101 = .ok (.iload 6, 2) := by decide +kernel
theorem dL_follows_103 : decode cL_follows 103 = .ok (.iconst 1, 1) := by decide +kernel
theorem dL_follows_104 : decode cL_follows 104 = .ok (.invokestatic 155, 3) := by decide +kernel
theorem dL_follows_107 : decode cL_follows 107 = .ok (.aload_n 0, 1) := by decide +kernel
theorem dL_follows_108 : decode cL_follows 108 = .ok (.iload 6, 2) := by decide +kernel
theorem dL_follows_110 : decode cL_follows 110 = .ok (.iconst 2, 1) := by decide +kernel
theorem dL_follows_111 : decode cL_follows 111 = .ok (.invokestatic 155, 3) := by decide +kernel
theorem dL_follows_114 : decode cL_follows 114 = .ok (.ladd, 1) := by decide +kernel
theorem dL_follows_115 : decode cL_follows 115 = .ok (.lstore 16, 2) := by decide +kernel
theorem dL_follows_117 : decode cL_follows 117 = .ok (.aload_n 0, 1) := by decide +kernel
theorem dL_follows_118 : decode cL_follows 118 = .ok (.iload 6, 2) := by decide +kernel
theorem dL_follows_120 : decode cL_follows 120 = .ok (.iconst 3, 1) := by decide +kernel
theorem dL_follows_121 : decode cL_follows 121 = .ok (.invokestatic 155, 3) := by decide +kernel
theorem dL_follows_124 : decode cL_follows 124 = .ok (.lstore 18, 2) := by decide +kernel
theorem dL_follows_126 : decode cL_follows 126 = .ok (.aload_n 0, 1) := by decide +kernel
theorem dL_follows_127 : decode cL_follows 127 = .ok (.invokevirtual 138, 3) := by decide +kernel
theorem dL_follows_130 : decode cL_follows 130 = .ok (.istore 20, 2) := by decide +kernel
theorem dL_follows_132 : decode cL_follows 132 = .ok (.iload 5, 2) := by decide +kernel
theorem dL_follows_134 : decode cL_follows 134 = .ok (.ifCond .ne 7, 3) := by decide +kernel
theorem dL_follows_137 : decode cL_follows 137 = .ok (.iconst 0, 1) := by decide +kernel
theorem dL_follows_138 : decode cL_follows 138 = .ok (.goto 10, 3) := by decide +kernel
theorem dL_follows_141 : decode cL_follows 141 = .ok (.iload_n 1, 1) := by decide +kernel
theorem dL_follows_142 : decode cL_follows 142 = .ok (.bipush 50, 2) := by decide +kernel
theorem dL_follows_144 : decode cL_follows 144 = .ok (.idiv, 1) := by decide +kernel
theorem dL_follows_145 : decode cL_follows 145 = .ok (.iload 5, 2) := by decide +kernel
theorem dL_follows_147 : decode cL_follows 147 = .ok (.irem, 1) := by decide +kernel
theorem dL_follows_148 : decode cL_follows 148 = .ok (.istore 21, 2) := by decide +kernel
theorem dL_follows_150 : decode cL_follows 150 = .ok (.aload_n 0, 1) := by decide +kernel
theorem dL_follows_151 : decode cL_follows 151 = .ok (.iload 21, 2) := by decide +kernel
theorem dL_follows_153 : decode cL_follows 153 = .ok (.iload 6, 2) := by decide +kernel
theorem dL_follows_155 : decode cL_follows 155 = .ok (.iconst 4, 1) := by decide +kernel
theorem dL_follows_156 : decode cL_follows 156 = .ok (.invokestatic 143, 3) := by decide +kernel
theorem dL_follows_159 : decode cL_follows 159 = .ok (.lstore 22, 2) := by decide +kernel
theorem dL_follows_161 : decode cL_follows 161 = .ok (.aload_n 0, 1) := by decide +kernel
theorem dL_follows_162 : decode cL_follows 162 = .ok (.iload 21, 2) := by decide +kernel
theorem dL_follows_164 : decode cL_follows 164 = .ok (.iload 6, 2) := by decide +kernel
theorem dL_follows_166 : decode cL_follows 166 = .ok (.iconst 1, 1) := by decide +kernel
theorem dL_follows_167 : decode cL_follows 167 = .ok (.invokestatic 143, 3) := by decide +kernel
theorem dL_follows_170 : decode cL_follows 170 = .ok (.lstore 24, 2) := by decide +kernel
theorem dL_follows_172 : decode cL_follows 172 = .ok (.iload 9, 2) := by decide +kernel
theorem dL_follows_174 : decode cL_follows 174 = .ok (.ifCond .eq 142, 3) := by decide +kernel
theorem dL_follows_177 : decode cL_follows 177 = .ok (.aload_n 0, 1) := by decide +kernel
theorem dL_follows_178 : decode cL_follows 178 = .ok (.aload_n 0, 1) := by decide +kernel
theorem dL_follows_179 : decode cL_follows 179 = .ok (.invokevirtual 112, 3) := by decide +kernel
theorem dL_follows_182 : decode cL_follows 182 = .ok (.iload 6, 2) := by decide +kernel
theorem dL_follows_184 : decode cL_follows 184 = .ok (.invokestatic 170, 3) := by decide +kernel
theorem dL_follows_187 : decode cL_follows 187 = .ok (.ldc2_w 217, 3) := by decide +kernel
theorem dL_follows_190 : decode cL_follows 190 = .ok (.lload 12, 2) := by decide +kernel
theorem dL_follows_192 : decode cL_follows 192 = .ok (.lload 14, 2) := by decide +kernel
theorem dL_follows_194 : decode cL_follows 194 = .ok (.ladd, 1) := by decide +kernel
theorem dL_follows_195 : decode cL_follows 195 = .ok (.lmul, 1) := by decide +kernel
theorem dL_follows_196 : decode cL_follows 196 = .ok (.lload 10, 2) := by decide +kernel
theorem dL_follows_198 : decode cL_follows 198 = .ok (.ladd, 1) := by decide +kernel
theorem dL_follows_199 : decode cL_follows 199 = .ok (.lload 16, 2) := by decide +kernel
theorem dL_follows_201 : decode cL_follows 201 = .ok (.lsub, 1) := by decide +kernel
theorem dL_follows_202 : decode cL_follows 202 = .ok (.lload 18, 2) := by decide +kernel
theorem dL_follows_204 : decode cL_follows 204 = .ok (.ladd, 1) := by decide +kernel
theorem dL_follows_205 : decode cL_follows 205 = .ok (.lcmp, 1) := by decide +kernel
theorem dL_follows_206 : decode cL_follows 206 = .ok (.ifCond .ne 110, 3) := by decide +kernel
theorem dL_follows_209 : decode cL_follows 209 = .ok (.aload_n 0, 1) := by decide +kernel
theorem dL_follows_210 : decode cL_follows 210 = .ok (.iload 6, 2) := by decide +kernel
theorem dL_follows_212 : decode cL_follows 212 = .ok (.invokestatic 177, 3) := by decide +kernel
theorem dL_follows_215 : decode cL_follows 215 = .ok (.aload_n 0, 1) := by decide +kernel
theorem dL_follows_216 : decode cL_follows 216 = .ok (.iconst 4, 1) := by decide +kernel
theorem dL_follows_217 : decode cL_follows 217 = .ok (.invokestatic 105, 3) := by decide +kernel
theorem dL_follows_220 : decode cL_follows 220 = .ok (.lcmp, 1) := by decide +kernel
theorem dL_follows_221 : decode cL_follows 221 = .ok (.ifCond .ne 95, 3) := by decide +kernel
theorem dL_follows_224 : decode cL_follows 224 = .ok (.aload_n 0, 1) := by decide +kernel
theorem dL_follows_225 : decode cL_follows 225 = .ok (.iconst 2, 1) := by decide +kernel
theorem dL_follows_226 : decode cL_follows 226 = .ok (.invokestatic 105, 3) := by decide +kernel
theorem dL_follows_229 : decode cL_follows 229 = .ok (.lload 10, 2) := by decide +kernel
theorem dL_follows_231 : decode cL_follows 231 = .ok (.lload 16, 2) := by decide +kernel
theorem dL_follows_233 : decode cL_follows 233 = .ok (.lsub, 1) := by decide +kernel
theorem dL_follows_234 : decode cL_follows 234 = .ok (.lload 18, 2) := by decide +kernel
theorem dL_follows_236 : decode cL_follows 236 = .ok (.ladd, 1) := by decide +kernel
theorem dL_follows_237 : decode cL_follows 237 = .ok (.lcmp, 1) := by decide +kernel
theorem dL_follows_238 : decode cL_follows 238 = .ok (.ifCond .ne 78, 3) := by decide +kernel
theorem dL_follows_241 : decode cL_follows 241 = .ok (.aload_n 0, 1) := by decide +kernel
theorem dL_follows_242 : decode cL_follows 242 = .ok (.bipush 7, 2) := by decide +kernel
theorem dL_follows_244 : decode cL_follows 244 = .ok (.invokestatic 105, 3) := by decide +kernel
theorem dL_follows_247 : decode cL_follows 247 = .ok (.lload 7, 2) := by decide +kernel
theorem dL_follows_249 : decode cL_follows 249 = .ok (.iload 6, 2) := by decide +kernel
theorem dL_follows_251 : decode cL_follows 251 = .ok (.i2l, 1) := by decide +kernel
theorem dL_follows_252 : decode cL_follows 252 = .ok (.ladd, 1) := by decide +kernel
theorem dL_follows_253 : decode cL_follows 253 = .ok (.lcmp, 1) := by decide +kernel
theorem dL_follows_254 : decode cL_follows 254 = .ok (.ifCond .ne 62, 3) := by decide +kernel
theorem dL_follows_257 : decode cL_follows 257 = .ok (.aload_n 0, 1) := by decide +kernel
theorem dL_follows_258 : decode cL_follows 258 = .ok (.bipush 6, 2) := by decide +kernel
theorem dL_follows_260 : decode cL_follows 260 = .ok (.invokestatic 105, 3) := by decide +kernel
theorem dL_follows_263 : decode cL_follows 263 = .ok (.iload 6, 2) := by decide +kernel
theorem dL_follows_265 : decode cL_follows 265 = .ok (.i2l, 1) := by decide +kernel
theorem dL_follows_266 : decode cL_follows 266 = .ok (.aload_n 0, 1) := by decide +kernel
theorem dL_follows_267 : decode cL_follows 267 = .ok (.iload 6, 2) := by decide +kernel
theorem dL_follows_269 : decode cL_follows 269 = .ok (.invokestatic 219, 3) := by decide +kernel
theorem dL_follows_272 : decode cL_follows 272 = .ok (.ladd, 1) := by decide +kernel
theorem dL_follows_273 : decode cL_follows 273 = .ok (.iload 4, 2) := by decide +kernel
theorem dL_follows_275 : decode cL_follows 275 = .ok (.i2l, 1) := by decide +kernel
theorem dL_follows_276 : decode cL_follows 276 = .ok (.lrem, 1) := by decide +kernel
theorem dL_follows_277 : decode cL_follows 277 = .ok (.lcmp, 1) := by decide +kernel
theorem dL_follows_278 : decode cL_follows 278 = .ok (.ifCond .ne 38, 3) := by decide +kernel
theorem dL_follows_281 : decode cL_follows 281 = .ok (.iload 5, 2) := by decide +kernel
theorem dL_follows_283 : decode cL_follows 283 = .ok (.ifCond .eq 29, 3) := by decide +kernel
theorem dL_follows_286 : decode cL_follows 286 = .ok (.aload_n 0, 1) := by decide +kernel
theorem dL_follows_287 : decode cL_follows 287 = .ok (.iload 21, 2) := by decide +kernel
theorem dL_follows_289 : decode cL_follows 289 = .ok (.iconst 4, 1) := by decide +kernel
theorem dL_follows_290 : decode cL_follows 290 = .ok (.invokestatic 126, 3) := by decide +kernel
theorem dL_follows_293 : decode cL_follows 293 = .ok (.lload 22, 2) := by decide +kernel
theorem dL_follows_295 : decode cL_follows 295 = .ok (.lcmp, 1) := by decide +kernel
theorem dL_follows_296 : decode cL_follows 296 = .ok (.ifCond .ne 20, 3) := by decide +kernel
theorem dL_follows_299 : decode cL_follows 299 = .ok (.aload_n 0, 1) := by decide +kernel
theorem dL_follows_300 : decode cL_follows 300 = .ok (.iload 21, 2) := by decide +kernel
theorem dL_follows_302 : decode cL_follows 302 = .ok (.iconst 1, 1) := by decide +kernel
theorem dL_follows_303 : decode cL_follows 303 = .ok (.invokestatic 126, 3) := by decide +kernel
theorem dL_follows_306 : decode cL_follows 306 = .ok (.lload 24, 2) := by decide +kernel
theorem dL_follows_308 : decode cL_follows 308 = .ok (.lcmp, 1) := by decide +kernel
theorem dL_follows_309 : decode cL_follows 309 = .ok (.ifCond .ne 7, 3) := by decide +kernel
theorem dL_follows_312 : decode cL_follows 312 = .ok (.iconst 1, 1) := by decide +kernel
theorem dL_follows_313 : decode cL_follows 313 = .ok (.goto 4, 3) := by decide +kernel
theorem dL_follows_316 : decode cL_follows 316 = .ok (.iconst 0, 1) := by decide +kernel
theorem dL_follows_317 : decode cL_follows 317 = .ok (.istore 9, 2) := by decide +kernel
theorem dL_follows_319 : decode cL_follows 319 = .ok (.lconst 0, 1) := by decide +kernel
theorem dL_follows_320 : decode cL_follows 320 = .ok (.lstore 26, 2) := by decide +kernel
theorem dL_follows_322 : decode cL_follows 322 = .ok (.iconst 0, 1) := by decide +kernel
theorem dL_follows_323 : decode cL_follows 323 = .ok (.istore 28, 2) := by decide +kernel
theorem dL_follows_325 : decode cL_follows 325 = .ok (.iload 28, 2) := by decide +kernel
theorem dL_follows_327 : decode cL_follows 327 = .ok (.iload 5, 2) := by decide +kernel
theorem dL_follows_329 : decode cL_follows 329 = .ok (.if_icmp .ge 21, 3) := by decide +kernel
theorem dL_follows_332 : decode cL_follows 332 = .ok (.lload 26, 2) := by decide +kernel
theorem dL_follows_334 : decode cL_follows 334 = .ok (.aload_n 0, 1) := by decide +kernel
theorem dL_follows_335 : decode cL_follows 335 = .ok (.iload 28, 2) := by decide +kernel
theorem dL_follows_337 : decode cL_follows 337 = .ok (.iconst 3, 1) := by decide +kernel
theorem dL_follows_338 : decode cL_follows 338 = .ok (.invokestatic 126, 3) := by decide +kernel
theorem dL_follows_341 : decode cL_follows 341 = .ok (.ladd, 1) := by decide +kernel
theorem dL_follows_342 : decode cL_follows 342 = .ok (.lstore 26, 2) := by decide +kernel
theorem dL_follows_344 : decode cL_follows 344 = .ok (.iinc 28 1, 3) := by decide +kernel
theorem dL_follows_347 : decode cL_follows 347 = .ok (.goto (-22), 3) := by decide +kernel
theorem dL_follows_350 : decode cL_follows 350 = .ok (.iload 9, 2) := by decide +kernel
theorem dL_follows_352 : decode cL_follows 352 = .ok (.ifCond .eq 61, 3) := by decide +kernel
theorem dL_follows_355 : decode cL_follows 355 = .ok (.lload 26, 2) := by decide +kernel
theorem dL_follows_357 : decode cL_follows 357 = .ok (.lload 12, 2) := by decide +kernel
theorem dL_follows_359 : decode cL_follows 359 = .ok (.lload 14, 2) := by decide +kernel
theorem dL_follows_361 : decode cL_follows 361 = .ok (.ladd, 1) := by decide +kernel
theorem dL_follows_362 : decode cL_follows 362 = .ok (.lcmp, 1) := by decide +kernel
theorem dL_follows_363 : decode cL_follows 363 = .ok (.ifCond .ne 50, 3) := by decide +kernel
theorem dL_follows_366 : decode cL_follows 366 = .ok (.aload_n 0, 1) := by decide +kernel
theorem dL_follows_367 : decode cL_follows 367 = .ok (.invokestatic 222, 3) := by decide +kernel
theorem dL_follows_370 : decode cL_follows 370 = .ok (.lconst 0, 1) := by decide +kernel
theorem dL_follows_371 : decode cL_follows 371 = .ok (.lcmp, 1) := by decide +kernel
theorem dL_follows_372 : decode cL_follows 372 = .ok (.ifCond .lt 41, 3) := by decide +kernel
theorem dL_follows_375 : decode cL_follows 375 = .ok (.aload_n 0, 1) := by decide +kernel
theorem dL_follows_376 : decode cL_follows 376 = .ok (.invokestatic 131, 3) := by decide +kernel
theorem dL_follows_379 : decode cL_follows 379 = .ok (.lload_n 2, 1) := by decide +kernel
theorem dL_follows_380 : decode cL_follows 380 = .ok (.lcmp, 1) := by decide +kernel
theorem dL_follows_381 : decode cL_follows 381 = .ok (.ifCond .ne 32, 3) := by decide +kernel
theorem dL_follows_384 : decode cL_follows 384 = .ok (.lload 10, 2) := by decide +kernel
theorem dL_follows_386 : decode cL_follows 386 = .ok (.lconst 0, 1) := by decide +kernel
theorem dL_follows_387 : decode cL_follows 387 = .ok (.lcmp, 1) := by decide +kernel
theorem dL_follows_388 : decode cL_follows 388 = .ok (.ifCond .ne 7, 3) := by decide +kernel
theorem dL_follows_391 : decode cL_follows 391 = .ok (.iconst 1, 1) := by decide +kernel
theorem dL_follows_392 : decode cL_follows 392 = .ok (.goto 4, 3) := by decide +kernel
theorem dL_follows_395 : decode cL_follows 395 = .ok (.iconst 0, 1) := by decide +kernel
theorem dL_follows_396 : decode cL_follows 396 = .ok (.iload 20, 2) := by decide +kernel
theorem dL_follows_398 : decode cL_follows 398 = .ok (.ifCond .ne 7, 3) := by decide +kernel
theorem dL_follows_401 : decode cL_follows 401 = .ok (.iconst 1, 1) := by decide +kernel
theorem dL_follows_402 : decode cL_follows 402 = .ok (.goto 4, 3) := by decide +kernel
theorem dL_follows_405 : decode cL_follows 405 = .ok (.iconst 0, 1) := by decide +kernel
theorem dL_follows_406 : decode cL_follows 406 = .ok (.if_icmp .ne 7, 3) := by decide +kernel
theorem dL_follows_409 : decode cL_follows 409 = .ok (.iconst 1, 1) := by decide +kernel
theorem dL_follows_410 : decode cL_follows 410 = .ok (.goto 4, 3) := by decide +kernel
theorem dL_follows_413 : decode cL_follows 413 = .ok (.iconst 0, 1) := by decide +kernel
theorem dL_follows_414 : decode cL_follows 414 = .ok (.istore 9, 2) := by decide +kernel
theorem dL_follows_416 : decode cL_follows 416 = .ok (.iconst 0, 1) := by decide +kernel
theorem dL_follows_417 : decode cL_follows 417 = .ok (.istore 28, 2) := by decide +kernel
theorem dL_follows_419 : decode cL_follows 419 = .ok (.iconst 0, 1) := by decide +kernel
theorem dL_follows_420 : decode cL_follows 420 = .ok (.istore 29, 2) := by decide +kernel
theorem dL_follows_422 : decode cL_follows 422 = .ok (.iload 29, 2) := by decide +kernel
theorem dL_follows_424 : decode cL_follows 424 = .ok (.iload 4, 2) := by decide +kernel
theorem dL_follows_426 : decode cL_follows 426 = .ok (.if_icmp .ge 284, 3) := by decide +kernel
theorem dL_follows_429 : decode cL_follows 429 = .ok (.iload 9, 2) := by decide +kernel
theorem dL_follows_431 : decode cL_follows 431 = .ok (.ifCond .eq 279, 3) := by decide +kernel
theorem dL_follows_434 : decode cL_follows 434 = .ok (.iload 5, 2) := by decide +kernel
theorem dL_follows_436 : decode cL_follows 436 = .ok (.ifCond .le 274, 3) := by decide +kernel
theorem dL_follows_439 : decode cL_follows 439 = .ok (.aload_n 0, 1) := by decide +kernel
theorem dL_follows_440 : decode cL_follows 440 = .ok (.iload 29, 2) := by decide +kernel
theorem dL_follows_442 : decode cL_follows 442 = .ok (.invokestatic 153, 3) := by decide +kernel
theorem dL_follows_445 : decode cL_follows 445 = .ok (.ldc2_w 193, 3) := by decide +kernel
theorem dL_follows_448 : decode cL_follows 448 = .ok (.lcmp, 1) := by decide +kernel
theorem dL_follows_449 : decode cL_follows 449 = .ok (.ifCond .ne 7, 3) := by decide +kernel
theorem dL_follows_452 : decode cL_follows 452 = .ok (.iconst 1, 1) := by decide +kernel
theorem dL_follows_453 : decode cL_follows 453 = .ok (.goto 4, 3) := by decide +kernel
theorem dL_follows_456 : decode cL_follows 456 = .ok (.iconst 0, 1) := by decide +kernel
theorem dL_follows_457 : decode cL_follows 457 = .ok (.istore 30, 2) := by decide +kernel
theorem dL_follows_459 : decode cL_follows 459 = .ok (.iconst 0, 1) := by decide +kernel
theorem dL_follows_460 : decode cL_follows 460 = .ok (.istore 31, 2) := by decide +kernel
theorem dL_follows_462 : decode cL_follows 462 = .ok (.iload 31, 2) := by decide +kernel
theorem dL_follows_464 : decode cL_follows 464 = .ok (.iload 5, 2) := by decide +kernel
theorem dL_follows_466 : decode cL_follows 466 = .ok (.if_icmp .ge 95, 3) := by decide +kernel
theorem dL_follows_469 : decode cL_follows 469 = .ok (.aload_n 0, 1) := by decide +kernel
theorem dL_follows_470 : decode cL_follows 470 = .ok (.iload 31, 2) := by decide +kernel
theorem dL_follows_472 : decode cL_follows 472 = .ok (.bipush 6, 2) := by decide +kernel
theorem dL_follows_474 : decode cL_follows 474 = .ok (.invokestatic 126, 3) := by decide +kernel
theorem dL_follows_477 : decode cL_follows 477 = .ok (.iload 29, 2) := by decide +kernel
theorem dL_follows_479 : decode cL_follows 479 = .ok (.i2l, 1) := by decide +kernel
theorem dL_follows_480 : decode cL_follows 480 = .ok (.lsub, 1) := by decide +kernel
theorem dL_follows_481 : decode cL_follows 481 = .ok (.lstore 32, 2) := by decide +kernel
theorem dL_follows_483 : decode cL_follows 483 = .ok (.lload 32, 2) := by decide +kernel
theorem dL_follows_485 : decode cL_follows 485 = .ok (.lconst 0, 1) := by decide +kernel
theorem dL_follows_486 : decode cL_follows 486 = .ok (.lcmp, 1) := by decide +kernel
theorem dL_follows_487 : decode cL_follows 487 = .ok (.ifCond .ge 12, 3) := by decide +kernel
theorem dL_follows_490 : decode cL_follows 490 = .ok (.lload 32, 2) := by decide +kernel
theorem dL_follows_492 : decode cL_follows 492 = .ok (.iload 4, 2) := by decide +kernel
theorem dL_follows_494 : decode cL_follows 494 = .ok (.i2l, 1) := by decide +kernel
theorem dL_follows_495 : decode cL_follows 495 = .ok (.ladd, 1) := by decide +kernel
theorem dL_follows_496 : decode cL_follows 496 = .ok (.goto 5, 3) := by decide +kernel
theorem dL_follows_499 : decode cL_follows 499 = .ok (.lload 32, 2) := by decide +kernel
theorem dL_follows_501 : decode cL_follows 501 = .ok (.lstore 32, 2) := by decide +kernel
theorem dL_follows_503 : decode cL_follows 503 = .ok (.iload 30, 2) := by decide +kernel
theorem dL_follows_505 : decode cL_follows 505 = .ok (.ifCond .eq 47, 3) := by decide +kernel
theorem dL_follows_508 : decode cL_follows 508 = .ok (.aload_n 0, 1) := by decide +kernel
theorem dL_follows_509 : decode cL_follows 509 = .ok (.iload 31, 2) := by decide +kernel
theorem dL_follows_511 : decode cL_follows 511 = .ok (.iconst 5, 1) := by decide +kernel
theorem dL_follows_512 : decode cL_follows 512 = .ok (.invokestatic 126, 3) := by decide +kernel
theorem dL_follows_515 : decode cL_follows 515 = .ok (.lconst 0, 1) := by decide +kernel
theorem dL_follows_516 : decode cL_follows 516 = .ok (.lcmp, 1) := by decide +kernel
theorem dL_follows_517 : decode cL_follows 517 = .ok (.ifCond .ne 31, 3) := by decide +kernel
theorem dL_follows_520 : decode cL_follows 520 = .ok (.lload 32, 2) := by decide +kernel
theorem dL_follows_522 : decode cL_follows 522 = .ok (.aload_n 0, 1) := by decide +kernel
theorem dL_follows_523 : decode cL_follows 523 = .ok (.bipush 11, 2) := by decide +kernel
theorem dL_follows_525 : decode cL_follows 525 = .ok (.invokestatic 105, 3) := by decide +kernel
theorem dL_follows_528 : decode cL_follows 528 = .ok (.lcmp, 1) := by decide +kernel
theorem dL_follows_529 : decode cL_follows 529 = .ok (.ifCond .lt 23, 3) := by decide +kernel
theorem dL_follows_532 : decode cL_follows 532 = .ok (.iload 4, 2) := by decide +kernel
theorem dL_follows_534 : decode cL_follows 534 = .ok (.i2l, 1) := by decide +kernel
theorem dL_follows_535 : decode cL_follows 535 = .ok (.lload 32, 2) := by decide +kernel
theorem dL_follows_537 : decode cL_follows 537 = .ok (.lsub, 1) := by decide +kernel
theorem dL_follows_538 : decode cL_follows 538 = .ok (.aload_n 0, 1) := by decide +kernel
theorem dL_follows_539 : decode cL_follows 539 = .ok (.bipush 11, 2) := by decide +kernel
theorem dL_follows_541 : decode cL_follows 541 = .ok (.invokestatic 105, 3) := by decide +kernel
theorem dL_follows_544 : decode cL_follows 544 = .ok (.lcmp, 1) := by decide +kernel
theorem dL_follows_545 : decode cL_follows 545 = .ok (.ifCond .lt 7, 3) := by decide +kernel
theorem dL_follows_548 : decode cL_follows 548 = .ok (.iconst 1, 1) := by decide +kernel
theorem dL_follows_549 : decode cL_follows 549 = .ok (.goto 4, 3) := by decide +kernel
theorem dL_follows_552 : decode cL_follows 552 = .ok (.iconst 0, 1) := by decide +kernel
theorem dL_follows_553 : decode cL_follows 553 = .ok (.istore 30, 2) := by decide +kernel
theorem dL_follows_555 : decode cL_follows 555 = .ok (.iinc 31 1, 3) := by decide +kernel
theorem dL_follows_558 : decode cL_follows 558 = .ok (.goto (-96), 3) := by decide +kernel
theorem dL_follows_561 : decode cL_follows 561 = .ok (.iload 28, 2) := by decide +kernel
theorem dL_follows_563 : decode cL_follows 563 = .ok (.iload 30, 2) := by decide +kernel
theorem dL_follows_565 : decode cL_follows 565 = .ok (.ifCond .eq 7, 3) := by decide +kernel
theorem dL_follows_568 : decode cL_follows 568 = .ok (.iconst 1, 1) := by decide +kernel
theorem dL_follows_569 : decode cL_follows 569 = .ok (.goto 4, 3) := by decide +kernel
theorem dL_follows_572 : decode cL_follows 572 = .ok (.iconst 0, 1) := by decide +kernel
theorem dL_follows_573 : decode cL_follows 573 = .ok (.iadd, 1) := by decide +kernel
theorem dL_follows_574 : decode cL_follows 574 = .ok (.istore 28, 2) := by decide +kernel
theorem dL_follows_576 : decode cL_follows 576 = .ok (.iload 30, 2) := by decide +kernel
theorem dL_follows_578 : decode cL_follows 578 = .ok (.ifCond .eq 19, 3) := by decide +kernel
theorem dL_follows_581 : decode cL_follows 581 = .ok (.aload_n 0, 1) := by decide +kernel
theorem dL_follows_582 : decode cL_follows 582 = .ok (.iload 21, 2) := by decide +kernel
theorem dL_follows_584 : decode cL_follows 584 = .ok (.iconst 5, 1) := by decide +kernel
theorem dL_follows_585 : decode cL_follows 585 = .ok (.invokestatic 126, 3) := by decide +kernel
theorem dL_follows_588 : decode cL_follows 588 = .ok (.lconst 1, 1) := by decide +kernel
theorem dL_follows_589 : decode cL_follows 589 = .ok (.lcmp, 1) := by decide +kernel
theorem dL_follows_590 : decode cL_follows 590 = .ok (.ifCond .ne 7, 3) := by decide +kernel
theorem dL_follows_593 : decode cL_follows 593 = .ok (.iconst 1, 1) := by decide +kernel
theorem dL_follows_594 : decode cL_follows 594 = .ok (.goto 4, 3) := by decide +kernel
theorem dL_follows_597 : decode cL_follows 597 = .ok (.iconst 0, 1) := by decide +kernel
theorem dL_follows_598 : decode cL_follows 598 = .ok (.istore 31, 2) := by decide +kernel
theorem dL_follows_600 : decode cL_follows 600 = .ok (.aload_n 0, 1) := by decide +kernel
theorem dL_follows_601 : decode cL_follows 601 = .ok (.iload 21, 2) := by decide +kernel
theorem dL_follows_603 : decode cL_follows 603 = .ok (.iload 29, 2) := by decide +kernel
theorem dL_follows_605 : decode cL_follows 605 = .ok (.invokestatic 175, 3) := by decide +kernel
theorem dL_follows_608 : decode cL_follows 608 = .ok (.iload 31, 2) := by decide +kernel
theorem dL_follows_610 : decode cL_follows 610 = .ok (.ifCond .eq 10, 3) := by decide +kernel
theorem dL_follows_613 : decode cL_follows 613 = .ok (.lload 10, 2) := by decide +kernel
theorem dL_follows_615 : decode cL_follows 615 = .ok (.lconst 1, 1) := by decide +kernel
theorem dL_follows_616 : decode cL_follows 616 = .ok (.ladd, 1) := by decide +kernel
theorem dL_follows_617 : decode cL_follows 617 = .ok (.goto 6, 3) := by decide +kernel
theorem dL_follows_620 : decode cL_follows 620 = .ok (.ldc2_w 21, 3) := by decide +kernel
theorem dL_follows_623 : decode cL_follows 623 = .ok (.lcmp, 1) := by decide +kernel
theorem dL_follows_624 : decode cL_follows 624 = .ok (.ifCond .ne 77, 3) := by decide +kernel
theorem dL_follows_627 : decode cL_follows 627 = .ok (.iload 31, 2) := by decide +kernel
theorem dL_follows_629 : decode cL_follows 629 = .ok (.ifCond .eq 59, 3) := by decide +kernel
theorem dL_follows_632 : decode cL_follows 632 = .ok (.aload_n 0, 1) := by decide +kernel
theorem dL_follows_633 : decode cL_follows 633 = .ok (.iload 29, 2) := by decide +kernel
theorem dL_follows_635 : decode cL_follows 635 = .ok (.invokestatic 153, 3) := by decide +kernel
theorem dL_follows_638 : decode cL_follows 638 = .ok (.iload 21, 2) := by decide +kernel
theorem dL_follows_640 : decode cL_follows 640 = .ok (.i2l, 1) := by decide +kernel
theorem dL_follows_641 : decode cL_follows 641 = .ok (.lcmp, 1) := by decide +kernel
theorem dL_follows_642 : decode cL_follows 642 = .ok (.ifCond .ne 59, 3) := by decide +kernel
theorem dL_follows_645 : decode cL_follows 645 = .ok (.aload_n 0, 1) := by decide +kernel
theorem dL_follows_646 : decode cL_follows 646 = .ok (.iload 21, 2) := by decide +kernel
theorem dL_follows_648 : decode cL_follows 648 = .ok (.invokestatic 181, 3) := by decide +kernel
theorem dL_follows_651 : decode cL_follows 651 = .ok (.iload 29, 2) := by decide +kernel
theorem dL_follows_653 : decode cL_follows 653 = .ok (.i2l, 1) := by decide +kernel
theorem dL_follows_654 : decode cL_follows 654 = .ok (.lcmp, 1) := by decide +kernel
theorem dL_follows_655 : decode cL_follows 655 = .ok (.ifCond .ne 46, 3) := by decide +kernel
theorem dL_follows_658 : decode cL_follows 658 = .ok (.aload_n 0, 1) := by decide +kernel
theorem dL_follows_659 : decode cL_follows 659 = .ok (.iload 21, 2) := by decide +kernel
theorem dL_follows_661 : decode cL_follows 661 = .ok (.iconst 5, 1) := by decide +kernel
theorem dL_follows_662 : decode cL_follows 662 = .ok (.invokestatic 126, 3) := by decide +kernel
theorem dL_follows_665 : decode cL_follows 665 = .ok (.lconst 1, 1) := by decide +kernel
theorem dL_follows_666 : decode cL_follows 666 = .ok (.lcmp, 1) := by decide +kernel
theorem dL_follows_667 : decode cL_follows 667 = .ok (.ifCond .ne 34, 3) := by decide +kernel
theorem dL_follows_670 : decode cL_follows 670 = .ok (.aload_n 0, 1) := by decide +kernel
theorem dL_follows_671 : decode cL_follows 671 = .ok (.invokestatic 222, 3) := by decide +kernel
theorem dL_follows_674 : decode cL_follows 674 = .ok (.lconst 0, 1) := by decide +kernel
theorem dL_follows_675 : decode cL_follows 675 = .ok (.lcmp, 1) := by decide +kernel
theorem dL_follows_676 : decode cL_follows 676 = .ok (.ifCond .lt 25, 3) := by decide +kernel
theorem dL_follows_679 : decode cL_follows 679 = .ok (.aload_n 0, 1) := by decide +kernel
theorem dL_follows_680 : decode cL_follows 680 = .ok (.invokestatic 222, 3) := by decide +kernel
theorem dL_follows_683 : decode cL_follows 683 = .ok (.lconst 0, 1) := by decide +kernel
theorem dL_follows_684 : decode cL_follows 684 = .ok (.lcmp, 1) := by decide +kernel
theorem dL_follows_685 : decode cL_follows 685 = .ok (.ifCond .lt 16, 3) := by decide +kernel
theorem dL_follows_688 : decode cL_follows 688 = .ok (.aload_n 0, 1) := by decide +kernel
theorem dL_follows_689 : decode cL_follows 689 = .ok (.invokestatic 131, 3) := by decide +kernel
theorem dL_follows_692 : decode cL_follows 692 = .ok (.lload_n 2, 1) := by decide +kernel
theorem dL_follows_693 : decode cL_follows 693 = .ok (.lcmp, 1) := by decide +kernel
theorem dL_follows_694 : decode cL_follows 694 = .ok (.ifCond .ne 7, 3) := by decide +kernel
theorem dL_follows_697 : decode cL_follows 697 = .ok (.iconst 1, 1) := by decide +kernel
