theorem dL_errors_211 : decode cL_errors 211 = .ok (.if_icmp .lt 15, 3) := by decide +kernel
theorem dL_errors_214 : decode cL_errors 214 = .ok (.aload_n 0, 1) := by decide +kernel
theorem dL_errors_215 : decode cL_errors 215 = .ok (.iconst 0, 1) := by decide +kernel
theorem dL_errors_216 : decode cL_errors 216 = .ok (.invokestatic 179, 3) := by decide +kernel
theorem dL_errors_219 : decode cL_errors 219 = .ok (.ldc2_w 21, 3) := by decide +kernel
theorem dL_errors_222 : decode cL_errors 222 = .ok (.lcmp, 1) := by decide +kernel
theorem dL_errors_223 : decode cL_errors 223 = .ok (.ifCond .ne 127, 3) := by decide +kernel
theorem dL_errors_226 : decode cL_errors 226 = .ok (.aload_n 0, 1) := by decide +kernel
theorem dL_errors_227 : decode cL_errors 227 = .ok (.iload 4, 2) := by decide +kernel
theorem dL_errors_229 : decode cL_errors 229 = .ok (.iconst 0, 1) := by decide +kernel
theorem dL_errors_230 : decode cL_errors 230 = .ok (.invokestatic 175, 3) := by decide +kernel
theorem dL_errors_233 : decode cL_errors 233 = .ok (.ldc2_w 36, 3) := by decide +kernel
theorem dL_errors_236 : decode cL_errors 236 = .ok (.lcmp, 1) := by decide +kernel
theorem dL_errors_237 : decode cL_errors 237 = .ok (.ifCond .ne 113, 3) := by decide +kernel
theorem dL_errors_240 : decode cL_errors 240 = .ok (.aload_n 0, 1) := by decide +kernel
theorem dL_errors_241 : decode cL_errors 241 = .ok (.iconst (-1), 1) := by decide +kernel
theorem dL_errors_242 : decode cL_errors 242 = .ok (.invokestatic 181, 3) := by decide +kernel
theorem dL_errors_245 : decode cL_errors 245 = .ok (.ldc2_w 36, 3) := by decide +kernel
theorem dL_errors_248 : decode cL_errors 248 = .ok (.lcmp, 1) := by decide +kernel
theorem dL_errors_249 : decode cL_errors 249 = .ok (.ifCond .ne 101, 3) := by decide +kernel
theorem dL_errors_252 : decode cL_errors 252 = .ok (.aload_n 0, 1) := by decide +kernel
theorem dL_errors_253 : decode cL_errors 253 = .ok (.iload 4, 2) := by decide +kernel
theorem dL_errors_255 : decode cL_errors 255 = .ok (.invokestatic 183, 3) := by decide +kernel
theorem dL_errors_258 : decode cL_errors 258 = .ok (.ldc2_w 36, 3) := by decide +kernel
theorem dL_errors_261 : decode cL_errors 261 = .ok (.lcmp, 1) := by decide +kernel
theorem dL_errors_262 : decode cL_errors 262 = .ok (.ifCond .ne 88, 3) := by decide +kernel
theorem dL_errors_265 : decode cL_errors 265 = .ok (.aload_n 0, 1) := by decide +kernel
theorem dL_errors_266 : decode cL_errors 266 = .ok (.iconst 5, 1) := by decide +kernel
theorem dL_errors_267 : decode cL_errors 267 = .ok (.iconst 1, 1) := by decide +kernel
theorem dL_errors_268 : decode cL_errors 268 = .ok (.invokestatic 185, 3) := by decide +kernel
theorem dL_errors_271 : decode cL_errors 271 = .ok (.ldc2_w 17, 3) := by decide +kernel
theorem dL_errors_274 : decode cL_errors 274 = .ok (.lcmp, 1) := by decide +kernel
theorem dL_errors_275 : decode cL_errors 275 = .ok (.ifCond .ne 75, 3) := by decide +kernel
theorem dL_errors_278 : decode cL_errors 278 = .ok (.aload_n 0, 1) := by decide +kernel
theorem dL_errors_279 : decode cL_errors 279 = .ok (.iconst 0, 1) := by decide +kernel
theorem dL_errors_280 : decode cL_errors 280 = .ok (.bipush 100, 2) := by decide +kernel
theorem dL_errors_282 : decode cL_errors 282 = .ok (.invokestatic 185, 3) := by decide +kernel
theorem dL_errors_285 : decode cL_errors 285 = .ok (.ldc2_w 17, 3) := by decide +kernel
theorem dL_errors_288 : decode cL_errors 288 = .ok (.lcmp, 1) := by decide +kernel
theorem dL_errors_289 : decode cL_errors 289 = .ok (.ifCond .ne 61, 3) := by decide +kernel
theorem dL_errors_292 : decode cL_errors 292 = .ok (.aload_n 0, 1) := by decide +kernel
theorem dL_errors_293 : decode cL_errors 293 = .ok (.iconst 1, 1) := by decide +kernel
theorem dL_errors_294 : decode cL_errors 294 = .ok (.bipush 51, 2) := by decide +kernel
theorem dL_errors_296 : decode cL_errors 296 = .ok (.invokestatic 185, 3) := by decide +kernel
theorem dL_errors_299 : decode cL_errors 299 = .ok (.ldc2_w 17, 3) := by decide +kernel
theorem dL_errors_302 : decode cL_errors 302 = .ok (.lcmp, 1) := by decide +kernel
theorem dL_errors_303 : decode cL_errors 303 = .ok (.ifCond .ne 47, 3) := by decide +kernel
theorem dL_errors_306 : decode cL_errors 306 = .ok (.aload_n 0, 1) := by decide +kernel
theorem dL_errors_307 : decode cL_errors 307 = .ok (.iconst 2, 1) := by decide +kernel
theorem dL_errors_308 : decode cL_errors 308 = .ok (.bipush 10, 2) := by decide +kernel
theorem dL_errors_310 : decode cL_errors 310 = .ok (.invokestatic 185, 3) := by decide +kernel
theorem dL_errors_313 : decode cL_errors 313 = .ok (.ldc2_w 17, 3) := by decide +kernel
theorem dL_errors_316 : decode cL_errors 316 = .ok (.lcmp, 1) := by decide +kernel
theorem dL_errors_317 : decode cL_errors 317 = .ok (.ifCond .ne 33, 3) := by decide +kernel
theorem dL_errors_320 : decode cL_errors 320 = .ok (.aload_n 0, 1) := by decide +kernel
theorem dL_errors_321 : decode cL_errors 321 = .ok (.iconst 3, 1) := by decide +kernel
theorem dL_errors_322 : decode cL_errors 322 = .ok (.iconst 5, 1) := by decide +kernel
theorem dL_errors_323 : decode cL_errors 323 = .ok (.invokestatic 185, 3) := by decide +kernel
theorem dL_errors_326 : decode cL_errors 326 = .ok (.ldc2_w 17, 3) := by decide +kernel
theorem dL_errors_329 : decode cL_errors 329 = .ok (.lcmp, 1) := by decide +kernel
theorem dL_errors_330 : decode cL_errors 330 = .ok (.ifCond .ne 20, 3) := by decide +kernel
theorem dL_errors_333 : decode cL_errors 333 = .ok (.aload_n 0, 1) := by decide +kernel
theorem dL_errors_334 : decode cL_errors 334 = .ok (.iconst 4, 1) := by decide +kernel
theorem dL_errors_335 : decode cL_errors 335 = .ok (.iconst 0, 1) := by decide +kernel
theorem dL_errors_336 : decode cL_errors 336 = .ok (.invokestatic 185, 3) := by decide +kernel
theorem dL_errors_339 : decode cL_errors 339 = .ok (.ldc2_w 17, 3) := by decide +kernel
theorem dL_errors_342 : decode cL_errors 342 = .ok (.lcmp, 1) := by decide +kernel
theorem dL_errors_343 : decode cL_errors 343 = .ok (.ifCond .ne 7, 3) := by decide +kernel
theorem dL_errors_346 : decode cL_errors 346 = .ok (.iconst 1, 1) := by decide +kernel
theorem dL_errors_347 : decode cL_errors 347 = .ok (.goto 4, 3) := by decide +kernel
theorem dL_errors_350 : decode cL_errors 350 = .ok (.iconst 0, 1) := by decide +kernel
theorem dL_errors_351 : decode cL_errors 351 = .ok (.istore 5, 2) := by decide +kernel
theorem dL_errors_353 : decode cL_errors 353 = .ok (.iload 5, 2) := by decide +kernel
theorem dL_errors_355 : decode cL_errors 355 = .ok (.ifCond .eq 227, 3) := by decide +kernel
theorem dL_errors_358 : decode cL_errors 358 = .ok (.aload_n 0, 1) := by decide +kernel
theorem dL_errors_359 : decode cL_errors 359 = .ok (.iload 4, 2) := by decide +kernel
theorem dL_errors_361 : decode cL_errors 361 = .ok (.invokestatic 146, 3) := by decide +kernel
theorem dL_errors_364 : decode cL_errors 364 = .ok (.ldc2_w 36, 3) := by decide +kernel
theorem dL_errors_367 : decode cL_errors 367 = .ok (.lcmp, 1) := by decide +kernel
theorem dL_errors_368 : decode cL_errors 368 = .ok (.ifCond .ne 214, 3) := by decide +kernel
theorem dL_errors_371 : decode cL_errors 371 = .ok (.aload_n 0, 1) := by decide +kernel
theorem dL_errors_372 : decode cL_errors 372 = .ok (.iconst 3, 1) := by decide +kernel
theorem dL_errors_373 : decode cL_errors 373 = .ok (.invokestatic 157, 3) := by decide +kernel
theorem dL_errors_376 : decode cL_errors 376 = .ok (.ldc2_w 17, 3) := by decide +kernel
theorem dL_errors_379 : decode cL_errors 379 = .ok (.lcmp, 1) := by decide +kernel
theorem dL_errors_380 : decode cL_errors 380 = .ok (.ifCond .ne 202, 3) := by decide +kernel
theorem dL_errors_383 : decode cL_errors 383 = .ok (.aload_n 0, 1) := by decide +kernel
theorem dL_errors_384 : decode cL_errors 384 = .ok (.iconst 3, 1) := by decide +kernel
theorem dL_errors_385 : decode cL_errors 385 = .ok (.invokestatic 159, 3) := by decide +kernel
theorem dL_errors_388 : decode cL_errors 388 = .ok (.ldc2_w 17, 3) := by decide +kernel
theorem dL_errors_391 : decode cL_errors 391 = .ok (.lcmp, 1) := by decide +kernel
theorem dL_errors_392 : decode cL_errors 392 = .ok (.ifCond .ne 190, 3) := by decide +kernel
theorem dL_errors_395 : decode cL_errors 395 = .ok (.aload_n 0, 1) := by decide +kernel
theorem dL_errors_396 : decode cL_errors 396 = .ok (.iload 4, 2) := by decide +kernel
theorem dL_errors_398 : decode cL_errors 398 = .ok (.invokestatic 148, 3) := by decide +kernel
theorem dL_errors_401 : decode cL_errors 401 = .ok (.ldc2_w 36, 3) := by decide +kernel
theorem dL_errors_404 : decode cL_errors 404 = .ok (.lcmp, 1) := by decide +kernel
theorem dL_errors_405 : decode cL_errors 405 = .ok (.ifCond .ne 177, 3) := by decide +kernel
theorem dL_errors_408 : decode cL_errors 408 = .ok (.aload_n 0, 1) := by decide +kernel
theorem dL_errors_409 : decode cL_errors 409 = .ok (.iconst 0, 1) := by decide +kernel
theorem dL_errors_410 : decode cL_errors 410 = .ok (.iconst 1, 1) := by decide +kernel
theorem dL_errors_411 : decode cL_errors 411 = .ok (.invokestatic 150, 3) := by decide +kernel
theorem dL_errors_414 : decode cL_errors 414 = .ok (.ldc2_w 17, 3) := by decide +kernel
theorem dL_errors_417 : decode cL_errors 417 = .ok (.lcmp, 1) := by decide +kernel
theorem dL_errors_418 : decode cL_errors 418 = .ok (.ifCond .ne 164, 3) := by decide +kernel
theorem dL_errors_421 : decode cL_errors 421 = .ok (.aload_n 0, 1) := by decide +kernel
theorem dL_errors_422 : decode cL_errors 422 = .ok (.bipush 10, 2) := by decide +kernel
theorem dL_errors_424 : decode cL_errors 424 = .ok (.iconst 1, 1) := by decide +kernel
theorem dL_errors_425 : decode cL_errors 425 = .ok (.invokestatic 150, 3) := by decide +kernel
theorem dL_errors_428 : decode cL_errors 428 = .ok (.ldc2_w 17, 3) := by decide +kernel
theorem dL_errors_431 : decode cL_errors 431 = .ok (.lcmp, 1) := by decide +kernel
theorem dL_errors_432 : decode cL_errors 432 = .ok (.ifCond .ne 150, 3) := by decide +kernel
theorem dL_errors_435 : decode cL_errors 435 = .ok (.aload_n 0, 1) := by decide +kernel
theorem dL_errors_436 : decode cL_errors 436 = .ok (.iload 4, 2) := by decide +kernel
theorem dL_errors_438 : decode cL_errors 438 = .ok (.iconst 1, 1) := by decide +kernel
theorem dL_errors_439 : decode cL_errors 439 = .ok (.bipush 9, 2) := by decide +kernel
theorem dL_errors_441 : decode cL_errors 441 = .ok (.invokestatic 143, 3) := by decide +kernel
theorem dL_errors_444 : decode cL_errors 444 = .ok (.ldc2_w 36, 3) := by decide +kernel
theorem dL_errors_447 : decode cL_errors 447 = .ok (.lcmp, 1) := by decide +kernel
theorem dL_errors_448 : decode cL_errors 448 = .ok (.ifCond .ne 134, 3) := by decide +kernel
theorem dL_errors_451 : decode cL_errors 451 = .ok (.aload_n 0, 1) := by decide +kernel
theorem dL_errors_452 : decode cL_errors 452 = .ok (.iconst 0, 1) := by decide +kernel
theorem dL_errors_453 : decode cL_errors 453 = .ok (.iconst 0, 1) := by decide +kernel
theorem dL_errors_454 : decode cL_errors 454 = .ok (.invokestatic 155, 3) := by decide +kernel
theorem dL_errors_457 : decode cL_errors 457 = .ok (.ldc2_w 17, 3) := by decide +kernel
theorem dL_errors_460 : decode cL_errors 460 = .ok (.lcmp, 1) := by decide +kernel
theorem dL_errors_461 : decode cL_errors 461 = .ok (.ifCond .ne 121, 3) := by decide +kernel
theorem dL_errors_464 : decode cL_errors 464 = .ok (.aload_n 0, 1) := by decide +kernel
theorem dL_errors_465 : decode cL_errors 465 = .ok (.iconst 1, 1) := by decide +kernel
theorem dL_errors_466 : decode cL_errors 466 = .ok (.iconst 4, 1) := by decide +kernel
theorem dL_errors_467 : decode cL_errors 467 = .ok (.invokestatic 155, 3) := by decide +kernel
theorem dL_errors_470 : decode cL_errors 470 = .ok (.ldc2_w 17, 3) := by decide +kernel
theorem dL_errors_473 : decode cL_errors 473 = .ok (.lcmp, 1) := by decide +kernel
theorem dL_errors_474 : decode cL_errors 474 = .ok (.ifCond .ne 108, 3) := by decide +kernel
theorem dL_errors_477 : decode cL_errors 477 = .ok (.aload_n 0, 1) := by decide +kernel
theorem dL_errors_478 : decode cL_errors 478 = .ok (.bipush 100, 2) := by decide +kernel
theorem dL_errors_480 : decode cL_errors 480 = .ok (.invokestatic 141, 3) := by decide +kernel
theorem dL_errors_483 : decode cL_errors 483 = .ok (.ldc2_w 17, 3) := by decide +kernel
theorem dL_errors_486 : decode cL_errors 486 = .ok (.lcmp, 1) := by decide +kernel
theorem dL_errors_487 : decode cL_errors 487 = .ok (.ifCond .ne 95, 3) := by decide +kernel
theorem dL_errors_490 : decode cL_errors 490 = .ok (.aload_n 0, 1) := by decide +kernel
theorem dL_errors_491 : decode cL_errors 491 = .ok (.iconst 4, 1) := by decide +kernel
theorem dL_errors_492 : decode cL_errors 492 = .ok (.lconst 0, 1) := by decide +kernel
theorem dL_errors_493 : decode cL_errors 493 = .ok (.invokestatic 166, 3) := by decide +kernel
theorem dL_errors_496 : decode cL_errors 496 = .ok (.ldc2_w 17, 3) := by decide +kernel
theorem dL_errors_499 : decode cL_errors 499 = .ok (.lcmp, 1) := by decide +kernel
theorem dL_errors_500 : decode cL_errors 500 = .ok (.ifCond .ne 82, 3) := by decide +kernel
theorem dL_errors_503 : decode cL_errors 503 = .ok (.aload_n 0, 1) := by decide +kernel
theorem dL_errors_504 : decode cL_errors 504 = .ok (.iconst 1, 1) := by decide +kernel
theorem dL_errors_505 : decode cL_errors 505 = .ok (.ldc2_w 163, 3) := by decide +kernel
theorem dL_errors_508 : decode cL_errors 508 = .ok (.invokestatic 166, 3) := by decide +kernel
theorem dL_errors_511 : decode cL_errors 511 = .ok (.ldc2_w 17, 3) := by decide +kernel
theorem dL_errors_514 : decode cL_errors 514 = .ok (.lcmp, 1) := by decide +kernel
theorem dL_errors_515 : decode cL_errors 515 = .ok (.ifCond .ne 67, 3) := by decide +kernel
theorem dL_errors_518 : decode cL_errors 518 = .ok (.aload_n 0, 1) := by decide +kernel
theorem dL_errors_519 : decode cL_errors 519 = .ok (.iconst 1, 1) := by decide +kernel
theorem dL_errors_520 : decode cL_errors 520 = .ok (.ldc2_w 187, 3) := by decide +kernel
theorem dL_errors_523 : decode cL_errors 523 = .ok (.invokestatic 166, 3) := by decide +kernel
theorem dL_errors_526 : decode cL_errors 526 = .ok (.lconst 0, 1) := by decide +kernel
theorem dL_errors_527 : decode cL_errors 527 = .ok (.lcmp, 1) := by decide +kernel
theorem dL_errors_528 : decode cL_errors 528 = .ok (.ifCond .ne 54, 3) := by decide +kernel
theorem dL_errors_531 : decode cL_errors 531 = .ok (.aload_n 0, 1) := by decide +kernel
theorem dL_errors_532 : decode cL_errors 532 = .ok (.lconst 1, 1) := by decide +kernel
theorem dL_errors_533 : decode cL_errors 533 = .ok (.bipush 100, 2) := by decide +kernel
theorem dL_errors_535 : decode cL_errors 535 = .ok (.invokestatic 170, 3) := by decide +kernel
theorem dL_errors_538 : decode cL_errors 538 = .ok (.ldc2_w 17, 3) := by decide +kernel
theorem dL_errors_541 : decode cL_errors 541 = .ok (.lcmp, 1) := by decide +kernel
theorem dL_errors_542 : decode cL_errors 542 = .ok (.ifCond .ne 40, 3) := by decide +kernel
theorem dL_errors_545 : decode cL_errors 545 = .ok (.aload_n 0, 1) := by decide +kernel
theorem dL_errors_546 : decode cL_errors 546 = .ok (.iconst 2, 1) := by decide +kernel
theorem dL_errors_547 : decode cL_errors 547 = .ok (.invokestatic 189, 3) := by decide +kernel
theorem dL_errors_550 : decode cL_errors 550 = .ok (.ldc2_w 36, 3) := by decide +kernel
theorem dL_errors_553 : decode cL_errors 553 = .ok (.lcmp, 1) := by decide +kernel
theorem dL_errors_554 : decode cL_errors 554 = .ok (.ifCond .ne 28, 3) := by decide +kernel
theorem dL_errors_557 : decode cL_errors 557 = .ok (.aload_n 0, 1) := by decide +kernel
theorem dL_errors_558 : decode cL_errors 558 = .ok (.iconst (-1), 1) := by decide +kernel
theorem dL_errors_559 : decode cL_errors 559 = .ok (.invokestatic 191, 3) := by decide +kernel
theorem dL_errors_562 : decode cL_errors 562 = .ok (.ldc2_w 36, 3) := by decide +kernel
theorem dL_errors_565 : decode cL_errors 565 = .ok (.lcmp, 1) := by decide +kernel
theorem dL_errors_566 : decode cL_errors 566 = .ok (.ifCond .ne 16, 3) := by decide +kernel
theorem dL_errors_569 : decode cL_errors 569 = .ok (.aload_n 0, 1) := by decide +kernel
theorem dL_errors_570 : decode cL_errors 570 = .ok (.invokestatic 131, 3) := by decide +kernel
theorem dL_errors_573 : decode cL_errors 573 = .ok (.lload_n 1, 1) := by decide +kernel
theorem dL_errors_574 : decode cL_errors 574 = .ok (.lcmp, 1) := by decide +kernel
theorem dL_errors_575 : decode cL_errors 575 = .ok (.ifCond .ne 7, 3) := by decide +kernel
theorem dL_errors_578 : decode cL_errors 578 = .ok (.iconst 1, 1) := by decide +kernel
theorem dL_errors_579 : decode cL_errors 579 = .ok (.goto 4, 3) := by decide +kernel
theorem dL_errors_582 : decode cL_errors 582 = .ok (.iconst 0, 1) := by decide +kernel
theorem dL_errors_583 : decode cL_errors 583 = .ok (.ireturn, 1) := by decide +kernel
theorem dL_built_0 : decode cL_built 0 = .ok (.aload_n 0, 1) := by decide +kernel
theorem dL_built_1 : decode cL_built 1 = .ok (.iconst 0, 1) := by decide +kernel
theorem dL_built_2 : decode cL_built 2 = .ok (.invokestatic 105, 3) := by decide +kernel
theorem dL_built_5 : decode cL_built 5 = .ok (.l2i, 1) := by decide +kernel
theorem dL_built_6 : decode cL_built 6 = .ok (.istore_n 1, 1) := by decide +kernel
theorem dL_built_7 : decode cL_built 7 = .ok (.aload_n 0, 1) := by decide +kernel
theorem dL_built_8 : decode cL_built 8 = .ok (.invokestatic 122, 3) := by decide +kernel
theorem dL_built_11 : decode cL_built 11 = .ok (.istore_n 2, 1) := by decide +kernel
theorem dL_built_12 : decode cL_built 12 = .ok (.iconst 4, 1) := by decide +kernel
theorem dL_built_13 : decode cL_built 13 = .ok (.newarray .int, 2) := by decide +kernel
theorem dL_built_15 : decode cL_built 15 = .ok (.astore_n 3, 1) := by decide +kernel
theorem dL_built_16 : decode cL_built 16 = .ok (.lconst 0, 1) := by decide +kernel
theorem dL_built_17 : decode cL_built 17 = .ok (.lstore 4, 2) := by decide +kernel
theorem dL_built_19 : decode cL_built 19 = .ok (.ldc2_w 193, 3) := by decide +kernel
theorem dL_built_22 : decode cL_built 22 = .ok (.lstore 6, 2) := by decide +kernel
theorem dL_built_24 : decode cL_built 24 = .ok (.iconst 0, 1) := by decide +kernel
theorem dL_built_25 : decode cL_built 25 = .ok (.istore 8, 2) := by decide +kernel
theorem dL_built_27 : decode cL_built 27 = .ok (.iconst 1, 1) := by decide +kernel
theorem dL_built_28 : decode cL_built 28 = .ok (.istore 9, 2) := by decide +kernel
theorem dL_built_30 : decode cL_built 30 = .ok (.iconst 0, 1) := by decide +kernel
theorem dL_built_31 : decode cL_built 31 = .ok (.istore 10, 2) := by decide +kernel
theorem dL_built_33 : decode cL_built 33 = .ok (.iload 10, 2) := by decide +kernel
theorem dL_built_35 : decode cL_built 35 = .ok (.iload_n 2, 1) := by decide +kernel
theorem dL_built_36 : decode cL_built 36 = .ok (.if_icmp .ge 642, 3) := by decide +kernel
theorem dL_built_39 : decode cL_built 39 = .ok (.iload 9, 2) := by decide +kernel
theorem dL_built_41 : decode cL_built 41 = .ok (.ifCond .eq 637, 3) := by decide +kernel
theorem dL_built_44 : decode cL_built 44 = .ok (.aload_n 0, 1) := by decide +kernel
theorem dL_built_45 : decode cL_built 45 = .ok (.iload 10, 2) := by decide +kernel
theorem dL_built_47 : decode cL_built 47 = .ok (.iconst 5, 1) := by decide +kernel
theorem dL_built_48 : decode cL_built 48 = .ok (.invokestatic 126, 3) := by decide +kernel
theorem dL_built_51 : decode cL_built 51 = .ok (.l2i, 1) := by decide +kernel
theorem dL_built_52 : decode cL_built 52 = .ok (.istore 11, 2) := by decide +kernel
theorem dL_built_54 : decode cL_built 54 = .ok (.aload_n 0, 1) := by decide +kernel
theorem dL_built_55 : decode cL_built 55 = .ok (.iload 10, 2) := by decide +kernel
theorem dL_built_57 : decode cL_built 57 = .ok (.bipush 6, 2) := by decide +kernel
theorem dL_built_59 : decode cL_built 59 = .ok (.invokestatic 126, 3) := by decide +kernel
theorem dL_built_62 : decode cL_built 62 = .ok (.lstore 12, 2) := by decide +kernel
theorem dL_built_64 : decode cL_built 64 = .ok (.iload 11, 2) := by decide +kernel
theorem dL_built_66 : decode cL_built 66 = .ok (.i2l, 1) := by decide +kernel
theorem dL_built_67 : decode cL_built 67 = .ok (.lconst 0, 1) := by decide +kernel
theorem dL_built_68 : decode cL_built 68 = .ok (.ldc2_w 195, 3) := by decide +kernel
theorem dL_built_71 : decode cL_built 71 = .ok (.invokestatic 197, 3) := by decide +kernel
theorem dL_built_74 : decode cL_built 74 = .ok (.ifCond .eq 189, 3) := by decide +kernel
theorem dL_built_77 : decode cL_built 77 = .ok (.aload_n 0, 1) := by decide +kernel
theorem dL_built_78 : decode cL_built 78 = .ok (.iload 10, 2) := by decide +kernel
theorem dL_built_80 : decode cL_built 80 = .ok (.iconst 0, 1) := by decide +kernel
theorem dL_built_81 : decode cL_built 81 = .ok (.invokestatic 126, 3) := by decide +kernel
theorem dL_built_84 : decode cL_built 84 = .ok (.lconst 0, 1) := by decide +kernel
theorem dL_built_85 : decode cL_built 85 = .ok (.ldc2_w 195, 3) := by decide +kernel
theorem dL_built_88 : decode cL_built 88 = .ok (.invokestatic 197, 3) := by decide +kernel
theorem dL_built_91 : decode cL_built 91 = .ok (.ifCond .eq 172, 3) := by decide +kernel
theorem dL_built_94 : decode cL_built 94 = .ok (.aload_n 0, 1) := by decide +kernel
theorem dL_built_95 : decode cL_built 95 = .ok (.iload 10, 2) := by decide +kernel
theorem dL_built_97 : decode cL_built 97 = .ok (.iconst 1, 1) := by decide +kernel
theorem dL_built_98 : decode cL_built 98 = .ok (.invokestatic 126, 3) := by decide +kernel
theorem dL_built_101 : decode cL_built 101 = .ok (.lconst 0, 1) := by decide +kernel
theorem dL_built_102 : decode cL_built 102 = .ok (.lcmp, 1) := by decide +kernel
theorem dL_built_103 : decode cL_built 103 = .ok (.ifCond .lt 160, 3) := by decide +kernel
theorem dL_built_106 : decode cL_built 106 = .ok (.aload_n 0, 1) := by decide +kernel
theorem dL_built_107 : decode cL_built 107 = .ok (.iload 10, 2) := by decide +kernel
theorem dL_built_109 : decode cL_built 109 = .ok (.iconst 2, 1) := by decide +kernel
theorem dL_built_110 : decode cL_built 110 = .ok (.invokestatic 126, 3) := by decide +kernel
theorem dL_built_113 : decode cL_built 113 = .ok (.aload_n 0, 1) := by decide +kernel
theorem dL_built_114 : decode cL_built 114 = .ok (.iload 10, 2) := by decide +kernel
theorem dL_built_116 : decode cL_built 116 = .ok (.iconst 1, 1) := by decide +kernel
theorem dL_built_117 : decode cL_built 117 = .ok (.invokestatic 126, 3) := by decide +kernel
theorem dL_built_120 : decode cL_built 120 = .ok (.lconst 1, 1) := by decide +kernel
theorem dL_built_121 : decode cL_built 121 = .ok (.aload_n 0, 1) := by decide +kernel
theorem dL_built_122 : decode cL_built 122 = .ok (.iload 10, 2) := by decide +kernel
theorem dL_built_124 : decode cL_built 124 = .ok (.iconst 0, 1) := by decide +kernel
theorem dL_built_125 : decode cL_built 125 = .ok (.invokestatic 126, 3) := by decide +kernel
theorem dL_built_128 : decode cL_built 128 = .ok (.ladd, 1) := by decide +kernel
theorem dL_built_129 : decode cL_built 129 = .ok (.lmul, 1) := by decide +kernel
theorem dL_built_130 : decode cL_built 130 = .ok (.lcmp, 1) := by decide +kernel
theorem dL_built_131 : decode cL_built 131 = .ok (.ifCond .ne 132, 3) := by decide +kernel
theorem dL_built_134 : decode cL_built 134 = .ok (.aload_n 0, 1) := by decide +kernel
theorem dL_built_135 : decode cL_built 135 = .ok (.iload 10, 2) := by decide +kernel
theorem dL_built_137 : decode cL_built 137 = .ok (.iconst 3, 1) := by decide +kernel
theorem dL_built_138 : decode cL_built 138 = .ok (.invokestatic 126, 3) := by decide +kernel
theorem dL_built_141 : decode cL_built 141 = .ok (.lconst 0, 1) := by decide +kernel
theorem dL_built_142 : decode cL_built 142 = .ok (.lcmp, 1) := by decide +kernel
theorem dL_built_143 : decode cL_built 143 = .ok (.ifCond .ne 7, 3) := by decide +kernel
theorem dL_built_146 : decode cL_built 146 = .ok (.iconst 1, 1) := by decide +kernel
theorem dL_built_147 : decode cL_built 147 = .ok (.goto 4, 3) := by decide +kernel
theorem dL_built_150 : decode cL_built 150 = .ok (.iconst 0, 1) := by decide +kernel
theorem dL_built_151 : decode cL_built 151 = .ok (.aload_n 0, 1) := by decide +kernel
theorem dL_built_152 : decode cL_built 152 = .ok (.iload 10, 2) := by decide +kernel
theorem dL_built_154 : decode cL_built 154 = .ok (.iconst 4, 1) := by decide +kernel
theorem dL_built_155 : decode cL_built 155 = .ok (.invokestatic 126, 3) := by decide +kernel
theorem dL_built_158 : decode cL_built 158 = .ok (.ldc2_w 193, 3) := by decide +kernel
theorem dL_built_161 : decode cL_built 161 = .ok (.lcmp, 1) := by decide +kernel
theorem dL_built_162 : decode cL_built 162 = .ok (.ifCond .ne 7, 3) := by decide +kernel
theorem dL_built_165 : decode cL_built 165 = .ok (.iconst 1, 1) := by decide +kernel
theorem dL_built_166 : decode cL_built 166 = .ok (.goto 4, 3) := by decide +kernel
theorem dL_built_169 : decode cL_built 169 = .ok (.iconst 0, 1) := by decide +kernel
theorem dL_built_170 : decode cL_built 170 = .ok (.if_icmp .ne 93, 3) := by decide +kernel
theorem dL_built_173 : decode cL_built 173 = .ok (.iload 11, 2) := by decide +kernel
theorem dL_built_175 : decode cL_built 175 = .ok (.ifCond .ne 33, 3) := by decide +kernel
theorem dL_built_178 : decode cL_built 178 = .ok (.lload 12, 2) := by decide +kernel
theorem dL_built_180 : decode cL_built 180 = .ok (.lconst 0, 1) := by decide +kernel
theorem dL_built_181 : decode cL_built 181 = .ok (.iload_n 1, 1) := by decide +kernel
theorem dL_built_182 : decode cL_built 182 = .ok (.iconst 1, 1) := by decide +kernel
theorem dL_built_183 : decode cL_built 183 = .ok (.isub, 1) := by decide +kernel
theorem dL_built_184 : decode cL_built 184 = .ok (.i2l, 1) := by decide +kernel
theorem dL_built_185 : decode cL_built 185 = .ok (.invokestatic 197, 3) := by decide +kernel
theorem dL_built_188 : decode cL_built 188 = .ok (.ifCond .eq 75, 3) := by decide +kernel
theorem dL_built_191 : decode cL_built 191 = .ok (.aload_n 0, 1) := by decide +kernel
theorem dL_built_192 : decode cL_built 192 = .ok (.lload 12, 2) := by decide +kernel
theorem dL_built_194 : decode cL_built 194 = .ok (.l2i, 1) := by decide +kernel
theorem dL_built_195 : decode cL_built 195 = .ok (.invokestatic 153, 3) := by decide +kernel
theorem dL_built_198 : decode cL_built 198 = .ok (.iload 10, 2) := by decide +kernel
theorem dL_built_200 : decode cL_built 200 = .ok (.i2l, 1) := by decide +kernel
theorem dL_built_201 : decode cL_built 201 = .ok (.lcmp, 1) := by decide +kernel
theorem dL_built_202 : decode cL_built 202 = .ok (.ifCond .ne 61, 3) := by decide +kernel
theorem dL_built_205 : decode cL_built 205 = .ok (.goto 12, 3) := by decide +kernel
theorem dL_built_208 : decode cL_built 208 = .ok (.lload 12, 2) := by decide +kernel
theorem dL_built_210 : decode cL_built 210 = .ok (.ldc2_w 193, 3) := by decide +kernel
theorem dL_built_213 : decode cL_built 213 = .ok (.lcmp, 1) := by decide +kernel
theorem dL_built_214 : decode cL_built 214 = .ok (.ifCond .ne 49, 3) := by decide +kernel
theorem dL_built_217 : decode cL_built 217 = .ok (.iload 11, 2) := by decide +kernel
theorem dL_built_219 : decode cL_built 219 = .ok (.iconst 2, 1) := by decide +kernel
theorem dL_built_220 : decode cL_built 220 = .ok (.if_icmp .ne 24, 3) := by decide +kernel
theorem dL_built_223 : decode cL_built 223 = .ok (.aload_n 0, 1) := by decide +kernel
theorem dL_built_224 : decode cL_built 224 = .ok (.iload 10, 2) := by decide +kernel
theorem dL_built_226 : decode cL_built 226 = .ok (.bipush 7, 2) := by decide +kernel
theorem dL_built_228 : decode cL_built 228 = .ok (.invokestatic 126, 3) := by decide +kernel
theorem dL_built_231 : decode cL_built 231 = .ok (.lconst 1, 1) := by decide +kernel
theorem dL_built_232 : decode cL_built 232 = .ok (.ldc2_w 201, 3) := by decide +kernel
theorem dL_built_235 : decode cL_built 235 = .ok (.invokestatic 197, 3) := by decide +kernel
theorem dL_built_238 : decode cL_built 238 = .ok (.ifCond .eq 25, 3) := by decide +kernel
theorem dL_built_241 : decode cL_built 241 = .ok (.goto 18, 3) := by decide +kernel
theorem dL_built_244 : decode cL_built 244 = .ok (.aload_n 0, 1) := by decide +kernel
theorem dL_built_245 : decode cL_built 245 = .ok (.iload 10, 2) := by decide +kernel
theorem dL_built_247 : decode cL_built 247 = .ok (.bipush 7, 2) := by decide +kernel
theorem dL_built_249 : decode cL_built 249 = .ok (.invokestatic 126, 3) := by decide +kernel
theorem dL_built_252 : decode cL_built 252 = .ok (.ldc2_w 193, 3) := by decide +kernel
theorem dL_built_255 : decode cL_built 255 = .ok (.lcmp, 1) := by decide +kernel
theorem dL_built_256 : decode cL_built 256 = .ok (.ifCond .ne 7, 3) := by decide +kernel
theorem dL_built_259 : decode cL_built 259 = .ok (.iconst 1, 1) := by decide +kernel
theorem dL_built_260 : decode cL_built 260 = .ok (.goto 4, 3) := by decide +kernel
theorem dL_built_263 : decode cL_built 263 = .ok (.iconst 0, 1) := by decide +kernel
theorem dL_built_264 : decode cL_built 264 = .ok (.istore 9, 2) := by decide +kernel
theorem dL_built_266 : decode cL_built 266 = .ok (.iload 9, 2) := by decide +kernel
theorem dL_built_268 : decode cL_built 268 = .ok (.ifCond .ne 5, 3) := by decide +kernel
theorem dL_built_271 : decode cL_built 271 = .ok (.iconst 0, 1) := by decide +kernel
theorem dL_built_272 : decode cL_built 272 = .ok (.ireturn, 1) := by decide +kernel
theorem dL_built_273 : decode cL_built 273 = .ok (.aload_n 3, 1) := by decide +kernel
theorem dL_built_274 : decode cL_built 274 = .ok (.iload 11, 2) := by decide +kernel
theorem dL_built_276 : decode cL_built 276 = .ok (.dup2, 1) := by decide +kernel
theorem dL_built_277 : decode cL_built 277 = .ok (.iaload, 1) := by decide +kernel
theorem dL_built_278 : decode cL_built 278 = .ok (.iconst 1, 1) := by decide +kernel
theorem dL_built_279 : decode cL_built 279 = .ok (.iadd, 1) := by decide +kernel
theorem dL_built_280 : decode cL_built 280 = .ok (.iastore, 1) := by decide +kernel
theorem dL_built_281 : decode cL_built 281 = .ok (.aload_n 0, 1) := by decide +kernel
theorem dL_built_282 : decode cL_built 282 = .ok (.iload 10, 2) := by decide +kernel
theorem dL_built_284 : decode cL_built 284 = .ok (.invokestatic 146, 3) := by decide +kernel
theorem dL_built_287 : decode cL_built 287 = .ok (.lstore 14, 2) := by decide +kernel
theorem dL_built_289 : decode cL_built 289 = .ok (.lload 14, 2) := by decide +kernel
theorem dL_built_291 : decode cL_built 291 = .ok (.ldc2_w 193, 3) := by decide +kernel
theorem dL_built_294 : decode cL_built 294 = .ok (.lcmp, 1) := by decide +kernel
theorem dL_built_295 : decode cL_built 295 = .ok (.ifCond .ne 7, 3) := by decide +kernel
theorem dL_built_298 : decode cL_built 298 = .ok (.iconst 1, 1) := by decide +kernel
theorem dL_built_299 : decode cL_built 299 = .ok (.goto 4, 3) := by decide +kernel
theorem dL_built_302 : decode cL_built 302 = .ok (.iconst 0, 1) := by decide +kernel
theorem dL_built_303 : decode cL_built 303 = .ok (.iload 11, 2) := by decide +kernel
theorem dL_built_305 : decode cL_built 305 = .ok (.ifCond .eq 7, 3) := by decide +kernel
theorem dL_built_308 : decode cL_built 308 = .ok (.iconst 1, 1) := by decide +kernel
theorem dL_built_309 : decode cL_built 309 = .ok (.goto 4, 3) := by decide +kernel
theorem dL_built_312 : decode cL_built 312 = .ok (.iconst 0, 1) := by decide +kernel
theorem dL_built_313 : decode cL_built 313 = .ok (.if_icmp .ne 38, 3) := by decide +kernel
theorem dL_built_316 : decode cL_built 316 = .ok (.aload_n 0, 1) := by decide +kernel
theorem dL_built_317 : decode cL_built 317 = .ok (.iload 10, 2) := by decide +kernel
theorem dL_built_319 : decode cL_built 319 = .ok (.invokestatic 148, 3) := by decide +kernel
theorem dL_built_322 : decode cL_built 322 = .ok (.ldc2_w 193, 3) := by decide +kernel
theorem dL_built_325 : decode cL_built 325 = .ok (.lcmp, 1) := by decide +kernel
theorem dL_built_326 : decode cL_built 326 = .ok (.ifCond .ne 7, 3) := by decide +kernel
theorem dL_built_329 : decode cL_built 329 = .ok (.iconst 1, 1) := by decide +kernel
theorem dL_built_330 : decode cL_built 330 = .ok (.goto 4, 3) := by decide +kernel
theorem dL_built_333 : decode cL_built 333 = .ok (.iconst 0, 1) := by decide +kernel
theorem dL_built_334 : decode cL_built 334 = .ok (.iload 11, 2) := by decide +kernel
theorem dL_built_336 : decode cL_built 336 = .ok (.ifCond .eq 7, 3) := by decide +kernel
theorem dL_built_339 : decode cL_built 339 = .ok (.iconst 1, 1) := by decide +kernel
theorem dL_built_340 : decode cL_built 340 = .ok (.goto 4, 3) := by decide +kernel
theorem dL_built_343 : decode cL_built 343 = .ok (.iconst 0, 1) := by decide +kernel
theorem dL_built_344 : decode cL_built 344 = .ok (.if_icmp .ne 7, 3) := by decide +kernel
theorem dL_built_347 : decode cL_built 347 = .ok (.iconst 1, 1) := by decide +kernel
theorem dL_built_348 : decode cL_built 348 = .ok (.goto 4, 3) := by decide +kernel
theorem dL_built_351 : decode cL_built 351 = .ok (.iconst 0, 1) := by decide +kernel
theorem dL_built_352 : decode cL_built 352 = .ok (.istore 9, 2) := by decide +kernel
theorem dL_built_354 : decode cL_built 354 = .ok (.iload 11, 2) := by decide +kernel
theorem dL_built_356 : decode cL_built 356 = .ok (.ifCond .ne 111, 3) := by decide +kernel
theorem dL_built_359 : decode cL_built 359 = .ok (.iload 9, 2) := by decide +kernel
theorem dL_built_361 : decode cL_built 361 = .ok (.ifCond .eq 106, 3) := by decide +kernel
