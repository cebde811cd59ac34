theorem dL_does_339 : decode cL_does 339 = .ok (.ireturn, 1) := by decide +kernel
theorem dL_does_340 : decode cL_does 340 = .ok (.aload_n 3, 1) := by decide +kernel
theorem dL_does_341 : decode cL_does 341 = .ok (.iload 9, 2) := by decide +kernel
theorem dL_does_343 : decode cL_does 343 = .ok (.iload 10, 2) := by decide +kernel
theorem dL_does_345 : decode cL_does 345 = .ok (.invokestatic 235, 3) := by decide +kernel
theorem dL_does_348 : decode cL_does 348 = .ok (.ireturn, 1) := by decide +kernel
theorem dL_does_349 : decode cL_does 349 = .ok (.aload_n 3, 1) := by decide +kernel
theorem dL_does_350 : decode cL_does 350 = .ok (.iload 9, 2) := by decide +kernel
theorem dL_does_352 : decode cL_does 352 = .ok (.invokestatic 237, 3) := by decide +kernel
theorem dL_does_355 : decode cL_does 355 = .ok (.ireturn, 1) := by decide +kernel
theorem dL_does_356 : decode cL_does 356 = .ok (.aload_n 3, 1) := by decide +kernel
theorem dL_does_357 : decode cL_does 357 = .ok (.iload 9, 2) := by decide +kernel
theorem dL_does_359 : decode cL_does 359 = .ok (.iload 6, 2) := by decide +kernel
theorem dL_does_361 : decode cL_does 361 = .ok (.bipush 11, 2) := by decide +kernel
theorem dL_does_363 : decode cL_does 363 = .ok (.irem, 1) := by decide +kernel
theorem dL_does_364 : decode cL_does 364 = .ok (.invokestatic 239, 3) := by decide +kernel
theorem dL_does_367 : decode cL_does 367 = .ok (.ireturn, 1) := by decide +kernel
theorem dL_does_368 : decode cL_does 368 = .ok (.aload_n 3, 1) := by decide +kernel
theorem dL_does_369 : decode cL_does 369 = .ok (.iload 4, 2) := by decide +kernel
theorem dL_does_371 : decode cL_does 371 = .ok (.iload 9, 2) := by decide +kernel
theorem dL_does_373 : decode cL_does 373 = .ok (.invokestatic 241, 3) := by decide +kernel
theorem dL_does_376 : decode cL_does 376 = .ok (.ireturn, 1) := by decide +kernel
theorem dL_does_377 : decode cL_does 377 = .ok (.aload_n 3, 1) := by decide +kernel
theorem dL_does_378 : decode cL_does 378 = .ok (.iload 4, 2) := by decide +kernel
theorem dL_does_380 : decode cL_does 380 = .ok (.invokestatic 243, 3) := by decide +kernel
theorem dL_does_383 : decode cL_does 383 = .ok (.ireturn, 1) := by decide +kernel
theorem dL_does_384 : decode cL_does 384 = .ok (.aload_n 3, 1) := by decide +kernel
theorem dL_does_385 : decode cL_does 385 = .ok (.iload 4, 2) := by decide +kernel
theorem dL_does_387 : decode cL_does 387 = .ok (.iload 9, 2) := by decide +kernel
theorem dL_does_389 : decode cL_does 389 = .ok (.invokestatic 245, 3) := by decide +kernel
theorem dL_does_392 : decode cL_does 392 = .ok (.ireturn, 1) := by decide +kernel
theorem dL_does_393 : decode cL_does 393 = .ok (.aload_n 3, 1) := by decide +kernel
theorem dL_does_394 : decode cL_does 394 = .ok (.iload 4, 2) := by decide +kernel
theorem dL_does_396 : decode cL_does 396 = .ok (.invokestatic 247, 3) := by decide +kernel
theorem dL_does_399 : decode cL_does 399 = .ok (.ireturn, 1) := by decide +kernel
theorem dL_does_400 : decode cL_does 400 = .ok (.aload_n 3, 1) := by decide +kernel
theorem dL_does_401 : decode cL_does 401 = .ok (.iload 9, 2) := by decide +kernel
theorem dL_does_403 : decode cL_does 403 = .ok (.invokestatic 249, 3) := by decide +kernel
theorem dL_does_406 : decode cL_does 406 = .ok (.ireturn, 1) := by decide +kernel
theorem dL_does_407 : decode cL_does 407 = .ok (.aload_n 3, 1) := by decide +kernel
theorem dL_does_408 : decode cL_does 408 = .ok (.iload 4, 2) := by decide +kernel
theorem dL_does_410 : decode cL_does 410 = .ok (.invokestatic 251, 3) := by decide +kernel
theorem dL_does_413 : decode cL_does 413 = .ok (.ireturn, 1) := by decide +kernel
theorem dL_does_414 : decode cL_does 414 = .ok (.aload_n 3, 1) := by decide +kernel
theorem dL_does_415 : decode cL_does 415 = .ok (.iload 5, 2) := by decide +kernel
theorem dL_does_417 : decode cL_does 417 = .ok (.invokestatic 253, 3) := by decide +kernel
theorem dL_does_420 : decode cL_does 420 = .ok (.ireturn, 1) := by decide +kernel
theorem dL_does_421 : decode cL_does 421 = .ok (.aload_n 3, 1) := by decide +kernel
theorem dL_does_422 : decode cL_does 422 = .ok (.new 255, 3) := by decide +kernel
theorem dL_does_425 : decode cL_does 425 = .ok (.dup, 1) := by decide +kernel
theorem dL_does_426 : decode cL_does 426 = .ok (.invokespecial 257, 3) := by decide +kernel
theorem dL_does_429 : decode cL_does 429 = .ok (.ldc_w 258, 3) := by decide +kernel
theorem dL_does_432 : decode cL_does 432 = .ok (.invokevirtual 260, 3) := by decide +kernel
theorem dL_does_435 : decode cL_does 435 = .ok (.iconst 1, 1) := by decide +kernel
theorem dL_does_436 : decode cL_does 436 = .ok (.iload 6, 2) := by decide +kernel
theorem dL_does_438 : decode cL_does 438 = .ok (.iconst 4, 1) := by decide +kernel
theorem dL_does_439 : decode cL_does 439 = .ok (.irem, 1) := by decide +kernel
theorem dL_does_440 : decode cL_does 440 = .ok (.iadd, 1) := by decide +kernel
theorem dL_does_441 : decode cL_does 441 = .ok (.invokevirtual 264, 3) := by decide +kernel
theorem dL_does_444 : decode cL_does 444 = .ok (.iload 6, 2) := by decide +kernel
theorem dL_does_446 : decode cL_does 446 = .ok (.iconst 4, 1) := by decide +kernel
theorem dL_does_447 : decode cL_does 447 = .ok (.irem, 1) := by decide +kernel
theorem dL_does_448 : decode cL_does 448 = .ok (.ifCond .ne 38, 3) := by decide +kernel
theorem dL_does_451 : decode cL_does 451 = .ok (.new 255, 3) := by decide +kernel
theorem dL_does_454 : decode cL_does 454 = .ok (.dup, 1) := by decide +kernel
theorem dL_does_455 : decode cL_does 455 = .ok (.invokespecial 257, 3) := by decide +kernel
theorem dL_does_458 : decode cL_does 458 = .ok (.ldc_w 267, 3) := by decide +kernel
theorem dL_does_461 : decode cL_does 461 = .ok (.invokevirtual 260, 3) := by decide +kernel
theorem dL_does_464 : decode cL_does 464 = .ok (.iload 4, 2) := by decide +kernel
theorem dL_does_466 : decode cL_does 466 = .ok (.invokevirtual 264, 3) := by decide +kernel
theorem dL_does_469 : decode cL_does 469 = .ok (.ldc_w 269, 3) := by decide +kernel
theorem dL_does_472 : decode cL_does 472 = .ok (.invokevirtual 260, 3) := by decide +kernel
theorem dL_does_475 : decode cL_does 475 = .ok (.iload 9, 2) := by decide +kernel
theorem dL_does_477 : decode cL_does 477 = .ok (.invokevirtual 264, 3) := by decide +kernel
theorem dL_does_480 : decode cL_does 480 = .ok (.invokevirtual 271, 3) := by decide +kernel
theorem dL_does_483 : decode cL_does 483 = .ok (.goto 81, 3) := by decide +kernel
theorem dL_does_486 : decode cL_does 486 = .ok (.iload 6, 2) := by decide +kernel
theorem dL_does_488 : decode cL_does 488 = .ok (.iconst 4, 1) := by decide +kernel
theorem dL_does_489 : decode cL_does 489 = .ok (.irem, 1) := by decide +kernel
theorem dL_does_490 : decode cL_does 490 = .ok (.iconst 1, 1) := by decide +kernel
theorem dL_does_491 : decode cL_does 491 = .ok (.if_icmp .ne 27, 3) := by decide +kernel
theorem dL_does_494 : decode cL_does 494 = .ok (.new 255, 3) := by decide +kernel
theorem dL_does_497 : decode cL_does 497 = .ok (.dup, 1) := by decide +kernel
theorem dL_does_498 : decode cL_does 498 = .ok (.invokespecial 257, 3) := by decide +kernel
theorem dL_does_501 : decode cL_does 501 = .ok (.ldc_w 275, 3) := by decide +kernel
theorem dL_does_504 : decode cL_does 504 = .ok (.invokevirtual 260, 3) := by decide +kernel
theorem dL_does_507 : decode cL_does 507 = .ok (.iload 9, 2) := by decide +kernel
theorem dL_does_509 : decode cL_does 509 = .ok (.invokevirtual 264, 3) := by decide +kernel
theorem dL_does_512 : decode cL_does 512 = .ok (.invokevirtual 271, 3) := by decide +kernel
theorem dL_does_515 : decode cL_does 515 = .ok (.goto 49, 3) := by decide +kernel
theorem dL_does_518 : decode cL_does 518 = .ok (.iload 6, 2) := by decide +kernel
theorem dL_does_520 : decode cL_does 520 = .ok (.iconst 4, 1) := by decide +kernel
theorem dL_does_521 : decode cL_does 521 = .ok (.irem, 1) := by decide +kernel
theorem dL_does_522 : decode cL_does 522 = .ok (.iconst 2, 1) := by decide +kernel
theorem dL_does_523 : decode cL_does 523 = .ok (.if_icmp .ne 38, 3) := by decide +kernel
theorem dL_does_526 : decode cL_does 526 = .ok (.new 255, 3) := by decide +kernel
theorem dL_does_529 : decode cL_does 529 = .ok (.dup, 1) := by decide +kernel
theorem dL_does_530 : decode cL_does 530 = .ok (.invokespecial 257, 3) := by decide +kernel
theorem dL_does_533 : decode cL_does 533 = .ok (.ldc_w 277, 3) := by decide +kernel
theorem dL_does_536 : decode cL_does 536 = .ok (.invokevirtual 260, 3) := by decide +kernel
theorem dL_does_539 : decode cL_does 539 = .ok (.iload 4, 2) := by decide +kernel
theorem dL_does_541 : decode cL_does 541 = .ok (.invokevirtual 264, 3) := by decide +kernel
theorem dL_does_544 : decode cL_does 544 = .ok (.ldc_w 279, 3) := by decide +kernel
theorem dL_does_547 : decode cL_does 547 = .ok (.invokevirtual 260, 3) := by decide +kernel
theorem dL_does_550 : decode cL_does 550 = .ok (.iload 9, 2) := by decide +kernel
theorem dL_does_552 : decode cL_does 552 = .ok (.invokevirtual 264, 3) := by decide +kernel
theorem dL_does_555 : decode cL_does 555 = .ok (.invokevirtual 271, 3) := by decide +kernel
theorem dL_does_558 : decode cL_does 558 = .ok (.goto 6, 3) := by decide +kernel
theorem dL_does_561 : decode cL_does 561 = .ok (.ldc_w 281, 3) := by decide +kernel
theorem dL_does_564 : decode cL_does 564 = .ok (.invokevirtual 260, 3) := by decide +kernel
theorem dL_does_567 : decode cL_does 567 = .ok (.invokevirtual 271, 3) := by decide +kernel
theorem dL_does_570 : decode cL_does 570 = .ok (.invokestatic 283, 3) := by decide +kernel
theorem dL_does_573 : decode cL_does 573 = .ok (.ireturn, 1) := by decide +kernel
theorem dL_sum_0 : decode cL_sum 0 = .ok (.ldc2_w 287, 3) := by decide +kernel
theorem dL_sum_3 : decode cL_sum 3 = .ok (.aload_n 0, 1) := by decide +kernel
theorem dL_sum_4 : decode cL_sum 4 = .ok (.invokevirtual 208, 3) := by decide +kernel
theorem dL_sum_7 : decode cL_sum 7 = .ok (.i2l, 1) := by decide +kernel
theorem dL_sum_8 : decode cL_sum 8 = .ok (.lmul, 1) := by decide +kernel
theorem dL_sum_9 : decode cL_sum 9 = .ok (.aload_n 0, 1) := by decide +kernel
theorem dL_sum_10 : decode cL_sum 10 = .ok (.invokevirtual 205, 3) := by decide +kernel
theorem dL_sum_13 : decode cL_sum 13 = .ok (.i2l, 1) := by decide +kernel
theorem dL_sum_14 : decode cL_sum 14 = .ok (.ladd, 1) := by decide +kernel
theorem dL_sum_15 : decode cL_sum 15 = .ok (.lstore_n 1, 1) := by decide +kernel
theorem dL_sum_16 : decode cL_sum 16 = .ok (.iconst 0, 1) := by decide +kernel
theorem dL_sum_17 : decode cL_sum 17 = .ok (.istore_n 3, 1) := by decide +kernel
theorem dL_sum_18 : decode cL_sum 18 = .ok (.iload_n 3, 1) := by decide +kernel
theorem dL_sum_19 : decode cL_sum 19 = .ok (.aload_n 0, 1) := by decide +kernel
theorem dL_sum_20 : decode cL_sum 20 = .ok (.invokevirtual 225, 3) := by decide +kernel
theorem dL_sum_23 : decode cL_sum 23 = .ok (.if_icmp .ge 98, 3) := by decide +kernel
theorem dL_sum_26 : decode cL_sum 26 = .ok (.ldc2_w 287, 3) := by decide +kernel
theorem dL_sum_29 : decode cL_sum 29 = .ok (.lload_n 1, 1) := by decide +kernel
theorem dL_sum_30 : decode cL_sum 30 = .ok (.lmul, 1) := by decide +kernel
theorem dL_sum_31 : decode cL_sum 31 = .ok (.ldc2_w 289, 3) := by decide +kernel
theorem dL_sum_34 : decode cL_sum 34 = .ok (.aload_n 0, 1) := by decide +kernel
theorem dL_sum_35 : decode cL_sum 35 = .ok (.iload_n 3, 1) := by decide +kernel
theorem dL_sum_36 : decode cL_sum 36 = .ok (.invokestatic 291, 3) := by decide +kernel
theorem dL_sum_39 : decode cL_sum 39 = .ok (.i2l, 1) := by decide +kernel
theorem dL_sum_40 : decode cL_sum 40 = .ok (.lmul, 1) := by decide +kernel
theorem dL_sum_41 : decode cL_sum 41 = .ok (.ladd, 1) := by decide +kernel
theorem dL_sum_42 : decode cL_sum 42 = .ok (.ldc2_w 287, 3) := by decide +kernel
theorem dL_sum_45 : decode cL_sum 45 = .ok (.aload_n 0, 1) := by decide +kernel
theorem dL_sum_46 : decode cL_sum 46 = .ok (.iload_n 3, 1) := by decide +kernel
theorem dL_sum_47 : decode cL_sum 47 = .ok (.invokestatic 293, 3) := by decide +kernel
theorem dL_sum_50 : decode cL_sum 50 = .ok (.i2l, 1) := by decide +kernel
theorem dL_sum_51 : decode cL_sum 51 = .ok (.lmul, 1) := by decide +kernel
theorem dL_sum_52 : decode cL_sum 52 = .ok (.ladd, 1) := by decide +kernel
theorem dL_sum_53 : decode cL_sum 53 = .ok (.aload_n 0, 1) := by decide +kernel
theorem dL_sum_54 : decode cL_sum 54 = .ok (.iload_n 3, 1) := by decide +kernel
theorem dL_sum_55 : decode cL_sum 55 = .ok (.invokestatic 295, 3) := by decide +kernel
theorem dL_sum_58 : decode cL_sum 58 = .ok (.i2l, 1) := by decide +kernel
theorem dL_sum_59 : decode cL_sum 59 = .ok (.ladd, 1) := by decide +kernel
theorem dL_sum_60 : decode cL_sum 60 = .ok (.lstore_n 1, 1) := by decide +kernel
theorem dL_sum_61 : decode cL_sum 61 = .ok (.ldc2_w 287, 3) := by decide +kernel
theorem dL_sum_64 : decode cL_sum 64 = .ok (.lload_n 1, 1) := by decide +kernel
theorem dL_sum_65 : decode cL_sum 65 = .ok (.lmul, 1) := by decide +kernel
theorem dL_sum_66 : decode cL_sum 66 = .ok (.ldc2_w 287, 3) := by decide +kernel
theorem dL_sum_69 : decode cL_sum 69 = .ok (.aload_n 0, 1) := by decide +kernel
theorem dL_sum_70 : decode cL_sum 70 = .ok (.iload_n 3, 1) := by decide +kernel
theorem dL_sum_71 : decode cL_sum 71 = .ok (.invokestatic 297, 3) := by decide +kernel
theorem dL_sum_74 : decode cL_sum 74 = .ok (.i2l, 1) := by decide +kernel
theorem dL_sum_75 : decode cL_sum 75 = .ok (.lmul, 1) := by decide +kernel
theorem dL_sum_76 : decode cL_sum 76 = .ok (.ladd, 1) := by decide +kernel
theorem dL_sum_77 : decode cL_sum 77 = .ok (.aload_n 0, 1) := by decide +kernel
theorem dL_sum_78 : decode cL_sum 78 = .ok (.iload_n 3, 1) := by decide +kernel
theorem dL_sum_79 : decode cL_sum 79 = .ok (.invokestatic 299, 3) := by decide +kernel
theorem dL_sum_82 : decode cL_sum 82 = .ok (.i2l, 1) := by decide +kernel
theorem dL_sum_83 : decode cL_sum 83 = .ok (.ladd, 1) := by decide +kernel
theorem dL_sum_84 : decode cL_sum 84 = .ok (.lstore_n 1, 1) := by decide +kernel
theorem dL_sum_85 : decode cL_sum 85 = .ok (.iconst 0, 1) := by decide +kernel
theorem dL_sum_86 : decode cL_sum 86 = .ok (.istore 4, 2) := by decide +kernel
theorem dL_sum_88 : decode cL_sum 88 = .ok (.iload 4, 2) := by decide +kernel
theorem dL_sum_90 : decode cL_sum 90 = .ok (.iload_n 3, 1) := by decide +kernel
theorem dL_sum_91 : decode cL_sum 91 = .ok (.if_icmp .ge 24, 3) := by decide +kernel
theorem dL_sum_94 : decode cL_sum 94 = .ok (.ldc2_w 287, 3) := by decide +kernel
theorem dL_sum_97 : decode cL_sum 97 = .ok (.lload_n 1, 1) := by decide +kernel
theorem dL_sum_98 : decode cL_sum 98 = .ok (.lmul, 1) := by decide +kernel
theorem dL_sum_99 : decode cL_sum 99 = .ok (.aload_n 0, 1) := by decide +kernel
theorem dL_sum_100 : decode cL_sum 100 = .ok (.iload 4, 2) := by decide +kernel
theorem dL_sum_102 : decode cL_sum 102 = .ok (.iload_n 3, 1) := by decide +kernel
theorem dL_sum_103 : decode cL_sum 103 = .ok (.invokestatic 301, 3) := by decide +kernel
theorem dL_sum_106 : decode cL_sum 106 = .ok (.i2l, 1) := by decide +kernel
theorem dL_sum_107 : decode cL_sum 107 = .ok (.ladd, 1) := by decide +kernel
theorem dL_sum_108 : decode cL_sum 108 = .ok (.lstore_n 1, 1) := by decide +kernel
theorem dL_sum_109 : decode cL_sum 109 = .ok (.iinc 4 1, 3) := by decide +kernel
theorem dL_sum_112 : decode cL_sum 112 = .ok (.goto (-24), 3) := by decide +kernel
theorem dL_sum_115 : decode cL_sum 115 = .ok (.iinc 3 1, 3) := by decide +kernel
theorem dL_sum_118 : decode cL_sum 118 = .ok (.goto (-100), 3) := by decide +kernel
theorem dL_sum_121 : decode cL_sum 121 = .ok (.iconst 0, 1) := by decide +kernel
theorem dL_sum_122 : decode cL_sum 122 = .ok (.istore_n 3, 1) := by decide +kernel
theorem dL_sum_123 : decode cL_sum 123 = .ok (.iload_n 3, 1) := by decide +kernel
theorem dL_sum_124 : decode cL_sum 124 = .ok (.aload_n 0, 1) := by decide +kernel
theorem dL_sum_125 : decode cL_sum 125 = .ok (.invokevirtual 200, 3) := by decide +kernel
theorem dL_sum_128 : decode cL_sum 128 = .ok (.if_icmp .ge 83, 3) := by decide +kernel
theorem dL_sum_131 : decode cL_sum 131 = .ok (.ldc2_w 287, 3) := by decide +kernel
theorem dL_sum_134 : decode cL_sum 134 = .ok (.lload_n 1, 1) := by decide +kernel
theorem dL_sum_135 : decode cL_sum 135 = .ok (.lmul, 1) := by decide +kernel
theorem dL_sum_136 : decode cL_sum 136 = .ok (.ldc2_w 289, 3) := by decide +kernel
theorem dL_sum_139 : decode cL_sum 139 = .ok (.aload_n 0, 1) := by decide +kernel
theorem dL_sum_140 : decode cL_sum 140 = .ok (.iload_n 3, 1) := by decide +kernel
theorem dL_sum_141 : decode cL_sum 141 = .ok (.invokestatic 303, 3) := by decide +kernel
theorem dL_sum_144 : decode cL_sum 144 = .ok (.i2l, 1) := by decide +kernel
theorem dL_sum_145 : decode cL_sum 145 = .ok (.lmul, 1) := by decide +kernel
theorem dL_sum_146 : decode cL_sum 146 = .ok (.ladd, 1) := by decide +kernel
theorem dL_sum_147 : decode cL_sum 147 = .ok (.ldc2_w 305, 3) := by decide +kernel
theorem dL_sum_150 : decode cL_sum 150 = .ok (.aload_n 0, 1) := by decide +kernel
theorem dL_sum_151 : decode cL_sum 151 = .ok (.iload_n 3, 1) := by decide +kernel
theorem dL_sum_152 : decode cL_sum 152 = .ok (.invokestatic 307, 3) := by decide +kernel
theorem dL_sum_155 : decode cL_sum 155 = .ok (.i2l, 1) := by decide +kernel
theorem dL_sum_156 : decode cL_sum 156 = .ok (.lmul, 1) := by decide +kernel
theorem dL_sum_157 : decode cL_sum 157 = .ok (.ladd, 1) := by decide +kernel
theorem dL_sum_158 : decode cL_sum 158 = .ok (.ldc2_w 287, 3) := by decide +kernel
theorem dL_sum_161 : decode cL_sum 161 = .ok (.aload_n 0, 1) := by decide +kernel
theorem dL_sum_162 : decode cL_sum 162 = .ok (.iload_n 3, 1) := by decide +kernel
theorem dL_sum_163 : decode cL_sum 163 = .ok (.invokestatic 309, 3) := by decide +kernel
theorem dL_sum_166 : decode cL_sum 166 = .ok (.i2l, 1) := by decide +kernel
theorem dL_sum_167 : decode cL_sum 167 = .ok (.lmul, 1) := by decide +kernel
theorem dL_sum_168 : decode cL_sum 168 = .ok (.ladd, 1) := by decide +kernel
theorem dL_sum_169 : decode cL_sum 169 = .ok (.lstore_n 1, 1) := by decide +kernel
theorem dL_sum_170 : decode cL_sum 170 = .ok (.ldc2_w 287, 3) := by decide +kernel
theorem dL_sum_173 : decode cL_sum 173 = .ok (.lload_n 1, 1) := by decide +kernel
theorem dL_sum_174 : decode cL_sum 174 = .ok (.lmul, 1) := by decide +kernel
theorem dL_sum_175 : decode cL_sum 175 = .ok (.ldc2_w 305, 3) := by decide +kernel
theorem dL_sum_178 : decode cL_sum 178 = .ok (.aload_n 0, 1) := by decide +kernel
theorem dL_sum_179 : decode cL_sum 179 = .ok (.iload_n 3, 1) := by decide +kernel
theorem dL_sum_180 : decode cL_sum 180 = .ok (.invokestatic 211, 3) := by decide +kernel
theorem dL_sum_183 : decode cL_sum 183 = .ok (.i2l, 1) := by decide +kernel
theorem dL_sum_184 : decode cL_sum 184 = .ok (.lmul, 1) := by decide +kernel
theorem dL_sum_185 : decode cL_sum 185 = .ok (.ladd, 1) := by decide +kernel
theorem dL_sum_186 : decode cL_sum 186 = .ok (.ldc2_w 287, 3) := by decide +kernel
theorem dL_sum_189 : decode cL_sum 189 = .ok (.aload_n 0, 1) := by decide +kernel
theorem dL_sum_190 : decode cL_sum 190 = .ok (.iload_n 3, 1) := by decide +kernel
theorem dL_sum_191 : decode cL_sum 191 = .ok (.invokestatic 311, 3) := by decide +kernel
theorem dL_sum_194 : decode cL_sum 194 = .ok (.i2l, 1) := by decide +kernel
theorem dL_sum_195 : decode cL_sum 195 = .ok (.lmul, 1) := by decide +kernel
theorem dL_sum_196 : decode cL_sum 196 = .ok (.ladd, 1) := by decide +kernel
theorem dL_sum_197 : decode cL_sum 197 = .ok (.aload_n 0, 1) := by decide +kernel
theorem dL_sum_198 : decode cL_sum 198 = .ok (.iload_n 3, 1) := by decide +kernel
theorem dL_sum_199 : decode cL_sum 199 = .ok (.invokestatic 313, 3) := by decide +kernel
theorem dL_sum_202 : decode cL_sum 202 = .ok (.i2l, 1) := by decide +kernel
theorem dL_sum_203 : decode cL_sum 203 = .ok (.ladd, 1) := by decide +kernel
theorem dL_sum_204 : decode cL_sum 204 = .ok (.lstore_n 1, 1) := by decide +kernel
theorem dL_sum_205 : decode cL_sum 205 = .ok (.iinc 3 1, 3) := by decide +kernel
theorem dL_sum_208 : decode cL_sum 208 = .ok (.goto (-85), 3) := by decide +kernel
theorem dL_sum_211 : decode cL_sum 211 = .ok (.lload_n 1, 1) := by decide +kernel
theorem dL_sum_212 : decode cL_sum 212 = .ok (.lreturn, 1) := by decide +kernel
theorem dL_areWays_0 : decode cL_areWays 0 = .ok (.aload_n 0, 1) := by decide +kernel
theorem dL_areWays_1 : decode cL_areWays 1 = .ok (.invokevirtual 225, 3) := by decide +kernel
theorem dL_areWays_4 : decode cL_areWays 4 = .ok (.istore_n 1, 1) := by decide +kernel
theorem dL_areWays_5 : decode cL_areWays 5 = .ok (.iload_n 1, 1) := by decide +kernel
theorem dL_areWays_6 : decode cL_areWays 6 = .ok (.iload_n 1, 1) := by decide +kernel
theorem dL_areWays_7 : decode cL_areWays 7 = .ok (.multianewarray 315 2, 4) := by decide +kernel
theorem dL_areWays_11 : decode cL_areWays 11 = .ok (.astore_n 2, 1) := by decide +kernel
theorem dL_areWays_12 : decode cL_areWays 12 = .ok (.iconst 0, 1) := by decide +kernel
theorem dL_areWays_13 : decode cL_areWays 13 = .ok (.istore_n 3, 1) := by decide +kernel
theorem dL_areWays_14 : decode cL_areWays 14 = .ok (.iconst 0, 1) := by decide +kernel
theorem dL_areWays_15 : decode cL_areWays 15 = .ok (.istore 4, 2) := by decide +kernel
theorem dL_areWays_17 : decode cL_areWays 17 = .ok (.iload 4, 2) := by decide +kernel
theorem dL_areWays_19 : decode cL_areWays 19 = .ok (.iload_n 1, 1) := by decide +kernel
theorem dL_areWays_20 : decode cL_areWays 20 = .ok (.if_icmp .ge 201, 3) := by decide +kernel
theorem dL_areWays_23 : decode cL_areWays 23 = .ok (.iconst 1, 1) := by decide +kernel
theorem dL_areWays_24 : decode cL_areWays 24 = .ok (.istore 5, 2) := by decide +kernel
theorem dL_areWays_26 : decode cL_areWays 26 = .ok (.iconst 0, 1) := by decide +kernel
theorem dL_areWays_27 : decode cL_areWays 27 = .ok (.istore 6, 2) := by decide +kernel
theorem dL_areWays_29 : decode cL_areWays 29 = .ok (.iload 6, 2) := by decide +kernel
theorem dL_areWays_31 : decode cL_areWays 31 = .ok (.iload_n 1, 1) := by decide +kernel
theorem dL_areWays_32 : decode cL_areWays 32 = .ok (.if_icmp .ge 170, 3) := by decide +kernel
theorem dL_areWays_35 : decode cL_areWays 35 = .ok (.aload_n 2, 1) := by decide +kernel
theorem dL_areWays_36 : decode cL_areWays 36 = .ok (.iload 4, 2) := by decide +kernel
theorem dL_areWays_38 : decode cL_areWays 38 = .ok (.aaload, 1) := by decide +kernel
theorem dL_areWays_39 : decode cL_areWays 39 = .ok (.iload 6, 2) := by decide +kernel
theorem dL_areWays_41 : decode cL_areWays 41 = .ok (.aload_n 0, 1) := by decide +kernel
theorem dL_areWays_42 : decode cL_areWays 42 = .ok (.iload 4, 2) := by decide +kernel
theorem dL_areWays_44 : decode cL_areWays 44 = .ok (.iload 6, 2) := by decide +kernel
theorem dL_areWays_46 : decode cL_areWays 46 = .ok (.invokestatic 317, 3) := by decide +kernel
theorem dL_areWays_49 : decode cL_areWays 49 = .ok (.iastore, 1) := by decide +kernel
theorem dL_areWays_50 : decode cL_areWays 50 = .ok (.aload_n 0, 1) := by decide +kernel
theorem dL_areWays_51 : decode cL_areWays 51 = .ok (.iload 4, 2) := by decide +kernel
theorem dL_areWays_53 : decode cL_areWays 53 = .ok (.iload 6, 2) := by decide +kernel
theorem dL_areWays_55 : decode cL_areWays 55 = .ok (.invokestatic 319, 3) := by decide +kernel
theorem dL_areWays_58 : decode cL_areWays 58 = .ok (.aload_n 2, 1) := by decide +kernel
theorem dL_areWays_59 : decode cL_areWays 59 = .ok (.iload 4, 2) := by decide +kernel
theorem dL_areWays_61 : decode cL_areWays 61 = .ok (.aaload, 1) := by decide +kernel
theorem dL_areWays_62 : decode cL_areWays 62 = .ok (.iload 6, 2) := by decide +kernel
theorem dL_areWays_64 : decode cL_areWays 64 = .ok (.iaload, 1) := by decide +kernel
theorem dL_areWays_65 : decode cL_areWays 65 = .ok (.if_icmp .ne 56, 3) := by decide +kernel
theorem dL_areWays_68 : decode cL_areWays 68 = .ok (.iload 4, 2) := by decide +kernel
theorem dL_areWays_70 : decode cL_areWays 70 = .ok (.iload 6, 2) := by decide +kernel
theorem dL_areWays_72 : decode cL_areWays 72 = .ok (.if_icmp .ne 7, 3) := by decide +kernel
theorem dL_areWays_75 : decode cL_areWays 75 = .ok (.iconst 1, 1) := by decide +kernel
theorem dL_areWays_76 : decode cL_areWays 76 = .ok (.goto 4, 3) := by decide +kernel
theorem dL_areWays_79 : decode cL_areWays 79 = .ok (.iconst 0, 1) := by decide +kernel
theorem dL_areWays_80 : decode cL_areWays 80 = .ok (.aload_n 2, 1) := by decide +kernel
theorem dL_areWays_81 : decode cL_areWays 81 = .ok (.iload 4, 2) := by decide +kernel
theorem dL_areWays_83 : decode cL_areWays 83 = .ok (.aaload, 1) := by decide +kernel
theorem dL_areWays_84 : decode cL_areWays 84 = .ok (.iload 6, 2) := by decide +kernel
theorem dL_areWays_86 : decode cL_areWays 86 = .ok (.iaload, 1) := by decide +kernel
theorem dL_areWays_87 : decode cL_areWays 87 = .ok (.ifCond .ne 7, 3) := by decide +kernel
theorem dL_areWays_90 : decode cL_areWays 90 = .ok (.iconst 1, 1) := by decide +kernel
theorem dL_areWays_91 : decode cL_areWays 91 = .ok (.goto 4, 3) := by decide +kernel
theorem dL_areWays_94 : decode cL_areWays 94 = .ok (.iconst 0, 1) := by decide +kernel
theorem dL_areWays_95 : decode cL_areWays 95 = .ok (.if_icmp .ne 26, 3) := by decide +kernel
theorem dL_areWays_98 : decode cL_areWays 98 = .ok (.aload_n 0, 1) := by decide +kernel
theorem dL_areWays_99 : decode cL_areWays 99 = .ok (.iload 4, 2) := by decide +kernel
theorem dL_areWays_101 : decode cL_areWays 101 = .ok (.iload 6, 2) := by decide +kernel
theorem dL_areWays_103 : decode cL_areWays 103 = .ok (.invokestatic 301, 3) := by decide +kernel
theorem dL_areWays_106 : decode cL_areWays 106 = .ok (.aload_n 0, 1) := by decide +kernel
theorem dL_areWays_107 : decode cL_areWays 107 = .ok (.iload 6, 2) := by decide +kernel
theorem dL_areWays_109 : decode cL_areWays 109 = .ok (.iload 4, 2) := by decide +kernel
theorem dL_areWays_111 : decode cL_areWays 111 = .ok (.invokestatic 301, 3) := by decide +kernel
theorem dL_areWays_114 : decode cL_areWays 114 = .ok (.if_icmp .ne 7, 3) := by decide +kernel
theorem dL_areWays_117 : decode cL_areWays 117 = .ok (.iconst 1, 1) := by decide +kernel
theorem dL_areWays_118 : decode cL_areWays 118 = .ok (.goto 4, 3) := by decide +kernel
theorem dL_areWays_121 : decode cL_areWays 121 = .ok (.iconst 0, 1) := by decide +kernel
theorem dL_areWays_122 : decode cL_areWays 122 = .ok (.istore 7, 2) := by decide +kernel
theorem dL_areWays_124 : decode cL_areWays 124 = .ok (.iload 7, 2) := by decide +kernel
theorem dL_areWays_126 : decode cL_areWays 126 = .ok (.ifCond .eq 41, 3) := by decide +kernel
theorem dL_areWays_129 : decode cL_areWays 129 = .ok (.aload_n 0, 1) := by decide +kernel
theorem dL_areWays_130 : decode cL_areWays 130 = .ok (.iload 4, 2) := by decide +kernel
theorem dL_areWays_132 : decode cL_areWays 132 = .ok (.iload 6, 2) := by decide +kernel
theorem dL_areWays_134 : decode cL_areWays 134 = .ok (.invokestatic 301, 3) := by decide +kernel
theorem dL_areWays_137 : decode cL_areWays 137 = .ok (.iconst 1, 1) := by decide +kernel
theorem dL_areWays_138 : decode cL_areWays 138 = .ok (.if_icmp .ne 31, 3) := by decide +kernel
theorem dL_areWays_141 : decode cL_areWays 141 = .ok (.aload_n 2, 1) := by decide +kernel
theorem dL_areWays_142 : decode cL_areWays 142 = .ok (.iload 4, 2) := by decide +kernel
theorem dL_areWays_144 : decode cL_areWays 144 = .ok (.aaload, 1) := by decide +kernel
theorem dL_areWays_145 : decode cL_areWays 145 = .ok (.iload 6, 2) := by decide +kernel
theorem dL_areWays_147 : decode cL_areWays 147 = .ok (.iaload, 1) := by decide +kernel
theorem dL_areWays_148 : decode cL_areWays 148 = .ok (.ifCond .lt 19, 3) := by decide +kernel
theorem dL_areWays_151 : decode cL_areWays 151 = .ok (.aload_n 2, 1) := by decide +kernel
theorem dL_areWays_152 : decode cL_areWays 152 = .ok (.iload 4, 2) := by decide +kernel
theorem dL_areWays_154 : decode cL_areWays 154 = .ok (.aaload, 1) := by decide +kernel
theorem dL_areWays_155 : decode cL_areWays 155 = .ok (.iload 6, 2) := by decide +kernel
theorem dL_areWays_157 : decode cL_areWays 157 = .ok (.iaload, 1) := by decide +kernel
theorem dL_areWays_158 : decode cL_areWays 158 = .ok (.aload_n 0, 1) := by decide +kernel
theorem dL_areWays_159 : decode cL_areWays 159 = .ok (.iload 6, 2) := by decide +kernel
theorem dL_areWays_161 : decode cL_areWays 161 = .ok (.invokestatic 291, 3) := by decide +kernel
theorem dL_areWays_164 : decode cL_areWays 164 = .ok (.if_icmp .le 5, 3) := by decide +kernel
theorem dL_areWays_167 : decode cL_areWays 167 = .ok (.iconst 0, 1) := by decide +kernel
theorem dL_areWays_168 : decode cL_areWays 168 = .ok (.ireturn, 1) := by decide +kernel
theorem dL_areWays_169 : decode cL_areWays 169 = .ok (.iload 5, 2) := by decide +kernel
theorem dL_areWays_171 : decode cL_areWays 171 = .ok (.iload 6, 2) := by decide +kernel
theorem dL_areWays_173 : decode cL_areWays 173 = .ok (.iload 4, 2) := by decide +kernel
theorem dL_areWays_175 : decode cL_areWays 175 = .ok (.if_icmp .ge 13, 3) := by decide +kernel
theorem dL_areWays_178 : decode cL_areWays 178 = .ok (.aload_n 2, 1) := by decide +kernel
theorem dL_areWays_179 : decode cL_areWays 179 = .ok (.iload 4, 2) := by decide +kernel
theorem dL_areWays_181 : decode cL_areWays 181 = .ok (.aaload, 1) := by decide +kernel
theorem dL_areWays_182 : decode cL_areWays 182 = .ok (.iload 6, 2) := by decide +kernel
theorem dL_areWays_184 : decode cL_areWays 184 = .ok (.iaload, 1) := by decide +kernel
theorem dL_areWays_185 : decode cL_areWays 185 = .ok (.ifCond .ge 7, 3) := by decide +kernel
theorem dL_areWays_188 : decode cL_areWays 188 = .ok (.iconst 1, 1) := by decide +kernel
theorem dL_areWays_189 : decode cL_areWays 189 = .ok (.goto 4, 3) := by decide +kernel
theorem dL_areWays_192 : decode cL_areWays 192 = .ok (.iconst 0, 1) := by decide +kernel
theorem dL_areWays_193 : decode cL_areWays 193 = .ok (.iand, 1) := by decide +kernel
theorem dL_areWays_194 : decode cL_areWays 194 = .ok (.istore 5, 2) := by decide +kernel
theorem dL_areWays_196 : decode cL_areWays 196 = .ok (.iinc 6 1, 3) := by decide +kernel
theorem dL_areWays_199 : decode cL_areWays 199 = .ok (.goto (-170), 3) := by decide +kernel
theorem dL_areWays_202 : decode cL_areWays 202 = .ok (.iload_n 3, 1) := by decide +kernel
theorem dL_areWays_203 : decode cL_areWays 203 = .ok (.iload 5, 2) := by decide +kernel
theorem dL_areWays_205 : decode cL_areWays 205 = .ok (.ifCond .eq 7, 3) := by decide +kernel
theorem dL_areWays_208 : decode cL_areWays 208 = .ok (.iconst 1, 1) := by decide +kernel
theorem dL_areWays_209 : decode cL_areWays 209 = .ok (.goto 4, 3) := by decide +kernel
theorem dL_areWays_212 : decode cL_areWays 212 = .ok (.iconst 0, 1) := by decide +kernel
theorem dL_areWays_213 : decode cL_areWays 213 = .ok (.iadd, 1) := by decide +kernel
theorem dL_areWays_214 : decode cL_areWays 214 = .ok (.istore_n 3, 1) := by decide +kernel
theorem dL_areWays_215 : decode cL_areWays 215 = .ok (.iinc 4 1, 3) := by decide +kernel
theorem dL_areWays_218 : decode cL_areWays 218 = .ok (.goto (-201), 3) := by decide +kernel
theorem dL_areWays_221 : decode cL_areWays 221 = .ok (.iconst 0, 1) := by decide +kernel
theorem dL_areWays_222 : decode cL_areWays 222 = .ok (.istore 4, 2) := by decide +kernel
theorem dL_areWays_224 : decode cL_areWays 224 = .ok (.iload 4, 2) := by decide +kernel
theorem dL_areWays_226 : decode cL_areWays 226 = .ok (.iload_n 1, 1) := by decide +kernel
theorem dL_areWays_227 : decode cL_areWays 227 = .ok (.if_icmp .ge 353, 3) := by decide +kernel
theorem dL_areWays_230 : decode cL_areWays 230 = .ok (.iconst 0, 1) := by decide +kernel
theorem dL_areWays_231 : decode cL_areWays 231 = .ok (.istore 5, 2) := by decide +kernel
theorem dL_areWays_233 : decode cL_areWays 233 = .ok (.iload 5, 2) := by decide +kernel
theorem dL_areWays_235 : decode cL_areWays 235 = .ok (.iload_n 1, 1) := by decide +kernel
theorem dL_areWays_236 : decode cL_areWays 236 = .ok (.if_icmp .ge 209, 3) := by decide +kernel
theorem dL_areWays_239 : decode cL_areWays 239 = .ok (.iload 4, 2) := by decide +kernel
theorem dL_areWays_241 : decode cL_areWays 241 = .ok (.iload 5, 2) := by decide +kernel
theorem dL_areWays_243 : decode cL_areWays 243 = .ok (.if_icmp .eq 13, 3) := by decide +kernel
theorem dL_areWays_246 : decode cL_areWays 246 = .ok (.aload_n 2, 1) := by decide +kernel
theorem dL_areWays_247 : decode cL_areWays 247 = .ok (.iload 4, 2) := by decide +kernel
theorem dL_areWays_249 : decode cL_areWays 249 = .ok (.aaload, 1) := by decide +kernel
theorem dL_areWays_250 : decode cL_areWays 250 = .ok (.iload 5, 2) := by decide +kernel
theorem dL_areWays_252 : decode cL_areWays 252 = .ok (.iaload, 1) := by decide +kernel
theorem dL_areWays_253 : decode cL_areWays 253 = .ok (.ifCond .ge 7, 3) := by decide +kernel
theorem dL_areWays_256 : decode cL_areWays 256 = .ok (.iconst 1, 1) := by decide +kernel
theorem dL_areWays_257 : decode cL_areWays 257 = .ok (.goto 4, 3) := by decide +kernel
theorem dL_areWays_260 : decode cL_areWays 260 = .ok (.iconst 0, 1) := by decide +kernel
theorem dL_areWays_261 : decode cL_areWays 261 = .ok (.istore 6, 2) := by decide +kernel
theorem dL_areWays_263 : decode cL_areWays 263 = .ok (.iconst 0, 1) := by decide +kernel
theorem dL_areWays_264 : decode cL_areWays 264 = .ok (.istore 7, 2) := by decide +kernel
theorem dL_areWays_266 : decode cL_areWays 266 = .ok (.iload 7, 2) := by decide +kernel
theorem dL_areWays_268 : decode cL_areWays 268 = .ok (.iload_n 1, 1) := by decide +kernel
theorem dL_areWays_269 : decode cL_areWays 269 = .ok (.if_icmp .ge 122, 3) := by decide +kernel
theorem dL_areWays_272 : decode cL_areWays 272 = .ok (.aload_n 2, 1) := by decide +kernel
theorem dL_areWays_273 : decode cL_areWays 273 = .ok (.iload 4, 2) := by decide +kernel
theorem dL_areWays_275 : decode cL_areWays 275 = .ok (.aaload, 1) := by decide +kernel
theorem dL_areWays_276 : decode cL_areWays 276 = .ok (.iload 7, 2) := by decide +kernel
theorem dL_areWays_278 : decode cL_areWays 278 = .ok (.iaload, 1) := by decide +kernel
theorem dL_areWays_279 : decode cL_areWays 279 = .ok (.ifCond .lt 50, 3) := by decide +kernel
theorem dL_areWays_282 : decode cL_areWays 282 = .ok (.aload_n 2, 1) := by decide +kernel
theorem dL_areWays_283 : decode cL_areWays 283 = .ok (.iload 7, 2) := by decide +kernel
theorem dL_areWays_285 : decode cL_areWays 285 = .ok (.aaload, 1) := by decide +kernel
theorem dL_areWays_286 : decode cL_areWays 286 = .ok (.iload 5, 2) := by decide +kernel
theorem dL_areWays_288 : decode cL_areWays 288 = .ok (.iaload, 1) := by decide +kernel
theorem dL_areWays_289 : decode cL_areWays 289 = .ok (.ifCond .lt 40, 3) := by decide +kernel
theorem dL_areWays_292 : decode cL_areWays 292 = .ok (.aload_n 2, 1) := by decide +kernel
theorem dL_areWays_293 : decode cL_areWays 293 = .ok (.iload 4, 2) := by decide +kernel
theorem dL_areWays_295 : decode cL_areWays 295 = .ok (.aaload, 1) := by decide +kernel
theorem dL_areWays_296 : decode cL_areWays 296 = .ok (.iload 5, 2) := by decide +kernel
theorem dL_areWays_298 : decode cL_areWays 298 = .ok (.iaload, 1) := by decide +kernel
theorem dL_areWays_299 : decode cL_areWays 299 = .ok (.ifCond .lt 28, 3) := by decide +kernel
theorem dL_areWays_302 : decode cL_areWays 302 = .ok (.aload_n 2, 1) := by decide +kernel
theorem dL_areWays_303 : decode cL_areWays 303 = .ok (.iload 4, 2) := by decide +kernel
theorem dL_areWays_305 : decode cL_areWays 305 = .ok (.aaload, 1) := by decide +kernel
theorem dL_areWays_306 : decode cL_areWays 306 = .ok (.iload 5, 2) := by decide +kernel
theorem dL_areWays_308 : decode cL_areWays 308 = .ok (.iaload, 1) := by decide +kernel
theorem dL_areWays_309 : decode cL_areWays 309 = .ok (.aload_n 2, 1) := by decide +kernel
theorem dL_areWays_310 : decode cL_areWays 310 = .ok (.iload 4, 2) := by decide +kernel
theorem dL_areWays_312 : decode cL_areWays 312 = .ok (.aaload, 1) := by decide +kernel
theorem dL_areWays_313 : decode cL_areWays 313 = .ok (.iload 7, 2) := by decide +kernel
theorem dL_areWays_315 : decode cL_areWays 315 = .ok (.iaload, 1) := by decide +kernel
theorem dL_areWays_316 : decode cL_areWays 316 = .ok (.aload_n 2, 1) := by decide +kernel
theorem dL_areWays_317 : decode cL_areWays 317 = .ok (.iload 7, 2) := by decide +kernel
theorem dL_areWays_319 : decode cL_areWays 319 = .ok (.aaload, 1) := by decide +kernel
theorem dL_areWays_320 : decode cL_areWays 320 = .ok (.iload 5, 2) := by decide +kernel
theorem dL_areWays_322 : decode cL_areWays 322 = .ok (.iaload, 1) := by decide +kernel
theorem dL_areWays_323 : decode cL_areWays 323 = .ok (.iadd, 1) := by decide +kernel
theorem dL_areWays_324 : decode cL_areWays 324 = .ok (.if_icmp .le 5, 3) := by decide +kernel
theorem dL_areWays_327 : decode cL_areWays 327 = .ok (.iconst 0, 1) := by decide +kernel
theorem dL_areWays_328 : decode cL_areWays 328 = .ok (.ireturn, 1) := by decide +kernel
theorem dL_areWays_329 : decode cL_areWays 329 = .ok (.iload 6, 2) := by decide +kernel
theorem dL_areWays_331 : decode cL_areWays 331 = .ok (.aload_n 0, 1) := by decide +kernel
theorem dL_areWays_332 : decode cL_areWays 332 = .ok (.iload 4, 2) := by decide +kernel
theorem dL_areWays_334 : decode cL_areWays 334 = .ok (.iload 7, 2) := by decide +kernel
theorem dL_areWays_336 : decode cL_areWays 336 = .ok (.invokestatic 301, 3) := by decide +kernel
theorem dL_areWays_339 : decode cL_areWays 339 = .ok (.iconst 1, 1) := by decide +kernel
theorem dL_areWays_340 : decode cL_areWays 340 = .ok (.if_icmp .ne 41, 3) := by decide +kernel
theorem dL_areWays_343 : decode cL_areWays 343 = .ok (.aload_n 2, 1) := by decide +kernel
theorem dL_areWays_344 : decode cL_areWays 344 = .ok (.iload 7, 2) := by decide +kernel
theorem dL_areWays_346 : decode cL_areWays 346 = .ok (.aaload, 1) := by decide +kernel
theorem dL_areWays_347 : decode cL_areWays 347 = .ok (.iload 5, 2) := by decide +kernel
theorem dL_areWays_349 : decode cL_areWays 349 = .ok (.iaload, 1) := by decide +kernel
theorem dL_areWays_350 : decode cL_areWays 350 = .ok (.ifCond .lt 31, 3) := by decide +kernel
theorem dL_areWays_353 : decode cL_areWays 353 = .ok (.aload_n 2, 1) := by decide +kernel
theorem dL_areWays_354 : decode cL_areWays 354 = .ok (.iload 4, 2) := by decide +kernel
theorem dL_areWays_356 : decode cL_areWays 356 = .ok (.aaload, 1) := by decide +kernel
theorem dL_areWays_357 : decode cL_areWays 357 = .ok (.iload 5, 2) := by decide +kernel
theorem dL_areWays_359 : decode cL_areWays 359 = .ok (.iaload, 1) := by decide +kernel
theorem dL_areWays_360 : decode cL_areWays 360 = .ok (.aload_n 0, 1) := by decide +kernel
theorem dL_areWays_361 : decode cL_areWays 361 = .ok (.iload 7, 2) := by decide +kernel
theorem dL_areWays_363 : decode cL_areWays 363 = .ok (.invokestatic 291, 3) := by decide +kernel
theorem dL_areWays_366 : decode cL_areWays 366 = .ok (.aload_n 2, 1) := by decide +kernel
theorem dL_areWays_367 : decode cL_areWays 367 = .ok (.iload 7, 2) := by decide +kernel
theorem dL_areWays_369 : decode cL_areWays 369 = .ok (.aaload, 1) := by decide +kernel
theorem dL_areWays_370 : decode cL_areWays 370 = .ok (.iload 5, 2) := by decide +kernel
theorem dL_areWays_372 : decode cL_areWays 372 = .ok (.iaload, 1) := by decide +kernel
theorem dL_areWays_373 : decode cL_areWays 373 = .ok (.iadd, 1) := by decide +kernel
theorem dL_areWays_374 : decode cL_areWays 374 = .ok (.if_icmp .ne 7, 3) := by decide +kernel
theorem dL_areWays_377 : decode cL_areWays 377 = .ok (.iconst 1, 1) := by decide +kernel
theorem dL_areWays_378 : decode cL_areWays 378 = .ok (.goto 4, 3) := by decide +kernel
theorem dL_areWays_381 : decode cL_areWays 381 = .ok (.iconst 0, 1) := by decide +kernel
theorem dL_areWays_382 : decode cL_areWays 382 = .ok (.ior, 1) := by decide +kernel
theorem dL_areWays_383 : decode cL_areWays 383 = .ok (.istore 6, 2) := by decide +kernel
theorem dL_areWays_385 : decode cL_areWays 385 = .ok (.iinc 7 1, 3) := by decide +kernel
theorem dL_areWays_388 : decode cL_areWays 388 = .ok (.goto (-122), 3) := by decide +kernel
theorem dL_areWays_391 : decode cL_areWays 391 = .ok (.iload 6, 2) := by decide +kernel
theorem dL_areWays_393 : decode cL_areWays 393 = .ok (.ifCond .eq 44, 3) := by decide +kernel
theorem dL_areWays_396 : decode cL_areWays 396 = .ok (.aload_n 2, 1) := by decide +kernel
theorem dL_areWays_397 : decode cL_areWays 397 = .ok (.iload 4, 2) := by decide +kernel
theorem dL_areWays_399 : decode cL_areWays 399 = .ok (.aaload, 1) := by decide +kernel
theorem dL_areWays_400 : decode cL_areWays 400 = .ok (.iload 5, 2) := by decide +kernel
theorem dL_areWays_402 : decode cL_areWays 402 = .ok (.iaload, 1) := by decide +kernel
theorem dL_areWays_403 : decode cL_areWays 403 = .ok (.ifCond .lt 36, 3) := by decide +kernel
theorem dL_areWays_406 : decode cL_areWays 406 = .ok (.aload_n 2, 1) := by decide +kernel
theorem dL_areWays_407 : decode cL_areWays 407 = .ok (.iload 4, 2) := by decide +kernel
theorem dL_areWays_409 : decode cL_areWays 409 = .ok (.aaload, 1) := by decide +kernel
theorem dL_areWays_410 : decode cL_areWays 410 = .ok (.iload 5, 2) := by decide +kernel
theorem dL_areWays_412 : decode cL_areWays 412 = .ok (.iaload, 1) := by decide +kernel
theorem dL_areWays_413 : decode cL_areWays 413 = .ok (.aload_n 0, 1) := by decide +kernel
theorem dL_areWays_414 : decode cL_areWays 414 = .ok (.iload 5, 2) := by decide +kernel
theorem dL_areWays_416 : decode cL_areWays 416 = .ok (.invokestatic 291, 3) := by decide +kernel
theorem dL_areWays_419 : decode cL_areWays 419 = .ok (.isub, 1) := by decide +kernel
theorem dL_areWays_420 : decode cL_areWays 420 = .ok (.aload_n 2, 1) := by decide +kernel
theorem dL_areWays_421 : decode cL_areWays 421 = .ok (.iload 5, 2) := by decide +kernel
theorem dL_areWays_423 : decode cL_areWays 423 = .ok (.aaload, 1) := by decide +kernel
theorem dL_areWays_424 : decode cL_areWays 424 = .ok (.iload 4, 2) := by decide +kernel
theorem dL_areWays_426 : decode cL_areWays 426 = .ok (.iaload, 1) := by decide +kernel
theorem dL_areWays_427 : decode cL_areWays 427 = .ok (.aload_n 0, 1) := by decide +kernel
theorem dL_areWays_428 : decode cL_areWays 428 = .ok (.iload 4, 2) := by decide +kernel
theorem dL_areWays_430 : decode cL_areWays 430 = .ok (.invokestatic 291, 3) := by decide +kernel
theorem dL_areWays_433 : decode cL_areWays 433 = .ok (.isub, 1) := by decide +kernel
theorem dL_areWays_434 : decode cL_areWays 434 = .ok (.if_icmp .eq 5, 3) := by decide +kernel
theorem dL_areWays_437 : decode cL_areWays 437 = .ok (.iconst 0, 1) := by decide +kernel
theorem dL_areWays_438 : decode cL_areWays 438 = .ok (.ireturn, 1) := by decide +kernel
theorem dL_areWays_439 : decode cL_areWays 439 = .ok (.iinc 5 1, 3) := by decide +kernel
theorem dL_areWays_442 : decode cL_areWays 442 = .ok (.goto (-209), 3) := by decide +kernel
theorem dL_areWays_445 : decode cL_areWays 445 = .ok (.aload_n 0, 1) := by decide +kernel
theorem dL_areWays_446 : decode cL_areWays 446 = .ok (.iload 4, 2) := by decide +kernel
theorem dL_areWays_448 : decode cL_areWays 448 = .ok (.invokestatic 321, 3) := by decide +kernel
theorem dL_areWays_451 : decode cL_areWays 451 = .ok (.istore 5, 2) := by decide +kernel
theorem dL_areWays_453 : decode cL_areWays 453 = .ok (.iconst 0, 1) := by decide +kernel
theorem dL_areWays_454 : decode cL_areWays 454 = .ok (.istore 6, 2) := by decide +kernel
theorem dL_areWays_456 : decode cL_areWays 456 = .ok (.iload 6, 2) := by decide +kernel
theorem dL_areWays_458 : decode cL_areWays 458 = .ok (.iload_n 1, 1) := by decide +kernel
theorem dL_areWays_459 : decode cL_areWays 459 = .ok (.if_icmp .ge 89, 3) := by decide +kernel
theorem dL_areWays_462 : decode cL_areWays 462 = .ok (.aload_n 0, 1) := by decide +kernel
theorem dL_areWays_463 : decode cL_areWays 463 = .ok (.iload 6, 2) := by decide +kernel
theorem dL_areWays_465 : decode cL_areWays 465 = .ok (.invokestatic 293, 3) := by decide +kernel
theorem dL_areWays_468 : decode cL_areWays 468 = .ok (.iconst 1, 1) := by decide +kernel
theorem dL_areWays_469 : decode cL_areWays 469 = .ok (.if_icmp .ne 17, 3) := by decide +kernel
theorem dL_areWays_472 : decode cL_areWays 472 = .ok (.aload_n 2, 1) := by decide +kernel
theorem dL_areWays_473 : decode cL_areWays 473 = .ok (.iload 4, 2) := by decide +kernel
theorem dL_areWays_475 : decode cL_areWays 475 = .ok (.aaload, 1) := by decide +kernel
theorem dL_areWays_476 : decode cL_areWays 476 = .ok (.iload 6, 2) := by decide +kernel
theorem dL_areWays_478 : decode cL_areWays 478 = .ok (.iaload, 1) := by decide +kernel
theorem dL_areWays_479 : decode cL_areWays 479 = .ok (.ifCond .lt 7, 3) := by decide +kernel
theorem dL_areWays_482 : decode cL_areWays 482 = .ok (.iconst 1, 1) := by decide +kernel
theorem dL_areWays_483 : decode cL_areWays 483 = .ok (.goto 4, 3) := by decide +kernel
theorem dL_areWays_486 : decode cL_areWays 486 = .ok (.iconst 0, 1) := by decide +kernel
theorem dL_areWays_487 : decode cL_areWays 487 = .ok (.istore 7, 2) := by decide +kernel
theorem dL_areWays_489 : decode cL_areWays 489 = .ok (.iload 7, 2) := by decide +kernel
theorem dL_areWays_491 : decode cL_areWays 491 = .ok (.ifCond .eq 51, 3) := by decide +kernel
theorem dL_areWays_494 : decode cL_areWays 494 = .ok (.iload 5, 2) := by decide +kernel
theorem dL_areWays_496 : decode cL_areWays 496 = .ok (.ifCond .lt 44, 3) := by decide +kernel
theorem dL_areWays_499 : decode cL_areWays 499 = .ok (.aload_n 2, 1) := by decide +kernel
theorem dL_areWays_500 : decode cL_areWays 500 = .ok (.iload 4, 2) := by decide +kernel
