theorem dL_areWays_502 : decode cL_areWays 502 = .ok (.aaload, 1) := by decide +kernel
theorem dL_areWays_503 : decode cL_areWays 503 = .ok (.iload 5, 2) := by decide +kernel
theorem dL_areWays_505 : decode cL_areWays 505 = .ok (.iaload, 1) := by decide +kernel
theorem dL_areWays_506 : decode cL_areWays 506 = .ok (.aload_n 2, 1) := by decide +kernel
theorem dL_areWays_507 : decode cL_areWays 507 = .ok (.iload 4, 2) := by decide +kernel
theorem dL_areWays_509 : decode cL_areWays 509 = .ok (.aaload, 1) := by decide +kernel
theorem dL_areWays_510 : decode cL_areWays 510 = .ok (.iload 6, 2) := by decide +kernel
theorem dL_areWays_512 : decode cL_areWays 512 = .ok (.iaload, 1) := by decide +kernel
theorem dL_areWays_513 : decode cL_areWays 513 = .ok (.if_icmp .gt 27, 3) := by decide +kernel
theorem dL_areWays_516 : decode cL_areWays 516 = .ok (.aload_n 2, 1) := by decide +kernel
theorem dL_areWays_517 : decode cL_areWays 517 = .ok (.iload 4, 2) := by decide +kernel
theorem dL_areWays_519 : decode cL_areWays 519 = .ok (.aaload, 1) := by decide +kernel
theorem dL_areWays_520 : decode cL_areWays 520 = .ok (.iload 5, 2) := by decide +kernel
theorem dL_areWays_522 : decode cL_areWays 522 = .ok (.iaload, 1) := by decide +kernel
theorem dL_areWays_523 : decode cL_areWays 523 = .ok (.aload_n 2, 1) := by decide +kernel
theorem dL_areWays_524 : decode cL_areWays 524 = .ok (.iload 4, 2) := by decide +kernel
theorem dL_areWays_526 : decode cL_areWays 526 = .ok (.aaload, 1) := by decide +kernel
theorem dL_areWays_527 : decode cL_areWays 527 = .ok (.iload 6, 2) := by decide +kernel
theorem dL_areWays_529 : decode cL_areWays 529 = .ok (.iaload, 1) := by decide +kernel
theorem dL_areWays_530 : decode cL_areWays 530 = .ok (.if_icmp .ne 12, 3) := by decide +kernel
theorem dL_areWays_533 : decode cL_areWays 533 = .ok (.iload 5, 2) := by decide +kernel
theorem dL_areWays_535 : decode cL_areWays 535 = .ok (.iload 6, 2) := by decide +kernel
theorem dL_areWays_537 : decode cL_areWays 537 = .ok (.if_icmp .le 5, 3) := by decide +kernel
theorem dL_areWays_540 : decode cL_areWays 540 = .ok (.iconst 0, 1) := by decide +kernel
theorem dL_areWays_541 : decode cL_areWays 541 = .ok (.ireturn, 1) := by decide +kernel
theorem dL_areWays_542 : decode cL_areWays 542 = .ok (.iinc 6 1, 3) := by decide +kernel
theorem dL_areWays_545 : decode cL_areWays 545 = .ok (.goto (-89), 3) := by decide +kernel
theorem dL_areWays_548 : decode cL_areWays 548 = .ok (.iload 5, 2) := by decide +kernel
theorem dL_areWays_550 : decode cL_areWays 550 = .ok (.ifCond .lt 24, 3) := by decide +kernel
theorem dL_areWays_553 : decode cL_areWays 553 = .ok (.aload_n 0, 1) := by decide +kernel
theorem dL_areWays_554 : decode cL_areWays 554 = .ok (.iload 5, 2) := by decide +kernel
theorem dL_areWays_556 : decode cL_areWays 556 = .ok (.invokestatic 293, 3) := by decide +kernel
theorem dL_areWays_559 : decode cL_areWays 559 = .ok (.ifCond .eq 13, 3) := by decide +kernel
theorem dL_areWays_562 : decode cL_areWays 562 = .ok (.aload_n 2, 1) := by decide +kernel
theorem dL_areWays_563 : decode cL_areWays 563 = .ok (.iload 4, 2) := by decide +kernel
theorem dL_areWays_565 : decode cL_areWays 565 = .ok (.aaload, 1) := by decide +kernel
theorem dL_areWays_566 : decode cL_areWays 566 = .ok (.iload 5, 2) := by decide +kernel
theorem dL_areWays_568 : decode cL_areWays 568 = .ok (.iaload, 1) := by decide +kernel
theorem dL_areWays_569 : decode cL_areWays 569 = .ok (.ifCond .ge 5, 3) := by decide +kernel
theorem dL_areWays_572 : decode cL_areWays 572 = .ok (.iconst 0, 1) := by decide +kernel
theorem dL_areWays_573 : decode cL_areWays 573 = .ok (.ireturn, 1) := by decide +kernel
theorem dL_areWays_574 : decode cL_areWays 574 = .ok (.iinc 4 1, 3) := by decide +kernel
theorem dL_areWays_577 : decode cL_areWays 577 = .ok (.goto (-353), 3) := by decide +kernel
theorem dL_areWays_580 : decode cL_areWays 580 = .ok (.aload_n 0, 1) := by decide +kernel
theorem dL_areWays_581 : decode cL_areWays 581 = .ok (.invokevirtual 323, 3) := by decide +kernel
theorem dL_areWays_584 : decode cL_areWays 584 = .ok (.iload_n 3, 1) := by decide +kernel
theorem dL_areWays_585 : decode cL_areWays 585 = .ok (.if_icmp .ne 15, 3) := by decide +kernel
theorem dL_areWays_588 : decode cL_areWays 588 = .ok (.aload_n 0, 1) := by decide +kernel
theorem dL_areWays_589 : decode cL_areWays 589 = .ok (.invokevirtual 326, 3) := by decide +kernel
theorem dL_areWays_592 : decode cL_areWays 592 = .ok (.iload_n 3, 1) := by decide +kernel
theorem dL_areWays_593 : decode cL_areWays 593 = .ok (.if_icmp .ne 7, 3) := by decide +kernel
theorem dL_areWays_596 : decode cL_areWays 596 = .ok (.iconst 1, 1) := by decide +kernel
theorem dL_areWays_597 : decode cL_areWays 597 = .ok (.goto 4, 3) := by decide +kernel
theorem dL_areWays_600 : decode cL_areWays 600 = .ok (.iconst 0, 1) := by decide +kernel
theorem dL_areWays_601 : decode cL_areWays 601 = .ok (.ireturn, 1) := by decide +kernel
theorem dL_isTrain_0 : decode cL_isTrain 0 = .ok (.aload_n 0, 1) := by decide +kernel
theorem dL_isTrain_1 : decode cL_isTrain 1 = .ok (.iload_n 1, 1) := by decide +kernel
theorem dL_isTrain_2 : decode cL_isTrain 2 = .ok (.invokestatic 303, 3) := by decide +kernel
theorem dL_isTrain_5 : decode cL_isTrain 5 = .ok (.istore_n 2, 1) := by decide +kernel
theorem dL_isTrain_6 : decode cL_isTrain 6 = .ok (.aload_n 0, 1) := by decide +kernel
theorem dL_isTrain_7 : decode cL_isTrain 7 = .ok (.iload_n 1, 1) := by decide +kernel
theorem dL_isTrain_8 : decode cL_isTrain 8 = .ok (.invokestatic 211, 3) := by decide +kernel
theorem dL_isTrain_11 : decode cL_isTrain 11 = .ok (.istore_n 3, 1) := by decide +kernel
theorem dL_isTrain_12 : decode cL_isTrain 12 = .ok (.aload_n 0, 1) := by decide +kernel
theorem dL_isTrain_13 : decode cL_isTrain 13 = .ok (.iload_n 1, 1) := by decide +kernel
theorem dL_isTrain_14 : decode cL_isTrain 14 = .ok (.invokestatic 329, 3) := by decide +kernel
theorem dL_isTrain_17 : decode cL_isTrain 17 = .ok (.istore 4, 2) := by decide +kernel
theorem dL_isTrain_19 : decode cL_isTrain 19 = .ok (.aload_n 0, 1) := by decide +kernel
theorem dL_isTrain_20 : decode cL_isTrain 20 = .ok (.iload_n 1, 1) := by decide +kernel
theorem dL_isTrain_21 : decode cL_isTrain 21 = .ok (.invokestatic 331, 3) := by decide +kernel
theorem dL_isTrain_24 : decode cL_isTrain 24 = .ok (.istore 5, 2) := by decide +kernel
theorem dL_isTrain_26 : decode cL_isTrain 26 = .ok (.iload 4, 2) := by decide +kernel
theorem dL_isTrain_28 : decode cL_isTrain 28 = .ok (.bipush (-75), 2) := by decide +kernel
theorem dL_isTrain_30 : decode cL_isTrain 30 = .ok (.if_icmp .ne 28, 3) := by decide +kernel
theorem dL_isTrain_33 : decode cL_isTrain 33 = .ok (.iload_n 3, 1) := by decide +kernel
theorem dL_isTrain_34 : decode cL_isTrain 34 = .ok (.bipush (-75), 2) := by decide +kernel
theorem dL_isTrain_36 : decode cL_isTrain 36 = .ok (.if_icmp .eq 14, 3) := by decide +kernel
theorem dL_isTrain_39 : decode cL_isTrain 39 = .ok (.aload_n 0, 1) := by decide +kernel
theorem dL_isTrain_40 : decode cL_isTrain 40 = .ok (.iload_n 2, 1) := by decide +kernel
theorem dL_isTrain_41 : decode cL_isTrain 41 = .ok (.iload_n 3, 1) := by decide +kernel
theorem dL_isTrain_42 : decode cL_isTrain 42 = .ok (.invokestatic 317, 3) := by decide +kernel
theorem dL_isTrain_45 : decode cL_isTrain 45 = .ok (.bipush (-75), 2) := by decide +kernel
theorem dL_isTrain_47 : decode cL_isTrain 47 = .ok (.if_icmp .ne 7, 3) := by decide +kernel
theorem dL_isTrain_50 : decode cL_isTrain 50 = .ok (.iconst 1, 1) := by decide +kernel
theorem dL_isTrain_51 : decode cL_isTrain 51 = .ok (.goto 50, 3) := by decide +kernel
theorem dL_isTrain_54 : decode cL_isTrain 54 = .ok (.iconst 0, 1) := by decide +kernel
theorem dL_isTrain_55 : decode cL_isTrain 55 = .ok (.goto 46, 3) := by decide +kernel
theorem dL_isTrain_58 : decode cL_isTrain 58 = .ok (.iload_n 3, 1) := by decide +kernel
theorem dL_isTrain_59 : decode cL_isTrain 59 = .ok (.ifCond .lt 41, 3) := by decide +kernel
theorem dL_isTrain_62 : decode cL_isTrain 62 = .ok (.aload_n 0, 1) := by decide +kernel
theorem dL_isTrain_63 : decode cL_isTrain 63 = .ok (.iload_n 2, 1) := by decide +kernel
theorem dL_isTrain_64 : decode cL_isTrain 64 = .ok (.iload 4, 2) := by decide +kernel
theorem dL_isTrain_66 : decode cL_isTrain 66 = .ok (.invokestatic 301, 3) := by decide +kernel
theorem dL_isTrain_69 : decode cL_isTrain 69 = .ok (.iconst 1, 1) := by decide +kernel
theorem dL_isTrain_70 : decode cL_isTrain 70 = .ok (.if_icmp .ne 30, 3) := by decide +kernel
theorem dL_isTrain_73 : decode cL_isTrain 73 = .ok (.aload_n 0, 1) := by decide +kernel
theorem dL_isTrain_74 : decode cL_isTrain 74 = .ok (.iload_n 2, 1) := by decide +kernel
theorem dL_isTrain_75 : decode cL_isTrain 75 = .ok (.iload_n 3, 1) := by decide +kernel
theorem dL_isTrain_76 : decode cL_isTrain 76 = .ok (.invokestatic 317, 3) := by decide +kernel
theorem dL_isTrain_79 : decode cL_isTrain 79 = .ok (.aload_n 0, 1) := by decide +kernel
theorem dL_isTrain_80 : decode cL_isTrain 80 = .ok (.iload 4, 2) := by decide +kernel
theorem dL_isTrain_82 : decode cL_isTrain 82 = .ok (.invokestatic 291, 3) := by decide +kernel
theorem dL_isTrain_85 : decode cL_isTrain 85 = .ok (.aload_n 0, 1) := by decide +kernel
theorem dL_isTrain_86 : decode cL_isTrain 86 = .ok (.iload 4, 2) := by decide +kernel
theorem dL_isTrain_88 : decode cL_isTrain 88 = .ok (.iload_n 3, 1) := by decide +kernel
theorem dL_isTrain_89 : decode cL_isTrain 89 = .ok (.invokestatic 317, 3) := by decide +kernel
theorem dL_isTrain_92 : decode cL_isTrain 92 = .ok (.iadd, 1) := by decide +kernel
theorem dL_isTrain_93 : decode cL_isTrain 93 = .ok (.if_icmp .ne 7, 3) := by decide +kernel
theorem dL_isTrain_96 : decode cL_isTrain 96 = .ok (.iconst 1, 1) := by decide +kernel
theorem dL_isTrain_97 : decode cL_isTrain 97 = .ok (.goto 4, 3) := by decide +kernel
theorem dL_isTrain_100 : decode cL_isTrain 100 = .ok (.iconst 0, 1) := by decide +kernel
theorem dL_isTrain_101 : decode cL_isTrain 101 = .ok (.istore 6, 2) := by decide +kernel
theorem dL_isTrain_103 : decode cL_isTrain 103 = .ok (.iload 5, 2) := by decide +kernel
theorem dL_isTrain_105 : decode cL_isTrain 105 = .ok (.bipush (-75), 2) := by decide +kernel
theorem dL_isTrain_107 : decode cL_isTrain 107 = .ok (.if_icmp .ne 38, 3) := by decide +kernel
theorem dL_isTrain_110 : decode cL_isTrain 110 = .ok (.iload 4, 2) := by decide +kernel
theorem dL_isTrain_112 : decode cL_isTrain 112 = .ok (.bipush (-75), 2) := by decide +kernel
theorem dL_isTrain_114 : decode cL_isTrain 114 = .ok (.if_icmp .eq 23, 3) := by decide +kernel
theorem dL_isTrain_117 : decode cL_isTrain 117 = .ok (.aload_n 0, 1) := by decide +kernel
theorem dL_isTrain_118 : decode cL_isTrain 118 = .ok (.iload_n 1, 1) := by decide +kernel
theorem dL_isTrain_119 : decode cL_isTrain 119 = .ok (.invokestatic 311, 3) := by decide +kernel
theorem dL_isTrain_122 : decode cL_isTrain 122 = .ok (.iconst 1, 1) := by decide +kernel
theorem dL_isTrain_123 : decode cL_isTrain 123 = .ok (.if_icmp .eq 14, 3) := by decide +kernel
theorem dL_isTrain_126 : decode cL_isTrain 126 = .ok (.aload_n 0, 1) := by decide +kernel
theorem dL_isTrain_127 : decode cL_isTrain 127 = .ok (.iload 4, 2) := by decide +kernel
theorem dL_isTrain_129 : decode cL_isTrain 129 = .ok (.invokestatic 299, 3) := by decide +kernel
theorem dL_isTrain_132 : decode cL_isTrain 132 = .ok (.bipush (-75), 2) := by decide +kernel
theorem dL_isTrain_134 : decode cL_isTrain 134 = .ok (.if_icmp .ne 7, 3) := by decide +kernel
theorem dL_isTrain_137 : decode cL_isTrain 137 = .ok (.iconst 1, 1) := by decide +kernel
theorem dL_isTrain_138 : decode cL_isTrain 138 = .ok (.goto 37, 3) := by decide +kernel
theorem dL_isTrain_141 : decode cL_isTrain 141 = .ok (.iconst 0, 1) := by decide +kernel
theorem dL_isTrain_142 : decode cL_isTrain 142 = .ok (.goto 33, 3) := by decide +kernel
theorem dL_isTrain_145 : decode cL_isTrain 145 = .ok (.iload 5, 2) := by decide +kernel
theorem dL_isTrain_147 : decode cL_isTrain 147 = .ok (.iload_n 1, 1) := by decide +kernel
theorem dL_isTrain_148 : decode cL_isTrain 148 = .ok (.if_icmp .eq 26, 3) := by decide +kernel
theorem dL_isTrain_151 : decode cL_isTrain 151 = .ok (.aload_n 0, 1) := by decide +kernel
theorem dL_isTrain_152 : decode cL_isTrain 152 = .ok (.iload_n 1, 1) := by decide +kernel
theorem dL_isTrain_153 : decode cL_isTrain 153 = .ok (.invokestatic 311, 3) := by decide +kernel
theorem dL_isTrain_156 : decode cL_isTrain 156 = .ok (.ifCond .ne 18, 3) := by decide +kernel
theorem dL_isTrain_159 : decode cL_isTrain 159 = .ok (.aload_n 0, 1) := by decide +kernel
theorem dL_isTrain_160 : decode cL_isTrain 160 = .ok (.iload 5, 2) := by decide +kernel
theorem dL_isTrain_162 : decode cL_isTrain 162 = .ok (.invokestatic 303, 3) := by decide +kernel
theorem dL_isTrain_165 : decode cL_isTrain 165 = .ok (.iload 4, 2) := by decide +kernel
theorem dL_isTrain_167 : decode cL_isTrain 167 = .ok (.if_icmp .ne 7, 3) := by decide +kernel
theorem dL_isTrain_170 : decode cL_isTrain 170 = .ok (.iconst 1, 1) := by decide +kernel
theorem dL_isTrain_171 : decode cL_isTrain 171 = .ok (.goto 4, 3) := by decide +kernel
theorem dL_isTrain_174 : decode cL_isTrain 174 = .ok (.iconst 0, 1) := by decide +kernel
theorem dL_isTrain_175 : decode cL_isTrain 175 = .ok (.istore 7, 2) := by decide +kernel
theorem dL_isTrain_177 : decode cL_isTrain 177 = .ok (.aload_n 0, 1) := by decide +kernel
theorem dL_isTrain_178 : decode cL_isTrain 178 = .ok (.iload_n 1, 1) := by decide +kernel
theorem dL_isTrain_179 : decode cL_isTrain 179 = .ok (.invokestatic 309, 3) := by decide +kernel
theorem dL_isTrain_182 : decode cL_isTrain 182 = .ok (.ifCond .lt 28, 3) := by decide +kernel
theorem dL_isTrain_185 : decode cL_isTrain 185 = .ok (.aload_n 0, 1) := by decide +kernel
theorem dL_isTrain_186 : decode cL_isTrain 186 = .ok (.iload_n 1, 1) := by decide +kernel
theorem dL_isTrain_187 : decode cL_isTrain 187 = .ok (.invokestatic 309, 3) := by decide +kernel
theorem dL_isTrain_190 : decode cL_isTrain 190 = .ok (.aload_n 0, 1) := by decide +kernel
theorem dL_isTrain_191 : decode cL_isTrain 191 = .ok (.iload_n 2, 1) := by decide +kernel
theorem dL_isTrain_192 : decode cL_isTrain 192 = .ok (.invokestatic 291, 3) := by decide +kernel
theorem dL_isTrain_195 : decode cL_isTrain 195 = .ok (.if_icmp .gt 15, 3) := by decide +kernel
theorem dL_isTrain_198 : decode cL_isTrain 198 = .ok (.aload_n 0, 1) := by decide +kernel
theorem dL_isTrain_199 : decode cL_isTrain 199 = .ok (.iload_n 1, 1) := by decide +kernel
theorem dL_isTrain_200 : decode cL_isTrain 200 = .ok (.invokestatic 313, 3) := by decide +kernel
theorem dL_isTrain_203 : decode cL_isTrain 203 = .ok (.ifCond .lt 7, 3) := by decide +kernel
theorem dL_isTrain_206 : decode cL_isTrain 206 = .ok (.iconst 1, 1) := by decide +kernel
theorem dL_isTrain_207 : decode cL_isTrain 207 = .ok (.goto 4, 3) := by decide +kernel
theorem dL_isTrain_210 : decode cL_isTrain 210 = .ok (.iconst 0, 1) := by decide +kernel
theorem dL_isTrain_211 : decode cL_isTrain 211 = .ok (.istore 8, 2) := by decide +kernel
theorem dL_isTrain_213 : decode cL_isTrain 213 = .ok (.iload 6, 2) := by decide +kernel
theorem dL_isTrain_215 : decode cL_isTrain 215 = .ok (.ifCond .eq 64, 3) := by decide +kernel
theorem dL_isTrain_218 : decode cL_isTrain 218 = .ok (.iload 7, 2) := by decide +kernel
theorem dL_isTrain_220 : decode cL_isTrain 220 = .ok (.ifCond .eq 59, 3) := by decide +kernel
theorem dL_isTrain_223 : decode cL_isTrain 223 = .ok (.iload 8, 2) := by decide +kernel
theorem dL_isTrain_225 : decode cL_isTrain 225 = .ok (.ifCond .eq 54, 3) := by decide +kernel
theorem dL_isTrain_228 : decode cL_isTrain 228 = .ok (.aload_n 0, 1) := by decide +kernel
theorem dL_isTrain_229 : decode cL_isTrain 229 = .ok (.iload_n 2, 1) := by decide +kernel
theorem dL_isTrain_230 : decode cL_isTrain 230 = .ok (.invokestatic 299, 3) := by decide +kernel
theorem dL_isTrain_233 : decode cL_isTrain 233 = .ok (.iload_n 1, 1) := by decide +kernel
theorem dL_isTrain_234 : decode cL_isTrain 234 = .ok (.if_icmp .ne 45, 3) := by decide +kernel
theorem dL_isTrain_237 : decode cL_isTrain 237 = .ok (.iload_n 3, 1) := by decide +kernel
theorem dL_isTrain_238 : decode cL_isTrain 238 = .ok (.bipush (-75), 2) := by decide +kernel
theorem dL_isTrain_240 : decode cL_isTrain 240 = .ok (.if_icmp .eq 17, 3) := by decide +kernel
theorem dL_isTrain_243 : decode cL_isTrain 243 = .ok (.aload_n 0, 1) := by decide +kernel
theorem dL_isTrain_244 : decode cL_isTrain 244 = .ok (.iload_n 3, 1) := by decide +kernel
theorem dL_isTrain_245 : decode cL_isTrain 245 = .ok (.invokestatic 293, 3) := by decide +kernel
theorem dL_isTrain_248 : decode cL_isTrain 248 = .ok (.iconst 1, 1) := by decide +kernel
theorem dL_isTrain_249 : decode cL_isTrain 249 = .ok (.if_icmp .ne 30, 3) := by decide +kernel
theorem dL_isTrain_252 : decode cL_isTrain 252 = .ok (.iload_n 3, 1) := by decide +kernel
theorem dL_isTrain_253 : decode cL_isTrain 253 = .ok (.iload_n 2, 1) := by decide +kernel
theorem dL_isTrain_254 : decode cL_isTrain 254 = .ok (.if_icmp .eq 25, 3) := by decide +kernel
theorem dL_isTrain_257 : decode cL_isTrain 257 = .ok (.aload_n 0, 1) := by decide +kernel
theorem dL_isTrain_258 : decode cL_isTrain 258 = .ok (.iload_n 1, 1) := by decide +kernel
theorem dL_isTrain_259 : decode cL_isTrain 259 = .ok (.invokestatic 311, 3) := by decide +kernel
theorem dL_isTrain_262 : decode cL_isTrain 262 = .ok (.ifCond .eq 13, 3) := by decide +kernel
theorem dL_isTrain_265 : decode cL_isTrain 265 = .ok (.aload_n 0, 1) := by decide +kernel
theorem dL_isTrain_266 : decode cL_isTrain 266 = .ok (.iload_n 1, 1) := by decide +kernel
theorem dL_isTrain_267 : decode cL_isTrain 267 = .ok (.invokestatic 203, 3) := by decide +kernel
theorem dL_isTrain_270 : decode cL_isTrain 270 = .ok (.bipush (-75), 2) := by decide +kernel
theorem dL_isTrain_272 : decode cL_isTrain 272 = .ok (.if_icmp .ne 7, 3) := by decide +kernel
theorem dL_isTrain_275 : decode cL_isTrain 275 = .ok (.iconst 1, 1) := by decide +kernel
theorem dL_isTrain_276 : decode cL_isTrain 276 = .ok (.goto 4, 3) := by decide +kernel
theorem dL_isTrain_279 : decode cL_isTrain 279 = .ok (.iconst 0, 1) := by decide +kernel
theorem dL_isTrain_280 : decode cL_isTrain 280 = .ok (.ireturn, 1) := by decide +kernel
theorem dL_isWhole_0 : decode cL_isWhole 0 = .ok (.aload_n 0, 1) := by decide +kernel
theorem dL_isWhole_1 : decode cL_isWhole 1 = .ok (.invokevirtual 200, 3) := by decide +kernel
theorem dL_isWhole_4 : decode cL_isWhole 4 = .ok (.istore 4, 2) := by decide +kernel
theorem dL_isWhole_6 : decode cL_isWhole 6 = .ok (.aload_n 0, 1) := by decide +kernel
theorem dL_isWhole_7 : decode cL_isWhole 7 = .ok (.invokevirtual 225, 3) := by decide +kernel
theorem dL_isWhole_10 : decode cL_isWhole 10 = .ok (.istore 5, 2) := by decide +kernel
theorem dL_isWhole_12 : decode cL_isWhole 12 = .ok (.iconst 0, 1) := by decide +kernel
theorem dL_isWhole_13 : decode cL_isWhole 13 = .ok (.istore 6, 2) := by decide +kernel
theorem dL_isWhole_15 : decode cL_isWhole 15 = .ok (.bipush 7, 2) := by decide +kernel
theorem dL_isWhole_17 : decode cL_isWhole 17 = .ok (.newarray .int, 2) := by decide +kernel
theorem dL_isWhole_19 : decode cL_isWhole 19 = .ok (.astore 7, 2) := by decide +kernel
theorem dL_isWhole_21 : decode cL_isWhole 21 = .ok (.iconst 0, 1) := by decide +kernel
theorem dL_isWhole_22 : decode cL_isWhole 22 = .ok (.istore 8, 2) := by decide +kernel
theorem dL_isWhole_24 : decode cL_isWhole 24 = .ok (.iload 8, 2) := by decide +kernel
theorem dL_isWhole_26 : decode cL_isWhole 26 = .ok (.iload 5, 2) := by decide +kernel
theorem dL_isWhole_28 : decode cL_isWhole 28 = .ok (.if_icmp .ge 157, 3) := by decide +kernel
theorem dL_isWhole_31 : decode cL_isWhole 31 = .ok (.iload 6, 2) := by decide +kernel
theorem dL_isWhole_33 : decode cL_isWhole 33 = .ok (.aload_n 0, 1) := by decide +kernel
theorem dL_isWhole_34 : decode cL_isWhole 34 = .ok (.iload 8, 2) := by decide +kernel
theorem dL_isWhole_36 : decode cL_isWhole 36 = .ok (.invokestatic 299, 3) := by decide +kernel
theorem dL_isWhole_39 : decode cL_isWhole 39 = .ok (.ifCond .lt 7, 3) := by decide +kernel
theorem dL_isWhole_42 : decode cL_isWhole 42 = .ok (.iconst 1, 1) := by decide +kernel
theorem dL_isWhole_43 : decode cL_isWhole 43 = .ok (.goto 4, 3) := by decide +kernel
theorem dL_isWhole_46 : decode cL_isWhole 46 = .ok (.iconst 0, 1) := by decide +kernel
theorem dL_isWhole_47 : decode cL_isWhole 47 = .ok (.iadd, 1) := by decide +kernel
theorem dL_isWhole_48 : decode cL_isWhole 48 = .ok (.istore 6, 2) := by decide +kernel
theorem dL_isWhole_50 : decode cL_isWhole 50 = .ok (.aload_n 0, 1) := by decide +kernel
theorem dL_isWhole_51 : decode cL_isWhole 51 = .ok (.iload 8, 2) := by decide +kernel
theorem dL_isWhole_53 : decode cL_isWhole 53 = .ok (.invokestatic 297, 3) := by decide +kernel
theorem dL_isWhole_56 : decode cL_isWhole 56 = .ok (.istore 9, 2) := by decide +kernel
theorem dL_isWhole_58 : decode cL_isWhole 58 = .ok (.aload_n 0, 1) := by decide +kernel
theorem dL_isWhole_59 : decode cL_isWhole 59 = .ok (.iload 8, 2) := by decide +kernel
theorem dL_isWhole_61 : decode cL_isWhole 61 = .ok (.invokestatic 295, 3) := by decide +kernel
theorem dL_isWhole_64 : decode cL_isWhole 64 = .ok (.istore 10, 2) := by decide +kernel
theorem dL_isWhole_66 : decode cL_isWhole 66 = .ok (.iload 10, 2) := by decide +kernel
theorem dL_isWhole_68 : decode cL_isWhole 68 = .ok (.aload_n 0, 1) := by decide +kernel
theorem dL_isWhole_69 : decode cL_isWhole 69 = .ok (.iload 8, 2) := by decide +kernel
theorem dL_isWhole_71 : decode cL_isWhole 71 = .ok (.invokestatic 333, 3) := by decide +kernel
theorem dL_isWhole_74 : decode cL_isWhole 74 = .ok (.iconst 1, 1) := by decide +kernel
theorem dL_isWhole_75 : decode cL_isWhole 75 = .ok (.if_icmp .ne 8, 3) := by decide +kernel
theorem dL_isWhole_78 : decode cL_isWhole 78 = .ok (.bipush 99, 2) := by decide +kernel
theorem dL_isWhole_80 : decode cL_isWhole 80 = .ok (.goto 29, 3) := by decide +kernel
theorem dL_isWhole_83 : decode cL_isWhole 83 = .ok (.aload_n 0, 1) := by decide +kernel
theorem dL_isWhole_84 : decode cL_isWhole 84 = .ok (.iload 8, 2) := by decide +kernel
theorem dL_isWhole_86 : decode cL_isWhole 86 = .ok (.invokestatic 299, 3) := by decide +kernel
theorem dL_isWhole_89 : decode cL_isWhole 89 = .ok (.ifCond .lt 8, 3) := by decide +kernel
theorem dL_isWhole_92 : decode cL_isWhole 92 = .ok (.bipush 111, 2) := by decide +kernel
theorem dL_isWhole_94 : decode cL_isWhole 94 = .ok (.goto 15, 3) := by decide +kernel
theorem dL_isWhole_97 : decode cL_isWhole 97 = .ok (.iload 9, 2) := by decide +kernel
theorem dL_isWhole_99 : decode cL_isWhole 99 = .ok (.ifCond .lt 8, 3) := by decide +kernel
theorem dL_isWhole_102 : decode cL_isWhole 102 = .ok (.bipush 114, 2) := by decide +kernel
theorem dL_isWhole_104 : decode cL_isWhole 104 = .ok (.goto 5, 3) := by decide +kernel
theorem dL_isWhole_107 : decode cL_isWhole 107 = .ok (.bipush 102, 2) := by decide +kernel
theorem dL_isWhole_109 : decode cL_isWhole 109 = .ok (.if_icmp .ne 7, 3) := by decide +kernel
theorem dL_isWhole_112 : decode cL_isWhole 112 = .ok (.iconst 1, 1) := by decide +kernel
theorem dL_isWhole_113 : decode cL_isWhole 113 = .ok (.goto 4, 3) := by decide +kernel
theorem dL_isWhole_116 : decode cL_isWhole 116 = .ok (.iconst 0, 1) := by decide +kernel
theorem dL_isWhole_117 : decode cL_isWhole 117 = .ok (.istore 11, 2) := by decide +kernel
theorem dL_isWhole_119 : decode cL_isWhole 119 = .ok (.iload 11, 2) := by decide +kernel
theorem dL_isWhole_121 : decode cL_isWhole 121 = .ok (.ifCond .eq 42, 3) := by decide +kernel
theorem dL_isWhole_124 : decode cL_isWhole 124 = .ok (.iload 9, 2) := by decide +kernel
theorem dL_isWhole_126 : decode cL_isWhole 126 = .ok (.ifCond .lt 18, 3) := by decide +kernel
theorem dL_isWhole_129 : decode cL_isWhole 129 = .ok (.iload 9, 2) := by decide +kernel
theorem dL_isWhole_131 : decode cL_isWhole 131 = .ok (.iload 4, 2) := by decide +kernel
theorem dL_isWhole_133 : decode cL_isWhole 133 = .ok (.if_icmp .ge 30, 3) := by decide +kernel
theorem dL_isWhole_136 : decode cL_isWhole 136 = .ok (.aload 7, 2) := by decide +kernel
theorem dL_isWhole_138 : decode cL_isWhole 138 = .ok (.iload 9, 2) := by decide +kernel
theorem dL_isWhole_140 : decode cL_isWhole 140 = .ok (.iaload, 1) := by decide +kernel
theorem dL_isWhole_141 : decode cL_isWhole 141 = .ok (.ifCond .gt 22, 3) := by decide +kernel
theorem dL_isWhole_144 : decode cL_isWhole 144 = .ok (.aload_n 0, 1) := by decide +kernel
theorem dL_isWhole_145 : decode cL_isWhole 145 = .ok (.iload 8, 2) := by decide +kernel
theorem dL_isWhole_147 : decode cL_isWhole 147 = .ok (.invokestatic 333, 3) := by decide +kernel
theorem dL_isWhole_150 : decode cL_isWhole 150 = .ok (.iconst 1, 1) := by decide +kernel
theorem dL_isWhole_151 : decode cL_isWhole 151 = .ok (.if_icmp .ne 14, 3) := by decide +kernel
theorem dL_isWhole_154 : decode cL_isWhole 154 = .ok (.aload_n 0, 1) := by decide +kernel
theorem dL_isWhole_155 : decode cL_isWhole 155 = .ok (.iload 8, 2) := by decide +kernel
theorem dL_isWhole_157 : decode cL_isWhole 157 = .ok (.invokestatic 299, 3) := by decide +kernel
theorem dL_isWhole_160 : decode cL_isWhole 160 = .ok (.ifCond .lt 5, 3) := by decide +kernel
theorem dL_isWhole_163 : decode cL_isWhole 163 = .ok (.iconst 0, 1) := by decide +kernel
theorem dL_isWhole_164 : decode cL_isWhole 164 = .ok (.ireturn, 1) := by decide +kernel
theorem dL_isWhole_165 : decode cL_isWhole 165 = .ok (.iload 9, 2) := by decide +kernel
theorem dL_isWhole_167 : decode cL_isWhole 167 = .ok (.ifCond .lt 12, 3) := by decide +kernel
theorem dL_isWhole_170 : decode cL_isWhole 170 = .ok (.aload 7, 2) := by decide +kernel
theorem dL_isWhole_172 : decode cL_isWhole 172 = .ok (.iload 9, 2) := by decide +kernel
theorem dL_isWhole_174 : decode cL_isWhole 174 = .ok (.dup2, 1) := by decide +kernel
theorem dL_isWhole_175 : decode cL_isWhole 175 = .ok (.iaload, 1) := by decide +kernel
theorem dL_isWhole_176 : decode cL_isWhole 176 = .ok (.iconst 1, 1) := by decide +kernel
theorem dL_isWhole_177 : decode cL_isWhole 177 = .ok (.iadd, 1) := by decide +kernel
theorem dL_isWhole_178 : decode cL_isWhole 178 = .ok (.iastore, 1) := by decide +kernel
theorem dL_isWhole_179 : decode cL_isWhole 179 = .ok (.iinc 8 1, 3) := by decide +kernel
theorem dL_isWhole_182 : decode cL_isWhole 182 = .ok (.goto (-158), 3) := by decide +kernel
theorem dL_isWhole_185 : decode cL_isWhole 185 = .ok (.iconst 0, 1) := by decide +kernel
theorem dL_isWhole_186 : decode cL_isWhole 186 = .ok (.istore 8, 2) := by decide +kernel
theorem dL_isWhole_188 : decode cL_isWhole 188 = .ok (.iconst 0, 1) := by decide +kernel
theorem dL_isWhole_189 : decode cL_isWhole 189 = .ok (.istore 9, 2) := by decide +kernel
theorem dL_isWhole_191 : decode cL_isWhole 191 = .ok (.iconst 0, 1) := by decide +kernel
theorem dL_isWhole_192 : decode cL_isWhole 192 = .ok (.istore 10, 2) := by decide +kernel
theorem dL_isWhole_194 : decode cL_isWhole 194 = .ok (.iload 10, 2) := by decide +kernel
theorem dL_isWhole_196 : decode cL_isWhole 196 = .ok (.iload 4, 2) := by decide +kernel
theorem dL_isWhole_198 : decode cL_isWhole 198 = .ok (.if_icmp .ge 182, 3) := by decide +kernel
theorem dL_isWhole_201 : decode cL_isWhole 201 = .ok (.iload_n 3, 1) := by decide +kernel
theorem dL_isWhole_202 : decode cL_isWhole 202 = .ok (.ifCond .ne 17, 3) := by decide +kernel
theorem dL_isWhole_205 : decode cL_isWhole 205 = .ok (.iload 10, 2) := by decide +kernel
theorem dL_isWhole_207 : decode cL_isWhole 207 = .ok (.aload_n 1, 1) := by decide +kernel
theorem dL_isWhole_208 : decode cL_isWhole 208 = .ok (.iload_n 2, 1) := by decide +kernel
theorem dL_isWhole_209 : decode cL_isWhole 209 = .ok (.iconst 1, 1) := by decide +kernel
theorem dL_isWhole_210 : decode cL_isWhole 210 = .ok (.iadd, 1) := by decide +kernel
theorem dL_isWhole_211 : decode cL_isWhole 211 = .ok (.bipush 6, 2) := by decide +kernel
theorem dL_isWhole_213 : decode cL_isWhole 213 = .ok (.invokestatic 196, 3) := by decide +kernel
theorem dL_isWhole_216 : decode cL_isWhole 216 = .ok (.if_icmp .ne 14, 3) := by decide +kernel
theorem dL_isWhole_219 : decode cL_isWhole 219 = .ok (.aload_n 0, 1) := by decide +kernel
theorem dL_isWhole_220 : decode cL_isWhole 220 = .ok (.iload 10, 2) := by decide +kernel
theorem dL_isWhole_222 : decode cL_isWhole 222 = .ok (.invokestatic 335, 3) := by decide +kernel
theorem dL_isWhole_225 : decode cL_isWhole 225 = .ok (.ifCond .ne 5, 3) := by decide +kernel
theorem dL_isWhole_228 : decode cL_isWhole 228 = .ok (.iconst 0, 1) := by decide +kernel
theorem dL_isWhole_229 : decode cL_isWhole 229 = .ok (.ireturn, 1) := by decide +kernel
theorem dL_isWhole_230 : decode cL_isWhole 230 = .ok (.iload 8, 2) := by decide +kernel
theorem dL_isWhole_232 : decode cL_isWhole 232 = .ok (.aload_n 0, 1) := by decide +kernel
theorem dL_isWhole_233 : decode cL_isWhole 233 = .ok (.iload 10, 2) := by decide +kernel
theorem dL_isWhole_235 : decode cL_isWhole 235 = .ok (.invokestatic 313, 3) := by decide +kernel
theorem dL_isWhole_238 : decode cL_isWhole 238 = .ok (.iadd, 1) := by decide +kernel
theorem dL_isWhole_239 : decode cL_isWhole 239 = .ok (.istore 8, 2) := by decide +kernel
theorem dL_isWhole_241 : decode cL_isWhole 241 = .ok (.aload_n 0, 1) := by decide +kernel
theorem dL_isWhole_242 : decode cL_isWhole 242 = .ok (.iload 10, 2) := by decide +kernel
theorem dL_isWhole_244 : decode cL_isWhole 244 = .ok (.invokestatic 331, 3) := by decide +kernel
theorem dL_isWhole_247 : decode cL_isWhole 247 = .ok (.istore 11, 2) := by decide +kernel
theorem dL_isWhole_249 : decode cL_isWhole 249 = .ok (.iconst 0, 1) := by decide +kernel
theorem dL_isWhole_250 : decode cL_isWhole 250 = .ok (.istore 12, 2) := by decide +kernel
theorem dL_isWhole_252 : decode cL_isWhole 252 = .ok (.iload 12, 2) := by decide +kernel
theorem dL_isWhole_254 : decode cL_isWhole 254 = .ok (.bipush 6, 2) := by decide +kernel
theorem dL_isWhole_256 : decode cL_isWhole 256 = .ok (.if_icmp .ge 29, 3) := by decide +kernel
theorem dL_isWhole_259 : decode cL_isWhole 259 = .ok (.iload 11, 2) := by decide +kernel
theorem dL_isWhole_261 : decode cL_isWhole 261 = .ok (.ifCond .lt 24, 3) := by decide +kernel
theorem dL_isWhole_264 : decode cL_isWhole 264 = .ok (.iload 11, 2) := by decide +kernel
theorem dL_isWhole_266 : decode cL_isWhole 266 = .ok (.iload 10, 2) := by decide +kernel
theorem dL_isWhole_268 : decode cL_isWhole 268 = .ok (.if_icmp .eq 17, 3) := by decide +kernel
theorem dL_isWhole_271 : decode cL_isWhole 271 = .ok (.aload_n 0, 1) := by decide +kernel
theorem dL_isWhole_272 : decode cL_isWhole 272 = .ok (.iload 11, 2) := by decide +kernel
theorem dL_isWhole_274 : decode cL_isWhole 274 = .ok (.invokestatic 331, 3) := by decide +kernel
theorem dL_isWhole_277 : decode cL_isWhole 277 = .ok (.istore 11, 2) := by decide +kernel
theorem dL_isWhole_279 : decode cL_isWhole 279 = .ok (.iinc 12 1, 3) := by decide +kernel
theorem dL_isWhole_282 : decode cL_isWhole 282 = .ok (.goto (-30), 3) := by decide +kernel
theorem dL_isWhole_285 : decode cL_isWhole 285 = .ok (.iload 9, 2) := by decide +kernel
theorem dL_isWhole_287 : decode cL_isWhole 287 = .ok (.iload 11, 2) := by decide +kernel
theorem dL_isWhole_289 : decode cL_isWhole 289 = .ok (.iload 10, 2) := by decide +kernel
theorem dL_isWhole_291 : decode cL_isWhole 291 = .ok (.if_icmp .ne 7, 3) := by decide +kernel
theorem dL_isWhole_294 : decode cL_isWhole 294 = .ok (.iconst 1, 1) := by decide +kernel
theorem dL_isWhole_295 : decode cL_isWhole 295 = .ok (.goto 4, 3) := by decide +kernel
theorem dL_isWhole_298 : decode cL_isWhole 298 = .ok (.iconst 0, 1) := by decide +kernel
theorem dL_isWhole_299 : decode cL_isWhole 299 = .ok (.iadd, 1) := by decide +kernel
theorem dL_isWhole_300 : decode cL_isWhole 300 = .ok (.istore 9, 2) := by decide +kernel
theorem dL_isWhole_302 : decode cL_isWhole 302 = .ok (.aload_n 0, 1) := by decide +kernel
theorem dL_isWhole_303 : decode cL_isWhole 303 = .ok (.iload 10, 2) := by decide +kernel
theorem dL_isWhole_305 : decode cL_isWhole 305 = .ok (.invokestatic 339, 3) := by decide +kernel
theorem dL_isWhole_308 : decode cL_isWhole 308 = .ok (.istore 12, 2) := by decide +kernel
theorem dL_isWhole_310 : decode cL_isWhole 310 = .ok (.iload 10, 2) := by decide +kernel
theorem dL_isWhole_312 : decode cL_isWhole 312 = .ok (.ifCond .ne 8, 3) := by decide +kernel
theorem dL_isWhole_315 : decode cL_isWhole 315 = .ok (.iload 12, 2) := by decide +kernel
theorem dL_isWhole_317 : decode cL_isWhole 317 = .ok (.goto 11, 3) := by decide +kernel
theorem dL_isWhole_320 : decode cL_isWhole 320 = .ok (.aload_n 0, 1) := by decide +kernel
theorem dL_isWhole_321 : decode cL_isWhole 321 = .ok (.iload 10, 2) := by decide +kernel
theorem dL_isWhole_323 : decode cL_isWhole 323 = .ok (.iconst 1, 1) := by decide +kernel
theorem dL_isWhole_324 : decode cL_isWhole 324 = .ok (.isub, 1) := by decide +kernel
theorem dL_isWhole_325 : decode cL_isWhole 325 = .ok (.invokestatic 339, 3) := by decide +kernel
theorem dL_isWhole_328 : decode cL_isWhole 328 = .ok (.istore 13, 2) := by decide +kernel
theorem dL_isWhole_330 : decode cL_isWhole 330 = .ok (.aload_n 0, 1) := by decide +kernel
theorem dL_isWhole_331 : decode cL_isWhole 331 = .ok (.iload 13, 2) := by decide +kernel
theorem dL_isWhole_333 : decode cL_isWhole 333 = .ok (.invokestatic 307, 3) := by decide +kernel
theorem dL_isWhole_336 : decode cL_isWhole 336 = .ok (.aload_n 0, 1) := by decide +kernel
theorem dL_isWhole_337 : decode cL_isWhole 337 = .ok (.iload 12, 2) := by decide +kernel
theorem dL_isWhole_339 : decode cL_isWhole 339 = .ok (.invokestatic 307, 3) := by decide +kernel
theorem dL_isWhole_342 : decode cL_isWhole 342 = .ok (.if_icmp .lt 30, 3) := by decide +kernel
theorem dL_isWhole_345 : decode cL_isWhole 345 = .ok (.iload 10, 2) := by decide +kernel
theorem dL_isWhole_347 : decode cL_isWhole 347 = .ok (.ifCond .le 27, 3) := by decide +kernel
theorem dL_isWhole_350 : decode cL_isWhole 350 = .ok (.aload_n 0, 1) := by decide +kernel
theorem dL_isWhole_351 : decode cL_isWhole 351 = .ok (.iload 13, 2) := by decide +kernel
theorem dL_isWhole_353 : decode cL_isWhole 353 = .ok (.invokestatic 307, 3) := by decide +kernel
theorem dL_isWhole_356 : decode cL_isWhole 356 = .ok (.aload_n 0, 1) := by decide +kernel
theorem dL_isWhole_357 : decode cL_isWhole 357 = .ok (.iload 12, 2) := by decide +kernel
theorem dL_isWhole_359 : decode cL_isWhole 359 = .ok (.invokestatic 307, 3) := by decide +kernel
theorem dL_isWhole_362 : decode cL_isWhole 362 = .ok (.if_icmp .ne 12, 3) := by decide +kernel
theorem dL_isWhole_365 : decode cL_isWhole 365 = .ok (.iload 13, 2) := by decide +kernel
theorem dL_isWhole_367 : decode cL_isWhole 367 = .ok (.iload 12, 2) := by decide +kernel
theorem dL_isWhole_369 : decode cL_isWhole 369 = .ok (.if_icmp .le 5, 3) := by decide +kernel
theorem dL_isWhole_372 : decode cL_isWhole 372 = .ok (.iconst 0, 1) := by decide +kernel
theorem dL_isWhole_373 : decode cL_isWhole 373 = .ok (.ireturn, 1) := by decide +kernel
theorem dL_isWhole_374 : decode cL_isWhole 374 = .ok (.iinc 10 1, 3) := by decide +kernel
theorem dL_isWhole_377 : decode cL_isWhole 377 = .ok (.goto (-183), 3) := by decide +kernel
theorem dL_isWhole_380 : decode cL_isWhole 380 = .ok (.aload_n 0, 1) := by decide +kernel
theorem dL_isWhole_381 : decode cL_isWhole 381 = .ok (.invokestatic 341, 3) := by decide +kernel
theorem dL_isWhole_384 : decode cL_isWhole 384 = .ok (.iload 4, 2) := by decide +kernel
theorem dL_isWhole_386 : decode cL_isWhole 386 = .ok (.ifCond .ne 9, 3) := by decide +kernel
theorem dL_isWhole_389 : decode cL_isWhole 389 = .ok (.ldc2_w 139, 3) := by decide +kernel
theorem dL_isWhole_392 : decode cL_isWhole 392 = .ok (.goto 10, 3) := by decide +kernel
theorem dL_isWhole_395 : decode cL_isWhole 395 = .ok (.iload 8, 2) := by decide +kernel
theorem dL_isWhole_397 : decode cL_isWhole 397 = .ok (.i2d, 1) := by decide +kernel
theorem dL_isWhole_398 : decode cL_isWhole 398 = .ok (.iload 4, 2) := by decide +kernel
theorem dL_isWhole_400 : decode cL_isWhole 400 = .ok (.i2d, 1) := by decide +kernel
theorem dL_isWhole_401 : decode cL_isWhole 401 = .ok (.ddiv, 1) := by decide +kernel
theorem dL_isWhole_402 : decode cL_isWhole 402 = .ok (.dcmp .l, 1) := by decide +kernel
theorem dL_isWhole_403 : decode cL_isWhole 403 = .ok (.ifCond .ne 32, 3) := by decide +kernel
theorem dL_isWhole_406 : decode cL_isWhole 406 = .ok (.aload_n 0, 1) := by decide +kernel
theorem dL_isWhole_407 : decode cL_isWhole 407 = .ok (.invokestatic 344, 3) := by decide +kernel
theorem dL_isWhole_410 : decode cL_isWhole 410 = .ok (.iload 5, 2) := by decide +kernel
theorem dL_isWhole_412 : decode cL_isWhole 412 = .ok (.ifCond .ne 8, 3) := by decide +kernel
theorem dL_isWhole_415 : decode cL_isWhole 415 = .ok (.ldc 145, 2) := by decide +kernel
theorem dL_isWhole_417 : decode cL_isWhole 417 = .ok (.goto 10, 3) := by decide +kernel
theorem dL_isWhole_420 : decode cL_isWhole 420 = .ok (.iload 4, 2) := by decide +kernel
theorem dL_isWhole_422 : decode cL_isWhole 422 = .ok (.i2f, 1) := by decide +kernel
theorem dL_isWhole_423 : decode cL_isWhole 423 = .ok (.iload 5, 2) := by decide +kernel
theorem dL_isWhole_425 : decode cL_isWhole 425 = .ok (.i2f, 1) := by decide +kernel
theorem dL_isWhole_426 : decode cL_isWhole 426 = .ok (.fdiv, 1) := by decide +kernel
theorem dL_isWhole_427 : decode cL_isWhole 427 = .ok (.fcmp .l, 1) := by decide +kernel
theorem dL_isWhole_428 : decode cL_isWhole 428 = .ok (.ifCond .ne 7, 3) := by decide +kernel
theorem dL_isWhole_431 : decode cL_isWhole 431 = .ok (.iconst 1, 1) := by decide +kernel
theorem dL_isWhole_432 : decode cL_isWhole 432 = .ok (.goto 4, 3) := by decide +kernel
theorem dL_isWhole_435 : decode cL_isWhole 435 = .ok (.iconst 0, 1) := by decide +kernel
theorem dL_isWhole_436 : decode cL_isWhole 436 = .ok (.istore 10, 2) := by decide +kernel
theorem dL_isWhole_438 : decode cL_isWhole 438 = .ok (.aload_n 0, 1) := by decide +kernel
theorem dL_isWhole_439 : decode cL_isWhole 439 = .ok (.invokevirtual 347, 3) := by decide +kernel
theorem dL_isWhole_442 : decode cL_isWhole 442 = .ok (.iload 9, 2) := by decide +kernel
theorem dL_isWhole_444 : decode cL_isWhole 444 = .ok (.if_icmp .ne 22, 3) := by decide +kernel
theorem dL_isWhole_447 : decode cL_isWhole 447 = .ok (.aload_n 0, 1) := by decide +kernel
theorem dL_isWhole_448 : decode cL_isWhole 448 = .ok (.invokevirtual 350, 3) := by decide +kernel
theorem dL_isWhole_451 : decode cL_isWhole 451 = .ok (.iload 9, 2) := by decide +kernel
theorem dL_isWhole_453 : decode cL_isWhole 453 = .ok (.if_icmp .ne 13, 3) := by decide +kernel
theorem dL_isWhole_456 : decode cL_isWhole 456 = .ok (.iload 9, 2) := by decide +kernel
theorem dL_isWhole_458 : decode cL_isWhole 458 = .ok (.iconst 1, 1) := by decide +kernel
theorem dL_isWhole_459 : decode cL_isWhole 459 = .ok (.if_icmp .eq 7, 3) := by decide +kernel
theorem dL_isWhole_462 : decode cL_isWhole 462 = .ok (.iconst 1, 1) := by decide +kernel
theorem dL_isWhole_463 : decode cL_isWhole 463 = .ok (.goto 4, 3) := by decide +kernel
theorem dL_isWhole_466 : decode cL_isWhole 466 = .ok (.iconst 0, 1) := by decide +kernel
theorem dL_isWhole_467 : decode cL_isWhole 467 = .ok (.istore 11, 2) := by decide +kernel
theorem dL_isWhole_469 : decode cL_isWhole 469 = .ok (.iload 10, 2) := by decide +kernel
theorem dL_isWhole_471 : decode cL_isWhole 471 = .ok (.ifCond .eq 62, 3) := by decide +kernel
theorem dL_isWhole_474 : decode cL_isWhole 474 = .ok (.iload 11, 2) := by decide +kernel
theorem dL_isWhole_476 : decode cL_isWhole 476 = .ok (.ifCond .eq 57, 3) := by decide +kernel
theorem dL_isWhole_479 : decode cL_isWhole 479 = .ok (.iload 6, 2) := by decide +kernel
theorem dL_isWhole_481 : decode cL_isWhole 481 = .ok (.iload 4, 2) := by decide +kernel
theorem dL_isWhole_483 : decode cL_isWhole 483 = .ok (.if_icmp .ne 50, 3) := by decide +kernel
theorem dL_isWhole_486 : decode cL_isWhole 486 = .ok (.iload 4, 2) := by decide +kernel
theorem dL_isWhole_488 : decode cL_isWhole 488 = .ok (.bipush 6, 2) := by decide +kernel
theorem dL_isWhole_490 : decode cL_isWhole 490 = .ok (.if_icmp .gt 43, 3) := by decide +kernel
theorem dL_isWhole_493 : decode cL_isWhole 493 = .ok (.iload 5, 2) := by decide +kernel
theorem dL_isWhole_495 : decode cL_isWhole 495 = .ok (.bipush 14, 2) := by decide +kernel
theorem dL_isWhole_497 : decode cL_isWhole 497 = .ok (.if_icmp .gt 36, 3) := by decide +kernel
theorem dL_isWhole_500 : decode cL_isWhole 500 = .ok (.aload_n 0, 1) := by decide +kernel
theorem dL_isWhole_501 : decode cL_isWhole 501 = .ok (.iload 4, 2) := by decide +kernel
theorem dL_isWhole_503 : decode cL_isWhole 503 = .ok (.invokestatic 339, 3) := by decide +kernel
theorem dL_isWhole_506 : decode cL_isWhole 506 = .ok (.bipush (-75), 2) := by decide +kernel
theorem dL_isWhole_508 : decode cL_isWhole 508 = .ok (.if_icmp .ne 25, 3) := by decide +kernel
theorem dL_isWhole_511 : decode cL_isWhole 511 = .ok (.iload_n 3, 1) := by decide +kernel
theorem dL_isWhole_512 : decode cL_isWhole 512 = .ok (.ifCond .eq 17, 3) := by decide +kernel
theorem dL_isWhole_515 : decode cL_isWhole 515 = .ok (.aload_n 0, 1) := by decide +kernel
theorem dL_isWhole_516 : decode cL_isWhole 516 = .ok (.invokestatic 353, 3) := by decide +kernel
theorem dL_isWhole_519 : decode cL_isWhole 519 = .ok (.ifCond .eq 14, 3) := by decide +kernel
theorem dL_isWhole_522 : decode cL_isWhole 522 = .ok (.aload_n 0, 1) := by decide +kernel
theorem dL_isWhole_523 : decode cL_isWhole 523 = .ok (.invokevirtual 357, 3) := by decide +kernel
theorem dL_isWhole_526 : decode cL_isWhole 526 = .ok (.ifCond .eq 7, 3) := by decide +kernel
theorem dL_isWhole_529 : decode cL_isWhole 529 = .ok (.iconst 1, 1) := by decide +kernel
theorem dL_isWhole_530 : decode cL_isWhole 530 = .ok (.goto 4, 3) := by decide +kernel
theorem dL_isWhole_533 : decode cL_isWhole 533 = .ok (.iconst 0, 1) := by decide +kernel
theorem dL_isWhole_534 : decode cL_isWhole 534 = .ok (.ireturn, 1) := by decide +kernel
theorem dL_isKept_0 : decode cL_isKept 0 = .ok (.aload_n 0, 1) := by decide +kernel
theorem dL_isKept_1 : decode cL_isKept 1 = .ok (.invokevirtual 361, 3) := by decide +kernel
theorem dL_isKept_4 : decode cL_isKept 4 = .ok (.istore_n 3, 1) := by decide +kernel
theorem dL_isKept_5 : decode cL_isKept 5 = .ok (.bipush 8, 2) := by decide +kernel
theorem dL_isKept_7 : decode cL_isKept 7 = .ok (.iload_n 2, 1) := by decide +kernel
theorem dL_isKept_8 : decode cL_isKept 8 = .ok (.invokestatic 364, 3) := by decide +kernel
theorem dL_isKept_11 : decode cL_isKept 11 = .ok (.istore 4, 2) := by decide +kernel
theorem dL_isKept_13 : decode cL_isKept 13 = .ok (.aload_n 0, 1) := by decide +kernel
theorem dL_isKept_14 : decode cL_isKept 14 = .ok (.invokevirtual 193, 3) := by decide +kernel
theorem dL_isKept_17 : decode cL_isKept 17 = .ok (.iload 4, 2) := by decide +kernel
theorem dL_isKept_19 : decode cL_isKept 19 = .ok (.if_icmp .eq 5, 3) := by decide +kernel
theorem dL_isKept_22 : decode cL_isKept 22 = .ok (.iconst 0, 1) := by decide +kernel
theorem dL_isKept_23 : decode cL_isKept 23 = .ok (.ireturn, 1) := by decide +kernel
theorem dL_isKept_24 : decode cL_isKept 24 = .ok (.iload_n 2, 1) := by decide +kernel
theorem dL_isKept_25 : decode cL_isKept 25 = .ok (.iconst 1, 1) := by decide +kernel
theorem dL_isKept_26 : decode cL_isKept 26 = .ok (.isub, 1) := by decide +kernel
theorem dL_isKept_27 : decode cL_isKept 27 = .ok (.istore 5, 2) := by decide +kernel
theorem dL_isKept_29 : decode cL_isKept 29 = .ok (.iload 4, 2) := by decide +kernel
theorem dL_isKept_31 : decode cL_isKept 31 = .ok (.ifCond .le 35, 3) := by decide +kernel
theorem dL_isKept_34 : decode cL_isKept 34 = .ok (.iinc 4 (-1), 3) := by decide +kernel
theorem dL_isKept_37 : decode cL_isKept 37 = .ok (.aload_n 0, 1) := by decide +kernel
theorem dL_isKept_38 : decode cL_isKept 38 = .ok (.invokestatic 369, 3) := by decide +kernel
theorem dL_isKept_41 : decode cL_isKept 41 = .ok (.iload 4, 2) := by decide +kernel
theorem dL_isKept_43 : decode cL_isKept 43 = .ok (.if_icmp .ne 15, 3) := by decide +kernel
theorem dL_isKept_46 : decode cL_isKept 46 = .ok (.aload_n 0, 1) := by decide +kernel
theorem dL_isKept_47 : decode cL_isKept 47 = .ok (.invokestatic 189, 3) := by decide +kernel
theorem dL_isKept_50 : decode cL_isKept 50 = .ok (.aload_n 1, 1) := by decide +kernel
theorem dL_isKept_51 : decode cL_isKept 51 = .ok (.iload 5, 2) := by decide +kernel
theorem dL_isKept_53 : decode cL_isKept 53 = .ok (.laload, 1) := by decide +kernel
theorem dL_isKept_54 : decode cL_isKept 54 = .ok (.lcmp, 1) := by decide +kernel
theorem dL_isKept_55 : decode cL_isKept 55 = .ok (.ifCond .eq 5, 3) := by decide +kernel
theorem dL_isKept_58 : decode cL_isKept 58 = .ok (.iconst 0, 1) := by decide +kernel
theorem dL_isKept_59 : decode cL_isKept 59 = .ok (.ireturn, 1) := by decide +kernel
theorem dL_isKept_60 : decode cL_isKept 60 = .ok (.iinc 5 (-1), 3) := by decide +kernel
theorem dL_isKept_63 : decode cL_isKept 63 = .ok (.goto (-34), 3) := by decide +kernel
theorem dL_isKept_66 : decode cL_isKept 66 = .ok (.aload_n 0, 1) := by decide +kernel
theorem dL_isKept_67 : decode cL_isKept 67 = .ok (.invokestatic 369, 3) := by decide +kernel
theorem dL_isKept_70 : decode cL_isKept 70 = .ok (.bipush (-79), 2) := by decide +kernel
theorem dL_isKept_72 : decode cL_isKept 72 = .ok (.if_icmp .ne 35, 3) := by decide +kernel
theorem dL_isKept_75 : decode cL_isKept 75 = .ok (.aload_n 0, 1) := by decide +kernel
theorem dL_isKept_76 : decode cL_isKept 76 = .ok (.invokestatic 371, 3) := by decide +kernel
theorem dL_isKept_79 : decode cL_isKept 79 = .ok (.iload_n 3, 1) := by decide +kernel
theorem dL_isKept_80 : decode cL_isKept 80 = .ok (.if_icmp .ne 27, 3) := by decide +kernel
theorem dL_isKept_83 : decode cL_isKept 83 = .ok (.aload_n 0, 1) := by decide +kernel
theorem dL_isKept_84 : decode cL_isKept 84 = .ok (.invokestatic 189, 3) := by decide +kernel
theorem dL_isKept_87 : decode cL_isKept 87 = .ok (.aload_n 1, 1) := by decide +kernel
theorem dL_isKept_88 : decode cL_isKept 88 = .ok (.iload_n 2, 1) := by decide +kernel
theorem dL_isKept_89 : decode cL_isKept 89 = .ok (.laload, 1) := by decide +kernel
theorem dL_isKept_90 : decode cL_isKept 90 = .ok (.lcmp, 1) := by decide +kernel
theorem dL_isKept_91 : decode cL_isKept 91 = .ok (.ifCond .ne 16, 3) := by decide +kernel
theorem dL_isKept_94 : decode cL_isKept 94 = .ok (.aload_n 0, 1) := by decide +kernel
theorem dL_isKept_95 : decode cL_isKept 95 = .ok (.invokestatic 369, 3) := by decide +kernel
theorem dL_isKept_98 : decode cL_isKept 98 = .ok (.bipush (-79), 2) := by decide +kernel
theorem dL_isKept_100 : decode cL_isKept 100 = .ok (.if_icmp .ne 7, 3) := by decide +kernel
theorem dL_isKept_103 : decode cL_isKept 103 = .ok (.iconst 1, 1) := by decide +kernel
theorem dL_isKept_104 : decode cL_isKept 104 = .ok (.goto 4, 3) := by decide +kernel
theorem dL_isKept_107 : decode cL_isKept 107 = .ok (.iconst 0, 1) := by decide +kernel
theorem dL_isKept_108 : decode cL_isKept 108 = .ok (.ireturn, 1) := by decide +kernel
