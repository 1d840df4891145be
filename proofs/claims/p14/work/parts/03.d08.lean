theorem dX7_runs_322 : decode cX7_runs 322 = .ok (.goto 48, 3) := by decide +kernel
theorem dX7_runs_325 : decode cX7_runs 325 = .ok (.iload 5, 2) := by decide +kernel
theorem dX7_runs_327 : decode cX7_runs 327 = .ok (.bipush 93, 2) := by decide +kernel
theorem dX7_runs_329 : decode cX7_runs 329 = .ok (.if_icmp .ne 35, 3) := by decide +kernel
theorem dX7_runs_332 : decode cX7_runs 332 = .ok (.aload_n 0, 1) := by decide +kernel
theorem dX7_runs_333 : decode cX7_runs 333 = .ok (.getfield 122, 3) := by decide +kernel
theorem dX7_runs_336 : decode cX7_runs 336 = .ok (.aload_n 0, 1) := by decide +kernel
theorem dX7_runs_337 : decode cX7_runs 337 = .ok (.getfield 128, 3) := by decide +kernel
theorem dX7_runs_340 : decode cX7_runs 340 = .ok (.iconst 1, 1) := by decide +kernel
theorem dX7_runs_341 : decode cX7_runs 341 = .ok (.isub, 1) := by decide +kernel
theorem dX7_runs_342 : decode cX7_runs 342 = .ok (.iaload, 1) := by decide +kernel
theorem dX7_runs_343 : decode cX7_runs 343 = .ok (.ifCond .eq 14, 3) := by decide +kernel
theorem dX7_runs_346 : decode cX7_runs 346 = .ok (.aload_n 0, 1) := by decide +kernel
theorem dX7_runs_347 : decode cX7_runs 347 = .ok (.iload_n 1, 1) := by decide +kernel
theorem dX7_runs_348 : decode cX7_runs 348 = .ok (.iload 4, 2) := by decide +kernel
theorem dX7_runs_350 : decode cX7_runs 350 = .ok (.iconst (-1), 1) := by decide +kernel
theorem dX7_runs_351 : decode cX7_runs 351 = .ok (.invokevirtual 180, 3) := by decide +kernel
theorem dX7_runs_354 : decode cX7_runs 354 = .ok (.goto 5, 3) := by decide +kernel
theorem dX7_runs_357 : decode cX7_runs 357 = .ok (.iload 4, 2) := by decide +kernel
theorem dX7_runs_359 : decode cX7_runs 359 = .ok (.istore 4, 2) := by decide +kernel
theorem dX7_runs_361 : decode cX7_runs 361 = .ok (.goto 9, 3) := by decide +kernel
theorem dX7_runs_364 : decode cX7_runs 364 = .ok (.aload_n 0, 1) := by decide +kernel
theorem dX7_runs_365 : decode cX7_runs 365 = .ok (.iload 5, 2) := by decide +kernel
theorem dX7_runs_367 : decode cX7_runs 367 = .ok (.invokevirtual 184, 3) := by decide +kernel
theorem dX7_runs_370 : decode cX7_runs 370 = .ok (.iinc 4 1, 3) := by decide +kernel
theorem dX7_runs_373 : decode cX7_runs 373 = .ok (.goto (-353), 3) := by decide +kernel
theorem dX7_runs_376 : decode cX7_runs 376 = .ok (.aload_n 0, 1) := by decide +kernel
theorem dX7_runs_377 : decode cX7_runs 377 = .ok (.getfield 131, 3) := by decide +kernel
theorem dX7_runs_380 : decode cX7_runs 380 = .ok (.aload_n 0, 1) := by decide +kernel
theorem dX7_runs_381 : decode cX7_runs 381 = .ok (.getfield 66, 3) := by decide +kernel
theorem dX7_runs_384 : decode cX7_runs 384 = .ok (.iload_n 2, 1) := by decide +kernel
theorem dX7_runs_385 : decode cX7_runs 385 = .ok (.iaload, 1) := by decide +kernel
theorem dX7_runs_386 : decode cX7_runs 386 = .ok (.if_icmp .ne 7, 3) := by decide +kernel
theorem dX7_runs_389 : decode cX7_runs 389 = .ok (.iconst 1, 1) := by decide +kernel
theorem dX7_runs_390 : decode cX7_runs 390 = .ok (.goto 4, 3) := by decide +kernel
theorem dX7_runs_393 : decode cX7_runs 393 = .ok (.iconst 0, 1) := by decide +kernel
theorem dX7_runs_394 : decode cX7_runs 394 = .ok (.istore 5, 2) := by decide +kernel
theorem dX7_runs_396 : decode cX7_runs 396 = .ok (.iconst 0, 1) := by decide +kernel
theorem dX7_runs_397 : decode cX7_runs 397 = .ok (.istore 6, 2) := by decide +kernel
theorem dX7_runs_399 : decode cX7_runs 399 = .ok (.iload 6, 2) := by decide +kernel
theorem dX7_runs_401 : decode cX7_runs 401 = .ok (.aload_n 0, 1) := by decide +kernel
theorem dX7_runs_402 : decode cX7_runs 402 = .ok (.getfield 131, 3) := by decide +kernel
theorem dX7_runs_405 : decode cX7_runs 405 = .ok (.if_icmp .ge 43, 3) := by decide +kernel
theorem dX7_runs_408 : decode cX7_runs 408 = .ok (.iload 5, 2) := by decide +kernel
theorem dX7_runs_410 : decode cX7_runs 410 = .ok (.ifCond .eq 38, 3) := by decide +kernel
theorem dX7_runs_413 : decode cX7_runs 413 = .ok (.aload_n 0, 1) := by decide +kernel
theorem dX7_runs_414 : decode cX7_runs 414 = .ok (.getfield 125, 3) := by decide +kernel
theorem dX7_runs_417 : decode cX7_runs 417 = .ok (.iload 6, 2) := by decide +kernel
theorem dX7_runs_419 : decode cX7_runs 419 = .ok (.iaload, 1) := by decide +kernel
theorem dX7_runs_420 : decode cX7_runs 420 = .ok (.aload_n 0, 1) := by decide +kernel
theorem dX7_runs_421 : decode cX7_runs 421 = .ok (.getfield 72, 3) := by decide +kernel
theorem dX7_runs_424 : decode cX7_runs 424 = .ok (.bipush 6, 2) := by decide +kernel
theorem dX7_runs_426 : decode cX7_runs 426 = .ok (.iload_n 2, 1) := by decide +kernel
theorem dX7_runs_427 : decode cX7_runs 427 = .ok (.imul, 1) := by decide +kernel
theorem dX7_runs_428 : decode cX7_runs 428 = .ok (.iload 6, 2) := by decide +kernel
theorem dX7_runs_430 : decode cX7_runs 430 = .ok (.iadd, 1) := by decide +kernel
theorem dX7_runs_431 : decode cX7_runs 431 = .ok (.iaload, 1) := by decide +kernel
theorem dX7_runs_432 : decode cX7_runs 432 = .ok (.if_icmp .ne 7, 3) := by decide +kernel
theorem dX7_runs_435 : decode cX7_runs 435 = .ok (.iconst 1, 1) := by decide +kernel
theorem dX7_runs_436 : decode cX7_runs 436 = .ok (.goto 4, 3) := by decide +kernel
theorem dX7_runs_439 : decode cX7_runs 439 = .ok (.iconst 0, 1) := by decide +kernel
theorem dX7_runs_440 : decode cX7_runs 440 = .ok (.istore 5, 2) := by decide +kernel
theorem dX7_runs_442 : decode cX7_runs 442 = .ok (.iinc 6 1, 3) := by decide +kernel
theorem dX7_runs_445 : decode cX7_runs 445 = .ok (.goto (-46), 3) := by decide +kernel
theorem dX7_runs_448 : decode cX7_runs 448 = .ok (.iload 5, 2) := by decide +kernel
theorem dX7_runs_450 : decode cX7_runs 450 = .ok (.ifCond .eq 8, 3) := by decide +kernel
theorem dX7_runs_453 : decode cX7_runs 453 = .ok (.bipush 111, 2) := by decide +kernel
theorem dX7_runs_455 : decode cX7_runs 455 = .ok (.goto 5, 3) := by decide +kernel
theorem dX7_runs_458 : decode cX7_runs 458 = .ok (.bipush 119, 2) := by decide +kernel
theorem dX7_runs_460 : decode cX7_runs 460 = .ok (.ireturn, 1) := by decide +kernel
theorem dX7_changes_0 : decode cX7_changes 0 = .ok (.aload_n 0, 1) := by decide +kernel
theorem dX7_changes_1 : decode cX7_changes 1 = .ok (.getfield 122, 3) := by decide +kernel
theorem dX7_changes_4 : decode cX7_changes 4 = .ok (.aload_n 0, 1) := by decide +kernel
theorem dX7_changes_5 : decode cX7_changes 5 = .ok (.getfield 128, 3) := by decide +kernel
theorem dX7_changes_8 : decode cX7_changes 8 = .ok (.iconst 1, 1) := by decide +kernel
theorem dX7_changes_9 : decode cX7_changes 9 = .ok (.isub, 1) := by decide +kernel
theorem dX7_changes_10 : decode cX7_changes 10 = .ok (.iaload, 1) := by decide +kernel
theorem dX7_changes_11 : decode cX7_changes 11 = .ok (.istore_n 2, 1) := by decide +kernel
theorem dX7_changes_12 : decode cX7_changes 12 = .ok (.iload_n 1, 1) := by decide +kernel
theorem dX7_changes_13 : decode cX7_changes 13 = .ok (.bipush 112, 2) := by decide +kernel
theorem dX7_changes_15 : decode cX7_changes 15 = .ok (.if_icmp .eq 9, 3) := by decide +kernel
theorem dX7_changes_18 : decode cX7_changes 18 = .ok (.iload_n 1, 1) := by decide +kernel
theorem dX7_changes_19 : decode cX7_changes 19 = .ok (.bipush 111, 2) := by decide +kernel
theorem dX7_changes_21 : decode cX7_changes 21 = .ok (.if_icmp .ne 40, 3) := by decide +kernel
theorem dX7_changes_24 : decode cX7_changes 24 = .ok (.aload_n 0, 1) := by decide +kernel
theorem dX7_changes_25 : decode cX7_changes 25 = .ok (.dup, 1) := by decide +kernel
theorem dX7_changes_26 : decode cX7_changes 26 = .ok (.getfield 128, 3) := by decide +kernel
theorem dX7_changes_29 : decode cX7_changes 29 = .ok (.iconst 1, 1) := by decide +kernel
theorem dX7_changes_30 : decode cX7_changes 30 = .ok (.isub, 1) := by decide +kernel
theorem dX7_changes_31 : decode cX7_changes 31 = .ok (.putfield 128, 3) := by decide +kernel
theorem dX7_changes_34 : decode cX7_changes 34 = .ok (.iload_n 1, 1) := by decide +kernel
theorem dX7_changes_35 : decode cX7_changes 35 = .ok (.bipush 111, 2) := by decide +kernel
theorem dX7_changes_37 : decode cX7_changes 37 = .ok (.if_icmp .ne 23, 3) := by decide +kernel
theorem dX7_changes_40 : decode cX7_changes 40 = .ok (.aload_n 0, 1) := by decide +kernel
theorem dX7_changes_41 : decode cX7_changes 41 = .ok (.getfield 125, 3) := by decide +kernel
theorem dX7_changes_44 : decode cX7_changes 44 = .ok (.aload_n 0, 1) := by decide +kernel
theorem dX7_changes_45 : decode cX7_changes 45 = .ok (.getfield 131, 3) := by decide +kernel
theorem dX7_changes_48 : decode cX7_changes 48 = .ok (.iload_n 2, 1) := by decide +kernel
theorem dX7_changes_49 : decode cX7_changes 49 = .ok (.iastore, 1) := by decide +kernel
theorem dX7_changes_50 : decode cX7_changes 50 = .ok (.aload_n 0, 1) := by decide +kernel
theorem dX7_changes_51 : decode cX7_changes 51 = .ok (.dup, 1) := by decide +kernel
theorem dX7_changes_52 : decode cX7_changes 52 = .ok (.getfield 131, 3) := by decide +kernel
theorem dX7_changes_55 : decode cX7_changes 55 = .ok (.iconst 1, 1) := by decide +kernel
theorem dX7_changes_56 : decode cX7_changes 56 = .ok (.iadd, 1) := by decide +kernel
theorem dX7_changes_57 : decode cX7_changes 57 = .ok (.putfield 131, 3) := by decide +kernel
theorem dX7_changes_60 : decode cX7_changes 60 = .ok (.return_, 1) := by decide +kernel
theorem dX7_changes_61 : decode cX7_changes 61 = .ok (.aload_n 0, 1) := by decide +kernel
theorem dX7_changes_62 : decode cX7_changes 62 = .ok (.getfield 122, 3) := by decide +kernel
theorem dX7_changes_65 : decode cX7_changes 65 = .ok (.aload_n 0, 1) := by decide +kernel
theorem dX7_changes_66 : decode cX7_changes 66 = .ok (.getfield 128, 3) := by decide +kernel
theorem dX7_changes_69 : decode cX7_changes 69 = .ok (.iconst 2, 1) := by decide +kernel
theorem dX7_changes_70 : decode cX7_changes 70 = .ok (.isub, 1) := by decide +kernel
theorem dX7_changes_71 : decode cX7_changes 71 = .ok (.iaload, 1) := by decide +kernel
theorem dX7_changes_72 : decode cX7_changes 72 = .ok (.istore_n 3, 1) := by decide +kernel
theorem dX7_changes_73 : decode cX7_changes 73 = .ok (.iload_n 1, 1) := by decide +kernel
theorem dX7_changes_74 : decode cX7_changes 74 = .ok (.bipush 115, 2) := by decide +kernel
theorem dX7_changes_76 : decode cX7_changes 76 = .ok (.if_icmp .ne 28, 3) := by decide +kernel
theorem dX7_changes_79 : decode cX7_changes 79 = .ok (.aload_n 0, 1) := by decide +kernel
theorem dX7_changes_80 : decode cX7_changes 80 = .ok (.getfield 122, 3) := by decide +kernel
theorem dX7_changes_83 : decode cX7_changes 83 = .ok (.aload_n 0, 1) := by decide +kernel
theorem dX7_changes_84 : decode cX7_changes 84 = .ok (.getfield 128, 3) := by decide +kernel
theorem dX7_changes_87 : decode cX7_changes 87 = .ok (.iconst 1, 1) := by decide +kernel
theorem dX7_changes_88 : decode cX7_changes 88 = .ok (.isub, 1) := by decide +kernel
theorem dX7_changes_89 : decode cX7_changes 89 = .ok (.iload_n 3, 1) := by decide +kernel
theorem dX7_changes_90 : decode cX7_changes 90 = .ok (.iastore, 1) := by decide +kernel
theorem dX7_changes_91 : decode cX7_changes 91 = .ok (.aload_n 0, 1) := by decide +kernel
theorem dX7_changes_92 : decode cX7_changes 92 = .ok (.getfield 122, 3) := by decide +kernel
theorem dX7_changes_95 : decode cX7_changes 95 = .ok (.aload_n 0, 1) := by decide +kernel
theorem dX7_changes_96 : decode cX7_changes 96 = .ok (.getfield 128, 3) := by decide +kernel
theorem dX7_changes_99 : decode cX7_changes 99 = .ok (.iconst 2, 1) := by decide +kernel
theorem dX7_changes_100 : decode cX7_changes 100 = .ok (.isub, 1) := by decide +kernel
theorem dX7_changes_101 : decode cX7_changes 101 = .ok (.iload_n 2, 1) := by decide +kernel
theorem dX7_changes_102 : decode cX7_changes 102 = .ok (.iastore, 1) := by decide +kernel
theorem dX7_changes_103 : decode cX7_changes 103 = .ok (.return_, 1) := by decide +kernel
theorem dX7_changes_104 : decode cX7_changes 104 = .ok (.aload_n 0, 1) := by decide +kernel
theorem dX7_changes_105 : decode cX7_changes 105 = .ok (.dup, 1) := by decide +kernel
theorem dX7_changes_106 : decode cX7_changes 106 = .ok (.getfield 128, 3) := by decide +kernel
theorem dX7_changes_109 : decode cX7_changes 109 = .ok (.iconst 1, 1) := by decide +kernel
theorem dX7_changes_110 : decode cX7_changes 110 = .ok (.isub, 1) := by decide +kernel
theorem dX7_changes_111 : decode cX7_changes 111 = .ok (.putfield 128, 3) := by decide +kernel
theorem dX7_changes_114 : decode cX7_changes 114 = .ok (.aload_n 0, 1) := by decide +kernel
theorem dX7_changes_115 : decode cX7_changes 115 = .ok (.getfield 122, 3) := by decide +kernel
theorem dX7_changes_118 : decode cX7_changes 118 = .ok (.aload_n 0, 1) := by decide +kernel
theorem dX7_changes_119 : decode cX7_changes 119 = .ok (.getfield 128, 3) := by decide +kernel
theorem dX7_changes_122 : decode cX7_changes 122 = .ok (.iconst 1, 1) := by decide +kernel
theorem dX7_changes_123 : decode cX7_changes 123 = .ok (.isub, 1) := by decide +kernel
theorem dX7_changes_124 : decode cX7_changes 124 = .ok (.iload_n 1, 1) := by decide +kernel
theorem dX7_changes_125 : decode cX7_changes 125 = .ok (.bipush 43, 2) := by decide +kernel
theorem dX7_changes_127 : decode cX7_changes 127 = .ok (.if_icmp .ne 9, 3) := by decide +kernel
theorem dX7_changes_130 : decode cX7_changes 130 = .ok (.iload_n 3, 1) := by decide +kernel
theorem dX7_changes_131 : decode cX7_changes 131 = .ok (.iload_n 2, 1) := by decide +kernel
theorem dX7_changes_132 : decode cX7_changes 132 = .ok (.iadd, 1) := by decide +kernel
theorem dX7_changes_133 : decode cX7_changes 133 = .ok (.goto 30, 3) := by decide +kernel
theorem dX7_changes_136 : decode cX7_changes 136 = .ok (.iload_n 1, 1) := by decide +kernel
theorem dX7_changes_137 : decode cX7_changes 137 = .ok (.bipush 45, 2) := by decide +kernel
theorem dX7_changes_139 : decode cX7_changes 139 = .ok (.if_icmp .ne 9, 3) := by decide +kernel
theorem dX7_changes_142 : decode cX7_changes 142 = .ok (.iload_n 3, 1) := by decide +kernel
theorem dX7_changes_143 : decode cX7_changes 143 = .ok (.iload_n 2, 1) := by decide +kernel
theorem dX7_changes_144 : decode cX7_changes 144 = .ok (.isub, 1) := by decide +kernel
theorem dX7_changes_145 : decode cX7_changes 145 = .ok (.goto 18, 3) := by decide +kernel
theorem dX7_changes_148 : decode cX7_changes 148 = .ok (.iload_n 1, 1) := by decide +kernel
theorem dX7_changes_149 : decode cX7_changes 149 = .ok (.bipush 42, 2) := by decide +kernel
theorem dX7_changes_151 : decode cX7_changes 151 = .ok (.if_icmp .ne 9, 3) := by decide +kernel
theorem dX7_changes_154 : decode cX7_changes 154 = .ok (.iload_n 3, 1) := by decide +kernel
theorem dX7_changes_155 : decode cX7_changes 155 = .ok (.iload_n 2, 1) := by decide +kernel
theorem dX7_changes_156 : decode cX7_changes 156 = .ok (.imul, 1) := by decide +kernel
theorem dX7_changes_157 : decode cX7_changes 157 = .ok (.goto 6, 3) := by decide +kernel
theorem dX7_changes_160 : decode cX7_changes 160 = .ok (.iload_n 3, 1) := by decide +kernel
theorem dX7_changes_161 : decode cX7_changes 161 = .ok (.iload_n 2, 1) := by decide +kernel
theorem dX7_changes_162 : decode cX7_changes 162 = .ok (.irem, 1) := by decide +kernel
theorem dX7_changes_163 : decode cX7_changes 163 = .ok (.iastore, 1) := by decide +kernel
theorem dX7_changes_164 : decode cX7_changes 164 = .ok (.return_, 1) := by decide +kernel
theorem dX7_sumOf_0 : decode cX7_sumOf 0 = .ok (.ldc2_w 188, 3) := by decide +kernel
theorem dX7_sumOf_3 : decode cX7_sumOf 3 = .ok (.lstore_n 2, 1) := by decide +kernel
theorem dX7_sumOf_4 : decode cX7_sumOf 4 = .ok (.iconst 0, 1) := by decide +kernel
theorem dX7_sumOf_5 : decode cX7_sumOf 5 = .ok (.istore 4, 2) := by decide +kernel
theorem dX7_sumOf_7 : decode cX7_sumOf 7 = .ok (.iload 4, 2) := by decide +kernel
theorem dX7_sumOf_9 : decode cX7_sumOf 9 = .ok (.aload_n 0, 1) := by decide +kernel
theorem dX7_sumOf_10 : decode cX7_sumOf 10 = .ok (.getfield 48, 3) := by decide +kernel
theorem dX7_sumOf_13 : decode cX7_sumOf 13 = .ok (.iload_n 1, 1) := by decide +kernel
theorem dX7_sumOf_14 : decode cX7_sumOf 14 = .ok (.iaload, 1) := by decide +kernel
theorem dX7_sumOf_15 : decode cX7_sumOf 15 = .ok (.if_icmp .ge 47, 3) := by decide +kernel
theorem dX7_sumOf_18 : decode cX7_sumOf 18 = .ok (.ldc2_w 190, 3) := by decide +kernel
theorem dX7_sumOf_21 : decode cX7_sumOf 21 = .ok (.ldc2_w 190, 3) := by decide +kernel
theorem dX7_sumOf_24 : decode cX7_sumOf 24 = .ok (.lload_n 2, 1) := by decide +kernel
theorem dX7_sumOf_25 : decode cX7_sumOf 25 = .ok (.lmul, 1) := by decide +kernel
theorem dX7_sumOf_26 : decode cX7_sumOf 26 = .ok (.aload_n 0, 1) := by decide +kernel
theorem dX7_sumOf_27 : decode cX7_sumOf 27 = .ok (.getfield 40, 3) := by decide +kernel
theorem dX7_sumOf_30 : decode cX7_sumOf 30 = .ok (.bipush 24, 2) := by decide +kernel
theorem dX7_sumOf_32 : decode cX7_sumOf 32 = .ok (.iload_n 1, 1) := by decide +kernel
theorem dX7_sumOf_33 : decode cX7_sumOf 33 = .ok (.imul, 1) := by decide +kernel
theorem dX7_sumOf_34 : decode cX7_sumOf 34 = .ok (.iload 4, 2) := by decide +kernel
theorem dX7_sumOf_36 : decode cX7_sumOf 36 = .ok (.iadd, 1) := by decide +kernel
theorem dX7_sumOf_37 : decode cX7_sumOf 37 = .ok (.caload, 1) := by decide +kernel
theorem dX7_sumOf_38 : decode cX7_sumOf 38 = .ok (.i2l, 1) := by decide +kernel
theorem dX7_sumOf_39 : decode cX7_sumOf 39 = .ok (.ladd, 1) := by decide +kernel
theorem dX7_sumOf_40 : decode cX7_sumOf 40 = .ok (.lmul, 1) := by decide +kernel
theorem dX7_sumOf_41 : decode cX7_sumOf 41 = .ok (.aload_n 0, 1) := by decide +kernel
theorem dX7_sumOf_42 : decode cX7_sumOf 42 = .ok (.getfield 44, 3) := by decide +kernel
theorem dX7_sumOf_45 : decode cX7_sumOf 45 = .ok (.bipush 24, 2) := by decide +kernel
theorem dX7_sumOf_47 : decode cX7_sumOf 47 = .ok (.iload_n 1, 1) := by decide +kernel
theorem dX7_sumOf_48 : decode cX7_sumOf 48 = .ok (.imul, 1) := by decide +kernel
theorem dX7_sumOf_49 : decode cX7_sumOf 49 = .ok (.iload 4, 2) := by decide +kernel
theorem dX7_sumOf_51 : decode cX7_sumOf 51 = .ok (.iadd, 1) := by decide +kernel
theorem dX7_sumOf_52 : decode cX7_sumOf 52 = .ok (.iaload, 1) := by decide +kernel
theorem dX7_sumOf_53 : decode cX7_sumOf 53 = .ok (.i2l, 1) := by decide +kernel
theorem dX7_sumOf_54 : decode cX7_sumOf 54 = .ok (.ladd, 1) := by decide +kernel
theorem dX7_sumOf_55 : decode cX7_sumOf 55 = .ok (.lstore_n 2, 1) := by decide +kernel
theorem dX7_sumOf_56 : decode cX7_sumOf 56 = .ok (.iinc 4 1, 3) := by decide +kernel
theorem dX7_sumOf_59 : decode cX7_sumOf 59 = .ok (.goto (-52), 3) := by decide +kernel
theorem dX7_sumOf_62 : decode cX7_sumOf 62 = .ok (.lload_n 2, 1) := by decide +kernel
theorem dX7_sumOf_63 : decode cX7_sumOf 63 = .ok (.lreturn, 1) := by decide +kernel
theorem dX7_isKata_0 : decode cX7_isKata 0 = .ok (.iload_n 1, 1) := by decide +kernel
theorem dX7_isKata_1 : decode cX7_isKata 1 = .ok (.iconst 0, 1) := by decide +kernel
theorem dX7_isKata_2 : decode cX7_isKata 2 = .ok (.aload_n 0, 1) := by decide +kernel
theorem dX7_isKata_3 : decode cX7_isKata 3 = .ok (.getfield 19, 3) := by decide +kernel
theorem dX7_isKata_6 : decode cX7_isKata 6 = .ok (.iconst 1, 1) := by decide +kernel
theorem dX7_isKata_7 : decode cX7_isKata 7 = .ok (.isub, 1) := by decide +kernel
theorem dX7_isKata_8 : decode cX7_isKata 8 = .ok (.invokestatic 161, 3) := by decide +kernel
theorem dX7_isKata_11 : decode cX7_isKata 11 = .ok (.ireturn, 1) := by decide +kernel
theorem dX7_isTest_0 : decode cX7_isTest 0 = .ok (.aload_n 0, 1) := by decide +kernel
theorem dX7_isTest_1 : decode cX7_isTest 1 = .ok (.iload_n 1, 1) := by decide +kernel
theorem dX7_isTest_2 : decode cX7_isTest 2 = .ok (.invokevirtual 192, 3) := by decide +kernel
theorem dX7_isTest_5 : decode cX7_isTest 5 = .ok (.ifCond .eq 23, 3) := by decide +kernel
theorem dX7_isTest_8 : decode cX7_isTest 8 = .ok (.iload_n 2, 1) := by decide +kernel
theorem dX7_isTest_9 : decode cX7_isTest 9 = .ok (.iconst 0, 1) := by decide +kernel
theorem dX7_isTest_10 : decode cX7_isTest 10 = .ok (.aload_n 0, 1) := by decide +kernel
theorem dX7_isTest_11 : decode cX7_isTest 11 = .ok (.getfield 60, 3) := by decide +kernel
theorem dX7_isTest_14 : decode cX7_isTest 14 = .ok (.iload_n 1, 1) := by decide +kernel
theorem dX7_isTest_15 : decode cX7_isTest 15 = .ok (.iaload, 1) := by decide +kernel
theorem dX7_isTest_16 : decode cX7_isTest 16 = .ok (.iconst 1, 1) := by decide +kernel
theorem dX7_isTest_17 : decode cX7_isTest 17 = .ok (.isub, 1) := by decide +kernel
theorem dX7_isTest_18 : decode cX7_isTest 18 = .ok (.invokestatic 161, 3) := by decide +kernel
theorem dX7_isTest_21 : decode cX7_isTest 21 = .ok (.ifCond .eq 7, 3) := by decide +kernel
theorem dX7_isTest_24 : decode cX7_isTest 24 = .ok (.iconst 1, 1) := by decide +kernel
theorem dX7_isTest_25 : decode cX7_isTest 25 = .ok (.goto 4, 3) := by decide +kernel
theorem dX7_isTest_28 : decode cX7_isTest 28 = .ok (.iconst 0, 1) := by decide +kernel
theorem dX7_isTest_29 : decode cX7_isTest 29 = .ok (.ireturn, 1) := by decide +kernel
theorem dX7_kata_0 : decode cX7_kata 0 = .ok (.iload_n 1, 1) := by decide +kernel
theorem dX7_kata_1 : decode cX7_kata 1 = .ok (.iconst 1, 1) := by decide +kernel
theorem dX7_kata_2 : decode cX7_kata 2 = .ok (.iconst 5, 1) := by decide +kernel
theorem dX7_kata_3 : decode cX7_kata 3 = .ok (.invokestatic 161, 3) := by decide +kernel
theorem dX7_kata_6 : decode cX7_kata 6 = .ok (.ifCond .ne 9, 3) := by decide +kernel
theorem dX7_kata_9 : decode cX7_kata 9 = .ok (.aload_n 0, 1) := by decide +kernel
theorem dX7_kata_10 : decode cX7_kata 10 = .ok (.iconst 1, 1) := by decide +kernel
theorem dX7_kata_11 : decode cX7_kata 11 = .ok (.invokevirtual 165, 3) := by decide +kernel
theorem dX7_kata_14 : decode cX7_kata 14 = .ok (.ireturn, 1) := by decide +kernel
theorem dX7_kata_15 : decode cX7_kata 15 = .ok (.aload_n 0, 1) := by decide +kernel
theorem dX7_kata_16 : decode cX7_kata 16 = .ok (.getfield 19, 3) := by decide +kernel
theorem dX7_kata_19 : decode cX7_kata 19 = .ok (.bipush 8, 2) := by decide +kernel
theorem dX7_kata_21 : decode cX7_kata 21 = .ok (.if_icmp .ne 9, 3) := by decide +kernel
theorem dX7_kata_24 : decode cX7_kata 24 = .ok (.aload_n 0, 1) := by decide +kernel
theorem dX7_kata_25 : decode cX7_kata 25 = .ok (.iconst 2, 1) := by decide +kernel
theorem dX7_kata_26 : decode cX7_kata 26 = .ok (.invokevirtual 165, 3) := by decide +kernel
theorem dX7_kata_29 : decode cX7_kata 29 = .ok (.ireturn, 1) := by decide +kernel
theorem dX7_kata_30 : decode cX7_kata 30 = .ok (.aload_n 0, 1) := by decide +kernel
theorem dX7_kata_31 : decode cX7_kata 31 = .ok (.getfield 57, 3) := by decide +kernel
theorem dX7_kata_34 : decode cX7_kata 34 = .ok (.aload_n 0, 1) := by decide +kernel
theorem dX7_kata_35 : decode cX7_kata 35 = .ok (.getfield 19, 3) := by decide +kernel
theorem dX7_kata_38 : decode cX7_kata 38 = .ok (.iload_n 1, 1) := by decide +kernel
theorem dX7_kata_39 : decode cX7_kata 39 = .ok (.iastore, 1) := by decide +kernel
theorem dX7_kata_40 : decode cX7_kata 40 = .ok (.aload_n 0, 1) := by decide +kernel
theorem dX7_kata_41 : decode cX7_kata 41 = .ok (.dup, 1) := by decide +kernel
theorem dX7_kata_42 : decode cX7_kata 42 = .ok (.getfield 19, 3) := by decide +kernel
theorem dX7_kata_45 : decode cX7_kata 45 = .ok (.iconst 1, 1) := by decide +kernel
theorem dX7_kata_46 : decode cX7_kata 46 = .ok (.iadd, 1) := by decide +kernel
theorem dX7_kata_47 : decode cX7_kata 47 = .ok (.putfield 19, 3) := by decide +kernel
theorem dX7_kata_50 : decode cX7_kata 50 = .ok (.aload_n 0, 1) := by decide +kernel
theorem dX7_kata_51 : decode cX7_kata 51 = .ok (.aload_n 0, 1) := by decide +kernel
theorem dX7_kata_52 : decode cX7_kata 52 = .ok (.getfield 19, 3) := by decide +kernel
theorem dX7_kata_55 : decode cX7_kata 55 = .ok (.iconst 1, 1) := by decide +kernel
theorem dX7_kata_56 : decode cX7_kata 56 = .ok (.isub, 1) := by decide +kernel
theorem dX7_kata_57 : decode cX7_kata 57 = .ok (.invokevirtual 169, 3) := by decide +kernel
theorem dX7_kata_60 : decode cX7_kata 60 = .ok (.ireturn, 1) := by decide +kernel
theorem dX7_puts_0 : decode cX7_puts 0 = .ok (.iconst 5, 1) := by decide +kernel
theorem dX7_puts_1 : decode cX7_puts 1 = .ok (.iload_n 1, 1) := by decide +kernel
theorem dX7_puts_2 : decode cX7_puts 2 = .ok (.imul, 1) := by decide +kernel
theorem dX7_puts_3 : decode cX7_puts 3 = .ok (.iload_n 2, 1) := by decide +kernel
theorem dX7_puts_4 : decode cX7_puts 4 = .ok (.iadd, 1) := by decide +kernel
theorem dX7_puts_5 : decode cX7_puts 5 = .ok (.istore_n 3, 1) := by decide +kernel
theorem dX7_puts_6 : decode cX7_puts 6 = .ok (.aload_n 0, 1) := by decide +kernel
theorem dX7_puts_7 : decode cX7_puts 7 = .ok (.getfield 63, 3) := by decide +kernel
theorem dX7_puts_10 : decode cX7_puts 10 = .ok (.iload_n 3, 1) := by decide +kernel
theorem dX7_puts_11 : decode cX7_puts 11 = .ok (.aload_n 0, 1) := by decide +kernel
theorem dX7_puts_12 : decode cX7_puts 12 = .ok (.getfield 13, 3) := by decide +kernel
theorem dX7_puts_15 : decode cX7_puts 15 = .ok (.iastore, 1) := by decide +kernel
theorem dX7_puts_16 : decode cX7_puts 16 = .ok (.aload_n 0, 1) := by decide +kernel
theorem dX7_puts_17 : decode cX7_puts 17 = .ok (.getfield 66, 3) := by decide +kernel
theorem dX7_puts_20 : decode cX7_puts 20 = .ok (.iload_n 3, 1) := by decide +kernel
theorem dX7_puts_21 : decode cX7_puts 21 = .ok (.aload_n 0, 1) := by decide +kernel
theorem dX7_puts_22 : decode cX7_puts 22 = .ok (.getfield 16, 3) := by decide +kernel
theorem dX7_puts_25 : decode cX7_puts 25 = .ok (.iastore, 1) := by decide +kernel
theorem dX7_puts_26 : decode cX7_puts 26 = .ok (.iconst 0, 1) := by decide +kernel
theorem dX7_puts_27 : decode cX7_puts 27 = .ok (.istore 4, 2) := by decide +kernel
theorem dX7_puts_29 : decode cX7_puts 29 = .ok (.iload 4, 2) := by decide +kernel
theorem dX7_puts_31 : decode cX7_puts 31 = .ok (.aload_n 0, 1) := by decide +kernel
theorem dX7_puts_32 : decode cX7_puts 32 = .ok (.getfield 13, 3) := by decide +kernel
theorem dX7_puts_35 : decode cX7_puts 35 = .ok (.if_icmp .ge 27, 3) := by decide +kernel
theorem dX7_puts_38 : decode cX7_puts 38 = .ok (.aload_n 0, 1) := by decide +kernel
theorem dX7_puts_39 : decode cX7_puts 39 = .ok (.getfield 69, 3) := by decide +kernel
theorem dX7_puts_42 : decode cX7_puts 42 = .ok (.iconst 4, 1) := by decide +kernel
theorem dX7_puts_43 : decode cX7_puts 43 = .ok (.iload_n 3, 1) := by decide +kernel
theorem dX7_puts_44 : decode cX7_puts 44 = .ok (.imul, 1) := by decide +kernel
theorem dX7_puts_45 : decode cX7_puts 45 = .ok (.iload 4, 2) := by decide +kernel
theorem dX7_puts_47 : decode cX7_puts 47 = .ok (.iadd, 1) := by decide +kernel
theorem dX7_puts_48 : decode cX7_puts 48 = .ok (.aload_n 0, 1) := by decide +kernel
theorem dX7_puts_49 : decode cX7_puts 49 = .ok (.getfield 51, 3) := by decide +kernel
theorem dX7_puts_52 : decode cX7_puts 52 = .ok (.iload 4, 2) := by decide +kernel
theorem dX7_puts_54 : decode cX7_puts 54 = .ok (.iaload, 1) := by decide +kernel
theorem dX7_puts_55 : decode cX7_puts 55 = .ok (.iastore, 1) := by decide +kernel
theorem dX7_puts_56 : decode cX7_puts 56 = .ok (.iinc 4 1, 3) := by decide +kernel
theorem dX7_puts_59 : decode cX7_puts 59 = .ok (.goto (-30), 3) := by decide +kernel
theorem dX7_puts_62 : decode cX7_puts 62 = .ok (.iconst 0, 1) := by decide +kernel
theorem dX7_puts_63 : decode cX7_puts 63 = .ok (.istore 4, 2) := by decide +kernel
theorem dX7_puts_65 : decode cX7_puts 65 = .ok (.iload 4, 2) := by decide +kernel
theorem dX7_puts_67 : decode cX7_puts 67 = .ok (.aload_n 0, 1) := by decide +kernel
theorem dX7_puts_68 : decode cX7_puts 68 = .ok (.getfield 16, 3) := by decide +kernel
theorem dX7_puts_71 : decode cX7_puts 71 = .ok (.if_icmp .ge 28, 3) := by decide +kernel
theorem dX7_puts_74 : decode cX7_puts 74 = .ok (.aload_n 0, 1) := by decide +kernel
theorem dX7_puts_75 : decode cX7_puts 75 = .ok (.getfield 72, 3) := by decide +kernel
theorem dX7_puts_78 : decode cX7_puts 78 = .ok (.bipush 6, 2) := by decide +kernel
theorem dX7_puts_80 : decode cX7_puts 80 = .ok (.iload_n 3, 1) := by decide +kernel
theorem dX7_puts_81 : decode cX7_puts 81 = .ok (.imul, 1) := by decide +kernel
theorem dX7_puts_82 : decode cX7_puts 82 = .ok (.iload 4, 2) := by decide +kernel
theorem dX7_puts_84 : decode cX7_puts 84 = .ok (.iadd, 1) := by decide +kernel
theorem dX7_puts_85 : decode cX7_puts 85 = .ok (.aload_n 0, 1) := by decide +kernel
theorem dX7_puts_86 : decode cX7_puts 86 = .ok (.getfield 54, 3) := by decide +kernel
theorem dX7_puts_89 : decode cX7_puts 89 = .ok (.iload 4, 2) := by decide +kernel
theorem dX7_puts_91 : decode cX7_puts 91 = .ok (.iaload, 1) := by decide +kernel
theorem dX7_puts_92 : decode cX7_puts 92 = .ok (.iastore, 1) := by decide +kernel
theorem dX7_puts_93 : decode cX7_puts 93 = .ok (.iinc 4 1, 3) := by decide +kernel
theorem dX7_puts_96 : decode cX7_puts 96 = .ok (.goto (-31), 3) := by decide +kernel
theorem dX7_puts_99 : decode cX7_puts 99 = .ok (.aload_n 0, 1) := by decide +kernel
theorem dX7_puts_100 : decode cX7_puts 100 = .ok (.invokevirtual 172, 3) := by decide +kernel
theorem dX7_puts_103 : decode cX7_puts 103 = .ok (.istore 4, 2) := by decide +kernel
theorem dX7_puts_105 : decode cX7_puts 105 = .ok (.aload_n 0, 1) := by decide +kernel
theorem dX7_puts_106 : decode cX7_puts 106 = .ok (.dup, 1) := by decide +kernel
theorem dX7_puts_107 : decode cX7_puts 107 = .ok (.getfield 31, 3) := by decide +kernel
theorem dX7_puts_110 : decode cX7_puts 110 = .ok (.iload 4, 2) := by decide +kernel
theorem dX7_puts_112 : decode cX7_puts 112 = .ok (.ifCond .lt 7, 3) := by decide +kernel
theorem dX7_puts_115 : decode cX7_puts 115 = .ok (.iconst 1, 1) := by decide +kernel
theorem dX7_puts_116 : decode cX7_puts 116 = .ok (.goto 4, 3) := by decide +kernel
theorem dX7_puts_119 : decode cX7_puts 119 = .ok (.iconst 0, 1) := by decide +kernel
theorem dX7_puts_120 : decode cX7_puts 120 = .ok (.iadd, 1) := by decide +kernel
theorem dX7_puts_121 : decode cX7_puts 121 = .ok (.putfield 31, 3) := by decide +kernel
theorem dX7_puts_124 : decode cX7_puts 124 = .ok (.aload_n 0, 1) := by decide +kernel
theorem dX7_puts_125 : decode cX7_puts 125 = .ok (.getfield 75, 3) := by decide +kernel
theorem dX7_puts_128 : decode cX7_puts 128 = .ok (.iload_n 3, 1) := by decide +kernel
theorem dX7_puts_129 : decode cX7_puts 129 = .ok (.aload_n 0, 1) := by decide +kernel
theorem dX7_puts_130 : decode cX7_puts 130 = .ok (.getfield 31, 3) := by decide +kernel
theorem dX7_puts_133 : decode cX7_puts 133 = .ok (.iastore, 1) := by decide +kernel
theorem dX7_puts_134 : decode cX7_puts 134 = .ok (.iconst 0, 1) := by decide +kernel
theorem dX7_puts_135 : decode cX7_puts 135 = .ok (.istore 5, 2) := by decide +kernel
theorem dX7_puts_137 : decode cX7_puts 137 = .ok (.iconst 0, 1) := by decide +kernel
theorem dX7_puts_138 : decode cX7_puts 138 = .ok (.istore 6, 2) := by decide +kernel
theorem dX7_puts_140 : decode cX7_puts 140 = .ok (.iload 6, 2) := by decide +kernel
theorem dX7_puts_142 : decode cX7_puts 142 = .ok (.aload_n 0, 1) := by decide +kernel
theorem dX7_puts_143 : decode cX7_puts 143 = .ok (.getfield 25, 3) := by decide +kernel
theorem dX7_puts_146 : decode cX7_puts 146 = .ok (.if_icmp .ge 83, 3) := by decide +kernel
theorem dX7_puts_149 : decode cX7_puts 149 = .ok (.aload_n 0, 1) := by decide +kernel
theorem dX7_puts_150 : decode cX7_puts 150 = .ok (.getfield 91, 3) := by decide +kernel
theorem dX7_puts_153 : decode cX7_puts 153 = .ok (.iload 6, 2) := by decide +kernel
theorem dX7_puts_155 : decode cX7_puts 155 = .ok (.baload, 1) := by decide +kernel
theorem dX7_puts_156 : decode cX7_puts 156 = .ok (.ifCond .eq 67, 3) := by decide +kernel
theorem dX7_puts_159 : decode cX7_puts 159 = .ok (.aload_n 0, 1) := by decide +kernel
theorem dX7_puts_160 : decode cX7_puts 160 = .ok (.getfield 81, 3) := by decide +kernel
theorem dX7_puts_163 : decode cX7_puts 163 = .ok (.iload 6, 2) := by decide +kernel
theorem dX7_puts_165 : decode cX7_puts 165 = .ok (.iaload, 1) := by decide +kernel
theorem dX7_puts_166 : decode cX7_puts 166 = .ok (.iload_n 1, 1) := by decide +kernel
theorem dX7_puts_167 : decode cX7_puts 167 = .ok (.if_icmp .eq 6, 3) := by decide +kernel
theorem dX7_puts_170 : decode cX7_puts 170 = .ok (.goto 53, 3) := by decide +kernel
theorem dX7_puts_173 : decode cX7_puts 173 = .ok (.aload_n 0, 1) := by decide +kernel
theorem dX7_puts_174 : decode cX7_puts 174 = .ok (.iload 6, 2) := by decide +kernel
theorem dX7_puts_176 : decode cX7_puts 176 = .ok (.iload_n 1, 1) := by decide +kernel
theorem dX7_puts_177 : decode cX7_puts 177 = .ok (.invokevirtual 196, 3) := by decide +kernel
theorem dX7_puts_180 : decode cX7_puts 180 = .ok (.ifCond .eq 8, 3) := by decide +kernel
theorem dX7_puts_183 : decode cX7_puts 183 = .ok (.bipush 115, 2) := by decide +kernel
theorem dX7_puts_185 : decode cX7_puts 185 = .ok (.goto 5, 3) := by decide +kernel
theorem dX7_puts_188 : decode cX7_puts 188 = .ok (.bipush 102, 2) := by decide +kernel
theorem dX7_puts_190 : decode cX7_puts 190 = .ok (.istore 7, 2) := by decide +kernel
theorem dX7_puts_192 : decode cX7_puts 192 = .ok (.iload 5, 2) := by decide +kernel
theorem dX7_puts_194 : decode cX7_puts 194 = .ok (.iload 7, 2) := by decide +kernel
theorem dX7_puts_196 : decode cX7_puts 196 = .ok (.aload_n 0, 1) := by decide +kernel
theorem dX7_puts_197 : decode cX7_puts 197 = .ok (.getfield 88, 3) := by decide +kernel
theorem dX7_puts_200 : decode cX7_puts 200 = .ok (.iload 6, 2) := by decide +kernel
theorem dX7_puts_202 : decode cX7_puts 202 = .ok (.caload, 1) := by decide +kernel
theorem dX7_puts_203 : decode cX7_puts 203 = .ok (.if_icmp .ne 7, 3) := by decide +kernel
theorem dX7_puts_206 : decode cX7_puts 206 = .ok (.iconst 0, 1) := by decide +kernel
theorem dX7_puts_207 : decode cX7_puts 207 = .ok (.goto 4, 3) := by decide +kernel
theorem dX7_puts_210 : decode cX7_puts 210 = .ok (.iconst 1, 1) := by decide +kernel
theorem dX7_puts_211 : decode cX7_puts 211 = .ok (.iadd, 1) := by decide +kernel
theorem dX7_puts_212 : decode cX7_puts 212 = .ok (.istore 5, 2) := by decide +kernel
theorem dX7_puts_214 : decode cX7_puts 214 = .ok (.aload_n 0, 1) := by decide +kernel
theorem dX7_puts_215 : decode cX7_puts 215 = .ok (.getfield 88, 3) := by decide +kernel
theorem dX7_puts_218 : decode cX7_puts 218 = .ok (.iload 6, 2) := by decide +kernel
theorem dX7_puts_220 : decode cX7_puts 220 = .ok (.iload 7, 2) := by decide +kernel
theorem dX7_puts_222 : decode cX7_puts 222 = .ok (.castore, 1) := by decide +kernel
theorem dX7_puts_223 : decode cX7_puts 223 = .ok (.iinc 6 1, 3) := by decide +kernel
theorem dX7_puts_226 : decode cX7_puts 226 = .ok (.goto (-86), 3) := by decide +kernel
theorem dX7_puts_229 : decode cX7_puts 229 = .ok (.iload 5, 2) := by decide +kernel
theorem dX7_puts_231 : decode cX7_puts 231 = .ok (.ireturn, 1) := by decide +kernel
theorem dX7_passes_0 : decode cX7_passes 0 = .ok (.iconst 1, 1) := by decide +kernel
theorem dX7_passes_1 : decode cX7_passes 1 = .ok (.istore_n 3, 1) := by decide +kernel
theorem dX7_passes_2 : decode cX7_passes 2 = .ok (.iconst 0, 1) := by decide +kernel
theorem dX7_passes_3 : decode cX7_passes 3 = .ok (.istore 4, 2) := by decide +kernel
theorem dX7_passes_5 : decode cX7_passes 5 = .ok (.iload 4, 2) := by decide +kernel
theorem dX7_passes_7 : decode cX7_passes 7 = .ok (.aload_n 0, 1) := by decide +kernel
theorem dX7_passes_8 : decode cX7_passes 8 = .ok (.getfield 60, 3) := by decide +kernel
theorem dX7_passes_11 : decode cX7_passes 11 = .ok (.iload_n 2, 1) := by decide +kernel
theorem dX7_passes_12 : decode cX7_passes 12 = .ok (.iaload, 1) := by decide +kernel
theorem dX7_passes_13 : decode cX7_passes 13 = .ok (.if_icmp .ge 35, 3) := by decide +kernel
theorem dX7_passes_16 : decode cX7_passes 16 = .ok (.iload_n 3, 1) := by decide +kernel
theorem dX7_passes_17 : decode cX7_passes 17 = .ok (.ifCond .eq 31, 3) := by decide +kernel
theorem dX7_passes_20 : decode cX7_passes 20 = .ok (.aload_n 0, 1) := by decide +kernel
theorem dX7_passes_21 : decode cX7_passes 21 = .ok (.iload_n 1, 1) := by decide +kernel
theorem dX7_passes_22 : decode cX7_passes 22 = .ok (.iconst 5, 1) := by decide +kernel
theorem dX7_passes_23 : decode cX7_passes 23 = .ok (.iload_n 2, 1) := by decide +kernel
theorem dX7_passes_24 : decode cX7_passes 24 = .ok (.imul, 1) := by decide +kernel
theorem dX7_passes_25 : decode cX7_passes 25 = .ok (.iload 4, 2) := by decide +kernel
theorem dX7_passes_27 : decode cX7_passes 27 = .ok (.iadd, 1) := by decide +kernel
theorem dX7_passes_28 : decode cX7_passes 28 = .ok (.invokevirtual 200, 3) := by decide +kernel
theorem dX7_passes_31 : decode cX7_passes 31 = .ok (.bipush 111, 2) := by decide +kernel
theorem dX7_passes_33 : decode cX7_passes 33 = .ok (.if_icmp .ne 7, 3) := by decide +kernel
theorem dX7_passes_36 : decode cX7_passes 36 = .ok (.iconst 1, 1) := by decide +kernel
theorem dX7_passes_37 : decode cX7_passes 37 = .ok (.goto 4, 3) := by decide +kernel
theorem dX7_passes_40 : decode cX7_passes 40 = .ok (.iconst 0, 1) := by decide +kernel
theorem dX7_passes_41 : decode cX7_passes 41 = .ok (.istore_n 3, 1) := by decide +kernel
theorem dX7_passes_42 : decode cX7_passes 42 = .ok (.iinc 4 1, 3) := by decide +kernel
theorem dX7_passes_45 : decode cX7_passes 45 = .ok (.goto (-40), 3) := by decide +kernel
theorem dX7_passes_48 : decode cX7_passes 48 = .ok (.iload_n 3, 1) := by decide +kernel
theorem dX7_passes_49 : decode cX7_passes 49 = .ok (.ireturn, 1) := by decide +kernel
theorem dX7_test_0 : decode cX7_test 0 = .ok (.aload_n 0, 1) := by decide +kernel
theorem dX7_test_1 : decode cX7_test 1 = .ok (.iload_n 1, 1) := by decide +kernel
theorem dX7_test_2 : decode cX7_test 2 = .ok (.invokevirtual 192, 3) := by decide +kernel
theorem dX7_test_5 : decode cX7_test 5 = .ok (.ifCond .ne 9, 3) := by decide +kernel
theorem dX7_test_8 : decode cX7_test 8 = .ok (.aload_n 0, 1) := by decide +kernel
theorem dX7_test_9 : decode cX7_test 9 = .ok (.iconst 1, 1) := by decide +kernel
theorem dX7_test_10 : decode cX7_test 10 = .ok (.invokevirtual 165, 3) := by decide +kernel
theorem dX7_test_13 : decode cX7_test 13 = .ok (.ireturn, 1) := by decide +kernel
theorem dX7_test_14 : decode cX7_test 14 = .ok (.aload_n 0, 1) := by decide +kernel
theorem dX7_test_15 : decode cX7_test 15 = .ok (.getfield 60, 3) := by decide +kernel
theorem dX7_test_18 : decode cX7_test 18 = .ok (.iload_n 1, 1) := by decide +kernel
theorem dX7_test_19 : decode cX7_test 19 = .ok (.iaload, 1) := by decide +kernel
theorem dX7_test_20 : decode cX7_test 20 = .ok (.iconst 5, 1) := by decide +kernel
theorem dX7_test_21 : decode cX7_test 21 = .ok (.if_icmp .ne 9, 3) := by decide +kernel
theorem dX7_test_24 : decode cX7_test 24 = .ok (.aload_n 0, 1) := by decide +kernel
theorem dX7_test_25 : decode cX7_test 25 = .ok (.iconst 2, 1) := by decide +kernel
theorem dX7_test_26 : decode cX7_test 26 = .ok (.invokevirtual 165, 3) := by decide +kernel
theorem dX7_test_29 : decode cX7_test 29 = .ok (.ireturn, 1) := by decide +kernel
theorem dX7_test_30 : decode cX7_test 30 = .ok (.aload_n 0, 1) := by decide +kernel
theorem dX7_test_31 : decode cX7_test 31 = .ok (.getfield 60, 3) := by decide +kernel
theorem dX7_test_34 : decode cX7_test 34 = .ok (.iload_n 1, 1) := by decide +kernel
theorem dX7_test_35 : decode cX7_test 35 = .ok (.dup2, 1) := by decide +kernel
theorem dX7_test_36 : decode cX7_test 36 = .ok (.iaload, 1) := by decide +kernel
theorem dX7_test_37 : decode cX7_test 37 = .ok (.iconst 1, 1) := by decide +kernel
theorem dX7_test_38 : decode cX7_test 38 = .ok (.iadd, 1) := by decide +kernel
theorem dX7_test_39 : decode cX7_test 39 = .ok (.iastore, 1) := by decide +kernel
theorem dX7_test_40 : decode cX7_test 40 = .ok (.aload_n 0, 1) := by decide +kernel
theorem dX7_test_41 : decode cX7_test 41 = .ok (.aload_n 0, 1) := by decide +kernel
theorem dX7_test_42 : decode cX7_test 42 = .ok (.iload_n 1, 1) := by decide +kernel
theorem dX7_test_43 : decode cX7_test 43 = .ok (.aload_n 0, 1) := by decide +kernel
theorem dX7_test_44 : decode cX7_test 44 = .ok (.getfield 60, 3) := by decide +kernel
theorem dX7_test_47 : decode cX7_test 47 = .ok (.iload_n 1, 1) := by decide +kernel
theorem dX7_test_48 : decode cX7_test 48 = .ok (.iaload, 1) := by decide +kernel
theorem dX7_test_49 : decode cX7_test 49 = .ok (.iconst 1, 1) := by decide +kernel
theorem dX7_test_50 : decode cX7_test 50 = .ok (.isub, 1) := by decide +kernel
theorem dX7_test_51 : decode cX7_test 51 = .ok (.invokevirtual 204, 3) := by decide +kernel
theorem dX7_test_54 : decode cX7_test 54 = .ok (.invokevirtual 169, 3) := by decide +kernel
theorem dX7_test_57 : decode cX7_test 57 = .ok (.ireturn, 1) := by decide +kernel
theorem dX7_fix_0 : decode cX7_fix 0 = .ok (.aload_n 0, 1) := by decide +kernel
theorem dX7_fix_1 : decode cX7_fix 1 = .ok (.iload_n 1, 1) := by decide +kernel
theorem dX7_fix_2 : decode cX7_fix 2 = .ok (.iload_n 2, 1) := by decide +kernel
theorem dX7_fix_3 : decode cX7_fix 3 = .ok (.invokevirtual 208, 3) := by decide +kernel
theorem dX7_fix_6 : decode cX7_fix 6 = .ok (.ifCond .eq 16, 3) := by decide +kernel
theorem dX7_fix_9 : decode cX7_fix 9 = .ok (.aload_n 0, 1) := by decide +kernel
theorem dX7_fix_10 : decode cX7_fix 10 = .ok (.aload_n 0, 1) := by decide +kernel
theorem dX7_fix_11 : decode cX7_fix 11 = .ok (.iload_n 1, 1) := by decide +kernel
theorem dX7_fix_12 : decode cX7_fix 12 = .ok (.iload_n 2, 1) := by decide +kernel
theorem dX7_fix_13 : decode cX7_fix 13 = .ok (.invokevirtual 204, 3) := by decide +kernel
theorem dX7_fix_16 : decode cX7_fix 16 = .ok (.invokevirtual 169, 3) := by decide +kernel
theorem dX7_fix_19 : decode cX7_fix 19 = .ok (.goto 8, 3) := by decide +kernel
theorem dX7_fix_22 : decode cX7_fix 22 = .ok (.aload_n 0, 1) := by decide +kernel
theorem dX7_fix_23 : decode cX7_fix 23 = .ok (.iconst 1, 1) := by decide +kernel
theorem dX7_fix_24 : decode cX7_fix 24 = .ok (.invokevirtual 165, 3) := by decide +kernel
theorem dX7_fix_27 : decode cX7_fix 27 = .ok (.ireturn, 1) := by decide +kernel
theorem dX7_tests_0 : decode cX7_tests 0 = .ok (.aload_n 0, 1) := by decide +kernel
theorem dX7_tests_1 : decode cX7_tests 1 = .ok (.iload_n 1, 1) := by decide +kernel
theorem dX7_tests_2 : decode cX7_tests 2 = .ok (.invokevirtual 192, 3) := by decide +kernel
theorem dX7_tests_5 : decode cX7_tests 5 = .ok (.ifCond .eq 16, 3) := by decide +kernel
theorem dX7_tests_8 : decode cX7_tests 8 = .ok (.aload_n 0, 1) := by decide +kernel
theorem dX7_tests_9 : decode cX7_tests 9 = .ok (.aload_n 0, 1) := by decide +kernel
theorem dX7_tests_10 : decode cX7_tests 10 = .ok (.getfield 60, 3) := by decide +kernel
theorem dX7_tests_13 : decode cX7_tests 13 = .ok (.iload_n 1, 1) := by decide +kernel
theorem dX7_tests_14 : decode cX7_tests 14 = .ok (.iaload, 1) := by decide +kernel
theorem dX7_tests_15 : decode cX7_tests 15 = .ok (.invokevirtual 169, 3) := by decide +kernel
theorem dX7_tests_18 : decode cX7_tests 18 = .ok (.goto 8, 3) := by decide +kernel
theorem dX7_tests_21 : decode cX7_tests 21 = .ok (.aload_n 0, 1) := by decide +kernel
theorem dX7_tests_22 : decode cX7_tests 22 = .ok (.iconst 1, 1) := by decide +kernel
theorem dX7_tests_23 : decode cX7_tests 23 = .ok (.invokevirtual 165, 3) := by decide +kernel
theorem dX7_tests_26 : decode cX7_tests 26 = .ok (.ireturn, 1) := by decide +kernel