theorem dX4_does_338 : decode cX4_does 338 = .ok (.iadd, 1) := by decide +kernel
theorem dX4_does_339 : decode cX4_does 339 = .ok (.aload_n 0, 1) := by decide +kernel
theorem dX4_does_340 : decode cX4_does 340 = .ok (.getfield 57, 3) := by decide +kernel
theorem dX4_does_343 : decode cX4_does 343 = .ok (.iload 5, 2) := by decide +kernel
theorem dX4_does_345 : decode cX4_does 345 = .ok (.iload 7, 2) := by decide +kernel
theorem dX4_does_347 : decode cX4_does 347 = .ok (.iadd, 1) := by decide +kernel
theorem dX4_does_348 : decode cX4_does 348 = .ok (.baload, 1) := by decide +kernel
theorem dX4_does_349 : decode cX4_does 349 = .ok (.bastore, 1) := by decide +kernel
theorem dX4_does_350 : decode cX4_does 350 = .ok (.aload_n 0, 1) := by decide +kernel
theorem dX4_does_351 : decode cX4_does 351 = .ok (.getfield 45, 3) := by decide +kernel
theorem dX4_does_354 : decode cX4_does 354 = .ok (.iconst 3, 1) := by decide +kernel
theorem dX4_does_355 : decode cX4_does 355 = .ok (.aload_n 0, 1) := by decide +kernel
theorem dX4_does_356 : decode cX4_does 356 = .ok (.getfield 60, 3) := by decide +kernel
theorem dX4_does_359 : decode cX4_does 359 = .ok (.iload 5, 2) := by decide +kernel
theorem dX4_does_361 : decode cX4_does 361 = .ok (.iload 6, 2) := by decide +kernel
theorem dX4_does_363 : decode cX4_does 363 = .ok (.iadd, 1) := by decide +kernel
theorem dX4_does_364 : decode cX4_does 364 = .ok (.iaload, 1) := by decide +kernel
theorem dX4_does_365 : decode cX4_does 365 = .ok (.imul, 1) := by decide +kernel
theorem dX4_does_366 : decode cX4_does 366 = .ok (.iload 8, 2) := by decide +kernel
theorem dX4_does_368 : decode cX4_does 368 = .ok (.iadd, 1) := by decide +kernel
theorem dX4_does_369 : decode cX4_does 369 = .ok (.aload_n 0, 1) := by decide +kernel
theorem dX4_does_370 : decode cX4_does 370 = .ok (.getfield 60, 3) := by decide +kernel
theorem dX4_does_373 : decode cX4_does 373 = .ok (.iload 5, 2) := by decide +kernel
theorem dX4_does_375 : decode cX4_does 375 = .ok (.iload 7, 2) := by decide +kernel
theorem dX4_does_377 : decode cX4_does 377 = .ok (.iadd, 1) := by decide +kernel
theorem dX4_does_378 : decode cX4_does 378 = .ok (.iaload, 1) := by decide +kernel
theorem dX4_does_379 : decode cX4_does 379 = .ok (.iastore, 1) := by decide +kernel
theorem dX4_does_380 : decode cX4_does 380 = .ok (.iconst 0, 1) := by decide +kernel
theorem dX4_does_381 : decode cX4_does 381 = .ok (.ireturn, 1) := by decide +kernel
theorem dX4_does_382 : decode cX4_does 382 = .ok (.aload_n 0, 1) := by decide +kernel
theorem dX4_does_383 : decode cX4_does 383 = .ok (.iload 9, 2) := by decide +kernel
theorem dX4_does_385 : decode cX4_does 385 = .ok (.iload 5, 2) := by decide +kernel
theorem dX4_does_387 : decode cX4_does 387 = .ok (.iload 6, 2) := by decide +kernel
theorem dX4_does_389 : decode cX4_does 389 = .ok (.iload 7, 2) := by decide +kernel
theorem dX4_does_391 : decode cX4_does 391 = .ok (.iload 8, 2) := by decide +kernel
theorem dX4_does_393 : decode cX4_does 393 = .ok (.invokevirtual 147, 3) := by decide +kernel
theorem dX4_does_396 : decode cX4_does 396 = .ok (.ireturn, 1) := by decide +kernel
theorem dX4_does_397 : decode cX4_does 397 = .ok (.aload_n 0, 1) := by decide +kernel
theorem dX4_does_398 : decode cX4_does 398 = .ok (.iload 5, 2) := by decide +kernel
theorem dX4_does_400 : decode cX4_does 400 = .ok (.iload 6, 2) := by decide +kernel
theorem dX4_does_402 : decode cX4_does 402 = .ok (.iadd, 1) := by decide +kernel
theorem dX4_does_403 : decode cX4_does 403 = .ok (.invokevirtual 151, 3) := by decide +kernel
theorem dX4_does_406 : decode cX4_does 406 = .ok (.ireturn, 1) := by decide +kernel
theorem dX4_does_407 : decode cX4_does 407 = .ok (.aload_n 0, 1) := by decide +kernel
theorem dX4_does_408 : decode cX4_does 408 = .ok (.getfield 57, 3) := by decide +kernel
theorem dX4_does_411 : decode cX4_does 411 = .ok (.iload 5, 2) := by decide +kernel
theorem dX4_does_413 : decode cX4_does 413 = .ok (.iload 6, 2) := by decide +kernel
theorem dX4_does_415 : decode cX4_does 415 = .ok (.iadd, 1) := by decide +kernel
theorem dX4_does_416 : decode cX4_does 416 = .ok (.baload, 1) := by decide +kernel
theorem dX4_does_417 : decode cX4_does 417 = .ok (.ifCond .ne 27, 3) := by decide +kernel
theorem dX4_does_420 : decode cX4_does 420 = .ok (.aload_n 0, 1) := by decide +kernel
theorem dX4_does_421 : decode cX4_does 421 = .ok (.getfield 60, 3) := by decide +kernel
theorem dX4_does_424 : decode cX4_does 424 = .ok (.iload 5, 2) := by decide +kernel
theorem dX4_does_426 : decode cX4_does 426 = .ok (.iload 6, 2) := by decide +kernel
theorem dX4_does_428 : decode cX4_does 428 = .ok (.iadd, 1) := by decide +kernel
theorem dX4_does_429 : decode cX4_does 429 = .ok (.iaload, 1) := by decide +kernel
theorem dX4_does_430 : decode cX4_does 430 = .ok (.ifCond .ne 14, 3) := by decide +kernel
theorem dX4_does_433 : decode cX4_does 433 = .ok (.aload_n 0, 1) := by decide +kernel
theorem dX4_does_434 : decode cX4_does 434 = .ok (.getfield 51, 3) := by decide +kernel
theorem dX4_does_437 : decode cX4_does 437 = .ok (.iload_n 2, 1) := by decide +kernel
theorem dX4_does_438 : decode cX4_does 438 = .ok (.dup2, 1) := by decide +kernel
theorem dX4_does_439 : decode cX4_does 439 = .ok (.iaload, 1) := by decide +kernel
theorem dX4_does_440 : decode cX4_does 440 = .ok (.iload 7, 2) := by decide +kernel
theorem dX4_does_442 : decode cX4_does 442 = .ok (.iadd, 1) := by decide +kernel
theorem dX4_does_443 : decode cX4_does 443 = .ok (.iastore, 1) := by decide +kernel
theorem dX4_does_444 : decode cX4_does 444 = .ok (.iconst 0, 1) := by decide +kernel
theorem dX4_does_445 : decode cX4_does 445 = .ok (.ireturn, 1) := by decide +kernel
theorem dX4_does_446 : decode cX4_does 446 = .ok (.aload_n 0, 1) := by decide +kernel
theorem dX4_does_447 : decode cX4_does 447 = .ok (.getfield 57, 3) := by decide +kernel
theorem dX4_does_450 : decode cX4_does 450 = .ok (.iload 5, 2) := by decide +kernel
theorem dX4_does_452 : decode cX4_does 452 = .ok (.iload 6, 2) := by decide +kernel
theorem dX4_does_454 : decode cX4_does 454 = .ok (.iadd, 1) := by decide +kernel
theorem dX4_does_455 : decode cX4_does 455 = .ok (.baload, 1) := by decide +kernel
theorem dX4_does_456 : decode cX4_does 456 = .ok (.ifCond .ne 7, 3) := by decide +kernel
theorem dX4_does_459 : decode cX4_does 459 = .ok (.iconst 1, 1) := by decide +kernel
theorem dX4_does_460 : decode cX4_does 460 = .ok (.goto 32, 3) := by decide +kernel
theorem dX4_does_463 : decode cX4_does 463 = .ok (.aload_n 0, 1) := by decide +kernel
theorem dX4_does_464 : decode cX4_does 464 = .ok (.aload_n 0, 1) := by decide +kernel
theorem dX4_does_465 : decode cX4_does 465 = .ok (.getfield 39, 3) := by decide +kernel
theorem dX4_does_468 : decode cX4_does 468 = .ok (.aload_n 0, 1) := by decide +kernel
theorem dX4_does_469 : decode cX4_does 469 = .ok (.getfield 60, 3) := by decide +kernel
theorem dX4_does_472 : decode cX4_does 472 = .ok (.iload 5, 2) := by decide +kernel
theorem dX4_does_474 : decode cX4_does 474 = .ok (.iload 6, 2) := by decide +kernel
theorem dX4_does_476 : decode cX4_does 476 = .ok (.iadd, 1) := by decide +kernel
theorem dX4_does_477 : decode cX4_does 477 = .ok (.iaload, 1) := by decide +kernel
theorem dX4_does_478 : decode cX4_does 478 = .ok (.iaload, 1) := by decide +kernel
theorem dX4_does_479 : decode cX4_does 479 = .ok (.iload 7, 2) := by decide +kernel
theorem dX4_does_481 : decode cX4_does 481 = .ok (.invokevirtual 154, 3) := by decide +kernel
theorem dX4_does_484 : decode cX4_does 484 = .ok (.ifCond .eq 7, 3) := by decide +kernel
theorem dX4_does_487 : decode cX4_does 487 = .ok (.iconst 0, 1) := by decide +kernel
theorem dX4_does_488 : decode cX4_does 488 = .ok (.goto 4, 3) := by decide +kernel
theorem dX4_does_491 : decode cX4_does 491 = .ok (.iconst 2, 1) := by decide +kernel
theorem dX4_does_492 : decode cX4_does 492 = .ok (.ireturn, 1) := by decide +kernel
theorem dX4_does_493 : decode cX4_does 493 = .ok (.aload_n 0, 1) := by decide +kernel
theorem dX4_does_494 : decode cX4_does 494 = .ok (.aload_n 0, 1) := by decide +kernel
theorem dX4_does_495 : decode cX4_does 495 = .ok (.getfield 57, 3) := by decide +kernel
theorem dX4_does_498 : decode cX4_does 498 = .ok (.iload 5, 2) := by decide +kernel
theorem dX4_does_500 : decode cX4_does 500 = .ok (.iload 6, 2) := by decide +kernel
theorem dX4_does_502 : decode cX4_does 502 = .ok (.iadd, 1) := by decide +kernel
theorem dX4_does_503 : decode cX4_does 503 = .ok (.baload, 1) := by decide +kernel
theorem dX4_does_504 : decode cX4_does 504 = .ok (.aload_n 0, 1) := by decide +kernel
theorem dX4_does_505 : decode cX4_does 505 = .ok (.getfield 60, 3) := by decide +kernel
theorem dX4_does_508 : decode cX4_does 508 = .ok (.iload 5, 2) := by decide +kernel
theorem dX4_does_510 : decode cX4_does 510 = .ok (.iload 6, 2) := by decide +kernel
theorem dX4_does_512 : decode cX4_does 512 = .ok (.iadd, 1) := by decide +kernel
theorem dX4_does_513 : decode cX4_does 513 = .ok (.iaload, 1) := by decide +kernel
theorem dX4_does_514 : decode cX4_does 514 = .ok (.invokevirtual 157, 3) := by decide +kernel
theorem dX4_does_517 : decode cX4_does 517 = .ok (.iconst 0, 1) := by decide +kernel
theorem dX4_does_518 : decode cX4_does 518 = .ok (.ireturn, 1) := by decide +kernel
theorem dX4_run_0 : decode cX4_run 0 = .ok (.aload_n 0, 1) := by decide +kernel
theorem dX4_run_1 : decode cX4_run 1 = .ok (.iload_n 2, 1) := by decide +kernel
theorem dX4_run_2 : decode cX4_run 2 = .ok (.iconst 0, 1) := by decide +kernel
theorem dX4_run_3 : decode cX4_run 3 = .ok (.bipush 60, 2) := by decide +kernel
theorem dX4_run_5 : decode cX4_run 5 = .ok (.invokestatic 72, 3) := by decide +kernel
theorem dX4_run_8 : decode cX4_run 8 = .ok (.iconst 0, 1) := by decide +kernel
theorem dX4_run_9 : decode cX4_run 9 = .ok (.invokevirtual 76, 3) := by decide +kernel
theorem dX4_run_12 : decode cX4_run 12 = .ok (.ifCond .eq 5, 3) := by decide +kernel
theorem dX4_run_15 : decode cX4_run 15 = .ok (.iconst 0, 1) := by decide +kernel
theorem dX4_run_16 : decode cX4_run 16 = .ok (.ireturn, 1) := by decide +kernel
theorem dX4_run_17 : decode cX4_run 17 = .ok (.iconst 0, 1) := by decide +kernel
theorem dX4_run_18 : decode cX4_run 18 = .ok (.istore_n 3, 1) := by decide +kernel
theorem dX4_run_19 : decode cX4_run 19 = .ok (.iload_n 3, 1) := by decide +kernel
theorem dX4_run_20 : decode cX4_run 20 = .ok (.bipush 6, 2) := by decide +kernel
theorem dX4_run_22 : decode cX4_run 22 = .ok (.if_icmp .ge 16, 3) := by decide +kernel
theorem dX4_run_25 : decode cX4_run 25 = .ok (.aload_n 0, 1) := by decide +kernel
theorem dX4_run_26 : decode cX4_run 26 = .ok (.getfield 66, 3) := by decide +kernel
theorem dX4_run_29 : decode cX4_run 29 = .ok (.iload_n 3, 1) := by decide +kernel
theorem dX4_run_30 : decode cX4_run 30 = .ok (.iconst 0, 1) := by decide +kernel
theorem dX4_run_31 : decode cX4_run 31 = .ok (.iastore, 1) := by decide +kernel
theorem dX4_run_32 : decode cX4_run 32 = .ok (.iinc 3 1, 3) := by decide +kernel
theorem dX4_run_35 : decode cX4_run 35 = .ok (.goto (-16), 3) := by decide +kernel
theorem dX4_run_38 : decode cX4_run 38 = .ok (.aload_n 0, 1) := by decide +kernel
theorem dX4_run_39 : decode cX4_run 39 = .ok (.iconst 0, 1) := by decide +kernel
theorem dX4_run_40 : decode cX4_run 40 = .ok (.putfield 122, 3) := by decide +kernel
theorem dX4_run_43 : decode cX4_run 43 = .ok (.aload_n 0, 1) := by decide +kernel
theorem dX4_run_44 : decode cX4_run 44 = .ok (.iconst 0, 1) := by decide +kernel
theorem dX4_run_45 : decode cX4_run 45 = .ok (.putfield 125, 3) := by decide +kernel
theorem dX4_run_48 : decode cX4_run 48 = .ok (.aload_n 0, 1) := by decide +kernel
theorem dX4_run_49 : decode cX4_run 49 = .ok (.iload_n 2, 1) := by decide +kernel
theorem dX4_run_50 : decode cX4_run 50 = .ok (.putfield 119, 3) := by decide +kernel
theorem dX4_run_53 : decode cX4_run 53 = .ok (.aload_n 0, 1) := by decide +kernel
theorem dX4_run_54 : decode cX4_run 54 = .ok (.iconst 0, 1) := by decide +kernel
theorem dX4_run_55 : decode cX4_run 55 = .ok (.iconst 0, 1) := by decide +kernel
theorem dX4_run_56 : decode cX4_run 56 = .ok (.invokevirtual 136, 3) := by decide +kernel
theorem dX4_run_59 : decode cX4_run 59 = .ok (.ifCond .ge 5, 3) := by decide +kernel
theorem dX4_run_62 : decode cX4_run 62 = .ok (.iconst 3, 1) := by decide +kernel
theorem dX4_run_63 : decode cX4_run 63 = .ok (.ireturn, 1) := by decide +kernel
theorem dX4_run_64 : decode cX4_run 64 = .ok (.aload_n 0, 1) := by decide +kernel
theorem dX4_run_65 : decode cX4_run 65 = .ok (.iconst 0, 1) := by decide +kernel
theorem dX4_run_66 : decode cX4_run 66 = .ok (.iconst 0, 1) := by decide +kernel
theorem dX4_run_67 : decode cX4_run 67 = .ok (.invokevirtual 95, 3) := by decide +kernel
theorem dX4_run_70 : decode cX4_run 70 = .ok (.istore_n 3, 1) := by decide +kernel
theorem dX4_run_71 : decode cX4_run 71 = .ok (.iload_n 3, 1) := by decide +kernel
theorem dX4_run_72 : decode cX4_run 72 = .ok (.ifCond .ge 6, 3) := by decide +kernel
theorem dX4_run_75 : decode cX4_run 75 = .ok (.bipush 6, 2) := by decide +kernel
theorem dX4_run_77 : decode cX4_run 77 = .ok (.ireturn, 1) := by decide +kernel
theorem dX4_run_78 : decode cX4_run 78 = .ok (.aload_n 0, 1) := by decide +kernel
theorem dX4_run_79 : decode cX4_run 79 = .ok (.getfield 66, 3) := by decide +kernel
theorem dX4_run_82 : decode cX4_run 82 = .ok (.iconst 3, 1) := by decide +kernel
theorem dX4_run_83 : decode cX4_run 83 = .ok (.dup2, 1) := by decide +kernel
theorem dX4_run_84 : decode cX4_run 84 = .ok (.iaload, 1) := by decide +kernel
theorem dX4_run_85 : decode cX4_run 85 = .ok (.iconst 1, 1) := by decide +kernel
theorem dX4_run_86 : decode cX4_run 86 = .ok (.iadd, 1) := by decide +kernel
theorem dX4_run_87 : decode cX4_run 87 = .ok (.iastore, 1) := by decide +kernel
theorem dX4_run_88 : decode cX4_run 88 = .ok (.aload_n 0, 1) := by decide +kernel
theorem dX4_run_89 : decode cX4_run 89 = .ok (.iload_n 3, 1) := by decide +kernel
theorem dX4_run_90 : decode cX4_run 90 = .ok (.iconst 0, 1) := by decide +kernel
theorem dX4_run_91 : decode cX4_run 91 = .ok (.iconst 0, 1) := by decide +kernel
theorem dX4_run_92 : decode cX4_run 92 = .ok (.iconst 0, 1) := by decide +kernel
theorem dX4_run_93 : decode cX4_run 93 = .ok (.iconst 0, 1) := by decide +kernel
theorem dX4_run_94 : decode cX4_run 94 = .ok (.invokevirtual 132, 3) := by decide +kernel
theorem dX4_run_97 : decode cX4_run 97 = .ok (.aload_n 0, 1) := by decide +kernel
theorem dX4_run_98 : decode cX4_run 98 = .ok (.getfield 125, 3) := by decide +kernel
theorem dX4_run_101 : decode cX4_run 101 = .ok (.ifCond .le 84, 3) := by decide +kernel
theorem dX4_run_104 : decode cX4_run 104 = .ok (.aload_n 0, 1) := by decide +kernel
theorem dX4_run_105 : decode cX4_run 105 = .ok (.getfield 51, 3) := by decide +kernel
theorem dX4_run_108 : decode cX4_run 108 = .ok (.aload_n 0, 1) := by decide +kernel
theorem dX4_run_109 : decode cX4_run 109 = .ok (.getfield 125, 3) := by decide +kernel
theorem dX4_run_112 : decode cX4_run 112 = .ok (.iconst 1, 1) := by decide +kernel
theorem dX4_run_113 : decode cX4_run 113 = .ok (.isub, 1) := by decide +kernel
theorem dX4_run_114 : decode cX4_run 114 = .ok (.iaload, 1) := by decide +kernel
theorem dX4_run_115 : decode cX4_run 115 = .ok (.aload_n 0, 1) := by decide +kernel
theorem dX4_run_116 : decode cX4_run 116 = .ok (.getfield 17, 3) := by decide +kernel
theorem dX4_run_119 : decode cX4_run 119 = .ok (.aload_n 0, 1) := by decide +kernel
theorem dX4_run_120 : decode cX4_run 120 = .ok (.getfield 48, 3) := by decide +kernel
theorem dX4_run_123 : decode cX4_run 123 = .ok (.aload_n 0, 1) := by decide +kernel
theorem dX4_run_124 : decode cX4_run 124 = .ok (.getfield 125, 3) := by decide +kernel
theorem dX4_run_127 : decode cX4_run 127 = .ok (.iconst 1, 1) := by decide +kernel
theorem dX4_run_128 : decode cX4_run 128 = .ok (.isub, 1) := by decide +kernel
theorem dX4_run_129 : decode cX4_run 129 = .ok (.iaload, 1) := by decide +kernel
theorem dX4_run_130 : decode cX4_run 130 = .ok (.iaload, 1) := by decide +kernel
theorem dX4_run_131 : decode cX4_run 131 = .ok (.if_icmp .lt 12, 3) := by decide +kernel
theorem dX4_run_134 : decode cX4_run 134 = .ok (.aload_n 0, 1) := by decide +kernel
theorem dX4_run_135 : decode cX4_run 135 = .ok (.iconst 0, 1) := by decide +kernel
theorem dX4_run_136 : decode cX4_run 136 = .ok (.iconst 0, 1) := by decide +kernel
theorem dX4_run_137 : decode cX4_run 137 = .ok (.invokevirtual 157, 3) := by decide +kernel
theorem dX4_run_140 : decode cX4_run 140 = .ok (.goto (-43), 3) := by decide +kernel
theorem dX4_run_143 : decode cX4_run 143 = .ok (.aload_n 0, 1) := by decide +kernel
theorem dX4_run_144 : decode cX4_run 144 = .ok (.getfield 66, 3) := by decide +kernel
theorem dX4_run_147 : decode cX4_run 147 = .ok (.iconst 4, 1) := by decide +kernel
theorem dX4_run_148 : decode cX4_run 148 = .ok (.iaload, 1) := by decide +kernel
theorem dX4_run_149 : decode cX4_run 149 = .ok (.sipush 400, 3) := by decide +kernel
theorem dX4_run_152 : decode cX4_run 152 = .ok (.if_icmp .ne 5, 3) := by decide +kernel
theorem dX4_run_155 : decode cX4_run 155 = .ok (.iconst 5, 1) := by decide +kernel
theorem dX4_run_156 : decode cX4_run 156 = .ok (.ireturn, 1) := by decide +kernel
theorem dX4_run_157 : decode cX4_run 157 = .ok (.aload_n 0, 1) := by decide +kernel
theorem dX4_run_158 : decode cX4_run 158 = .ok (.getfield 66, 3) := by decide +kernel
theorem dX4_run_161 : decode cX4_run 161 = .ok (.iconst 4, 1) := by decide +kernel
theorem dX4_run_162 : decode cX4_run 162 = .ok (.dup2, 1) := by decide +kernel
theorem dX4_run_163 : decode cX4_run 163 = .ok (.iaload, 1) := by decide +kernel
theorem dX4_run_164 : decode cX4_run 164 = .ok (.iconst 1, 1) := by decide +kernel
theorem dX4_run_165 : decode cX4_run 165 = .ok (.iadd, 1) := by decide +kernel
theorem dX4_run_166 : decode cX4_run 166 = .ok (.iastore, 1) := by decide +kernel
theorem dX4_run_167 : decode cX4_run 167 = .ok (.aload_n 0, 1) := by decide +kernel
theorem dX4_run_168 : decode cX4_run 168 = .ok (.iload_n 1, 1) := by decide +kernel
theorem dX4_run_169 : decode cX4_run 169 = .ok (.invokevirtual 161, 3) := by decide +kernel
theorem dX4_run_172 : decode cX4_run 172 = .ok (.istore 4, 2) := by decide +kernel
theorem dX4_run_174 : decode cX4_run 174 = .ok (.iload 4, 2) := by decide +kernel
theorem dX4_run_176 : decode cX4_run 176 = .ok (.ifCond .le 6, 3) := by decide +kernel
theorem dX4_run_179 : decode cX4_run 179 = .ok (.iload 4, 2) := by decide +kernel
theorem dX4_run_181 : decode cX4_run 181 = .ok (.ireturn, 1) := by decide +kernel
theorem dX4_run_182 : decode cX4_run 182 = .ok (.goto (-85), 3) := by decide +kernel
theorem dX4_run_185 : decode cX4_run 185 = .ok (.iconst 0, 1) := by decide +kernel
theorem dX4_run_186 : decode cX4_run 186 = .ok (.ireturn, 1) := by decide +kernel
theorem dX4_count_0 : decode cX4_count 0 = .ok (.aload_n 0, 1) := by decide +kernel
theorem dX4_count_1 : decode cX4_count 1 = .ok (.iload_n 1, 1) := by decide +kernel
theorem dX4_count_2 : decode cX4_count 2 = .ok (.iconst 0, 1) := by decide +kernel
theorem dX4_count_3 : decode cX4_count 3 = .ok (.iconst 5, 1) := by decide +kernel
theorem dX4_count_4 : decode cX4_count 4 = .ok (.invokestatic 72, 3) := by decide +kernel
theorem dX4_count_7 : decode cX4_count 7 = .ok (.iconst 0, 1) := by decide +kernel
theorem dX4_count_8 : decode cX4_count 8 = .ok (.invokevirtual 76, 3) := by decide +kernel
theorem dX4_count_11 : decode cX4_count 11 = .ok (.ifCond .eq 7, 3) := by decide +kernel
theorem dX4_count_14 : decode cX4_count 14 = .ok (.iconst 0, 1) := by decide +kernel
theorem dX4_count_15 : decode cX4_count 15 = .ok (.goto 9, 3) := by decide +kernel
theorem dX4_count_18 : decode cX4_count 18 = .ok (.aload_n 0, 1) := by decide +kernel
theorem dX4_count_19 : decode cX4_count 19 = .ok (.getfield 66, 3) := by decide +kernel
theorem dX4_count_22 : decode cX4_count 22 = .ok (.iload_n 1, 1) := by decide +kernel
theorem dX4_count_23 : decode cX4_count 23 = .ok (.iaload, 1) := by decide +kernel
theorem dX4_count_24 : decode cX4_count 24 = .ok (.ireturn, 1) := by decide +kernel
theorem dX4_out_0 : decode cX4_out 0 = .ok (.aload_n 0, 1) := by decide +kernel
theorem dX4_out_1 : decode cX4_out 1 = .ok (.iload_n 1, 1) := by decide +kernel
theorem dX4_out_2 : decode cX4_out 2 = .ok (.iconst 0, 1) := by decide +kernel
theorem dX4_out_3 : decode cX4_out 3 = .ok (.aload_n 0, 1) := by decide +kernel
theorem dX4_out_4 : decode cX4_out 4 = .ok (.getfield 66, 3) := by decide +kernel
theorem dX4_out_7 : decode cX4_out 7 = .ok (.iconst 0, 1) := by decide +kernel
theorem dX4_out_8 : decode cX4_out 8 = .ok (.iaload, 1) := by decide +kernel
theorem dX4_out_9 : decode cX4_out 9 = .ok (.iconst 1, 1) := by decide +kernel
theorem dX4_out_10 : decode cX4_out 10 = .ok (.isub, 1) := by decide +kernel
theorem dX4_out_11 : decode cX4_out 11 = .ok (.invokestatic 72, 3) := by decide +kernel
theorem dX4_out_14 : decode cX4_out 14 = .ok (.iconst 0, 1) := by decide +kernel
theorem dX4_out_15 : decode cX4_out 15 = .ok (.invokevirtual 76, 3) := by decide +kernel
theorem dX4_out_18 : decode cX4_out 18 = .ok (.ifCond .eq 7, 3) := by decide +kernel
theorem dX4_out_21 : decode cX4_out 21 = .ok (.iconst 0, 1) := by decide +kernel
theorem dX4_out_22 : decode cX4_out 22 = .ok (.goto 9, 3) := by decide +kernel
theorem dX4_out_25 : decode cX4_out 25 = .ok (.aload_n 0, 1) := by decide +kernel
theorem dX4_out_26 : decode cX4_out 26 = .ok (.getfield 63, 3) := by decide +kernel
theorem dX4_out_29 : decode cX4_out 29 = .ok (.iload_n 1, 1) := by decide +kernel
theorem dX4_out_30 : decode cX4_out 30 = .ok (.iaload, 1) := by decide +kernel
theorem dX4_out_31 : decode cX4_out 31 = .ok (.ireturn, 1) := by decide +kernel
theorem dL_type_0 : decode cL_type 0 = .ok (.aload_n 2, 1) := by decide +kernel
theorem dL_type_1 : decode cL_type 1 = .ok (.iconst 0, 1) := by decide +kernel
theorem dL_type_2 : decode cL_type 2 = .ok (.aload_n 0, 1) := by decide +kernel
theorem dL_type_3 : decode cL_type 3 = .ok (.iload_n 1, 1) := by decide +kernel
theorem dL_type_4 : decode cL_type 4 = .ok (.invokevirtual 7, 3) := by decide +kernel
theorem dL_type_7 : decode cL_type 7 = .ok (.i2l, 1) := by decide +kernel
theorem dL_type_8 : decode cL_type 8 = .ok (.lastore, 1) := by decide +kernel
theorem dL_type_9 : decode cL_type 9 = .ok (.goto 9, 3) := by decide +kernel
theorem dL_type_12 : decode cL_type 12 = .ok (.astore_n 3, 1) := by decide +kernel
theorem dL_type_13 : decode cL_type 13 = .ok (.iconst 1, 1) := by decide +kernel
theorem dL_type_14 : decode cL_type 14 = .ok (.ireturn, 1) := by decide +kernel
theorem dL_type_15 : decode cL_type 15 = .ok (.astore_n 3, 1) := by decide +kernel
theorem dL_type_16 : decode cL_type 16 = .ok (.iconst 2, 1) := by decide +kernel
theorem dL_type_17 : decode cL_type 17 = .ok (.ireturn, 1) := by decide +kernel
theorem dL_type_18 : decode cL_type 18 = .ok (.iconst 0, 1) := by decide +kernel
theorem dL_type_19 : decode cL_type 19 = .ok (.ireturn, 1) := by decide +kernel
theorem dL_operation_0 : decode cL_operation 0 = .ok (.aload 7, 2) := by decide +kernel
theorem dL_operation_2 : decode cL_operation 2 = .ok (.iconst 0, 1) := by decide +kernel
theorem dL_operation_3 : decode cL_operation 3 = .ok (.aload_n 0, 1) := by decide +kernel
theorem dL_operation_4 : decode cL_operation 4 = .ok (.iload_n 1, 1) := by decide +kernel
theorem dL_operation_5 : decode cL_operation 5 = .ok (.iload_n 2, 1) := by decide +kernel
theorem dL_operation_6 : decode cL_operation 6 = .ok (.iload_n 3, 1) := by decide +kernel
theorem dL_operation_7 : decode cL_operation 7 = .ok (.iload 4, 2) := by decide +kernel
theorem dL_operation_9 : decode cL_operation 9 = .ok (.iload 5, 2) := by decide +kernel
theorem dL_operation_11 : decode cL_operation 11 = .ok (.iload 6, 2) := by decide +kernel
theorem dL_operation_13 : decode cL_operation 13 = .ok (.invokevirtual 17, 3) := by decide +kernel
theorem dL_operation_16 : decode cL_operation 16 = .ok (.i2l, 1) := by decide +kernel
theorem dL_operation_17 : decode cL_operation 17 = .ok (.lastore, 1) := by decide +kernel
theorem dL_operation_18 : decode cL_operation 18 = .ok (.goto 11, 3) := by decide +kernel
theorem dL_operation_21 : decode cL_operation 21 = .ok (.astore 8, 2) := by decide +kernel
theorem dL_operation_23 : decode cL_operation 23 = .ok (.iconst 1, 1) := by decide +kernel
theorem dL_operation_24 : decode cL_operation 24 = .ok (.ireturn, 1) := by decide +kernel
theorem dL_operation_25 : decode cL_operation 25 = .ok (.astore 8, 2) := by decide +kernel
theorem dL_operation_27 : decode cL_operation 27 = .ok (.iconst 2, 1) := by decide +kernel
theorem dL_operation_28 : decode cL_operation 28 = .ok (.ireturn, 1) := by decide +kernel
theorem dL_operation_29 : decode cL_operation 29 = .ok (.iconst 0, 1) := by decide +kernel
theorem dL_operation_30 : decode cL_operation 30 = .ok (.ireturn, 1) := by decide +kernel
theorem dL_strip_0 : decode cL_strip 0 = .ok (.aload_n 3, 1) := by decide +kernel
theorem dL_strip_1 : decode cL_strip 1 = .ok (.iconst 0, 1) := by decide +kernel
theorem dL_strip_2 : decode cL_strip 2 = .ok (.aload_n 0, 1) := by decide +kernel
theorem dL_strip_3 : decode cL_strip 3 = .ok (.iload_n 1, 1) := by decide +kernel
theorem dL_strip_4 : decode cL_strip 4 = .ok (.iload_n 2, 1) := by decide +kernel
theorem dL_strip_5 : decode cL_strip 5 = .ok (.invokevirtual 21, 3) := by decide +kernel
theorem dL_strip_8 : decode cL_strip 8 = .ok (.i2l, 1) := by decide +kernel
theorem dL_strip_9 : decode cL_strip 9 = .ok (.lastore, 1) := by decide +kernel
theorem dL_strip_10 : decode cL_strip 10 = .ok (.goto 7, 3) := by decide +kernel
theorem dL_strip_13 : decode cL_strip 13 = .ok (.astore 4, 2) := by decide +kernel
theorem dL_strip_15 : decode cL_strip 15 = .ok (.iconst 1, 1) := by decide +kernel
theorem dL_strip_16 : decode cL_strip 16 = .ok (.ireturn, 1) := by decide +kernel
theorem dL_strip_17 : decode cL_strip 17 = .ok (.iconst 0, 1) := by decide +kernel
theorem dL_strip_18 : decode cL_strip 18 = .ok (.ireturn, 1) := by decide +kernel
theorem dL_site_0 : decode cL_site 0 = .ok (.aload 4, 2) := by decide +kernel
theorem dL_site_2 : decode cL_site 2 = .ok (.iconst 0, 1) := by decide +kernel
theorem dL_site_3 : decode cL_site 3 = .ok (.aload_n 0, 1) := by decide +kernel
theorem dL_site_4 : decode cL_site 4 = .ok (.iload_n 1, 1) := by decide +kernel
theorem dL_site_5 : decode cL_site 5 = .ok (.iload_n 2, 1) := by decide +kernel
theorem dL_site_6 : decode cL_site 6 = .ok (.iload_n 3, 1) := by decide +kernel
theorem dL_site_7 : decode cL_site 7 = .ok (.invokevirtual 25, 3) := by decide +kernel
theorem dL_site_10 : decode cL_site 10 = .ok (.i2l, 1) := by decide +kernel
theorem dL_site_11 : decode cL_site 11 = .ok (.lastore, 1) := by decide +kernel
theorem dL_site_12 : decode cL_site 12 = .ok (.goto 7, 3) := by decide +kernel
theorem dL_site_15 : decode cL_site 15 = .ok (.astore 5, 2) := by decide +kernel
theorem dL_site_17 : decode cL_site 17 = .ok (.iconst 1, 1) := by decide +kernel
theorem dL_site_18 : decode cL_site 18 = .ok (.ireturn, 1) := by decide +kernel
theorem dL_site_19 : decode cL_site 19 = .ok (.iconst 0, 1) := by decide +kernel
theorem dL_site_20 : decode cL_site 20 = .ok (.ireturn, 1) := by decide +kernel
theorem dL_run_0 : decode cL_run 0 = .ok (.aload_n 3, 1) := by decide +kernel
theorem dL_run_1 : decode cL_run 1 = .ok (.iconst 0, 1) := by decide +kernel
theorem dL_run_2 : decode cL_run 2 = .ok (.aload_n 0, 1) := by decide +kernel
theorem dL_run_3 : decode cL_run 3 = .ok (.iload_n 1, 1) := by decide +kernel
theorem dL_run_4 : decode cL_run 4 = .ok (.iload_n 2, 1) := by decide +kernel
theorem dL_run_5 : decode cL_run 5 = .ok (.invokevirtual 31, 3) := by decide +kernel
theorem dL_run_8 : decode cL_run 8 = .ok (.i2l, 1) := by decide +kernel
theorem dL_run_9 : decode cL_run 9 = .ok (.lastore, 1) := by decide +kernel
theorem dL_run_10 : decode cL_run 10 = .ok (.goto 7, 3) := by decide +kernel
theorem dL_run_13 : decode cL_run 13 = .ok (.astore 4, 2) := by decide +kernel
theorem dL_run_15 : decode cL_run 15 = .ok (.iconst 1, 1) := by decide +kernel
theorem dL_run_16 : decode cL_run 16 = .ok (.ireturn, 1) := by decide +kernel
theorem dL_run_17 : decode cL_run 17 = .ok (.iconst 0, 1) := by decide +kernel
theorem dL_run_18 : decode cL_run 18 = .ok (.ireturn, 1) := by decide +kernel
theorem dL_count_0 : decode cL_count 0 = .ok (.aload_n 2, 1) := by decide +kernel
theorem dL_count_1 : decode cL_count 1 = .ok (.iconst 0, 1) := by decide +kernel
theorem dL_count_2 : decode cL_count 2 = .ok (.aload_n 0, 1) := by decide +kernel
theorem dL_count_3 : decode cL_count 3 = .ok (.iload_n 1, 1) := by decide +kernel
theorem dL_count_4 : decode cL_count 4 = .ok (.invokevirtual 35, 3) := by decide +kernel
theorem dL_count_7 : decode cL_count 7 = .ok (.i2l, 1) := by decide +kernel
theorem dL_count_8 : decode cL_count 8 = .ok (.lastore, 1) := by decide +kernel
theorem dL_count_9 : decode cL_count 9 = .ok (.goto 6, 3) := by decide +kernel
theorem dL_count_12 : decode cL_count 12 = .ok (.astore_n 3, 1) := by decide +kernel
theorem dL_count_13 : decode cL_count 13 = .ok (.iconst 1, 1) := by decide +kernel
theorem dL_count_14 : decode cL_count 14 = .ok (.ireturn, 1) := by decide +kernel
theorem dL_count_15 : decode cL_count 15 = .ok (.iconst 0, 1) := by decide +kernel
theorem dL_count_16 : decode cL_count 16 = .ok (.ireturn, 1) := by decide +kernel
theorem dL_out_0 : decode cL_out 0 = .ok (.aload_n 2, 1) := by decide +kernel
theorem dL_out_1 : decode cL_out 1 = .ok (.iconst 0, 1) := by decide +kernel
theorem dL_out_2 : decode cL_out 2 = .ok (.aload_n 0, 1) := by decide +kernel
theorem dL_out_3 : decode cL_out 3 = .ok (.iload_n 1, 1) := by decide +kernel
theorem dL_out_4 : decode cL_out 4 = .ok (.invokevirtual 38, 3) := by decide +kernel
theorem dL_out_7 : decode cL_out 7 = .ok (.i2l, 1) := by decide +kernel
theorem dL_out_8 : decode cL_out 8 = .ok (.lastore, 1) := by decide +kernel
theorem dL_out_9 : decode cL_out 9 = .ok (.goto 6, 3) := by decide +kernel
theorem dL_out_12 : decode cL_out 12 = .ok (.astore_n 3, 1) := by decide +kernel
theorem dL_out_13 : decode cL_out 13 = .ok (.iconst 1, 1) := by decide +kernel
theorem dL_out_14 : decode cL_out 14 = .ok (.ireturn, 1) := by decide +kernel
theorem dL_out_15 : decode cL_out 15 = .ok (.iconst 0, 1) := by decide +kernel
theorem dL_out_16 : decode cL_out 16 = .ok (.ireturn, 1) := by decide +kernel
theorem dL_law_0 : decode cL_law 0 = .ok (.new 8, 3) := by decide +kernel
theorem dL_law_3 : decode cL_law 3 = .ok (.dup, 1) := by decide +kernel
theorem dL_law_4 : decode cL_law 4 = .ok (.invokespecial 41, 3) := by decide +kernel
theorem dL_law_7 : decode cL_law 7 = .ok (.astore_n 1, 1) := by decide +kernel
theorem dL_law_8 : decode cL_law 8 = .ok (.new 42, 3) := by decide +kernel
theorem dL_law_11 : decode cL_law 11 = .ok (.dup, 1) := by decide +kernel
theorem dL_law_12 : decode cL_law 12 = .ok (.invokespecial 44, 3) := by decide +kernel
theorem dL_law_15 : decode cL_law 15 = .ok (.astore_n 2, 1) := by decide +kernel
theorem dL_law_16 : decode cL_law 16 = .ok (.iconst 1, 1) := by decide +kernel
theorem dL_law_17 : decode cL_law 17 = .ok (.newarray .long, 2) := by decide +kernel
theorem dL_law_19 : decode cL_law 19 = .ok (.astore_n 3, 1) := by decide +kernel
theorem dL_law_20 : decode cL_law 20 = .ok (.iconst 0, 1) := by decide +kernel
theorem dL_law_21 : decode cL_law 21 = .ok (.istore 4, 2) := by decide +kernel
theorem dL_law_23 : decode cL_law 23 = .ok (.iload 4, 2) := by decide +kernel
theorem dL_law_25 : decode cL_law 25 = .ok (.aload_n 0, 1) := by decide +kernel
theorem dL_law_26 : decode cL_law 26 = .ok (.arraylength, 1) := by decide +kernel
theorem dL_law_27 : decode cL_law 27 = .ok (.bipush 7, 2) := by decide +kernel
theorem dL_law_29 : decode cL_law 29 = .ok (.isub, 1) := by decide +kernel
theorem dL_law_30 : decode cL_law 30 = .ok (.if_icmp .gt 612, 3) := by decide +kernel
theorem dL_law_33 : decode cL_law 33 = .ok (.aload_n 0, 1) := by decide +kernel
theorem dL_law_34 : decode cL_law 34 = .ok (.iload 4, 2) := by decide +kernel
theorem dL_law_36 : decode cL_law 36 = .ok (.iaload, 1) := by decide +kernel
theorem dL_law_37 : decode cL_law 37 = .ok (.bipush 15, 2) := by decide +kernel
theorem dL_law_39 : decode cL_law 39 = .ok (.iand, 1) := by decide +kernel
theorem dL_law_40 : decode cL_law 40 = .ok (.tableswitch 596 0 8 #[52, 108, 226, 294, 307, 320, 400, 484, 540], 52) := by decide +kernel
theorem dL_law_92 : decode cL_law 92 = .ok (.aload_n 1, 1) := by decide +kernel
theorem dL_law_93 : decode cL_law 93 = .ok (.aload_n 0, 1) := by decide +kernel
theorem dL_law_94 : decode cL_law 94 = .ok (.iload 4, 2) := by decide +kernel
theorem dL_law_96 : decode cL_law 96 = .ok (.iconst 1, 1) := by decide +kernel
theorem dL_law_97 : decode cL_law 97 = .ok (.iadd, 1) := by decide +kernel
theorem dL_law_98 : decode cL_law 98 = .ok (.iaload, 1) := by decide +kernel
theorem dL_law_99 : decode cL_law 99 = .ok (.aload_n 3, 1) := by decide +kernel
theorem dL_law_100 : decode cL_law 100 = .ok (.invokestatic 45, 3) := by decide +kernel
theorem dL_law_103 : decode cL_law 103 = .ok (.istore 5, 2) := by decide +kernel
theorem dL_law_105 : decode cL_law 105 = .ok (.aload_n 2, 1) := by decide +kernel
theorem dL_law_106 : decode cL_law 106 = .ok (.aload_n 0, 1) := by decide +kernel
theorem dL_law_107 : decode cL_law 107 = .ok (.iload 4, 2) := by decide +kernel
theorem dL_law_109 : decode cL_law 109 = .ok (.iconst 1, 1) := by decide +kernel
theorem dL_law_110 : decode cL_law 110 = .ok (.iadd, 1) := by decide +kernel
theorem dL_law_111 : decode cL_law 111 = .ok (.iaload, 1) := by decide +kernel
theorem dL_law_112 : decode cL_law 112 = .ok (.invokevirtual 50, 3) := by decide +kernel
theorem dL_law_115 : decode cL_law 115 = .ok (.istore 6, 2) := by decide +kernel
theorem dL_law_117 : decode cL_law 117 = .ok (.aload_n 2, 1) := by decide +kernel
theorem dL_law_118 : decode cL_law 118 = .ok (.invokevirtual 51, 3) := by decide +kernel
theorem dL_law_121 : decode cL_law 121 = .ok (.iload 5, 2) := by decide +kernel
theorem dL_law_123 : decode cL_law 123 = .ok (.if_icmp .eq 5, 3) := by decide +kernel
theorem dL_law_126 : decode cL_law 126 = .ok (.iconst 0, 1) := by decide +kernel
theorem dL_law_127 : decode cL_law 127 = .ok (.ireturn, 1) := by decide +kernel
theorem dL_law_128 : decode cL_law 128 = .ok (.iload 5, 2) := by decide +kernel
theorem dL_law_130 : decode cL_law 130 = .ok (.ifCond .ne 15, 3) := by decide +kernel
theorem dL_law_133 : decode cL_law 133 = .ok (.aload_n 3, 1) := by decide +kernel
theorem dL_law_134 : decode cL_law 134 = .ok (.iconst 0, 1) := by decide +kernel
theorem dL_law_135 : decode cL_law 135 = .ok (.laload, 1) := by decide +kernel
theorem dL_law_136 : decode cL_law 136 = .ok (.iload 6, 2) := by decide +kernel
theorem dL_law_138 : decode cL_law 138 = .ok (.i2l, 1) := by decide +kernel
theorem dL_law_139 : decode cL_law 139 = .ok (.lcmp, 1) := by decide +kernel
theorem dL_law_140 : decode cL_law 140 = .ok (.ifCond .eq 5, 3) := by decide +kernel
theorem dL_law_143 : decode cL_law 143 = .ok (.iconst 0, 1) := by decide +kernel
theorem dL_law_144 : decode cL_law 144 = .ok (.ireturn, 1) := by decide +kernel
theorem dL_law_145 : decode cL_law 145 = .ok (.goto 491, 3) := by decide +kernel
theorem dL_law_148 : decode cL_law 148 = .ok (.aload_n 1, 1) := by decide +kernel
theorem dL_law_149 : decode cL_law 149 = .ok (.aload_n 0, 1) := by decide +kernel
theorem dL_law_150 : decode cL_law 150 = .ok (.iload 4, 2) := by decide +kernel
theorem dL_law_152 : decode cL_law 152 = .ok (.iconst 1, 1) := by decide +kernel
theorem dL_law_153 : decode cL_law 153 = .ok (.iadd, 1) := by decide +kernel
theorem dL_law_154 : decode cL_law 154 = .ok (.iaload, 1) := by decide +kernel
theorem dL_law_155 : decode cL_law 155 = .ok (.aload_n 0, 1) := by decide +kernel
theorem dL_law_156 : decode cL_law 156 = .ok (.iload 4, 2) := by decide +kernel
theorem dL_law_158 : decode cL_law 158 = .ok (.iconst 2, 1) := by decide +kernel
theorem dL_law_159 : decode cL_law 159 = .ok (.iadd, 1) := by decide +kernel
theorem dL_law_160 : decode cL_law 160 = .ok (.iaload, 1) := by decide +kernel
theorem dL_law_161 : decode cL_law 161 = .ok (.aload_n 0, 1) := by decide +kernel
theorem dL_law_162 : decode cL_law 162 = .ok (.iload 4, 2) := by decide +kernel
theorem dL_law_164 : decode cL_law 164 = .ok (.iconst 3, 1) := by decide +kernel
theorem dL_law_165 : decode cL_law 165 = .ok (.iadd, 1) := by decide +kernel
theorem dL_law_166 : decode cL_law 166 = .ok (.iaload, 1) := by decide +kernel
theorem dL_law_167 : decode cL_law 167 = .ok (.aload_n 0, 1) := by decide +kernel
theorem dL_law_168 : decode cL_law 168 = .ok (.iload 4, 2) := by decide +kernel
theorem dL_law_170 : decode cL_law 170 = .ok (.iconst 4, 1) := by decide +kernel
theorem dL_law_171 : decode cL_law 171 = .ok (.iadd, 1) := by decide +kernel
theorem dL_law_172 : decode cL_law 172 = .ok (.iaload, 1) := by decide +kernel
theorem dL_law_173 : decode cL_law 173 = .ok (.aload_n 0, 1) := by decide +kernel
theorem dL_law_174 : decode cL_law 174 = .ok (.iload 4, 2) := by decide +kernel
theorem dL_law_176 : decode cL_law 176 = .ok (.iconst 5, 1) := by decide +kernel
theorem dL_law_177 : decode cL_law 177 = .ok (.iadd, 1) := by decide +kernel
