theorem dL_client_310 : decode cL_client 310 = .ok (.iconst 0, 1) := by decide +kernel
theorem dL_client_311 : decode cL_client 311 = .ok (.ireturn, 1) := by decide +kernel
theorem dL_client_312 : decode cL_client 312 = .ok (.iload 8, 2) := by decide +kernel
theorem dL_client_314 : decode cL_client 314 = .ok (.ifCond .ne 8, 3) := by decide +kernel
theorem dL_client_317 : decode cL_client 317 = .ok (.bipush (-9), 2) := by decide +kernel
theorem dL_client_319 : decode cL_client 319 = .ok (.goto 32, 3) := by decide +kernel
theorem dL_client_322 : decode cL_client 322 = .ok (.iload_n 1, 1) := by decide +kernel
theorem dL_client_323 : decode cL_client 323 = .ok (.ifCond .ne 17, 3) := by decide +kernel
theorem dL_client_326 : decode cL_client 326 = .ok (.iload 7, 2) := by decide +kernel
theorem dL_client_328 : decode cL_client 328 = .ok (.ifCond .eq 8, 3) := by decide +kernel
theorem dL_client_331 : decode cL_client 331 = .ok (.bipush (-8), 2) := by decide +kernel
theorem dL_client_333 : decode cL_client 333 = .ok (.goto 18, 3) := by decide +kernel
theorem dL_client_336 : decode cL_client 336 = .ok (.iconst 0, 1) := by decide +kernel
theorem dL_client_337 : decode cL_client 337 = .ok (.goto 14, 3) := by decide +kernel
theorem dL_client_340 : decode cL_client 340 = .ok (.iload 7, 2) := by decide +kernel
theorem dL_client_342 : decode cL_client 342 = .ok (.ifCond .eq 7, 3) := by decide +kernel
theorem dL_client_345 : decode cL_client 345 = .ok (.iconst 0, 1) := by decide +kernel
theorem dL_client_346 : decode cL_client 346 = .ok (.goto 5, 3) := by decide +kernel
theorem dL_client_349 : decode cL_client 349 = .ok (.bipush (-10), 2) := by decide +kernel
theorem dL_client_351 : decode cL_client 351 = .ok (.istore 11, 2) := by decide +kernel
theorem dL_client_353 : decode cL_client 353 = .ok (.aload_n 0, 1) := by decide +kernel
theorem dL_client_354 : decode cL_client 354 = .ok (.iload_n 1, 1) := by decide +kernel
theorem dL_client_355 : decode cL_client 355 = .ok (.iload_n 2, 1) := by decide +kernel
theorem dL_client_356 : decode cL_client 356 = .ok (.iload_n 3, 1) := by decide +kernel
theorem dL_client_357 : decode cL_client 357 = .ok (.iload 4, 2) := by decide +kernel
theorem dL_client_359 : decode cL_client 359 = .ok (.invokestatic 112, 3) := by decide +kernel
theorem dL_client_362 : decode cL_client 362 = .ok (.istore 12, 2) := by decide +kernel
theorem dL_client_364 : decode cL_client 364 = .ok (.aload 5, 2) := by decide +kernel
theorem dL_client_366 : decode cL_client 366 = .ok (.iload_n 2, 1) := by decide +kernel
theorem dL_client_367 : decode cL_client 367 = .ok (.iload 11, 2) := by decide +kernel
theorem dL_client_369 : decode cL_client 369 = .ok (.ifCond .ne 14, 3) := by decide +kernel
theorem dL_client_372 : decode cL_client 372 = .ok (.sipush 1000, 3) := by decide +kernel
theorem dL_client_375 : decode cL_client 375 = .ok (.iload_n 3, 1) := by decide +kernel
theorem dL_client_376 : decode cL_client 376 = .ok (.imul, 1) := by decide +kernel
theorem dL_client_377 : decode cL_client 377 = .ok (.iload 4, 2) := by decide +kernel
theorem dL_client_379 : decode cL_client 379 = .ok (.iadd, 1) := by decide +kernel
theorem dL_client_380 : decode cL_client 380 = .ok (.goto 7, 3) := by decide +kernel
theorem dL_client_383 : decode cL_client 383 = .ok (.aload 5, 2) := by decide +kernel
theorem dL_client_385 : decode cL_client 385 = .ok (.iload_n 2, 1) := by decide +kernel
theorem dL_client_386 : decode cL_client 386 = .ok (.iaload, 1) := by decide +kernel
theorem dL_client_387 : decode cL_client 387 = .ok (.iastore, 1) := by decide +kernel
theorem dL_client_388 : decode cL_client 388 = .ok (.aload 6, 2) := by decide +kernel
theorem dL_client_390 : decode cL_client 390 = .ok (.bipush 6, 2) := by decide +kernel
theorem dL_client_392 : decode cL_client 392 = .ok (.dup2, 1) := by decide +kernel
theorem dL_client_393 : decode cL_client 393 = .ok (.iaload, 1) := by decide +kernel
theorem dL_client_394 : decode cL_client 394 = .ok (.iload 11, 2) := by decide +kernel
theorem dL_client_396 : decode cL_client 396 = .ok (.ifCond .ne 15, 3) := by decide +kernel
theorem dL_client_399 : decode cL_client 399 = .ok (.aload 6, 2) := by decide +kernel
theorem dL_client_401 : decode cL_client 401 = .ok (.iconst 0, 1) := by decide +kernel
theorem dL_client_402 : decode cL_client 402 = .ok (.iaload, 1) := by decide +kernel
theorem dL_client_403 : decode cL_client 403 = .ok (.iconst 1, 1) := by decide +kernel
theorem dL_client_404 : decode cL_client 404 = .ok (.if_icmp .ne 7, 3) := by decide +kernel
theorem dL_client_407 : decode cL_client 407 = .ok (.iconst 1, 1) := by decide +kernel
theorem dL_client_408 : decode cL_client 408 = .ok (.goto 4, 3) := by decide +kernel
theorem dL_client_411 : decode cL_client 411 = .ok (.iconst 0, 1) := by decide +kernel
theorem dL_client_412 : decode cL_client 412 = .ok (.iadd, 1) := by decide +kernel
theorem dL_client_413 : decode cL_client 413 = .ok (.iastore, 1) := by decide +kernel
theorem dL_client_414 : decode cL_client 414 = .ok (.iload 12, 2) := by decide +kernel
theorem dL_client_416 : decode cL_client 416 = .ok (.iload 11, 2) := by decide +kernel
theorem dL_client_418 : decode cL_client 418 = .ok (.if_icmp .ne 39, 3) := by decide +kernel
theorem dL_client_421 : decode cL_client 421 = .ok (.aload_n 0, 1) := by decide +kernel
theorem dL_client_422 : decode cL_client 422 = .ok (.invokevirtual 106, 3) := by decide +kernel
theorem dL_client_425 : decode cL_client 425 = .ok (.iload 9, 2) := by decide +kernel
theorem dL_client_427 : decode cL_client 427 = .ok (.iload 11, 2) := by decide +kernel
theorem dL_client_429 : decode cL_client 429 = .ok (.ifCond .ne 19, 3) := by decide +kernel
theorem dL_client_432 : decode cL_client 432 = .ok (.iload_n 1, 1) := by decide +kernel
theorem dL_client_433 : decode cL_client 433 = .ok (.ifCond .ne 15, 3) := by decide +kernel
theorem dL_client_436 : decode cL_client 436 = .ok (.aload 6, 2) := by decide +kernel
theorem dL_client_438 : decode cL_client 438 = .ok (.iconst 0, 1) := by decide +kernel
theorem dL_client_439 : decode cL_client 439 = .ok (.iaload, 1) := by decide +kernel
theorem dL_client_440 : decode cL_client 440 = .ok (.iconst 2, 1) := by decide +kernel
theorem dL_client_441 : decode cL_client 441 = .ok (.if_icmp .ne 7, 3) := by decide +kernel
theorem dL_client_444 : decode cL_client 444 = .ok (.iconst 1, 1) := by decide +kernel
theorem dL_client_445 : decode cL_client 445 = .ok (.goto 4, 3) := by decide +kernel
theorem dL_client_448 : decode cL_client 448 = .ok (.iconst 0, 1) := by decide +kernel
theorem dL_client_449 : decode cL_client 449 = .ok (.iadd, 1) := by decide +kernel
theorem dL_client_450 : decode cL_client 450 = .ok (.if_icmp .ne 7, 3) := by decide +kernel
theorem dL_client_453 : decode cL_client 453 = .ok (.iconst 1, 1) := by decide +kernel
theorem dL_client_454 : decode cL_client 454 = .ok (.goto 4, 3) := by decide +kernel
theorem dL_client_457 : decode cL_client 457 = .ok (.iconst 0, 1) := by decide +kernel
theorem dL_client_458 : decode cL_client 458 = .ok (.ireturn, 1) := by decide +kernel
theorem dL_ticks_0 : decode cL_ticks 0 = .ok (.aload_n 0, 1) := by decide +kernel
theorem dL_ticks_1 : decode cL_ticks 1 = .ok (.iconst 4, 1) := by decide +kernel
theorem dL_ticks_2 : decode cL_ticks 2 = .ok (.iload_n 1, 1) := by decide +kernel
theorem dL_ticks_3 : decode cL_ticks 3 = .ok (.iconst 0, 1) := by decide +kernel
theorem dL_ticks_4 : decode cL_ticks 4 = .ok (.iconst 0, 1) := by decide +kernel
theorem dL_ticks_5 : decode cL_ticks 5 = .ok (.invokestatic 112, 3) := by decide +kernel
theorem dL_ticks_8 : decode cL_ticks 8 = .ok (.istore 4, 2) := by decide +kernel
theorem dL_ticks_10 : decode cL_ticks 10 = .ok (.aload_n 3, 1) := by decide +kernel
theorem dL_ticks_11 : decode cL_ticks 11 = .ok (.iconst 0, 1) := by decide +kernel
theorem dL_ticks_12 : decode cL_ticks 12 = .ok (.iaload, 1) := by decide +kernel
theorem dL_ticks_13 : decode cL_ticks 13 = .ok (.iconst 1, 1) := by decide +kernel
theorem dL_ticks_14 : decode cL_ticks 14 = .ok (.if_icmp .eq 16, 3) := by decide +kernel
theorem dL_ticks_17 : decode cL_ticks 17 = .ok (.iload 4, 2) := by decide +kernel
theorem dL_ticks_19 : decode cL_ticks 19 = .ok (.bipush (-8), 2) := by decide +kernel
theorem dL_ticks_21 : decode cL_ticks 21 = .ok (.if_icmp .ne 7, 3) := by decide +kernel
theorem dL_ticks_24 : decode cL_ticks 24 = .ok (.iconst 1, 1) := by decide +kernel
theorem dL_ticks_25 : decode cL_ticks 25 = .ok (.goto 4, 3) := by decide +kernel
theorem dL_ticks_28 : decode cL_ticks 28 = .ok (.iconst 0, 1) := by decide +kernel
theorem dL_ticks_29 : decode cL_ticks 29 = .ok (.ireturn, 1) := by decide +kernel
theorem dL_ticks_30 : decode cL_ticks 30 = .ok (.iload_n 1, 1) := by decide +kernel
theorem dL_ticks_31 : decode cL_ticks 31 = .ok (.aload_n 3, 1) := by decide +kernel
theorem dL_ticks_32 : decode cL_ticks 32 = .ok (.iconst 4, 1) := by decide +kernel
theorem dL_ticks_33 : decode cL_ticks 33 = .ok (.iaload, 1) := by decide +kernel
theorem dL_ticks_34 : decode cL_ticks 34 = .ok (.if_icmp .le 14, 3) := by decide +kernel
theorem dL_ticks_37 : decode cL_ticks 37 = .ok (.iload 4, 2) := by decide +kernel
theorem dL_ticks_39 : decode cL_ticks 39 = .ok (.ifCond .ne 7, 3) := by decide +kernel
theorem dL_ticks_42 : decode cL_ticks 42 = .ok (.iconst 1, 1) := by decide +kernel
theorem dL_ticks_43 : decode cL_ticks 43 = .ok (.goto 4, 3) := by decide +kernel
theorem dL_ticks_46 : decode cL_ticks 46 = .ok (.iconst 0, 1) := by decide +kernel
theorem dL_ticks_47 : decode cL_ticks 47 = .ok (.ireturn, 1) := by decide +kernel
theorem dL_ticks_48 : decode cL_ticks 48 = .ok (.aload_n 3, 1) := by decide +kernel
theorem dL_ticks_49 : decode cL_ticks 49 = .ok (.iconst 5, 1) := by decide +kernel
theorem dL_ticks_50 : decode cL_ticks 50 = .ok (.iaload, 1) := by decide +kernel
theorem dL_ticks_51 : decode cL_ticks 51 = .ok (.bipush 40, 2) := by decide +kernel
theorem dL_ticks_53 : decode cL_ticks 53 = .ok (.if_icmp .ge 12, 3) := by decide +kernel
theorem dL_ticks_56 : decode cL_ticks 56 = .ok (.bipush 40, 2) := by decide +kernel
theorem dL_ticks_58 : decode cL_ticks 58 = .ok (.aload_n 3, 1) := by decide +kernel
theorem dL_ticks_59 : decode cL_ticks 59 = .ok (.iconst 5, 1) := by decide +kernel
theorem dL_ticks_60 : decode cL_ticks 60 = .ok (.iaload, 1) := by decide +kernel
theorem dL_ticks_61 : decode cL_ticks 61 = .ok (.isub, 1) := by decide +kernel
theorem dL_ticks_62 : decode cL_ticks 62 = .ok (.goto 7, 3) := by decide +kernel
theorem dL_ticks_65 : decode cL_ticks 65 = .ok (.aload_n 3, 1) := by decide +kernel
theorem dL_ticks_66 : decode cL_ticks 66 = .ok (.bipush 6, 2) := by decide +kernel
theorem dL_ticks_68 : decode cL_ticks 68 = .ok (.iaload, 1) := by decide +kernel
theorem dL_ticks_69 : decode cL_ticks 69 = .ok (.istore 5, 2) := by decide +kernel
theorem dL_ticks_71 : decode cL_ticks 71 = .ok (.iload 5, 2) := by decide +kernel
theorem dL_ticks_73 : decode cL_ticks 73 = .ok (.aload_n 3, 1) := by decide +kernel
theorem dL_ticks_74 : decode cL_ticks 74 = .ok (.iconst 3, 1) := by decide +kernel
theorem dL_ticks_75 : decode cL_ticks 75 = .ok (.iaload, 1) := by decide +kernel
theorem dL_ticks_76 : decode cL_ticks 76 = .ok (.if_icmp .ge 8, 3) := by decide +kernel
theorem dL_ticks_79 : decode cL_ticks 79 = .ok (.iload 5, 2) := by decide +kernel
theorem dL_ticks_81 : decode cL_ticks 81 = .ok (.goto 6, 3) := by decide +kernel
theorem dL_ticks_84 : decode cL_ticks 84 = .ok (.aload_n 3, 1) := by decide +kernel
theorem dL_ticks_85 : decode cL_ticks 85 = .ok (.iconst 3, 1) := by decide +kernel
theorem dL_ticks_86 : decode cL_ticks 86 = .ok (.iaload, 1) := by decide +kernel
theorem dL_ticks_87 : decode cL_ticks 87 = .ok (.istore 6, 2) := by decide +kernel
theorem dL_ticks_89 : decode cL_ticks 89 = .ok (.iload 4, 2) := by decide +kernel
theorem dL_ticks_91 : decode cL_ticks 91 = .ok (.iload 6, 2) := by decide +kernel
theorem dL_ticks_93 : decode cL_ticks 93 = .ok (.if_icmp .ne 7, 3) := by decide +kernel
theorem dL_ticks_96 : decode cL_ticks 96 = .ok (.iconst 1, 1) := by decide +kernel
theorem dL_ticks_97 : decode cL_ticks 97 = .ok (.goto 4, 3) := by decide +kernel
theorem dL_ticks_100 : decode cL_ticks 100 = .ok (.iconst 0, 1) := by decide +kernel
theorem dL_ticks_101 : decode cL_ticks 101 = .ok (.istore 7, 2) := by decide +kernel
theorem dL_ticks_103 : decode cL_ticks 103 = .ok (.iconst 0, 1) := by decide +kernel
theorem dL_ticks_104 : decode cL_ticks 104 = .ok (.istore 8, 2) := by decide +kernel
theorem dL_ticks_106 : decode cL_ticks 106 = .ok (.iload 8, 2) := by decide +kernel
theorem dL_ticks_108 : decode cL_ticks 108 = .ok (.iload 6, 2) := by decide +kernel
theorem dL_ticks_110 : decode cL_ticks 110 = .ok (.if_icmp .ge 89, 3) := by decide +kernel
theorem dL_ticks_113 : decode cL_ticks 113 = .ok (.aload_n 3, 1) := by decide +kernel
theorem dL_ticks_114 : decode cL_ticks 114 = .ok (.iconst 5, 1) := by decide +kernel
theorem dL_ticks_115 : decode cL_ticks 115 = .ok (.iaload, 1) := by decide +kernel
theorem dL_ticks_116 : decode cL_ticks 116 = .ok (.bipush 40, 2) := by decide +kernel
theorem dL_ticks_118 : decode cL_ticks 118 = .ok (.if_icmp .ge 81, 3) := by decide +kernel
theorem dL_ticks_121 : decode cL_ticks 121 = .ok (.iload 7, 2) := by decide +kernel
theorem dL_ticks_123 : decode cL_ticks 123 = .ok (.ifCond .eq 76, 3) := by decide +kernel
theorem dL_ticks_126 : decode cL_ticks 126 = .ok (.aload_n 0, 1) := by decide +kernel
theorem dL_ticks_127 : decode cL_ticks 127 = .ok (.aload_n 2, 1) := by decide +kernel
theorem dL_ticks_128 : decode cL_ticks 128 = .ok (.aload_n 3, 1) := by decide +kernel
theorem dL_ticks_129 : decode cL_ticks 129 = .ok (.aload_n 3, 1) := by decide +kernel
theorem dL_ticks_130 : decode cL_ticks 130 = .ok (.iconst 5, 1) := by decide +kernel
theorem dL_ticks_131 : decode cL_ticks 131 = .ok (.iaload, 1) := by decide +kernel
theorem dL_ticks_132 : decode cL_ticks 132 = .ok (.iload 8, 2) := by decide +kernel
theorem dL_ticks_134 : decode cL_ticks 134 = .ok (.iadd, 1) := by decide +kernel
theorem dL_ticks_135 : decode cL_ticks 135 = .ok (.invokestatic 87, 3) := by decide +kernel
theorem dL_ticks_138 : decode cL_ticks 138 = .ok (.ifCond .eq 52, 3) := by decide +kernel
theorem dL_ticks_141 : decode cL_ticks 141 = .ok (.aload_n 0, 1) := by decide +kernel
theorem dL_ticks_142 : decode cL_ticks 142 = .ok (.aload_n 3, 1) := by decide +kernel
theorem dL_ticks_143 : decode cL_ticks 143 = .ok (.iconst 5, 1) := by decide +kernel
theorem dL_ticks_144 : decode cL_ticks 144 = .ok (.iaload, 1) := by decide +kernel
