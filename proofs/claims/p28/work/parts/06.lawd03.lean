theorem dL_refusesAny_377 : decode cL_refusesAny 377 = .ok (.aload_n 0, 1) := by decide +kernel
theorem dL_refusesAny_378 : decode cL_refusesAny 378 = .ok (.iconst 1, 1) := by decide +kernel
theorem dL_refusesAny_379 : decode cL_refusesAny 379 = .ok (.iconst (-1), 1) := by decide +kernel
theorem dL_refusesAny_380 : decode cL_refusesAny 380 = .ok (.iload_n 1, 1) := by decide +kernel
theorem dL_refusesAny_381 : decode cL_refusesAny 381 = .ok (.bipush 99, 2) := by decide +kernel
theorem dL_refusesAny_383 : decode cL_refusesAny 383 = .ok (.irem, 1) := by decide +kernel
theorem dL_refusesAny_384 : decode cL_refusesAny 384 = .ok (.isub, 1) := by decide +kernel
theorem dL_refusesAny_385 : decode cL_refusesAny 385 = .ok (.iconst 0, 1) := by decide +kernel
theorem dL_refusesAny_386 : decode cL_refusesAny 386 = .ok (.invokestatic 88, 3) := by decide +kernel
theorem dL_refusesAny_389 : decode cL_refusesAny 389 = .ok (.bipush (-11), 2) := by decide +kernel
theorem dL_refusesAny_391 : decode cL_refusesAny 391 = .ok (.if_icmp .ne 125, 3) := by decide +kernel
theorem dL_refusesAny_394 : decode cL_refusesAny 394 = .ok (.aload_n 0, 1) := by decide +kernel
theorem dL_refusesAny_395 : decode cL_refusesAny 395 = .ok (.iconst 2, 1) := by decide +kernel
theorem dL_refusesAny_396 : decode cL_refusesAny 396 = .ok (.iload_n 1, 1) := by decide +kernel
theorem dL_refusesAny_397 : decode cL_refusesAny 397 = .ok (.iconst 2, 1) := by decide +kernel
theorem dL_refusesAny_398 : decode cL_refusesAny 398 = .ok (.irem, 1) := by decide +kernel
theorem dL_refusesAny_399 : decode cL_refusesAny 399 = .ok (.ifCond .ne 7, 3) := by decide +kernel
theorem dL_refusesAny_402 : decode cL_refusesAny 402 = .ok (.iconst (-1), 1) := by decide +kernel
theorem dL_refusesAny_403 : decode cL_refusesAny 403 = .ok (.goto 5, 3) := by decide +kernel
theorem dL_refusesAny_406 : decode cL_refusesAny 406 = .ok (.bipush 11, 2) := by decide +kernel
theorem dL_refusesAny_408 : decode cL_refusesAny 408 = .ok (.iconst 0, 1) := by decide +kernel
theorem dL_refusesAny_409 : decode cL_refusesAny 409 = .ok (.invokestatic 88, 3) := by decide +kernel
theorem dL_refusesAny_412 : decode cL_refusesAny 412 = .ok (.bipush (-11), 2) := by decide +kernel
theorem dL_refusesAny_414 : decode cL_refusesAny 414 = .ok (.if_icmp .ne 102, 3) := by decide +kernel
theorem dL_refusesAny_417 : decode cL_refusesAny 417 = .ok (.aload_n 0, 1) := by decide +kernel
theorem dL_refusesAny_418 : decode cL_refusesAny 418 = .ok (.iconst 3, 1) := by decide +kernel
theorem dL_refusesAny_419 : decode cL_refusesAny 419 = .ok (.iload_n 1, 1) := by decide +kernel
theorem dL_refusesAny_420 : decode cL_refusesAny 420 = .ok (.iconst 2, 1) := by decide +kernel
theorem dL_refusesAny_421 : decode cL_refusesAny 421 = .ok (.irem, 1) := by decide +kernel
theorem dL_refusesAny_422 : decode cL_refusesAny 422 = .ok (.ifCond .ne 7, 3) := by decide +kernel
theorem dL_refusesAny_425 : decode cL_refusesAny 425 = .ok (.iconst (-1), 1) := by decide +kernel
theorem dL_refusesAny_426 : decode cL_refusesAny 426 = .ok (.goto 4, 3) := by decide +kernel
theorem dL_refusesAny_429 : decode cL_refusesAny 429 = .ok (.iconst 3, 1) := by decide +kernel
theorem dL_refusesAny_430 : decode cL_refusesAny 430 = .ok (.iconst 0, 1) := by decide +kernel
theorem dL_refusesAny_431 : decode cL_refusesAny 431 = .ok (.invokestatic 88, 3) := by decide +kernel
theorem dL_refusesAny_434 : decode cL_refusesAny 434 = .ok (.bipush (-10), 2) := by decide +kernel
theorem dL_refusesAny_436 : decode cL_refusesAny 436 = .ok (.if_icmp .ne 80, 3) := by decide +kernel
theorem dL_refusesAny_439 : decode cL_refusesAny 439 = .ok (.aload_n 0, 1) := by decide +kernel
theorem dL_refusesAny_440 : decode cL_refusesAny 440 = .ok (.iconst 4, 1) := by decide +kernel
theorem dL_refusesAny_441 : decode cL_refusesAny 441 = .ok (.iload_n 2, 1) := by decide +kernel
theorem dL_refusesAny_442 : decode cL_refusesAny 442 = .ok (.bipush 9, 2) := by decide +kernel
theorem dL_refusesAny_444 : decode cL_refusesAny 444 = .ok (.invokestatic 88, 3) := by decide +kernel
theorem dL_refusesAny_447 : decode cL_refusesAny 447 = .ok (.bipush (-10), 2) := by decide +kernel
theorem dL_refusesAny_449 : decode cL_refusesAny 449 = .ok (.if_icmp .ne 67, 3) := by decide +kernel
theorem dL_refusesAny_452 : decode cL_refusesAny 452 = .ok (.aload_n 0, 1) := by decide +kernel
theorem dL_refusesAny_453 : decode cL_refusesAny 453 = .ok (.iconst 4, 1) := by decide +kernel
theorem dL_refusesAny_454 : decode cL_refusesAny 454 = .ok (.iconst 0, 1) := by decide +kernel
theorem dL_refusesAny_455 : decode cL_refusesAny 455 = .ok (.iload_n 1, 1) := by decide +kernel
theorem dL_refusesAny_456 : decode cL_refusesAny 456 = .ok (.iconst 2, 1) := by decide +kernel
theorem dL_refusesAny_457 : decode cL_refusesAny 457 = .ok (.irem, 1) := by decide +kernel
theorem dL_refusesAny_458 : decode cL_refusesAny 458 = .ok (.ifCond .ne 7, 3) := by decide +kernel
theorem dL_refusesAny_461 : decode cL_refusesAny 461 = .ok (.iconst (-1), 1) := by decide +kernel
theorem dL_refusesAny_462 : decode cL_refusesAny 462 = .ok (.goto 4, 3) := by decide +kernel
theorem dL_refusesAny_465 : decode cL_refusesAny 465 = .ok (.iconst 2, 1) := by decide +kernel
theorem dL_refusesAny_466 : decode cL_refusesAny 466 = .ok (.invokestatic 88, 3) := by decide +kernel
theorem dL_refusesAny_469 : decode cL_refusesAny 469 = .ok (.bipush (-11), 2) := by decide +kernel
theorem dL_refusesAny_471 : decode cL_refusesAny 471 = .ok (.if_icmp .ne 45, 3) := by decide +kernel
theorem dL_refusesAny_474 : decode cL_refusesAny 474 = .ok (.aload_n 0, 1) := by decide +kernel
theorem dL_refusesAny_475 : decode cL_refusesAny 475 = .ok (.iconst 5, 1) := by decide +kernel
theorem dL_refusesAny_476 : decode cL_refusesAny 476 = .ok (.iload_n 3, 1) := by decide +kernel
theorem dL_refusesAny_477 : decode cL_refusesAny 477 = .ok (.iconst 0, 1) := by decide +kernel
theorem dL_refusesAny_478 : decode cL_refusesAny 478 = .ok (.invokestatic 88, 3) := by decide +kernel
theorem dL_refusesAny_481 : decode cL_refusesAny 481 = .ok (.bipush (-11), 2) := by decide +kernel
theorem dL_refusesAny_483 : decode cL_refusesAny 483 = .ok (.if_icmp .ne 33, 3) := by decide +kernel
theorem dL_refusesAny_486 : decode cL_refusesAny 486 = .ok (.aload_n 0, 1) := by decide +kernel
theorem dL_refusesAny_487 : decode cL_refusesAny 487 = .ok (.bipush 6, 2) := by decide +kernel
theorem dL_refusesAny_489 : decode cL_refusesAny 489 = .ok (.iload_n 2, 1) := by decide +kernel
theorem dL_refusesAny_490 : decode cL_refusesAny 490 = .ok (.iconst 0, 1) := by decide +kernel
theorem dL_refusesAny_491 : decode cL_refusesAny 491 = .ok (.invokestatic 88, 3) := by decide +kernel
theorem dL_refusesAny_494 : decode cL_refusesAny 494 = .ok (.bipush (-10), 2) := by decide +kernel
theorem dL_refusesAny_496 : decode cL_refusesAny 496 = .ok (.if_icmp .ne 20, 3) := by decide +kernel
theorem dL_refusesAny_499 : decode cL_refusesAny 499 = .ok (.aload_n 0, 1) := by decide +kernel
theorem dL_refusesAny_500 : decode cL_refusesAny 500 = .ok (.bipush 7, 2) := by decide +kernel
theorem dL_refusesAny_502 : decode cL_refusesAny 502 = .ok (.iload_n 2, 1) := by decide +kernel
theorem dL_refusesAny_503 : decode cL_refusesAny 503 = .ok (.iconst 0, 1) := by decide +kernel
theorem dL_refusesAny_504 : decode cL_refusesAny 504 = .ok (.invokestatic 88, 3) := by decide +kernel
theorem dL_refusesAny_507 : decode cL_refusesAny 507 = .ok (.bipush (-10), 2) := by decide +kernel
theorem dL_refusesAny_509 : decode cL_refusesAny 509 = .ok (.if_icmp .ne 7, 3) := by decide +kernel
theorem dL_refusesAny_512 : decode cL_refusesAny 512 = .ok (.iconst 1, 1) := by decide +kernel
theorem dL_refusesAny_513 : decode cL_refusesAny 513 = .ok (.goto 4, 3) := by decide +kernel
theorem dL_refusesAny_516 : decode cL_refusesAny 516 = .ok (.iconst 0, 1) := by decide +kernel
theorem dL_refusesAny_517 : decode cL_refusesAny 517 = .ok (.ireturn, 1) := by decide +kernel
theorem dL_refuses_0 : decode cL_refuses 0 = .ok (.aload_n 0, 1) := by decide +kernel
theorem dL_refuses_1 : decode cL_refuses 1 = .ok (.invokestatic 91, 3) := by decide +kernel
theorem dL_refuses_4 : decode cL_refuses 4 = .ok (.lstore_n 2, 1) := by decide +kernel
theorem dL_refuses_5 : decode cL_refuses 5 = .ok (.aload_n 0, 1) := by decide +kernel
theorem dL_refuses_6 : decode cL_refuses 6 = .ok (.invokevirtual 95, 3) := by decide +kernel
theorem dL_refuses_9 : decode cL_refuses 9 = .ok (.lstore 4, 2) := by decide +kernel
theorem dL_refuses_11 : decode cL_refuses 11 = .ok (.aload_n 0, 1) := by decide +kernel
theorem dL_refuses_12 : decode cL_refuses 12 = .ok (.bipush 10, 2) := by decide +kernel
theorem dL_refuses_14 : decode cL_refuses 14 = .ok (.invokevirtual 56, 3) := by decide +kernel
theorem dL_refuses_17 : decode cL_refuses 17 = .ok (.istore 6, 2) := by decide +kernel
theorem dL_refuses_19 : decode cL_refuses 19 = .ok (.aload_n 0, 1) := by decide +kernel
theorem dL_refuses_20 : decode cL_refuses 20 = .ok (.iload_n 1, 1) := by decide +kernel
theorem dL_refuses_21 : decode cL_refuses 21 = .ok (.invokestatic 99, 3) := by decide +kernel
theorem dL_refuses_24 : decode cL_refuses 24 = .ok (.ifCond .eq 37, 3) := by decide +kernel
theorem dL_refuses_27 : decode cL_refuses 27 = .ok (.aload_n 0, 1) := by decide +kernel
theorem dL_refuses_28 : decode cL_refuses 28 = .ok (.invokestatic 91, 3) := by decide +kernel
theorem dL_refuses_31 : decode cL_refuses 31 = .ok (.lload_n 2, 1) := by decide +kernel
theorem dL_refuses_32 : decode cL_refuses 32 = .ok (.lcmp, 1) := by decide +kernel
theorem dL_refuses_33 : decode cL_refuses 33 = .ok (.ifCond .ne 28, 3) := by decide +kernel
theorem dL_refuses_36 : decode cL_refuses 36 = .ok (.aload_n 0, 1) := by decide +kernel
theorem dL_refuses_37 : decode cL_refuses 37 = .ok (.bipush 10, 2) := by decide +kernel
theorem dL_refuses_39 : decode cL_refuses 39 = .ok (.invokevirtual 56, 3) := by decide +kernel
theorem dL_refuses_42 : decode cL_refuses 42 = .ok (.iload 6, 2) := by decide +kernel
theorem dL_refuses_44 : decode cL_refuses 44 = .ok (.if_icmp .ne 17, 3) := by decide +kernel
theorem dL_refuses_47 : decode cL_refuses 47 = .ok (.aload_n 0, 1) := by decide +kernel
theorem dL_refuses_48 : decode cL_refuses 48 = .ok (.invokevirtual 95, 3) := by decide +kernel
theorem dL_refuses_51 : decode cL_refuses 51 = .ok (.lload 4, 2) := by decide +kernel
theorem dL_refuses_53 : decode cL_refuses 53 = .ok (.lcmp, 1) := by decide +kernel
theorem dL_refuses_54 : decode cL_refuses 54 = .ok (.ifCond .ne 7, 3) := by decide +kernel
theorem dL_refuses_57 : decode cL_refuses 57 = .ok (.iconst 1, 1) := by decide +kernel
theorem dL_refuses_58 : decode cL_refuses 58 = .ok (.goto 4, 3) := by decide +kernel
theorem dL_refuses_61 : decode cL_refuses 61 = .ok (.iconst 0, 1) := by decide +kernel
theorem dL_refuses_62 : decode cL_refuses 62 = .ok (.ireturn, 1) := by decide +kernel
theorem dL_sends_0 : decode cL_sends 0 = .ok (.aload_n 0, 1) := by decide +kernel
theorem dL_sends_1 : decode cL_sends 1 = .ok (.iconst 0, 1) := by decide +kernel
theorem dL_sends_2 : decode cL_sends 2 = .ok (.invokevirtual 56, 3) := by decide +kernel
theorem dL_sends_5 : decode cL_sends 5 = .ok (.istore_n 3, 1) := by decide +kernel
theorem dL_sends_6 : decode cL_sends 6 = .ok (.aload_n 0, 1) := by decide +kernel
theorem dL_sends_7 : decode cL_sends 7 = .ok (.iconst 2, 1) := by decide +kernel
theorem dL_sends_8 : decode cL_sends 8 = .ok (.invokevirtual 56, 3) := by decide +kernel
theorem dL_sends_11 : decode cL_sends 11 = .ok (.istore 4, 2) := by decide +kernel
theorem dL_sends_13 : decode cL_sends 13 = .ok (.aload_n 0, 1) := by decide +kernel
theorem dL_sends_14 : decode cL_sends 14 = .ok (.bipush 9, 2) := by decide +kernel
theorem dL_sends_16 : decode cL_sends 16 = .ok (.invokevirtual 56, 3) := by decide +kernel
theorem dL_sends_19 : decode cL_sends 19 = .ok (.istore 5, 2) := by decide +kernel
theorem dL_sends_21 : decode cL_sends 21 = .ok (.iload_n 2, 1) := by decide +kernel
theorem dL_sends_22 : decode cL_sends 22 = .ok (.ifCond .eq 8, 3) := by decide +kernel
theorem dL_sends_25 : decode cL_sends 25 = .ok (.bipush 12, 2) := by decide +kernel
theorem dL_sends_27 : decode cL_sends 27 = .ok (.goto 4, 3) := by decide +kernel
theorem dL_sends_30 : decode cL_sends 30 = .ok (.iconst 1, 1) := by decide +kernel
theorem dL_sends_31 : decode cL_sends 31 = .ok (.istore 6, 2) := by decide +kernel
theorem dL_sends_33 : decode cL_sends 33 = .ok (.iload_n 2, 1) := by decide +kernel
theorem dL_sends_34 : decode cL_sends 34 = .ok (.ifCond .eq 15, 3) := by decide +kernel
theorem dL_sends_37 : decode cL_sends 37 = .ok (.aload_n 0, 1) := by decide +kernel
theorem dL_sends_38 : decode cL_sends 38 = .ok (.iload_n 1, 1) := by decide +kernel
theorem dL_sends_39 : decode cL_sends 39 = .ok (.sipush 4096, 3) := by decide +kernel
theorem dL_sends_42 : decode cL_sends 42 = .ok (.irem, 1) := by decide +kernel
theorem dL_sends_43 : decode cL_sends 43 = .ok (.invokevirtual 25, 3) := by decide +kernel
theorem dL_sends_46 : decode cL_sends 46 = .ok (.goto 13, 3) := by decide +kernel
theorem dL_sends_49 : decode cL_sends 49 = .ok (.aload_n 0, 1) := by decide +kernel
theorem dL_sends_50 : decode cL_sends 50 = .ok (.iconst 1, 1) := by decide +kernel
theorem dL_sends_51 : decode cL_sends 51 = .ok (.iload_n 1, 1) := by decide +kernel
theorem dL_sends_52 : decode cL_sends 52 = .ok (.bipush 20, 2) := by decide +kernel
theorem dL_sends_54 : decode cL_sends 54 = .ok (.irem, 1) := by decide +kernel
theorem dL_sends_55 : decode cL_sends 55 = .ok (.iadd, 1) := by decide +kernel
theorem dL_sends_56 : decode cL_sends 56 = .ok (.invokevirtual 21, 3) := by decide +kernel
theorem dL_sends_59 : decode cL_sends 59 = .ok (.istore 7, 2) := by decide +kernel
theorem dL_sends_61 : decode cL_sends 61 = .ok (.iload_n 3, 1) := by decide +kernel
theorem dL_sends_62 : decode cL_sends 62 = .ok (.iload 6, 2) := by decide +kernel
theorem dL_sends_64 : decode cL_sends 64 = .ok (.iadd, 1) := by decide +kernel
theorem dL_sends_65 : decode cL_sends 65 = .ok (.bipush 120, 2) := by decide +kernel
theorem dL_sends_67 : decode cL_sends 67 = .ok (.if_icmp .le 48, 3) := by decide +kernel
theorem dL_sends_70 : decode cL_sends 70 = .ok (.iload 7, 2) := by decide +kernel
theorem dL_sends_72 : decode cL_sends 72 = .ok (.iconst (-1), 1) := by decide +kernel
theorem dL_sends_73 : decode cL_sends 73 = .ok (.if_icmp .ne 39, 3) := by decide +kernel
theorem dL_sends_76 : decode cL_sends 76 = .ok (.aload_n 0, 1) := by decide +kernel
theorem dL_sends_77 : decode cL_sends 77 = .ok (.iconst 0, 1) := by decide +kernel
theorem dL_sends_78 : decode cL_sends 78 = .ok (.invokevirtual 56, 3) := by decide +kernel
theorem dL_sends_81 : decode cL_sends 81 = .ok (.iload_n 3, 1) := by decide +kernel
theorem dL_sends_82 : decode cL_sends 82 = .ok (.if_icmp .ne 30, 3) := by decide +kernel
theorem dL_sends_85 : decode cL_sends 85 = .ok (.aload_n 0, 1) := by decide +kernel
theorem dL_sends_86 : decode cL_sends 86 = .ok (.iconst 2, 1) := by decide +kernel
theorem dL_sends_87 : decode cL_sends 87 = .ok (.invokevirtual 56, 3) := by decide +kernel
theorem dL_sends_90 : decode cL_sends 90 = .ok (.iload 4, 2) := by decide +kernel
theorem dL_sends_92 : decode cL_sends 92 = .ok (.if_icmp .ne 20, 3) := by decide +kernel
theorem dL_sends_95 : decode cL_sends 95 = .ok (.aload_n 0, 1) := by decide +kernel
theorem dL_sends_96 : decode cL_sends 96 = .ok (.bipush 9, 2) := by decide +kernel
theorem dL_sends_98 : decode cL_sends 98 = .ok (.invokevirtual 56, 3) := by decide +kernel
theorem dL_sends_101 : decode cL_sends 101 = .ok (.iload 5, 2) := by decide +kernel
theorem dL_sends_103 : decode cL_sends 103 = .ok (.iconst 1, 1) := by decide +kernel
theorem dL_sends_104 : decode cL_sends 104 = .ok (.iadd, 1) := by decide +kernel
theorem dL_sends_105 : decode cL_sends 105 = .ok (.if_icmp .ne 7, 3) := by decide +kernel
theorem dL_sends_108 : decode cL_sends 108 = .ok (.iconst 1, 1) := by decide +kernel
theorem dL_sends_109 : decode cL_sends 109 = .ok (.goto 5, 3) := by decide +kernel
theorem dL_sends_112 : decode cL_sends 112 = .ok (.bipush (-9), 2) := by decide +kernel
theorem dL_sends_114 : decode cL_sends 114 = .ok (.ireturn, 1) := by decide +kernel
theorem dL_sends_115 : decode cL_sends 115 = .ok (.iload_n 2, 1) := by decide +kernel
theorem dL_sends_116 : decode cL_sends 116 = .ok (.ifCond .eq 19, 3) := by decide +kernel
theorem dL_sends_119 : decode cL_sends 119 = .ok (.iload_n 1, 1) := by decide +kernel
theorem dL_sends_120 : decode cL_sends 120 = .ok (.iconst 2, 1) := by decide +kernel
theorem dL_sends_121 : decode cL_sends 121 = .ok (.irem, 1) := by decide +kernel
theorem dL_sends_122 : decode cL_sends 122 = .ok (.iconst 1, 1) := by decide +kernel
theorem dL_sends_123 : decode cL_sends 123 = .ok (.if_icmp .ne 8, 3) := by decide +kernel
theorem dL_sends_126 : decode cL_sends 126 = .ok (.bipush 8, 2) := by decide +kernel
theorem dL_sends_128 : decode cL_sends 128 = .ok (.goto 13, 3) := by decide +kernel
theorem dL_sends_131 : decode cL_sends 131 = .ok (.iconst 4, 1) := by decide +kernel
theorem dL_sends_132 : decode cL_sends 132 = .ok (.goto 9, 3) := by decide +kernel
theorem dL_sends_135 : decode cL_sends 135 = .ok (.iconst 1, 1) := by decide +kernel
theorem dL_sends_136 : decode cL_sends 136 = .ok (.iload_n 1, 1) := by decide +kernel
theorem dL_sends_137 : decode cL_sends 137 = .ok (.bipush 20, 2) := by decide +kernel
theorem dL_sends_139 : decode cL_sends 139 = .ok (.irem, 1) := by decide +kernel
theorem dL_sends_140 : decode cL_sends 140 = .ok (.iadd, 1) := by decide +kernel
theorem dL_sends_141 : decode cL_sends 141 = .ok (.istore 8, 2) := by decide +kernel
theorem dL_sends_143 : decode cL_sends 143 = .ok (.iload 7, 2) := by decide +kernel
theorem dL_sends_145 : decode cL_sends 145 = .ok (.iload_n 3, 1) := by decide +kernel
theorem dL_sends_146 : decode cL_sends 146 = .ok (.iload 6, 2) := by decide +kernel
theorem dL_sends_148 : decode cL_sends 148 = .ok (.iadd, 1) := by decide +kernel
theorem dL_sends_149 : decode cL_sends 149 = .ok (.if_icmp .ne 54, 3) := by decide +kernel
theorem dL_sends_152 : decode cL_sends 152 = .ok (.aload_n 0, 1) := by decide +kernel
theorem dL_sends_153 : decode cL_sends 153 = .ok (.iconst 0, 1) := by decide +kernel
theorem dL_sends_154 : decode cL_sends 154 = .ok (.invokevirtual 56, 3) := by decide +kernel
theorem dL_sends_157 : decode cL_sends 157 = .ok (.iload 7, 2) := by decide +kernel
theorem dL_sends_159 : decode cL_sends 159 = .ok (.if_icmp .ne 44, 3) := by decide +kernel
theorem dL_sends_162 : decode cL_sends 162 = .ok (.aload_n 0, 1) := by decide +kernel
theorem dL_sends_163 : decode cL_sends 163 = .ok (.iconst 2, 1) := by decide +kernel
theorem dL_sends_164 : decode cL_sends 164 = .ok (.invokevirtual 56, 3) := by decide +kernel
theorem dL_sends_167 : decode cL_sends 167 = .ok (.iload 4, 2) := by decide +kernel
theorem dL_sends_169 : decode cL_sends 169 = .ok (.iload 6, 2) := by decide +kernel
theorem dL_sends_171 : decode cL_sends 171 = .ok (.iadd, 1) := by decide +kernel
theorem dL_sends_172 : decode cL_sends 172 = .ok (.if_icmp .ne 31, 3) := by decide +kernel
theorem dL_sends_175 : decode cL_sends 175 = .ok (.aload_n 0, 1) := by decide +kernel
theorem dL_sends_176 : decode cL_sends 176 = .ok (.bipush 9, 2) := by decide +kernel
theorem dL_sends_178 : decode cL_sends 178 = .ok (.invokevirtual 56, 3) := by decide +kernel
theorem dL_sends_181 : decode cL_sends 181 = .ok (.iload 5, 2) := by decide +kernel
theorem dL_sends_183 : decode cL_sends 183 = .ok (.if_icmp .ne 20, 3) := by decide +kernel
theorem dL_sends_186 : decode cL_sends 186 = .ok (.aload_n 0, 1) := by decide +kernel
theorem dL_sends_187 : decode cL_sends 187 = .ok (.iload 7, 2) := by decide +kernel
theorem dL_sends_189 : decode cL_sends 189 = .ok (.iconst 1, 1) := by decide +kernel
theorem dL_sends_190 : decode cL_sends 190 = .ok (.isub, 1) := by decide +kernel
theorem dL_sends_191 : decode cL_sends 191 = .ok (.invokevirtual 53, 3) := by decide +kernel
theorem dL_sends_194 : decode cL_sends 194 = .ok (.iload 8, 2) := by decide +kernel
theorem dL_sends_196 : decode cL_sends 196 = .ok (.if_icmp .ne 7, 3) := by decide +kernel
theorem dL_sends_199 : decode cL_sends 199 = .ok (.iconst 1, 1) := by decide +kernel
theorem dL_sends_200 : decode cL_sends 200 = .ok (.goto 5, 3) := by decide +kernel
theorem dL_sends_203 : decode cL_sends 203 = .ok (.bipush (-9), 2) := by decide +kernel
theorem dL_sends_205 : decode cL_sends 205 = .ok (.ireturn, 1) := by decide +kernel
theorem dL_gap_0 : decode cL_gap 0 = .ok (.aload_n 0, 1) := by decide +kernel
theorem dL_gap_1 : decode cL_gap 1 = .ok (.iconst 0, 1) := by decide +kernel
theorem dL_gap_2 : decode cL_gap 2 = .ok (.invokevirtual 56, 3) := by decide +kernel
theorem dL_gap_5 : decode cL_gap 5 = .ok (.istore_n 1, 1) := by decide +kernel
theorem dL_gap_6 : decode cL_gap 6 = .ok (.aload_n 0, 1) := by decide +kernel
theorem dL_gap_7 : decode cL_gap 7 = .ok (.iconst 3, 1) := by decide +kernel
theorem dL_gap_8 : decode cL_gap 8 = .ok (.invokevirtual 56, 3) := by decide +kernel
theorem dL_gap_11 : decode cL_gap 11 = .ok (.istore_n 2, 1) := by decide +kernel
theorem dL_gap_12 : decode cL_gap 12 = .ok (.aload_n 0, 1) := by decide +kernel
theorem dL_gap_13 : decode cL_gap 13 = .ok (.iconst 4, 1) := by decide +kernel
theorem dL_gap_14 : decode cL_gap 14 = .ok (.invokevirtual 56, 3) := by decide +kernel
theorem dL_gap_17 : decode cL_gap 17 = .ok (.istore_n 3, 1) := by decide +kernel
theorem dL_gap_18 : decode cL_gap 18 = .ok (.aload_n 0, 1) := by decide +kernel
theorem dL_gap_19 : decode cL_gap 19 = .ok (.iconst 1, 1) := by decide +kernel
theorem dL_gap_20 : decode cL_gap 20 = .ok (.invokevirtual 56, 3) := by decide +kernel
theorem dL_gap_23 : decode cL_gap 23 = .ok (.istore 4, 2) := by decide +kernel
theorem dL_gap_25 : decode cL_gap 25 = .ok (.aload_n 0, 1) := by decide +kernel
theorem dL_gap_26 : decode cL_gap 26 = .ok (.invokevirtual 103, 3) := by decide +kernel
theorem dL_gap_29 : decode cL_gap 29 = .ok (.istore 5, 2) := by decide +kernel
theorem dL_gap_31 : decode cL_gap 31 = .ok (.aload_n 0, 1) := by decide +kernel
theorem dL_gap_32 : decode cL_gap 32 = .ok (.iconst 3, 1) := by decide +kernel
theorem dL_gap_33 : decode cL_gap 33 = .ok (.invokevirtual 56, 3) := by decide +kernel
theorem dL_gap_36 : decode cL_gap 36 = .ok (.iload_n 2, 1) := by decide +kernel
theorem dL_gap_37 : decode cL_gap 37 = .ok (.isub, 1) := by decide +kernel
theorem dL_gap_38 : decode cL_gap 38 = .ok (.istore 6, 2) := by decide +kernel
theorem dL_gap_40 : decode cL_gap 40 = .ok (.iload 5, 2) := by decide +kernel
theorem dL_gap_42 : decode cL_gap 42 = .ok (.ifCond .lt 83, 3) := by decide +kernel
theorem dL_gap_45 : decode cL_gap 45 = .ok (.iload 5, 2) := by decide +kernel
theorem dL_gap_47 : decode cL_gap 47 = .ok (.bipush 9, 2) := by decide +kernel
theorem dL_gap_49 : decode cL_gap 49 = .ok (.if_icmp .ge 76, 3) := by decide +kernel
theorem dL_gap_52 : decode cL_gap 52 = .ok (.bipush 12, 2) := by decide +kernel
theorem dL_gap_54 : decode cL_gap 54 = .ok (.iload 5, 2) := by decide +kernel
theorem dL_gap_56 : decode cL_gap 56 = .ok (.imul, 1) := by decide +kernel
theorem dL_gap_57 : decode cL_gap 57 = .ok (.iload 6, 2) := by decide +kernel
theorem dL_gap_59 : decode cL_gap 59 = .ok (.if_icmp .gt 66, 3) := by decide +kernel
theorem dL_gap_62 : decode cL_gap 62 = .ok (.iload 6, 2) := by decide +kernel
theorem dL_gap_64 : decode cL_gap 64 = .ok (.iload_n 1, 1) := by decide +kernel
theorem dL_gap_65 : decode cL_gap 65 = .ok (.if_icmp .gt 60, 3) := by decide +kernel
theorem dL_gap_68 : decode cL_gap 68 = .ok (.iload 6, 2) := by decide +kernel
theorem dL_gap_70 : decode cL_gap 70 = .ok (.bipush 12, 2) := by decide +kernel
theorem dL_gap_72 : decode cL_gap 72 = .ok (.irem, 1) := by decide +kernel
theorem dL_gap_73 : decode cL_gap 73 = .ok (.ifCond .ne 52, 3) := by decide +kernel
theorem dL_gap_76 : decode cL_gap 76 = .ok (.aload_n 0, 1) := by decide +kernel
theorem dL_gap_77 : decode cL_gap 77 = .ok (.iconst 4, 1) := by decide +kernel
theorem dL_gap_78 : decode cL_gap 78 = .ok (.invokevirtual 56, 3) := by decide +kernel
theorem dL_gap_81 : decode cL_gap 81 = .ok (.iload_n 3, 1) := by decide +kernel
theorem dL_gap_82 : decode cL_gap 82 = .ok (.iload_n 1, 1) := by decide +kernel
theorem dL_gap_83 : decode cL_gap 83 = .ok (.iadd, 1) := by decide +kernel
theorem dL_gap_84 : decode cL_gap 84 = .ok (.iload 6, 2) := by decide +kernel
theorem dL_gap_86 : decode cL_gap 86 = .ok (.isub, 1) := by decide +kernel
theorem dL_gap_87 : decode cL_gap 87 = .ok (.if_icmp .ne 38, 3) := by decide +kernel
theorem dL_gap_90 : decode cL_gap 90 = .ok (.aload_n 0, 1) := by decide +kernel
theorem dL_gap_91 : decode cL_gap 91 = .ok (.iconst 1, 1) := by decide +kernel
theorem dL_gap_92 : decode cL_gap 92 = .ok (.invokevirtual 56, 3) := by decide +kernel
theorem dL_gap_95 : decode cL_gap 95 = .ok (.iload 4, 2) := by decide +kernel
theorem dL_gap_97 : decode cL_gap 97 = .ok (.iconst 1, 1) := by decide +kernel
theorem dL_gap_98 : decode cL_gap 98 = .ok (.iadd, 1) := by decide +kernel
theorem dL_gap_99 : decode cL_gap 99 = .ok (.if_icmp .ne 26, 3) := by decide +kernel
theorem dL_gap_102 : decode cL_gap 102 = .ok (.aload_n 0, 1) := by decide +kernel
theorem dL_gap_103 : decode cL_gap 103 = .ok (.iconst 0, 1) := by decide +kernel
theorem dL_gap_104 : decode cL_gap 104 = .ok (.invokevirtual 56, 3) := by decide +kernel
theorem dL_gap_107 : decode cL_gap 107 = .ok (.ifCond .ne 18, 3) := by decide +kernel
theorem dL_gap_110 : decode cL_gap 110 = .ok (.aload_n 0, 1) := by decide +kernel
theorem dL_gap_111 : decode cL_gap 111 = .ok (.iconst 0, 1) := by decide +kernel
theorem dL_gap_112 : decode cL_gap 112 = .ok (.bipush 7, 2) := by decide +kernel
theorem dL_gap_114 : decode cL_gap 114 = .ok (.invokevirtual 50, 3) := by decide +kernel
theorem dL_gap_117 : decode cL_gap 117 = .ok (.iload_n 1, 1) := by decide +kernel
theorem dL_gap_118 : decode cL_gap 118 = .ok (.if_icmp .ne 7, 3) := by decide +kernel
theorem dL_gap_121 : decode cL_gap 121 = .ok (.iconst 1, 1) := by decide +kernel
theorem dL_gap_122 : decode cL_gap 122 = .ok (.goto 5, 3) := by decide +kernel
theorem dL_gap_125 : decode cL_gap 125 = .ok (.bipush (-9), 2) := by decide +kernel
theorem dL_gap_127 : decode cL_gap 127 = .ok (.ireturn, 1) := by decide +kernel
theorem dL_act_0 : decode cL_act 0 = .ok (.iload_n 1, 1) := by decide +kernel
theorem dL_act_1 : decode cL_act 1 = .ok (.bipush 16, 2) := by decide +kernel
theorem dL_act_3 : decode cL_act 3 = .ok (.irem, 1) := by decide +kernel
theorem dL_act_4 : decode cL_act 4 = .ok (.istore_n 2, 1) := by decide +kernel
theorem dL_act_5 : decode cL_act 5 = .ok (.iload_n 1, 1) := by decide +kernel
theorem dL_act_6 : decode cL_act 6 = .ok (.bipush 16, 2) := by decide +kernel
theorem dL_act_8 : decode cL_act 8 = .ok (.idiv, 1) := by decide +kernel
theorem dL_act_9 : decode cL_act 9 = .ok (.istore_n 3, 1) := by decide +kernel
theorem dL_act_10 : decode cL_act 10 = .ok (.iload_n 3, 1) := by decide +kernel
theorem dL_act_11 : decode cL_act 11 = .ok (.bipush 8, 2) := by decide +kernel
theorem dL_act_13 : decode cL_act 13 = .ok (.irem, 1) := by decide +kernel
theorem dL_act_14 : decode cL_act 14 = .ok (.istore 4, 2) := by decide +kernel
theorem dL_act_16 : decode cL_act 16 = .ok (.iload_n 2, 1) := by decide +kernel
theorem dL_act_17 : decode cL_act 17 = .ok (.bipush 8, 2) := by decide +kernel
theorem dL_act_19 : decode cL_act 19 = .ok (.if_icmp .ge 20, 3) := by decide +kernel
theorem dL_act_22 : decode cL_act 22 = .ok (.aload_n 0, 1) := by decide +kernel
theorem dL_act_23 : decode cL_act 23 = .ok (.iload_n 3, 1) := by decide +kernel
theorem dL_act_24 : decode cL_act 24 = .ok (.iload_n 2, 1) := by decide +kernel
theorem dL_act_25 : decode cL_act 25 = .ok (.bipush 6, 2) := by decide +kernel
theorem dL_act_27 : decode cL_act 27 = .ok (.if_icmp .ge 7, 3) := by decide +kernel
theorem dL_act_30 : decode cL_act 30 = .ok (.iconst 1, 1) := by decide +kernel
theorem dL_act_31 : decode cL_act 31 = .ok (.goto 4, 3) := by decide +kernel
theorem dL_act_34 : decode cL_act 34 = .ok (.iconst 0, 1) := by decide +kernel
theorem dL_act_35 : decode cL_act 35 = .ok (.invokestatic 106, 3) := by decide +kernel
theorem dL_act_38 : decode cL_act 38 = .ok (.ireturn, 1) := by decide +kernel
theorem dL_act_39 : decode cL_act 39 = .ok (.iload_n 2, 1) := by decide +kernel
theorem dL_act_40 : decode cL_act 40 = .ok (.bipush 10, 2) := by decide +kernel
theorem dL_act_42 : decode cL_act 42 = .ok (.if_icmp .ge 8, 3) := by decide +kernel
theorem dL_act_45 : decode cL_act 45 = .ok (.aload_n 0, 1) := by decide +kernel
theorem dL_act_46 : decode cL_act 46 = .ok (.invokestatic 110, 3) := by decide +kernel
theorem dL_act_49 : decode cL_act 49 = .ok (.ireturn, 1) := by decide +kernel
theorem dL_act_50 : decode cL_act 50 = .ok (.iload_n 2, 1) := by decide +kernel
theorem dL_act_51 : decode cL_act 51 = .ok (.bipush 10, 2) := by decide +kernel
theorem dL_act_53 : decode cL_act 53 = .ok (.if_icmp .ne 58, 3) := by decide +kernel
theorem dL_act_56 : decode cL_act 56 = .ok (.aload_n 0, 1) := by decide +kernel
theorem dL_act_57 : decode cL_act 57 = .ok (.iconst 0, 1) := by decide +kernel
theorem dL_act_58 : decode cL_act 58 = .ok (.invokevirtual 56, 3) := by decide +kernel
theorem dL_act_61 : decode cL_act 61 = .ok (.istore 5, 2) := by decide +kernel
theorem dL_act_63 : decode cL_act 63 = .ok (.aload_n 0, 1) := by decide +kernel
theorem dL_act_64 : decode cL_act 64 = .ok (.iconst 5, 1) := by decide +kernel
theorem dL_act_65 : decode cL_act 65 = .ok (.invokevirtual 56, 3) := by decide +kernel
theorem dL_act_68 : decode cL_act 68 = .ok (.istore 6, 2) := by decide +kernel
theorem dL_act_70 : decode cL_act 70 = .ok (.aload_n 0, 1) := by decide +kernel
theorem dL_act_71 : decode cL_act 71 = .ok (.invokevirtual 113, 3) := by decide +kernel
theorem dL_act_74 : decode cL_act 74 = .ok (.istore 7, 2) := by decide +kernel
theorem dL_act_76 : decode cL_act 76 = .ok (.iload 7, 2) := by decide +kernel
theorem dL_act_78 : decode cL_act 78 = .ok (.iload 5, 2) := by decide +kernel
theorem dL_act_80 : decode cL_act 80 = .ok (.if_icmp .ne 28, 3) := by decide +kernel
theorem dL_act_83 : decode cL_act 83 = .ok (.aload_n 0, 1) := by decide +kernel
theorem dL_act_84 : decode cL_act 84 = .ok (.iconst 0, 1) := by decide +kernel
theorem dL_act_85 : decode cL_act 85 = .ok (.invokevirtual 56, 3) := by decide +kernel
theorem dL_act_88 : decode cL_act 88 = .ok (.ifCond .ne 20, 3) := by decide +kernel
theorem dL_act_91 : decode cL_act 91 = .ok (.aload_n 0, 1) := by decide +kernel
theorem dL_act_92 : decode cL_act 92 = .ok (.iconst 5, 1) := by decide +kernel
theorem dL_act_93 : decode cL_act 93 = .ok (.invokevirtual 56, 3) := by decide +kernel
theorem dL_act_96 : decode cL_act 96 = .ok (.iload 6, 2) := by decide +kernel
theorem dL_act_98 : decode cL_act 98 = .ok (.iload 5, 2) := by decide +kernel
theorem dL_act_100 : decode cL_act 100 = .ok (.iadd, 1) := by decide +kernel
theorem dL_act_101 : decode cL_act 101 = .ok (.if_icmp .ne 7, 3) := by decide +kernel
theorem dL_act_104 : decode cL_act 104 = .ok (.iconst 1, 1) := by decide +kernel
theorem dL_act_105 : decode cL_act 105 = .ok (.goto 5, 3) := by decide +kernel
theorem dL_act_108 : decode cL_act 108 = .ok (.bipush (-9), 2) := by decide +kernel
theorem dL_act_110 : decode cL_act 110 = .ok (.ireturn, 1) := by decide +kernel
theorem dL_act_111 : decode cL_act 111 = .ok (.iload_n 2, 1) := by decide +kernel
theorem dL_act_112 : decode cL_act 112 = .ok (.bipush 13, 2) := by decide +kernel
theorem dL_act_114 : decode cL_act 114 = .ok (.if_icmp .ge 87, 3) := by decide +kernel
theorem dL_act_117 : decode cL_act 117 = .ok (.aload_n 0, 1) := by decide +kernel
theorem dL_act_118 : decode cL_act 118 = .ok (.iload 4, 2) := by decide +kernel
theorem dL_act_120 : decode cL_act 120 = .ok (.iconst 0, 1) := by decide +kernel
theorem dL_act_121 : decode cL_act 121 = .ok (.invokevirtual 50, 3) := by decide +kernel
theorem dL_act_124 : decode cL_act 124 = .ok (.istore 5, 2) := by decide +kernel
theorem dL_act_126 : decode cL_act 126 = .ok (.aload_n 0, 1) := by decide +kernel
theorem dL_act_127 : decode cL_act 127 = .ok (.iload 4, 2) := by decide +kernel
theorem dL_act_129 : decode cL_act 129 = .ok (.iconst 3, 1) := by decide +kernel
theorem dL_act_130 : decode cL_act 130 = .ok (.invokevirtual 50, 3) := by decide +kernel
theorem dL_act_133 : decode cL_act 133 = .ok (.istore 6, 2) := by decide +kernel
theorem dL_act_135 : decode cL_act 135 = .ok (.iload_n 3, 1) := by decide +kernel
theorem dL_act_136 : decode cL_act 136 = .ok (.bipush 8, 2) := by decide +kernel
theorem dL_act_138 : decode cL_act 138 = .ok (.idiv, 1) := by decide +kernel
theorem dL_act_139 : decode cL_act 139 = .ok (.iconst 3, 1) := by decide +kernel
theorem dL_act_140 : decode cL_act 140 = .ok (.irem, 1) := by decide +kernel
theorem dL_act_141 : decode cL_act 141 = .ok (.ifCond .ne 12, 3) := by decide +kernel
theorem dL_act_144 : decode cL_act 144 = .ok (.iload_n 3, 1) := by decide +kernel
theorem dL_act_145 : decode cL_act 145 = .ok (.bipush 24, 2) := by decide +kernel
theorem dL_act_147 : decode cL_act 147 = .ok (.idiv, 1) := by decide +kernel
theorem dL_act_148 : decode cL_act 148 = .ok (.iconst 4, 1) := by decide +kernel
theorem dL_act_149 : decode cL_act 149 = .ok (.irem, 1) := by decide +kernel
theorem dL_act_150 : decode cL_act 150 = .ok (.goto 4, 3) := by decide +kernel
theorem dL_act_153 : decode cL_act 153 = .ok (.iconst 0, 1) := by decide +kernel
theorem dL_act_154 : decode cL_act 154 = .ok (.istore 7, 2) := by decide +kernel
theorem dL_act_156 : decode cL_act 156 = .ok (.aload_n 0, 1) := by decide +kernel
theorem dL_act_157 : decode cL_act 157 = .ok (.iconst 0, 1) := by decide +kernel
theorem dL_act_158 : decode cL_act 158 = .ok (.iload 4, 2) := by decide +kernel
theorem dL_act_160 : decode cL_act 160 = .ok (.iload 7, 2) := by decide +kernel
theorem dL_act_162 : decode cL_act 162 = .ok (.invokestatic 84, 3) := by decide +kernel
