theorem dL_act_426 : decode cL_act 426 = .ok (.iload 8, 2) := by decide +kernel
theorem dL_act_428 : decode cL_act 428 = .ok (.goto 5, 3) := by decide +kernel
theorem dL_act_431 : decode cL_act 431 = .ok (.bipush (-9), 2) := by decide +kernel
theorem dL_act_433 : decode cL_act 433 = .ok (.ireturn, 1) := by decide +kernel
theorem dL_act_434 : decode cL_act 434 = .ok (.iload_n 3, 1) := by decide +kernel
theorem dL_act_435 : decode cL_act 435 = .ok (.iconst 2, 1) := by decide +kernel
theorem dL_act_436 : decode cL_act 436 = .ok (.irem, 1) := by decide +kernel
theorem dL_act_437 : decode cL_act 437 = .ok (.istore 4, 2) := by decide +kernel
theorem dL_act_439 : decode cL_act 439 = .ok (.iload 4, 2) := by decide +kernel
theorem dL_act_441 : decode cL_act 441 = .ok (.ifCond .ne 16, 3) := by decide +kernel
theorem dL_act_444 : decode cL_act 444 = .ok (.bipush 100, 2) := by decide +kernel
theorem dL_act_446 : decode cL_act 446 = .ok (.iload_n 3, 1) := by decide +kernel
theorem dL_act_447 : decode cL_act 447 = .ok (.iconst 2, 1) := by decide +kernel
theorem dL_act_448 : decode cL_act 448 = .ok (.idiv, 1) := by decide +kernel
theorem dL_act_449 : decode cL_act 449 = .ok (.sipush 201, 3) := by decide +kernel
theorem dL_act_452 : decode cL_act 452 = .ok (.irem, 1) := by decide +kernel
theorem dL_act_453 : decode cL_act 453 = .ok (.iadd, 1) := by decide +kernel
theorem dL_act_454 : decode cL_act 454 = .ok (.goto 11, 3) := by decide +kernel
theorem dL_act_457 : decode cL_act 457 = .ok (.iconst 1, 1) := by decide +kernel
theorem dL_act_458 : decode cL_act 458 = .ok (.iload_n 3, 1) := by decide +kernel
theorem dL_act_459 : decode cL_act 459 = .ok (.iconst 2, 1) := by decide +kernel
theorem dL_act_460 : decode cL_act 460 = .ok (.idiv, 1) := by decide +kernel
theorem dL_act_461 : decode cL_act 461 = .ok (.bipush 100, 2) := by decide +kernel
theorem dL_act_463 : decode cL_act 463 = .ok (.irem, 1) := by decide +kernel
theorem dL_act_464 : decode cL_act 464 = .ok (.iadd, 1) := by decide +kernel
theorem dL_act_465 : decode cL_act 465 = .ok (.istore 5, 2) := by decide +kernel
theorem dL_act_467 : decode cL_act 467 = .ok (.aload_n 0, 1) := by decide +kernel
theorem dL_act_468 : decode cL_act 468 = .ok (.bipush 8, 2) := by decide +kernel
theorem dL_act_470 : decode cL_act 470 = .ok (.iload 4, 2) := by decide +kernel
theorem dL_act_472 : decode cL_act 472 = .ok (.iadd, 1) := by decide +kernel
theorem dL_act_473 : decode cL_act 473 = .ok (.invokevirtual 13, 3) := by decide +kernel
theorem dL_act_476 : decode cL_act 476 = .ok (.istore 6, 2) := by decide +kernel
theorem dL_act_478 : decode cL_act 478 = .ok (.aload_n 0, 1) := by decide +kernel
theorem dL_act_479 : decode cL_act 479 = .ok (.iload 4, 2) := by decide +kernel
theorem dL_act_481 : decode cL_act 481 = .ok (.iload 5, 2) := by decide +kernel
theorem dL_act_483 : decode cL_act 483 = .ok (.invokevirtual 63, 3) := by decide +kernel
theorem dL_act_486 : decode cL_act 486 = .ok (.istore 7, 2) := by decide +kernel
theorem dL_act_488 : decode cL_act 488 = .ok (.iload 7, 2) := by decide +kernel
theorem dL_act_490 : decode cL_act 490 = .ok (.iload 6, 2) := by decide +kernel
theorem dL_act_492 : decode cL_act 492 = .ok (.iload 5, 2) := by decide +kernel
theorem dL_act_494 : decode cL_act 494 = .ok (.if_icmp .ne 9, 3) := by decide +kernel
theorem dL_act_497 : decode cL_act 497 = .ok (.sipush (-1005), 3) := by decide +kernel
theorem dL_act_500 : decode cL_act 500 = .ok (.goto 5, 3) := by decide +kernel
theorem dL_act_503 : decode cL_act 503 = .ok (.iload 6, 2) := by decide +kernel
theorem dL_act_505 : decode cL_act 505 = .ok (.if_icmp .ne 22, 3) := by decide +kernel
theorem dL_act_508 : decode cL_act 508 = .ok (.aload_n 0, 1) := by decide +kernel
theorem dL_act_509 : decode cL_act 509 = .ok (.bipush 8, 2) := by decide +kernel
theorem dL_act_511 : decode cL_act 511 = .ok (.iload 4, 2) := by decide +kernel
theorem dL_act_513 : decode cL_act 513 = .ok (.iadd, 1) := by decide +kernel
theorem dL_act_514 : decode cL_act 514 = .ok (.invokevirtual 13, 3) := by decide +kernel
theorem dL_act_517 : decode cL_act 517 = .ok (.iload 5, 2) := by decide +kernel
theorem dL_act_519 : decode cL_act 519 = .ok (.if_icmp .ne 8, 3) := by decide +kernel
theorem dL_act_522 : decode cL_act 522 = .ok (.iload 7, 2) := by decide +kernel
theorem dL_act_524 : decode cL_act 524 = .ok (.goto 5, 3) := by decide +kernel
theorem dL_act_527 : decode cL_act 527 = .ok (.bipush (-9), 2) := by decide +kernel
theorem dL_act_529 : decode cL_act 529 = .ok (.ireturn, 1) := by decide +kernel
theorem dL_law_0 : decode cL_law 0 = .ok (.new 14, 3) := by decide +kernel
theorem dL_law_3 : decode cL_law 3 = .ok (.dup, 1) := by decide +kernel
theorem dL_law_4 : decode cL_law 4 = .ok (.invokespecial 108, 3) := by decide +kernel
theorem dL_law_7 : decode cL_law 7 = .ok (.astore_n 1, 1) := by decide +kernel
theorem dL_law_8 : decode cL_law 8 = .ok (.aload_n 1, 1) := by decide +kernel
theorem dL_law_9 : decode cL_law 9 = .ok (.invokevirtual 109, 3) := by decide +kernel
theorem dL_law_12 : decode cL_law 12 = .ok (.sipush (-1005), 3) := by decide +kernel
theorem dL_law_15 : decode cL_law 15 = .ok (.if_icmp .ne 120, 3) := by decide +kernel
theorem dL_law_18 : decode cL_law 18 = .ok (.aload_n 1, 1) := by decide +kernel
theorem dL_law_19 : decode cL_law 19 = .ok (.invokevirtual 112, 3) := by decide +kernel
theorem dL_law_22 : decode cL_law 22 = .ok (.sipush (-1005), 3) := by decide +kernel
theorem dL_law_25 : decode cL_law 25 = .ok (.if_icmp .ne 110, 3) := by decide +kernel
theorem dL_law_28 : decode cL_law 28 = .ok (.aload_n 1, 1) := by decide +kernel
theorem dL_law_29 : decode cL_law 29 = .ok (.bipush 8, 2) := by decide +kernel
theorem dL_law_31 : decode cL_law 31 = .ok (.invokevirtual 13, 3) := by decide +kernel
theorem dL_law_34 : decode cL_law 34 = .ok (.sipush 230, 3) := by decide +kernel
theorem dL_law_37 : decode cL_law 37 = .ok (.if_icmp .ne 98, 3) := by decide +kernel
theorem dL_law_40 : decode cL_law 40 = .ok (.aload_n 1, 1) := by decide +kernel
theorem dL_law_41 : decode cL_law 41 = .ok (.bipush 9, 2) := by decide +kernel
theorem dL_law_43 : decode cL_law 43 = .ok (.invokevirtual 13, 3) := by decide +kernel
theorem dL_law_46 : decode cL_law 46 = .ok (.bipush 10, 2) := by decide +kernel
theorem dL_law_48 : decode cL_law 48 = .ok (.if_icmp .ne 87, 3) := by decide +kernel
theorem dL_law_51 : decode cL_law 51 = .ok (.aload_n 1, 1) := by decide +kernel
theorem dL_law_52 : decode cL_law 52 = .ok (.iconst 2, 1) := by decide +kernel
theorem dL_law_53 : decode cL_law 53 = .ok (.iconst 0, 1) := by decide +kernel
theorem dL_law_54 : decode cL_law 54 = .ok (.invokevirtual 19, 3) := by decide +kernel
theorem dL_law_57 : decode cL_law 57 = .ok (.sipush 230, 3) := by decide +kernel
theorem dL_law_60 : decode cL_law 60 = .ok (.if_icmp .ne 75, 3) := by decide +kernel
theorem dL_law_63 : decode cL_law 63 = .ok (.aload_n 1, 1) := by decide +kernel
theorem dL_law_64 : decode cL_law 64 = .ok (.iconst 2, 1) := by decide +kernel
theorem dL_law_65 : decode cL_law 65 = .ok (.iconst 3, 1) := by decide +kernel
theorem dL_law_66 : decode cL_law 66 = .ok (.invokevirtual 19, 3) := by decide +kernel
theorem dL_law_69 : decode cL_law 69 = .ok (.bipush 10, 2) := by decide +kernel
theorem dL_law_71 : decode cL_law 71 = .ok (.if_icmp .ne 64, 3) := by decide +kernel
theorem dL_law_74 : decode cL_law 74 = .ok (.aload_n 1, 1) := by decide +kernel
theorem dL_law_75 : decode cL_law 75 = .ok (.iconst 2, 1) := by decide +kernel
theorem dL_law_76 : decode cL_law 76 = .ok (.iconst 4, 1) := by decide +kernel
theorem dL_law_77 : decode cL_law 77 = .ok (.invokevirtual 19, 3) := by decide +kernel
theorem dL_law_80 : decode cL_law 80 = .ok (.bipush 11, 2) := by decide +kernel
theorem dL_law_82 : decode cL_law 82 = .ok (.if_icmp .ne 53, 3) := by decide +kernel
theorem dL_law_85 : decode cL_law 85 = .ok (.aload_n 1, 1) := by decide +kernel
theorem dL_law_86 : decode cL_law 86 = .ok (.iconst 5, 1) := by decide +kernel
theorem dL_law_87 : decode cL_law 87 = .ok (.iconst 0, 1) := by decide +kernel
theorem dL_law_88 : decode cL_law 88 = .ok (.invokevirtual 26, 3) := by decide +kernel
theorem dL_law_91 : decode cL_law 91 = .ok (.sipush 1000, 3) := by decide +kernel
theorem dL_law_94 : decode cL_law 94 = .ok (.if_icmp .ne 41, 3) := by decide +kernel
theorem dL_law_97 : decode cL_law 97 = .ok (.aload_n 1, 1) := by decide +kernel
theorem dL_law_98 : decode cL_law 98 = .ok (.iconst 5, 1) := by decide +kernel
theorem dL_law_99 : decode cL_law 99 = .ok (.iconst 1, 1) := by decide +kernel
theorem dL_law_100 : decode cL_law 100 = .ok (.invokevirtual 26, 3) := by decide +kernel
theorem dL_law_103 : decode cL_law 103 = .ok (.bipush 50, 2) := by decide +kernel
theorem dL_law_105 : decode cL_law 105 = .ok (.if_icmp .ne 30, 3) := by decide +kernel
theorem dL_law_108 : decode cL_law 108 = .ok (.aload_n 1, 1) := by decide +kernel
theorem dL_law_109 : decode cL_law 109 = .ok (.iconst 0, 1) := by decide +kernel
theorem dL_law_110 : decode cL_law 110 = .ok (.invokestatic 115, 3) := by decide +kernel
theorem dL_law_113 : decode cL_law 113 = .ok (.ifCond .eq 22, 3) := by decide +kernel
theorem dL_law_116 : decode cL_law 116 = .ok (.aload_n 1, 1) := by decide +kernel
theorem dL_law_117 : decode cL_law 117 = .ok (.iconst 1, 1) := by decide +kernel
theorem dL_law_118 : decode cL_law 118 = .ok (.invokestatic 115, 3) := by decide +kernel
theorem dL_law_121 : decode cL_law 121 = .ok (.ifCond .eq 14, 3) := by decide +kernel
theorem dL_law_124 : decode cL_law 124 = .ok (.aload_n 1, 1) := by decide +kernel
theorem dL_law_125 : decode cL_law 125 = .ok (.invokevirtual 118, 3) := by decide +kernel
theorem dL_law_128 : decode cL_law 128 = .ok (.ifCond .ne 7, 3) := by decide +kernel
theorem dL_law_131 : decode cL_law 131 = .ok (.iconst 1, 1) := by decide +kernel
