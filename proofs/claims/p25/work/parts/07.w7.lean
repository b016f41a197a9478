theorem dL_changes_491 : decode cL_changes 491 = .ok (.ireturn, 1) := by decide +kernel
theorem dL_changes_492 : decode cL_changes 492 = .ok (.iload_n 2, 1) := by decide +kernel
theorem dL_changes_493 : decode cL_changes 493 = .ok (.iconst 3, 1) := by decide +kernel
theorem dL_changes_494 : decode cL_changes 494 = .ok (.irem, 1) := by decide +kernel
theorem dL_changes_495 : decode cL_changes 495 = .ok (.istore 8, 2) := by decide +kernel
theorem dL_changes_497 : decode cL_changes 497 = .ok (.iload_n 3, 1) := by decide +kernel
theorem dL_changes_498 : decode cL_changes 498 = .ok (.iconst 3, 1) := by decide +kernel
theorem dL_changes_499 : decode cL_changes 499 = .ok (.irem, 1) := by decide +kernel
theorem dL_changes_500 : decode cL_changes 500 = .ok (.ifCond .ne 13, 3) := by decide +kernel
theorem dL_changes_503 : decode cL_changes 503 = .ok (.iload_n 3, 1) := by decide +kernel
theorem dL_changes_504 : decode cL_changes 504 = .ok (.iconst 3, 1) := by decide +kernel
theorem dL_changes_505 : decode cL_changes 505 = .ok (.idiv, 1) := by decide +kernel
theorem dL_changes_506 : decode cL_changes 506 = .ok (.sipush 1000, 3) := by decide +kernel
theorem dL_changes_509 : decode cL_changes 509 = .ok (.irem, 1) := by decide +kernel
theorem dL_changes_510 : decode cL_changes 510 = .ok (.goto 14, 3) := by decide +kernel
theorem dL_changes_513 : decode cL_changes 513 = .ok (.sipush 300, 3) := by decide +kernel
theorem dL_changes_516 : decode cL_changes 516 = .ok (.iload_n 3, 1) := by decide +kernel
theorem dL_changes_517 : decode cL_changes 517 = .ok (.iconst 3, 1) := by decide +kernel
theorem dL_changes_518 : decode cL_changes 518 = .ok (.idiv, 1) := by decide +kernel
theorem dL_changes_519 : decode cL_changes 519 = .ok (.sipush 500, 3) := by decide +kernel
theorem dL_changes_522 : decode cL_changes 522 = .ok (.irem, 1) := by decide +kernel
theorem dL_changes_523 : decode cL_changes 523 = .ok (.iadd, 1) := by decide +kernel
theorem dL_changes_524 : decode cL_changes 524 = .ok (.istore 9, 2) := by decide +kernel
theorem dL_changes_526 : decode cL_changes 526 = .ok (.aload 5, 2) := by decide +kernel
theorem dL_changes_528 : decode cL_changes 528 = .ok (.iconst 0, 1) := by decide +kernel
theorem dL_changes_529 : decode cL_changes 529 = .ok (.iaload, 1) := by decide +kernel
theorem dL_changes_530 : decode cL_changes 530 = .ok (.ifCond .ne 7, 3) := by decide +kernel
theorem dL_changes_533 : decode cL_changes 533 = .ok (.iconst 1, 1) := by decide +kernel
theorem dL_changes_534 : decode cL_changes 534 = .ok (.goto 4, 3) := by decide +kernel
theorem dL_changes_537 : decode cL_changes 537 = .ok (.iconst 0, 1) := by decide +kernel
theorem dL_changes_538 : decode cL_changes 538 = .ok (.istore 10, 2) := by decide +kernel
theorem dL_changes_540 : decode cL_changes 540 = .ok (.iload 10, 2) := by decide +kernel
theorem dL_changes_542 : decode cL_changes 542 = .ok (.ifCond .eq 31, 3) := by decide +kernel
theorem dL_changes_545 : decode cL_changes 545 = .ok (.aload 5, 2) := by decide +kernel
theorem dL_changes_547 : decode cL_changes 547 = .ok (.iconst 0, 1) := by decide +kernel
theorem dL_changes_548 : decode cL_changes 548 = .ok (.iconst 1, 1) := by decide +kernel
theorem dL_changes_549 : decode cL_changes 549 = .ok (.iastore, 1) := by decide +kernel
theorem dL_changes_550 : decode cL_changes 550 = .ok (.aload 5, 2) := by decide +kernel
theorem dL_changes_552 : decode cL_changes 552 = .ok (.iconst 1, 1) := by decide +kernel
theorem dL_changes_553 : decode cL_changes 553 = .ok (.iload 8, 2) := by decide +kernel
theorem dL_changes_555 : decode cL_changes 555 = .ok (.iastore, 1) := by decide +kernel
theorem dL_changes_556 : decode cL_changes 556 = .ok (.aload 5, 2) := by decide +kernel
theorem dL_changes_558 : decode cL_changes 558 = .ok (.iconst 2, 1) := by decide +kernel
theorem dL_changes_559 : decode cL_changes 559 = .ok (.iload 9, 2) := by decide +kernel
theorem dL_changes_561 : decode cL_changes 561 = .ok (.iastore, 1) := by decide +kernel
theorem dL_changes_562 : decode cL_changes 562 = .ok (.aload 5, 2) := by decide +kernel
theorem dL_changes_564 : decode cL_changes 564 = .ok (.iconst 5, 1) := by decide +kernel
theorem dL_changes_565 : decode cL_changes 565 = .ok (.iconst 0, 1) := by decide +kernel
theorem dL_changes_566 : decode cL_changes 566 = .ok (.iastore, 1) := by decide +kernel
theorem dL_changes_567 : decode cL_changes 567 = .ok (.aload 5, 2) := by decide +kernel
theorem dL_changes_569 : decode cL_changes 569 = .ok (.bipush 6, 2) := by decide +kernel
theorem dL_changes_571 : decode cL_changes 571 = .ok (.iconst 0, 1) := by decide +kernel
theorem dL_changes_572 : decode cL_changes 572 = .ok (.iastore, 1) := by decide +kernel
theorem dL_changes_573 : decode cL_changes 573 = .ok (.aload_n 0, 1) := by decide +kernel
theorem dL_changes_574 : decode cL_changes 574 = .ok (.bipush 9, 2) := by decide +kernel
theorem dL_changes_576 : decode cL_changes 576 = .ok (.iload 8, 2) := by decide +kernel
theorem dL_changes_578 : decode cL_changes 578 = .ok (.iload 9, 2) := by decide +kernel
theorem dL_changes_580 : decode cL_changes 580 = .ok (.iconst 0, 1) := by decide +kernel
theorem dL_changes_581 : decode cL_changes 581 = .ok (.invokestatic 112, 3) := by decide +kernel
theorem dL_changes_584 : decode cL_changes 584 = .ok (.iload 10, 2) := by decide +kernel
theorem dL_changes_586 : decode cL_changes 586 = .ok (.ifCond .eq 7, 3) := by decide +kernel
theorem dL_changes_589 : decode cL_changes 589 = .ok (.iconst 0, 1) := by decide +kernel
theorem dL_changes_590 : decode cL_changes 590 = .ok (.goto 5, 3) := by decide +kernel
theorem dL_changes_593 : decode cL_changes 593 = .ok (.bipush (-8), 2) := by decide +kernel
theorem dL_changes_595 : decode cL_changes 595 = .ok (.if_icmp .ne 19, 3) := by decide +kernel
theorem dL_changes_598 : decode cL_changes 598 = .ok (.iload 10, 2) := by decide +kernel
theorem dL_changes_600 : decode cL_changes 600 = .ok (.ifCond .eq 10, 3) := by decide +kernel
theorem dL_changes_603 : decode cL_changes 603 = .ok (.aload_n 0, 1) := by decide +kernel
theorem dL_changes_604 : decode cL_changes 604 = .ok (.invokevirtual 106, 3) := by decide +kernel
theorem dL_changes_607 : decode cL_changes 607 = .ok (.ifCond .ne 7, 3) := by decide +kernel
theorem dL_changes_610 : decode cL_changes 610 = .ok (.iconst 1, 1) := by decide +kernel
theorem dL_changes_611 : decode cL_changes 611 = .ok (.goto 4, 3) := by decide +kernel
theorem dL_changes_614 : decode cL_changes 614 = .ok (.iconst 0, 1) := by decide +kernel
theorem dL_changes_615 : decode cL_changes 615 = .ok (.ireturn, 1) := by decide +kernel
theorem dL_step_0 : decode cL_step 0 = .ok (.iload_n 1, 1) := by decide +kernel
theorem dL_step_1 : decode cL_step 1 = .ok (.bipush 9, 2) := by decide +kernel
theorem dL_step_3 : decode cL_step 3 = .ok (.if_icmp .ge 102, 3) := by decide +kernel
theorem dL_step_6 : decode cL_step 6 = .ok (.iload_n 2, 1) := by decide +kernel
theorem dL_step_7 : decode cL_step 7 = .ok (.iconst 3, 1) := by decide +kernel
theorem dL_step_8 : decode cL_step 8 = .ok (.irem, 1) := by decide +kernel
theorem dL_step_9 : decode cL_step 9 = .ok (.ifCond .ne 12, 3) := by decide +kernel
theorem dL_step_12 : decode cL_step 12 = .ok (.iload_n 2, 1) := by decide +kernel
theorem dL_step_13 : decode cL_step 13 = .ok (.iconst 3, 1) := by decide +kernel
theorem dL_step_14 : decode cL_step 14 = .ok (.idiv, 1) := by decide +kernel
theorem dL_step_15 : decode cL_step 15 = .ok (.bipush 40, 2) := by decide +kernel
theorem dL_step_17 : decode cL_step 17 = .ok (.irem, 1) := by decide +kernel
theorem dL_step_18 : decode cL_step 18 = .ok (.goto 9, 3) := by decide +kernel
theorem dL_step_21 : decode cL_step 21 = .ok (.iload_n 2, 1) := by decide +kernel
theorem dL_step_22 : decode cL_step 22 = .ok (.iconst 3, 1) := by decide +kernel
theorem dL_step_23 : decode cL_step 23 = .ok (.idiv, 1) := by decide +kernel
theorem dL_step_24 : decode cL_step 24 = .ok (.bipush 12, 2) := by decide +kernel
theorem dL_step_26 : decode cL_step 26 = .ok (.irem, 1) := by decide +kernel
theorem dL_step_27 : decode cL_step 27 = .ok (.istore 6, 2) := by decide +kernel
theorem dL_step_29 : decode cL_step 29 = .ok (.iload_n 1, 1) := by decide +kernel
theorem dL_step_30 : decode cL_step 30 = .ok (.iconst 4, 1) := by decide +kernel
theorem dL_step_31 : decode cL_step 31 = .ok (.if_icmp .ge 7, 3) := by decide +kernel
theorem dL_step_34 : decode cL_step 34 = .ok (.iconst 0, 1) := by decide +kernel
theorem dL_step_35 : decode cL_step 35 = .ok (.goto 24, 3) := by decide +kernel
theorem dL_step_38 : decode cL_step 38 = .ok (.iload_n 1, 1) := by decide +kernel
theorem dL_step_39 : decode cL_step 39 = .ok (.bipush 6, 2) := by decide +kernel
theorem dL_step_41 : decode cL_step 41 = .ok (.if_icmp .ge 7, 3) := by decide +kernel
theorem dL_step_44 : decode cL_step 44 = .ok (.iconst 1, 1) := by decide +kernel
theorem dL_step_45 : decode cL_step 45 = .ok (.goto 14, 3) := by decide +kernel
theorem dL_step_48 : decode cL_step 48 = .ok (.iload_n 1, 1) := by decide +kernel
theorem dL_step_49 : decode cL_step 49 = .ok (.bipush 8, 2) := by decide +kernel
theorem dL_step_51 : decode cL_step 51 = .ok (.if_icmp .ge 7, 3) := by decide +kernel
theorem dL_step_54 : decode cL_step 54 = .ok (.iconst 2, 1) := by decide +kernel
theorem dL_step_55 : decode cL_step 55 = .ok (.goto 4, 3) := by decide +kernel
theorem dL_step_58 : decode cL_step 58 = .ok (.iconst 3, 1) := by decide +kernel
theorem dL_step_59 : decode cL_step 59 = .ok (.istore 7, 2) := by decide +kernel
theorem dL_step_61 : decode cL_step 61 = .ok (.aload_n 0, 1) := by decide +kernel
theorem dL_step_62 : decode cL_step 62 = .ok (.iload 7, 2) := by decide +kernel
theorem dL_step_64 : decode cL_step 64 = .ok (.iload 6, 2) := by decide +kernel
theorem dL_step_66 : decode cL_step 66 = .ok (.iload_n 3, 1) := by decide +kernel
theorem dL_step_67 : decode cL_step 67 = .ok (.iload 7, 2) := by decide +kernel
theorem dL_step_69 : decode cL_step 69 = .ok (.iconst 2, 1) := by decide +kernel
theorem dL_step_70 : decode cL_step 70 = .ok (.if_icmp .ne 14, 3) := by decide +kernel
theorem dL_step_73 : decode cL_step 73 = .ok (.iload_n 2, 1) := by decide +kernel
theorem dL_step_74 : decode cL_step 74 = .ok (.iconst 2, 1) := by decide +kernel
theorem dL_step_75 : decode cL_step 75 = .ok (.irem, 1) := by decide +kernel
theorem dL_step_76 : decode cL_step 76 = .ok (.ifCond .ne 8, 3) := by decide +kernel
theorem dL_step_79 : decode cL_step 79 = .ok (.bipush 12, 2) := by decide +kernel
theorem dL_step_81 : decode cL_step 81 = .ok (.goto 6, 3) := by decide +kernel
theorem dL_step_84 : decode cL_step 84 = .ok (.sipush 1000, 3) := by decide +kernel
theorem dL_step_87 : decode cL_step 87 = .ok (.irem, 1) := by decide +kernel
theorem dL_step_88 : decode cL_step 88 = .ok (.iload_n 3, 1) := by decide +kernel
theorem dL_step_89 : decode cL_step 89 = .ok (.sipush 1000, 3) := by decide +kernel
theorem dL_step_92 : decode cL_step 92 = .ok (.idiv, 1) := by decide +kernel
theorem dL_step_93 : decode cL_step 93 = .ok (.sipush 1000, 3) := by decide +kernel
theorem dL_step_96 : decode cL_step 96 = .ok (.irem, 1) := by decide +kernel
theorem dL_step_97 : decode cL_step 97 = .ok (.aload 4, 2) := by decide +kernel
theorem dL_step_99 : decode cL_step 99 = .ok (.aload 5, 2) := by decide +kernel
theorem dL_step_101 : decode cL_step 101 = .ok (.invokestatic 115, 3) := by decide +kernel
theorem dL_step_104 : decode cL_step 104 = .ok (.ireturn, 1) := by decide +kernel
theorem dL_step_105 : decode cL_step 105 = .ok (.iload_n 1, 1) := by decide +kernel
theorem dL_step_106 : decode cL_step 106 = .ok (.bipush 14, 2) := by decide +kernel
theorem dL_step_108 : decode cL_step 108 = .ok (.if_icmp .ge 32, 3) := by decide +kernel
theorem dL_step_111 : decode cL_step 111 = .ok (.aload_n 0, 1) := by decide +kernel
theorem dL_step_112 : decode cL_step 112 = .ok (.iload_n 3, 1) := by decide +kernel
theorem dL_step_113 : decode cL_step 113 = .ok (.iconst 5, 1) := by decide +kernel
theorem dL_step_114 : decode cL_step 114 = .ok (.irem, 1) := by decide +kernel
theorem dL_step_115 : decode cL_step 115 = .ok (.ifCond .ne 12, 3) := by decide +kernel
theorem dL_step_118 : decode cL_step 118 = .ok (.iload_n 3, 1) := by decide +kernel
theorem dL_step_119 : decode cL_step 119 = .ok (.iconst 5, 1) := by decide +kernel
theorem dL_step_120 : decode cL_step 120 = .ok (.idiv, 1) := by decide +kernel
theorem dL_step_121 : decode cL_step 121 = .ok (.bipush 40, 2) := by decide +kernel
theorem dL_step_123 : decode cL_step 123 = .ok (.irem, 1) := by decide +kernel
theorem dL_step_124 : decode cL_step 124 = .ok (.goto 8, 3) := by decide +kernel
theorem dL_step_127 : decode cL_step 127 = .ok (.iload_n 3, 1) := by decide +kernel
theorem dL_step_128 : decode cL_step 128 = .ok (.iconst 5, 1) := by decide +kernel
theorem dL_step_129 : decode cL_step 129 = .ok (.idiv, 1) := by decide +kernel
theorem dL_step_130 : decode cL_step 130 = .ok (.iconst 4, 1) := by decide +kernel
theorem dL_step_131 : decode cL_step 131 = .ok (.irem, 1) := by decide +kernel
theorem dL_step_132 : decode cL_step 132 = .ok (.aload 4, 2) := by decide +kernel
theorem dL_step_134 : decode cL_step 134 = .ok (.aload 5, 2) := by decide +kernel
theorem dL_step_136 : decode cL_step 136 = .ok (.invokestatic 119, 3) := by decide +kernel
theorem dL_step_139 : decode cL_step 139 = .ok (.ireturn, 1) := by decide +kernel
theorem dL_step_140 : decode cL_step 140 = .ok (.iload_n 1, 1) := by decide +kernel
theorem dL_step_141 : decode cL_step 141 = .ok (.bipush 14, 2) := by decide +kernel
theorem dL_step_143 : decode cL_step 143 = .ok (.if_icmp .ne 35, 3) := by decide +kernel
theorem dL_step_146 : decode cL_step 146 = .ok (.aload 5, 2) := by decide +kernel
theorem dL_step_148 : decode cL_step 148 = .ok (.iconst 3, 1) := by decide +kernel
theorem dL_step_149 : decode cL_step 149 = .ok (.iconst 1, 1) := by decide +kernel
theorem dL_step_150 : decode cL_step 150 = .ok (.iload_n 2, 1) := by decide +kernel
theorem dL_step_151 : decode cL_step 151 = .ok (.bipush 40, 2) := by decide +kernel
theorem dL_step_153 : decode cL_step 153 = .ok (.irem, 1) := by decide +kernel
theorem dL_step_154 : decode cL_step 154 = .ok (.iadd, 1) := by decide +kernel
theorem dL_step_155 : decode cL_step 155 = .ok (.iastore, 1) := by decide +kernel
theorem dL_step_156 : decode cL_step 156 = .ok (.aload 5, 2) := by decide +kernel
theorem dL_step_158 : decode cL_step 158 = .ok (.iconst 4, 1) := by decide +kernel
