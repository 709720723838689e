theorem dL_isSo_506 : decode cL_isSo 506 = .ok (.aload_n 0, 1) := by decide +kernel
theorem dL_isSo_507 : decode cL_isSo 507 = .ok (.iload 10, 2) := by decide +kernel
theorem dL_isSo_509 : decode cL_isSo 509 = .ok (.bipush 7, 2) := by decide +kernel
theorem dL_isSo_511 : decode cL_isSo 511 = .ok (.invokevirtual 116, 3) := by decide +kernel
theorem dL_isSo_514 : decode cL_isSo 514 = .ok (.aload_n 2, 1) := by decide +kernel
theorem dL_isSo_515 : decode cL_isSo 515 = .ok (.bipush 12, 2) := by decide +kernel
theorem dL_isSo_517 : decode cL_isSo 517 = .ok (.iload 10, 2) := by decide +kernel
theorem dL_isSo_519 : decode cL_isSo 519 = .ok (.iadd, 1) := by decide +kernel
theorem dL_isSo_520 : decode cL_isSo 520 = .ok (.iaload, 1) := by decide +kernel
theorem dL_isSo_521 : decode cL_isSo 521 = .ok (.if_icmp .ne 33, 3) := by decide +kernel
theorem dL_isSo_524 : decode cL_isSo 524 = .ok (.aload_n 0, 1) := by decide +kernel
theorem dL_isSo_525 : decode cL_isSo 525 = .ok (.iload 10, 2) := by decide +kernel
theorem dL_isSo_527 : decode cL_isSo 527 = .ok (.bipush 8, 2) := by decide +kernel
theorem dL_isSo_529 : decode cL_isSo 529 = .ok (.invokevirtual 116, 3) := by decide +kernel
theorem dL_isSo_532 : decode cL_isSo 532 = .ok (.iload 13, 2) := by decide +kernel
theorem dL_isSo_534 : decode cL_isSo 534 = .ok (.if_icmp .ne 20, 3) := by decide +kernel
theorem dL_isSo_537 : decode cL_isSo 537 = .ok (.aload_n 0, 1) := by decide +kernel
theorem dL_isSo_538 : decode cL_isSo 538 = .ok (.iload 10, 2) := by decide +kernel
theorem dL_isSo_540 : decode cL_isSo 540 = .ok (.bipush 9, 2) := by decide +kernel
theorem dL_isSo_542 : decode cL_isSo 542 = .ok (.invokevirtual 116, 3) := by decide +kernel
theorem dL_isSo_545 : decode cL_isSo 545 = .ok (.iload 14, 2) := by decide +kernel
theorem dL_isSo_547 : decode cL_isSo 547 = .ok (.if_icmp .ne 7, 3) := by decide +kernel
theorem dL_isSo_550 : decode cL_isSo 550 = .ok (.iconst 1, 1) := by decide +kernel
theorem dL_isSo_551 : decode cL_isSo 551 = .ok (.goto 4, 3) := by decide +kernel
theorem dL_isSo_554 : decode cL_isSo 554 = .ok (.iconst 0, 1) := by decide +kernel
theorem dL_isSo_555 : decode cL_isSo 555 = .ok (.istore 9, 2) := by decide +kernel
theorem dL_isSo_557 : decode cL_isSo 557 = .ok (.iinc 10 1, 3) := by decide +kernel
theorem dL_isSo_560 : decode cL_isSo 560 = .ok (.goto (-476), 3) := by decide +kernel
theorem dL_isSo_563 : decode cL_isSo 563 = .ok (.iload 9, 2) := by decide +kernel
theorem dL_isSo_565 : decode cL_isSo 565 = .ok (.ifCond .eq 62, 3) := by decide +kernel
theorem dL_isSo_568 : decode cL_isSo 568 = .ok (.aload_n 0, 1) := by decide +kernel
theorem dL_isSo_569 : decode cL_isSo 569 = .ok (.aload_n 1, 1) := by decide +kernel
theorem dL_isSo_570 : decode cL_isSo 570 = .ok (.aload_n 3, 1) := by decide +kernel
theorem dL_isSo_571 : decode cL_isSo 571 = .ok (.aload 4, 2) := by decide +kernel
theorem dL_isSo_573 : decode cL_isSo 573 = .ok (.invokestatic 119, 3) := by decide +kernel
theorem dL_isSo_576 : decode cL_isSo 576 = .ok (.ifCond .eq 51, 3) := by decide +kernel
theorem dL_isSo_579 : decode cL_isSo 579 = .ok (.aload_n 0, 1) := by decide +kernel
theorem dL_isSo_580 : decode cL_isSo 580 = .ok (.bipush 7, 2) := by decide +kernel
theorem dL_isSo_582 : decode cL_isSo 582 = .ok (.invokevirtual 83, 3) := by decide +kernel
theorem dL_isSo_585 : decode cL_isSo 585 = .ok (.iload 6, 2) := by decide +kernel
theorem dL_isSo_587 : decode cL_isSo 587 = .ok (.if_icmp .ne 40, 3) := by decide +kernel
theorem dL_isSo_590 : decode cL_isSo 590 = .ok (.aload_n 0, 1) := by decide +kernel
theorem dL_isSo_591 : decode cL_isSo 591 = .ok (.bipush 8, 2) := by decide +kernel
theorem dL_isSo_593 : decode cL_isSo 593 = .ok (.invokevirtual 83, 3) := by decide +kernel
theorem dL_isSo_596 : decode cL_isSo 596 = .ok (.iload 7, 2) := by decide +kernel
theorem dL_isSo_598 : decode cL_isSo 598 = .ok (.if_icmp .ne 29, 3) := by decide +kernel
theorem dL_isSo_601 : decode cL_isSo 601 = .ok (.aload_n 0, 1) := by decide +kernel
theorem dL_isSo_602 : decode cL_isSo 602 = .ok (.bipush 9, 2) := by decide +kernel
theorem dL_isSo_604 : decode cL_isSo 604 = .ok (.invokevirtual 83, 3) := by decide +kernel
theorem dL_isSo_607 : decode cL_isSo 607 = .ok (.iload 8, 2) := by decide +kernel
theorem dL_isSo_609 : decode cL_isSo 609 = .ok (.if_icmp .ne 18, 3) := by decide +kernel
theorem dL_isSo_612 : decode cL_isSo 612 = .ok (.aload_n 0, 1) := by decide +kernel
theorem dL_isSo_613 : decode cL_isSo 613 = .ok (.iload 5, 2) := by decide +kernel
theorem dL_isSo_615 : decode cL_isSo 615 = .ok (.iconst 0, 1) := by decide +kernel
theorem dL_isSo_616 : decode cL_isSo 616 = .ok (.invokevirtual 116, 3) := by decide +kernel
theorem dL_isSo_619 : decode cL_isSo 619 = .ok (.iconst (-1), 1) := by decide +kernel
theorem dL_isSo_620 : decode cL_isSo 620 = .ok (.if_icmp .ne 7, 3) := by decide +kernel
theorem dL_isSo_623 : decode cL_isSo 623 = .ok (.iconst 1, 1) := by decide +kernel
theorem dL_isSo_624 : decode cL_isSo 624 = .ok (.goto 4, 3) := by decide +kernel
theorem dL_isSo_627 : decode cL_isSo 627 = .ok (.iconst 0, 1) := by decide +kernel
theorem dL_isSo_628 : decode cL_isSo 628 = .ok (.ireturn, 1) := by decide +kernel
theorem dL_law_0 : decode cL_law 0 = .ok (.new 50, 3) := by decide +kernel
theorem dL_law_3 : decode cL_law 3 = .ok (.dup, 1) := by decide +kernel
theorem dL_law_4 : decode cL_law 4 = .ok (.invokespecial 123, 3) := by decide +kernel
theorem dL_law_7 : decode cL_law 7 = .ok (.astore_n 1, 1) := by decide +kernel
theorem dL_law_8 : decode cL_law 8 = .ok (.iconst 5, 1) := by decide +kernel
theorem dL_law_9 : decode cL_law 9 = .ok (.newarray .int, 2) := by decide +kernel
theorem dL_law_11 : decode cL_law 11 = .ok (.astore_n 2, 1) := by decide +kernel
theorem dL_law_12 : decode cL_law 12 = .ok (.bipush 18, 2) := by decide +kernel
theorem dL_law_14 : decode cL_law 14 = .ok (.newarray .int, 2) := by decide +kernel
theorem dL_law_16 : decode cL_law 16 = .ok (.astore_n 3, 1) := by decide +kernel
theorem dL_law_17 : decode cL_law 17 = .ok (.bipush 24, 2) := by decide +kernel
theorem dL_law_19 : decode cL_law 19 = .ok (.newarray .long, 2) := by decide +kernel
theorem dL_law_21 : decode cL_law 21 = .ok (.astore 4, 2) := by decide +kernel
theorem dL_law_23 : decode cL_law 23 = .ok (.bipush 6, 2) := by decide +kernel
theorem dL_law_25 : decode cL_law 25 = .ok (.newarray .long, 2) := by decide +kernel
theorem dL_law_27 : decode cL_law 27 = .ok (.astore 5, 2) := by decide +kernel
theorem dL_law_29 : decode cL_law 29 = .ok (.aload_n 2, 1) := by decide +kernel
theorem dL_law_30 : decode cL_law 30 = .ok (.iconst 2, 1) := by decide +kernel
theorem dL_law_31 : decode cL_law 31 = .ok (.iconst 1, 1) := by decide +kernel
theorem dL_law_32 : decode cL_law 32 = .ok (.iastore, 1) := by decide +kernel
theorem dL_law_33 : decode cL_law 33 = .ok (.aload_n 2, 1) := by decide +kernel
theorem dL_law_34 : decode cL_law 34 = .ok (.iconst 3, 1) := by decide +kernel
theorem dL_law_35 : decode cL_law 35 = .ok (.bipush 20, 2) := by decide +kernel
theorem dL_law_37 : decode cL_law 37 = .ok (.iastore, 1) := by decide +kernel
theorem dL_law_38 : decode cL_law 38 = .ok (.aload_n 2, 1) := by decide +kernel
theorem dL_law_39 : decode cL_law 39 = .ok (.aload_n 3, 1) := by decide +kernel
theorem dL_law_40 : decode cL_law 40 = .ok (.aload 4, 2) := by decide +kernel
theorem dL_law_42 : decode cL_law 42 = .ok (.aload 5, 2) := by decide +kernel
theorem dL_law_44 : decode cL_law 44 = .ok (.iconst 3, 1) := by decide +kernel
theorem dL_law_45 : decode cL_law 45 = .ok (.iconst 2, 1) := by decide +kernel
theorem dL_law_46 : decode cL_law 46 = .ok (.invokestatic 54, 3) := by decide +kernel
theorem dL_law_49 : decode cL_law 49 = .ok (.aload_n 1, 1) := by decide +kernel
theorem dL_law_50 : decode cL_law 50 = .ok (.aload_n 2, 1) := by decide +kernel
theorem dL_law_51 : decode cL_law 51 = .ok (.aload_n 3, 1) := by decide +kernel
theorem dL_law_52 : decode cL_law 52 = .ok (.aload 4, 2) := by decide +kernel
theorem dL_law_54 : decode cL_law 54 = .ok (.aload 5, 2) := by decide +kernel
theorem dL_law_56 : decode cL_law 56 = .ok (.invokestatic 124, 3) := by decide +kernel
theorem dL_law_59 : decode cL_law 59 = .ok (.istore 6, 2) := by decide +kernel
theorem dL_law_61 : decode cL_law 61 = .ok (.bipush 8, 2) := by decide +kernel
theorem dL_law_63 : decode cL_law 63 = .ok (.aload_n 0, 1) := by decide +kernel
theorem dL_law_64 : decode cL_law 64 = .ok (.iconst 0, 1) := by decide +kernel
theorem dL_law_65 : decode cL_law 65 = .ok (.invokestatic 128, 3) := by decide +kernel
theorem dL_law_68 : decode cL_law 68 = .ok (.bipush 55, 2) := by decide +kernel
theorem dL_law_70 : decode cL_law 70 = .ok (.invokestatic 45, 3) := by decide +kernel
theorem dL_law_73 : decode cL_law 73 = .ok (.iadd, 1) := by decide +kernel
theorem dL_law_74 : decode cL_law 74 = .ok (.istore 7, 2) := by decide +kernel
theorem dL_law_76 : decode cL_law 76 = .ok (.iconst 0, 1) := by decide +kernel
theorem dL_law_77 : decode cL_law 77 = .ok (.istore 8, 2) := by decide +kernel
theorem dL_law_79 : decode cL_law 79 = .ok (.iload 8, 2) := by decide +kernel
theorem dL_law_81 : decode cL_law 81 = .ok (.iload 7, 2) := by decide +kernel
theorem dL_law_83 : decode cL_law 83 = .ok (.if_icmp .ge 62, 3) := by decide +kernel
theorem dL_law_86 : decode cL_law 86 = .ok (.iload 6, 2) := by decide +kernel
theorem dL_law_88 : decode cL_law 88 = .ok (.ifCond .eq 57, 3) := by decide +kernel
theorem dL_law_91 : decode cL_law 91 = .ok (.aload_n 1, 1) := by decide +kernel
theorem dL_law_92 : decode cL_law 92 = .ok (.aload_n 2, 1) := by decide +kernel
theorem dL_law_93 : decode cL_law 93 = .ok (.aload_n 3, 1) := by decide +kernel
theorem dL_law_94 : decode cL_law 94 = .ok (.aload 4, 2) := by decide +kernel
theorem dL_law_96 : decode cL_law 96 = .ok (.aload 5, 2) := by decide +kernel
theorem dL_law_98 : decode cL_law 98 = .ok (.aload_n 0, 1) := by decide +kernel
theorem dL_law_99 : decode cL_law 99 = .ok (.iconst 1, 1) := by decide +kernel
theorem dL_law_100 : decode cL_law 100 = .ok (.iload 8, 2) := by decide +kernel
theorem dL_law_102 : decode cL_law 102 = .ok (.iadd, 1) := by decide +kernel
theorem dL_law_103 : decode cL_law 103 = .ok (.invokestatic 128, 3) := by decide +kernel
theorem dL_law_106 : decode cL_law 106 = .ok (.sipush 7919, 3) := by decide +kernel
theorem dL_law_109 : decode cL_law 109 = .ok (.iload 8, 2) := by decide +kernel
theorem dL_law_111 : decode cL_law 111 = .ok (.imul, 1) := by decide +kernel
theorem dL_law_112 : decode cL_law 112 = .ok (.ixor, 1) := by decide +kernel
theorem dL_law_113 : decode cL_law 113 = .ok (.invokestatic 131, 3) := by decide +kernel
theorem dL_law_116 : decode cL_law 116 = .ok (.ifCond .eq 20, 3) := by decide +kernel
theorem dL_law_119 : decode cL_law 119 = .ok (.aload_n 1, 1) := by decide +kernel
theorem dL_law_120 : decode cL_law 120 = .ok (.aload_n 2, 1) := by decide +kernel
theorem dL_law_121 : decode cL_law 121 = .ok (.aload_n 3, 1) := by decide +kernel
theorem dL_law_122 : decode cL_law 122 = .ok (.aload 4, 2) := by decide +kernel
theorem dL_law_124 : decode cL_law 124 = .ok (.aload 5, 2) := by decide +kernel
theorem dL_law_126 : decode cL_law 126 = .ok (.invokestatic 124, 3) := by decide +kernel
theorem dL_law_129 : decode cL_law 129 = .ok (.ifCond .eq 7, 3) := by decide +kernel
theorem dL_law_132 : decode cL_law 132 = .ok (.iconst 1, 1) := by decide +kernel
theorem dL_law_133 : decode cL_law 133 = .ok (.goto 4, 3) := by decide +kernel
theorem dL_law_136 : decode cL_law 136 = .ok (.iconst 0, 1) := by decide +kernel
theorem dL_law_137 : decode cL_law 137 = .ok (.istore 6, 2) := by decide +kernel
theorem dL_law_139 : decode cL_law 139 = .ok (.iinc 8 1, 3) := by decide +kernel
theorem dL_law_142 : decode cL_law 142 = .ok (.goto (-63), 3) := by decide +kernel
theorem dL_law_145 : decode cL_law 145 = .ok (.iload 6, 2) := by decide +kernel
theorem dL_law_147 : decode cL_law 147 = .ok (.ifCond .eq 28, 3) := by decide +kernel
theorem dL_law_150 : decode cL_law 150 = .ok (.aload_n 1, 1) := by decide +kernel
theorem dL_law_151 : decode cL_law 151 = .ok (.bipush 15, 2) := by decide +kernel
theorem dL_law_153 : decode cL_law 153 = .ok (.invokevirtual 83, 3) := by decide +kernel
theorem dL_law_156 : decode cL_law 156 = .ok (.iconst (-1), 1) := by decide +kernel
theorem dL_law_157 : decode cL_law 157 = .ok (.if_icmp .ne 18, 3) := by decide +kernel
theorem dL_law_160 : decode cL_law 160 = .ok (.aload_n 1, 1) := by decide +kernel
theorem dL_law_161 : decode cL_law 161 = .ok (.iconst 0, 1) := by decide +kernel
theorem dL_law_162 : decode cL_law 162 = .ok (.bipush 10, 2) := by decide +kernel
theorem dL_law_164 : decode cL_law 164 = .ok (.invokevirtual 110, 3) := by decide +kernel
theorem dL_law_167 : decode cL_law 167 = .ok (.iconst (-1), 1) := by decide +kernel
theorem dL_law_168 : decode cL_law 168 = .ok (.if_icmp .ne 7, 3) := by decide +kernel
theorem dL_law_171 : decode cL_law 171 = .ok (.iconst 1, 1) := by decide +kernel
theorem dL_law_172 : decode cL_law 172 = .ok (.goto 4, 3) := by decide +kernel
theorem dL_law_175 : decode cL_law 175 = .ok (.iconst 0, 1) := by decide +kernel
theorem dL_law_176 : decode cL_law 176 = .ok (.ireturn, 1) := by decide +kernel
