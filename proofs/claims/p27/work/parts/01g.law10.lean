theorem dL_areEdges_392 : decode cL_areEdges 392 = .ok (.goto 4, 3) := by decide +kernel
theorem dL_areEdges_395 : decode cL_areEdges 395 = .ok (.iconst 0, 1) := by decide +kernel
theorem dL_areEdges_396 : decode cL_areEdges 396 = .ok (.iadd, 1) := by decide +kernel
theorem dL_areEdges_397 : decode cL_areEdges 397 = .ok (.istore 5, 2) := by decide +kernel
theorem dL_areEdges_399 : decode cL_areEdges 399 = .ok (.iload 6, 2) := by decide +kernel
theorem dL_areEdges_401 : decode cL_areEdges 401 = .ok (.iload 10, 2) := by decide +kernel
theorem dL_areEdges_403 : decode cL_areEdges 403 = .ok (.iadd, 1) := by decide +kernel
theorem dL_areEdges_404 : decode cL_areEdges 404 = .ok (.istore 6, 2) := by decide +kernel
theorem dL_areEdges_406 : decode cL_areEdges 406 = .ok (.iload 7, 2) := by decide +kernel
theorem dL_areEdges_408 : decode cL_areEdges 408 = .ok (.aload_n 1, 1) := by decide +kernel
theorem dL_areEdges_409 : decode cL_areEdges 409 = .ok (.iconst 4, 1) := by decide +kernel
theorem dL_areEdges_410 : decode cL_areEdges 410 = .ok (.iaload, 1) := by decide +kernel
theorem dL_areEdges_411 : decode cL_areEdges 411 = .ok (.iload 4, 2) := by decide +kernel
theorem dL_areEdges_413 : decode cL_areEdges 413 = .ok (.ishr, 1) := by decide +kernel
theorem dL_areEdges_414 : decode cL_areEdges 414 = .ok (.iconst 1, 1) := by decide +kernel
theorem dL_areEdges_415 : decode cL_areEdges 415 = .ok (.iand, 1) := by decide +kernel
theorem dL_areEdges_416 : decode cL_areEdges 416 = .ok (.iadd, 1) := by decide +kernel
theorem dL_areEdges_417 : decode cL_areEdges 417 = .ok (.istore 7, 2) := by decide +kernel
theorem dL_areEdges_419 : decode cL_areEdges 419 = .ok (.iinc 4 1, 3) := by decide +kernel
theorem dL_areEdges_422 : decode cL_areEdges 422 = .ok (.goto (-407), 3) := by decide +kernel
theorem dL_areEdges_425 : decode cL_areEdges 425 = .ok (.iload 8, 2) := by decide +kernel
theorem dL_areEdges_427 : decode cL_areEdges 427 = .ok (.ifCond .eq 59, 3) := by decide +kernel
theorem dL_areEdges_430 : decode cL_areEdges 430 = .ok (.aload_n 0, 1) := by decide +kernel
theorem dL_areEdges_431 : decode cL_areEdges 431 = .ok (.iconst 3, 1) := by decide +kernel
theorem dL_areEdges_432 : decode cL_areEdges 432 = .ok (.invokevirtual 83, 3) := by decide +kernel
theorem dL_areEdges_435 : decode cL_areEdges 435 = .ok (.iload 4, 2) := by decide +kernel
theorem dL_areEdges_437 : decode cL_areEdges 437 = .ok (.if_icmp .ne 49, 3) := by decide +kernel
theorem dL_areEdges_440 : decode cL_areEdges 440 = .ok (.aload_n 0, 1) := by decide +kernel
theorem dL_areEdges_441 : decode cL_areEdges 441 = .ok (.iconst 4, 1) := by decide +kernel
theorem dL_areEdges_442 : decode cL_areEdges 442 = .ok (.invokevirtual 83, 3) := by decide +kernel
theorem dL_areEdges_445 : decode cL_areEdges 445 = .ok (.iload 7, 2) := by decide +kernel
theorem dL_areEdges_447 : decode cL_areEdges 447 = .ok (.if_icmp .ne 39, 3) := by decide +kernel
theorem dL_areEdges_450 : decode cL_areEdges 450 = .ok (.aload_n 0, 1) := by decide +kernel
theorem dL_areEdges_451 : decode cL_areEdges 451 = .ok (.iconst 5, 1) := by decide +kernel
theorem dL_areEdges_452 : decode cL_areEdges 452 = .ok (.invokevirtual 83, 3) := by decide +kernel
theorem dL_areEdges_455 : decode cL_areEdges 455 = .ok (.iload 5, 2) := by decide +kernel
theorem dL_areEdges_457 : decode cL_areEdges 457 = .ok (.if_icmp .ne 29, 3) := by decide +kernel
theorem dL_areEdges_460 : decode cL_areEdges 460 = .ok (.aload_n 0, 1) := by decide +kernel
theorem dL_areEdges_461 : decode cL_areEdges 461 = .ok (.bipush 6, 2) := by decide +kernel
theorem dL_areEdges_463 : decode cL_areEdges 463 = .ok (.invokevirtual 83, 3) := by decide +kernel
theorem dL_areEdges_466 : decode cL_areEdges 466 = .ok (.iload 6, 2) := by decide +kernel
theorem dL_areEdges_468 : decode cL_areEdges 468 = .ok (.if_icmp .ne 18, 3) := by decide +kernel
theorem dL_areEdges_471 : decode cL_areEdges 471 = .ok (.aload_n 0, 1) := by decide +kernel
theorem dL_areEdges_472 : decode cL_areEdges 472 = .ok (.iload 4, 2) := by decide +kernel
theorem dL_areEdges_474 : decode cL_areEdges 474 = .ok (.iconst 0, 1) := by decide +kernel
theorem dL_areEdges_475 : decode cL_areEdges 475 = .ok (.invokevirtual 103, 3) := by decide +kernel
theorem dL_areEdges_478 : decode cL_areEdges 478 = .ok (.iconst (-1), 1) := by decide +kernel
theorem dL_areEdges_479 : decode cL_areEdges 479 = .ok (.if_icmp .ne 7, 3) := by decide +kernel
theorem dL_areEdges_482 : decode cL_areEdges 482 = .ok (.iconst 1, 1) := by decide +kernel
theorem dL_areEdges_483 : decode cL_areEdges 483 = .ok (.goto 4, 3) := by decide +kernel
theorem dL_areEdges_486 : decode cL_areEdges 486 = .ok (.iconst 0, 1) := by decide +kernel
theorem dL_areEdges_487 : decode cL_areEdges 487 = .ok (.ireturn, 1) := by decide +kernel
theorem dL_isSo_0 : decode cL_isSo 0 = .ok (.aload_n 1, 1) := by decide +kernel
theorem dL_isSo_1 : decode cL_isSo 1 = .ok (.iconst 0, 1) := by decide +kernel
theorem dL_isSo_2 : decode cL_isSo 2 = .ok (.iaload, 1) := by decide +kernel
theorem dL_isSo_3 : decode cL_isSo 3 = .ok (.aload_n 1, 1) := by decide +kernel
theorem dL_isSo_4 : decode cL_isSo 4 = .ok (.iconst 1, 1) := by decide +kernel
theorem dL_isSo_5 : decode cL_isSo 5 = .ok (.iaload, 1) := by decide +kernel
theorem dL_isSo_6 : decode cL_isSo 6 = .ok (.imul, 1) := by decide +kernel
theorem dL_isSo_7 : decode cL_isSo 7 = .ok (.istore 5, 2) := by decide +kernel
theorem dL_isSo_9 : decode cL_isSo 9 = .ok (.iconst 0, 1) := by decide +kernel
theorem dL_isSo_10 : decode cL_isSo 10 = .ok (.istore 6, 2) := by decide +kernel
theorem dL_isSo_12 : decode cL_isSo 12 = .ok (.iconst 0, 1) := by decide +kernel
theorem dL_isSo_13 : decode cL_isSo 13 = .ok (.istore 7, 2) := by decide +kernel
theorem dL_isSo_15 : decode cL_isSo 15 = .ok (.iconst 0, 1) := by decide +kernel
theorem dL_isSo_16 : decode cL_isSo 16 = .ok (.istore 8, 2) := by decide +kernel
theorem dL_isSo_18 : decode cL_isSo 18 = .ok (.aload_n 0, 1) := by decide +kernel
theorem dL_isSo_19 : decode cL_isSo 19 = .ok (.iconst 0, 1) := by decide +kernel
theorem dL_isSo_20 : decode cL_isSo 20 = .ok (.invokevirtual 83, 3) := by decide +kernel
theorem dL_isSo_23 : decode cL_isSo 23 = .ok (.aload_n 1, 1) := by decide +kernel
theorem dL_isSo_24 : decode cL_isSo 24 = .ok (.iconst 0, 1) := by decide +kernel
theorem dL_isSo_25 : decode cL_isSo 25 = .ok (.iaload, 1) := by decide +kernel
theorem dL_isSo_26 : decode cL_isSo 26 = .ok (.if_icmp .ne 52, 3) := by decide +kernel
theorem dL_isSo_29 : decode cL_isSo 29 = .ok (.aload_n 0, 1) := by decide +kernel
theorem dL_isSo_30 : decode cL_isSo 30 = .ok (.iconst 1, 1) := by decide +kernel
theorem dL_isSo_31 : decode cL_isSo 31 = .ok (.invokevirtual 83, 3) := by decide +kernel
theorem dL_isSo_34 : decode cL_isSo 34 = .ok (.aload_n 1, 1) := by decide +kernel
theorem dL_isSo_35 : decode cL_isSo 35 = .ok (.iconst 1, 1) := by decide +kernel
theorem dL_isSo_36 : decode cL_isSo 36 = .ok (.iaload, 1) := by decide +kernel
theorem dL_isSo_37 : decode cL_isSo 37 = .ok (.if_icmp .ne 41, 3) := by decide +kernel
theorem dL_isSo_40 : decode cL_isSo 40 = .ok (.aload_n 0, 1) := by decide +kernel
theorem dL_isSo_41 : decode cL_isSo 41 = .ok (.iconst 2, 1) := by decide +kernel
theorem dL_isSo_42 : decode cL_isSo 42 = .ok (.invokevirtual 83, 3) := by decide +kernel
theorem dL_isSo_45 : decode cL_isSo 45 = .ok (.iload 5, 2) := by decide +kernel
theorem dL_isSo_47 : decode cL_isSo 47 = .ok (.if_icmp .ne 31, 3) := by decide +kernel
theorem dL_isSo_50 : decode cL_isSo 50 = .ok (.aload_n 0, 1) := by decide +kernel
theorem dL_isSo_51 : decode cL_isSo 51 = .ok (.bipush 13, 2) := by decide +kernel
theorem dL_isSo_53 : decode cL_isSo 53 = .ok (.invokevirtual 83, 3) := by decide +kernel
theorem dL_isSo_56 : decode cL_isSo 56 = .ok (.aload_n 1, 1) := by decide +kernel
theorem dL_isSo_57 : decode cL_isSo 57 = .ok (.iconst 2, 1) := by decide +kernel
theorem dL_isSo_58 : decode cL_isSo 58 = .ok (.iaload, 1) := by decide +kernel
theorem dL_isSo_59 : decode cL_isSo 59 = .ok (.if_icmp .ne 19, 3) := by decide +kernel
theorem dL_isSo_62 : decode cL_isSo 62 = .ok (.aload_n 0, 1) := by decide +kernel
theorem dL_isSo_63 : decode cL_isSo 63 = .ok (.bipush 14, 2) := by decide +kernel
theorem dL_isSo_65 : decode cL_isSo 65 = .ok (.invokevirtual 83, 3) := by decide +kernel
theorem dL_isSo_68 : decode cL_isSo 68 = .ok (.aload_n 1, 1) := by decide +kernel
theorem dL_isSo_69 : decode cL_isSo 69 = .ok (.iconst 3, 1) := by decide +kernel
theorem dL_isSo_70 : decode cL_isSo 70 = .ok (.iaload, 1) := by decide +kernel
theorem dL_isSo_71 : decode cL_isSo 71 = .ok (.if_icmp .ne 7, 3) := by decide +kernel
theorem dL_isSo_74 : decode cL_isSo 74 = .ok (.iconst 1, 1) := by decide +kernel
theorem dL_isSo_75 : decode cL_isSo 75 = .ok (.goto 4, 3) := by decide +kernel
theorem dL_isSo_78 : decode cL_isSo 78 = .ok (.iconst 0, 1) := by decide +kernel
theorem dL_isSo_79 : decode cL_isSo 79 = .ok (.istore 9, 2) := by decide +kernel
theorem dL_isSo_81 : decode cL_isSo 81 = .ok (.iconst 0, 1) := by decide +kernel
theorem dL_isSo_82 : decode cL_isSo 82 = .ok (.istore 10, 2) := by decide +kernel
theorem dL_isSo_84 : decode cL_isSo 84 = .ok (.iload 10, 2) := by decide +kernel
theorem dL_isSo_86 : decode cL_isSo 86 = .ok (.iload 5, 2) := by decide +kernel
theorem dL_isSo_88 : decode cL_isSo 88 = .ok (.if_icmp .ge 475, 3) := by decide +kernel
theorem dL_isSo_91 : decode cL_isSo 91 = .ok (.iload 9, 2) := by decide +kernel
theorem dL_isSo_93 : decode cL_isSo 93 = .ok (.ifCond .eq 470, 3) := by decide +kernel
theorem dL_isSo_96 : decode cL_isSo 96 = .ok (.iconst 0, 1) := by decide +kernel
theorem dL_isSo_97 : decode cL_isSo 97 = .ok (.istore 11, 2) := by decide +kernel
theorem dL_isSo_99 : decode cL_isSo 99 = .ok (.iconst 0, 1) := by decide +kernel
theorem dL_isSo_100 : decode cL_isSo 100 = .ok (.istore 12, 2) := by decide +kernel
theorem dL_isSo_102 : decode cL_isSo 102 = .ok (.iconst 0, 1) := by decide +kernel
theorem dL_isSo_103 : decode cL_isSo 103 = .ok (.istore 13, 2) := by decide +kernel
theorem dL_isSo_105 : decode cL_isSo 105 = .ok (.iconst 0, 1) := by decide +kernel
theorem dL_isSo_106 : decode cL_isSo 106 = .ok (.istore 14, 2) := by decide +kernel
theorem dL_isSo_108 : decode cL_isSo 108 = .ok (.iload 14, 2) := by decide +kernel
theorem dL_isSo_110 : decode cL_isSo 110 = .ok (.iconst 4, 1) := by decide +kernel
theorem dL_isSo_111 : decode cL_isSo 111 = .ok (.if_icmp .ge 204, 3) := by decide +kernel
theorem dL_isSo_114 : decode cL_isSo 114 = .ok (.aload_n 1, 1) := by decide +kernel
theorem dL_isSo_115 : decode cL_isSo 115 = .ok (.iload 10, 2) := by decide +kernel
theorem dL_isSo_117 : decode cL_isSo 117 = .ok (.iload 14, 2) := by decide +kernel
theorem dL_isSo_119 : decode cL_isSo 119 = .ok (.invokestatic 89, 3) := by decide +kernel
theorem dL_isSo_122 : decode cL_isSo 122 = .ok (.istore 15, 2) := by decide +kernel
theorem dL_isSo_124 : decode cL_isSo 124 = .ok (.iload 9, 2) := by decide +kernel
theorem dL_isSo_126 : decode cL_isSo 126 = .ok (.ifCond .eq 20, 3) := by decide +kernel
theorem dL_isSo_129 : decode cL_isSo 129 = .ok (.aload_n 0, 1) := by decide +kernel
theorem dL_isSo_130 : decode cL_isSo 130 = .ok (.iload 10, 2) := by decide +kernel
theorem dL_isSo_132 : decode cL_isSo 132 = .ok (.iload 14, 2) := by decide +kernel
theorem dL_isSo_134 : decode cL_isSo 134 = .ok (.invokevirtual 105, 3) := by decide +kernel
theorem dL_isSo_137 : decode cL_isSo 137 = .ok (.iload 15, 2) := by decide +kernel
theorem dL_isSo_139 : decode cL_isSo 139 = .ok (.if_icmp .ne 7, 3) := by decide +kernel
theorem dL_isSo_142 : decode cL_isSo 142 = .ok (.iconst 1, 1) := by decide +kernel
theorem dL_isSo_143 : decode cL_isSo 143 = .ok (.goto 4, 3) := by decide +kernel
theorem dL_isSo_146 : decode cL_isSo 146 = .ok (.iconst 0, 1) := by decide +kernel
theorem dL_isSo_147 : decode cL_isSo 147 = .ok (.istore 9, 2) := by decide +kernel
theorem dL_isSo_149 : decode cL_isSo 149 = .ok (.iload 11, 2) := by decide +kernel
theorem dL_isSo_151 : decode cL_isSo 151 = .ok (.iload 15, 2) := by decide +kernel
theorem dL_isSo_153 : decode cL_isSo 153 = .ok (.ifCond .lt 7, 3) := by decide +kernel
theorem dL_isSo_156 : decode cL_isSo 156 = .ok (.iconst 1, 1) := by decide +kernel
theorem dL_isSo_157 : decode cL_isSo 157 = .ok (.goto 4, 3) := by decide +kernel
theorem dL_isSo_160 : decode cL_isSo 160 = .ok (.iconst 0, 1) := by decide +kernel
theorem dL_isSo_161 : decode cL_isSo 161 = .ok (.iadd, 1) := by decide +kernel
theorem dL_isSo_162 : decode cL_isSo 162 = .ok (.istore 11, 2) := by decide +kernel
theorem dL_isSo_164 : decode cL_isSo 164 = .ok (.iload 12, 2) := by decide +kernel
theorem dL_isSo_166 : decode cL_isSo 166 = .ok (.iload 15, 2) := by decide +kernel
theorem dL_isSo_168 : decode cL_isSo 168 = .ok (.ifCond .lt 19, 3) := by decide +kernel
theorem dL_isSo_171 : decode cL_isSo 171 = .ok (.aload_n 1, 1) := by decide +kernel
theorem dL_isSo_172 : decode cL_isSo 172 = .ok (.iconst 4, 1) := by decide +kernel
theorem dL_isSo_173 : decode cL_isSo 173 = .ok (.iaload, 1) := by decide +kernel
theorem dL_isSo_174 : decode cL_isSo 174 = .ok (.iload 15, 2) := by decide +kernel
theorem dL_isSo_176 : decode cL_isSo 176 = .ok (.ishr, 1) := by decide +kernel
theorem dL_isSo_177 : decode cL_isSo 177 = .ok (.iconst 1, 1) := by decide +kernel
theorem dL_isSo_178 : decode cL_isSo 178 = .ok (.iand, 1) := by decide +kernel
theorem dL_isSo_179 : decode cL_isSo 179 = .ok (.iconst 1, 1) := by decide +kernel
theorem dL_isSo_180 : decode cL_isSo 180 = .ok (.if_icmp .ne 7, 3) := by decide +kernel
theorem dL_isSo_183 : decode cL_isSo 183 = .ok (.iconst 1, 1) := by decide +kernel
theorem dL_isSo_184 : decode cL_isSo 184 = .ok (.goto 4, 3) := by decide +kernel
theorem dL_isSo_187 : decode cL_isSo 187 = .ok (.iconst 0, 1) := by decide +kernel
theorem dL_isSo_188 : decode cL_isSo 188 = .ok (.iadd, 1) := by decide +kernel
theorem dL_isSo_189 : decode cL_isSo 189 = .ok (.istore 12, 2) := by decide +kernel
theorem dL_isSo_191 : decode cL_isSo 191 = .ok (.iconst 0, 1) := by decide +kernel
theorem dL_isSo_192 : decode cL_isSo 192 = .ok (.istore 16, 2) := by decide +kernel
theorem dL_isSo_194 : decode cL_isSo 194 = .ok (.iload 16, 2) := by decide +kernel
