theorem dL_keeps_0 : decode cL_keeps 0 = .ok (.aload_n 0, 1) := by decide +kernel
theorem dL_keeps_1 : decode cL_keeps 1 = .ok (.aload_n 2, 1) := by decide +kernel
theorem dL_keeps_2 : decode cL_keeps 2 = .ok (.aload_n 3, 1) := by decide +kernel
theorem dL_keeps_3 : decode cL_keeps 3 = .ok (.invokestatic 40, 3) := by decide +kernel
theorem dL_keeps_6 : decode cL_keeps 6 = .ok (.istore 9, 2) := by decide +kernel
theorem dL_keeps_8 : decode cL_keeps 8 = .ok (.iload 9, 2) := by decide +kernel
theorem dL_keeps_10 : decode cL_keeps 10 = .ok (.ifCond .le 48, 3) := by decide +kernel
theorem dL_keeps_13 : decode cL_keeps 13 = .ok (.aload_n 0, 1) := by decide +kernel
theorem dL_keeps_14 : decode cL_keeps 14 = .ok (.iconst 2, 1) := by decide +kernel
theorem dL_keeps_15 : decode cL_keeps 15 = .ok (.iaload, 1) := by decide +kernel
theorem dL_keeps_16 : decode cL_keeps 16 = .ok (.iconst 1, 1) := by decide +kernel
theorem dL_keeps_17 : decode cL_keeps 17 = .ok (.if_icmp .ne 41, 3) := by decide +kernel
theorem dL_keeps_20 : decode cL_keeps 20 = .ok (.aload_n 2, 1) := by decide +kernel
theorem dL_keeps_21 : decode cL_keeps 21 = .ok (.iload 5, 2) := by decide +kernel
theorem dL_keeps_23 : decode cL_keeps 23 = .ok (.iload 8, 2) := by decide +kernel
theorem dL_keeps_25 : decode cL_keeps 25 = .ok (.ifCond .eq 10, 3) := by decide +kernel
theorem dL_keeps_28 : decode cL_keeps 28 = .ok (.aload_n 2, 1) := by decide +kernel
theorem dL_keeps_29 : decode cL_keeps 29 = .ok (.iload 5, 2) := by decide +kernel
theorem dL_keeps_31 : decode cL_keeps 31 = .ok (.laload, 1) := by decide +kernel
theorem dL_keeps_32 : decode cL_keeps 32 = .ok (.goto 5, 3) := by decide +kernel
theorem dL_keeps_35 : decode cL_keeps 35 = .ok (.lload 6, 2) := by decide +kernel
theorem dL_keeps_37 : decode cL_keeps 37 = .ok (.lastore, 1) := by decide +kernel
theorem dL_keeps_38 : decode cL_keeps 38 = .ok (.aload_n 3, 1) := by decide +kernel
theorem dL_keeps_39 : decode cL_keeps 39 = .ok (.iload 4, 2) := by decide +kernel
theorem dL_keeps_41 : decode cL_keeps 41 = .ok (.iload 8, 2) := by decide +kernel
theorem dL_keeps_43 : decode cL_keeps 43 = .ok (.ifCond .eq 8, 3) := by decide +kernel
theorem dL_keeps_46 : decode cL_keeps 46 = .ok (.lload 6, 2) := by decide +kernel
theorem dL_keeps_48 : decode cL_keeps 48 = .ok (.goto 7, 3) := by decide +kernel
theorem dL_keeps_51 : decode cL_keeps 51 = .ok (.aload_n 3, 1) := by decide +kernel
theorem dL_keeps_52 : decode cL_keeps 52 = .ok (.iload 4, 2) := by decide +kernel
theorem dL_keeps_54 : decode cL_keeps 54 = .ok (.laload, 1) := by decide +kernel
theorem dL_keeps_55 : decode cL_keeps 55 = .ok (.lastore, 1) := by decide +kernel
theorem dL_keeps_56 : decode cL_keeps 56 = .ok (.iconst 0, 1) := by decide +kernel
theorem dL_keeps_57 : decode cL_keeps 57 = .ok (.ireturn, 1) := by decide +kernel
theorem dL_keeps_58 : decode cL_keeps 58 = .ok (.aload_n 0, 1) := by decide +kernel
theorem dL_keeps_59 : decode cL_keeps 59 = .ok (.iconst 4, 1) := by decide +kernel
theorem dL_keeps_60 : decode cL_keeps 60 = .ok (.dup2, 1) := by decide +kernel
theorem dL_keeps_61 : decode cL_keeps 61 = .ok (.iaload, 1) := by decide +kernel
theorem dL_keeps_62 : decode cL_keeps 62 = .ok (.iload 9, 2) := by decide +kernel
theorem dL_keeps_64 : decode cL_keeps 64 = .ok (.iconst (-1), 1) := by decide +kernel
theorem dL_keeps_65 : decode cL_keeps 65 = .ok (.ixor, 1) := by decide +kernel
theorem dL_keeps_66 : decode cL_keeps 66 = .ok (.iand, 1) := by decide +kernel
theorem dL_keeps_67 : decode cL_keeps 67 = .ok (.iastore, 1) := by decide +kernel
theorem dL_keeps_68 : decode cL_keeps 68 = .ok (.aload_n 1, 1) := by decide +kernel
theorem dL_keeps_69 : decode cL_keeps 69 = .ok (.iload 4, 2) := by decide +kernel
theorem dL_keeps_71 : decode cL_keeps 71 = .ok (.dup2, 1) := by decide +kernel
theorem dL_keeps_72 : decode cL_keeps 72 = .ok (.iaload, 1) := by decide +kernel
theorem dL_keeps_73 : decode cL_keeps 73 = .ok (.iconst 1, 1) := by decide +kernel
theorem dL_keeps_74 : decode cL_keeps 74 = .ok (.iadd, 1) := by decide +kernel
theorem dL_keeps_75 : decode cL_keeps 75 = .ok (.iastore, 1) := by decide +kernel
theorem dL_keeps_76 : decode cL_keeps 76 = .ok (.iconst 1, 1) := by decide +kernel
theorem dL_keeps_77 : decode cL_keeps 77 = .ok (.ireturn, 1) := by decide +kernel
theorem dL_edgeAt_0 : decode cL_edgeAt 0 = .ok (.bipush (-4), 2) := by decide +kernel
theorem dL_edgeAt_2 : decode cL_edgeAt 2 = .ok (.istore_n 3, 1) := by decide +kernel
theorem dL_edgeAt_3 : decode cL_edgeAt 3 = .ok (.iconst 0, 1) := by decide +kernel
theorem dL_edgeAt_4 : decode cL_edgeAt 4 = .ok (.istore 4, 2) := by decide +kernel
theorem dL_edgeAt_6 : decode cL_edgeAt 6 = .ok (.aload_n 0, 1) := by decide +kernel
theorem dL_edgeAt_7 : decode cL_edgeAt 7 = .ok (.iload 4, 2) := by decide +kernel
theorem dL_edgeAt_9 : decode cL_edgeAt 9 = .ok (.invokestatic 31, 3) := by decide +kernel
theorem dL_edgeAt_12 : decode cL_edgeAt 12 = .ok (.ifCond .lt 122, 3) := by decide +kernel
theorem dL_edgeAt_15 : decode cL_edgeAt 15 = .ok (.aload_n 0, 1) := by decide +kernel
theorem dL_edgeAt_16 : decode cL_edgeAt 16 = .ok (.iload 4, 2) := by decide +kernel
theorem dL_edgeAt_18 : decode cL_edgeAt 18 = .ok (.invokestatic 31, 3) := by decide +kernel
theorem dL_edgeAt_21 : decode cL_edgeAt 21 = .ok (.istore 5, 2) := by decide +kernel
theorem dL_edgeAt_23 : decode cL_edgeAt 23 = .ok (.iload_n 2, 1) := by decide +kernel
theorem dL_edgeAt_24 : decode cL_edgeAt 24 = .ok (.iconst 1, 1) := by decide +kernel
theorem dL_edgeAt_25 : decode cL_edgeAt 25 = .ok (.if_icmp .ne 17, 3) := by decide +kernel
theorem dL_edgeAt_28 : decode cL_edgeAt 28 = .ok (.iload 5, 2) := by decide +kernel
theorem dL_edgeAt_30 : decode cL_edgeAt 30 = .ok (.iload_n 1, 1) := by decide +kernel
theorem dL_edgeAt_31 : decode cL_edgeAt 31 = .ok (.if_icmp .ne 7, 3) := by decide +kernel
theorem dL_edgeAt_34 : decode cL_edgeAt 34 = .ok (.iconst 1, 1) := by decide +kernel
theorem dL_edgeAt_35 : decode cL_edgeAt 35 = .ok (.goto 79, 3) := by decide +kernel
theorem dL_edgeAt_38 : decode cL_edgeAt 38 = .ok (.iconst 0, 1) := by decide +kernel
theorem dL_edgeAt_39 : decode cL_edgeAt 39 = .ok (.goto 75, 3) := by decide +kernel
theorem dL_edgeAt_42 : decode cL_edgeAt 42 = .ok (.iload_n 2, 1) := by decide +kernel
theorem dL_edgeAt_43 : decode cL_edgeAt 43 = .ok (.iconst 2, 1) := by decide +kernel
theorem dL_edgeAt_44 : decode cL_edgeAt 44 = .ok (.if_icmp .ne 20, 3) := by decide +kernel
theorem dL_edgeAt_47 : decode cL_edgeAt 47 = .ok (.iload 5, 2) := by decide +kernel
theorem dL_edgeAt_49 : decode cL_edgeAt 49 = .ok (.bipush 10, 2) := by decide +kernel
theorem dL_edgeAt_51 : decode cL_edgeAt 51 = .ok (.iload_n 1, 1) := by decide +kernel
theorem dL_edgeAt_52 : decode cL_edgeAt 52 = .ok (.iadd, 1) := by decide +kernel
theorem dL_edgeAt_53 : decode cL_edgeAt 53 = .ok (.if_icmp .ne 7, 3) := by decide +kernel
theorem dL_edgeAt_56 : decode cL_edgeAt 56 = .ok (.iconst 1, 1) := by decide +kernel
theorem dL_edgeAt_57 : decode cL_edgeAt 57 = .ok (.goto 57, 3) := by decide +kernel
theorem dL_edgeAt_60 : decode cL_edgeAt 60 = .ok (.iconst 0, 1) := by decide +kernel
theorem dL_edgeAt_61 : decode cL_edgeAt 61 = .ok (.goto 53, 3) := by decide +kernel
theorem dL_edgeAt_64 : decode cL_edgeAt 64 = .ok (.iload_n 2, 1) := by decide +kernel
theorem dL_edgeAt_65 : decode cL_edgeAt 65 = .ok (.iconst 3, 1) := by decide +kernel
theorem dL_edgeAt_66 : decode cL_edgeAt 66 = .ok (.if_icmp .ne 26, 3) := by decide +kernel
theorem dL_edgeAt_69 : decode cL_edgeAt 69 = .ok (.iload 5, 2) := by decide +kernel
theorem dL_edgeAt_71 : decode cL_edgeAt 71 = .ok (.bipush 10, 2) := by decide +kernel
theorem dL_edgeAt_73 : decode cL_edgeAt 73 = .ok (.if_icmp .ge 15, 3) := by decide +kernel
theorem dL_edgeAt_76 : decode cL_edgeAt 76 = .ok (.iload 5, 2) := by decide +kernel
theorem dL_edgeAt_78 : decode cL_edgeAt 78 = .ok (.iconst 1, 1) := by decide +kernel
theorem dL_edgeAt_79 : decode cL_edgeAt 79 = .ok (.iadd, 1) := by decide +kernel
theorem dL_edgeAt_80 : decode cL_edgeAt 80 = .ok (.iload_n 1, 1) := by decide +kernel
theorem dL_edgeAt_81 : decode cL_edgeAt 81 = .ok (.if_icmp .ne 7, 3) := by decide +kernel
theorem dL_edgeAt_84 : decode cL_edgeAt 84 = .ok (.iconst 1, 1) := by decide +kernel
theorem dL_edgeAt_85 : decode cL_edgeAt 85 = .ok (.goto 29, 3) := by decide +kernel
theorem dL_edgeAt_88 : decode cL_edgeAt 88 = .ok (.iconst 0, 1) := by decide +kernel
theorem dL_edgeAt_89 : decode cL_edgeAt 89 = .ok (.goto 25, 3) := by decide +kernel
theorem dL_edgeAt_92 : decode cL_edgeAt 92 = .ok (.iload 5, 2) := by decide +kernel
theorem dL_edgeAt_94 : decode cL_edgeAt 94 = .ok (.bipush 9, 2) := by decide +kernel
theorem dL_edgeAt_96 : decode cL_edgeAt 96 = .ok (.if_icmp .le 17, 3) := by decide +kernel
theorem dL_edgeAt_99 : decode cL_edgeAt 99 = .ok (.aload_n 0, 1) := by decide +kernel
theorem dL_edgeAt_100 : decode cL_edgeAt 100 = .ok (.iload 5, 2) := by decide +kernel
theorem dL_edgeAt_102 : decode cL_edgeAt 102 = .ok (.invokestatic 23, 3) := by decide +kernel
theorem dL_edgeAt_105 : decode cL_edgeAt 105 = .ok (.iload_n 1, 1) := by decide +kernel
theorem dL_edgeAt_106 : decode cL_edgeAt 106 = .ok (.if_icmp .ne 7, 3) := by decide +kernel
theorem dL_edgeAt_109 : decode cL_edgeAt 109 = .ok (.iconst 1, 1) := by decide +kernel
theorem dL_edgeAt_110 : decode cL_edgeAt 110 = .ok (.goto 4, 3) := by decide +kernel
theorem dL_edgeAt_113 : decode cL_edgeAt 113 = .ok (.iconst 0, 1) := by decide +kernel
theorem dL_edgeAt_114 : decode cL_edgeAt 114 = .ok (.istore 6, 2) := by decide +kernel
theorem dL_edgeAt_116 : decode cL_edgeAt 116 = .ok (.iload 6, 2) := by decide +kernel
theorem dL_edgeAt_118 : decode cL_edgeAt 118 = .ok (.ifCond .eq 8, 3) := by decide +kernel
theorem dL_edgeAt_121 : decode cL_edgeAt 121 = .ok (.iload 4, 2) := by decide +kernel
theorem dL_edgeAt_123 : decode cL_edgeAt 123 = .ok (.goto 4, 3) := by decide +kernel
theorem dL_edgeAt_126 : decode cL_edgeAt 126 = .ok (.iload_n 3, 1) := by decide +kernel
theorem dL_edgeAt_127 : decode cL_edgeAt 127 = .ok (.istore_n 3, 1) := by decide +kernel
theorem dL_edgeAt_128 : decode cL_edgeAt 128 = .ok (.iinc 4 1, 3) := by decide +kernel
theorem dL_edgeAt_131 : decode cL_edgeAt 131 = .ok (.goto (-125), 3) := by decide +kernel
theorem dL_edgeAt_134 : decode cL_edgeAt 134 = .ok (.iload_n 3, 1) := by decide +kernel
theorem dL_edgeAt_135 : decode cL_edgeAt 135 = .ok (.ireturn, 1) := by decide +kernel
theorem dL_acts_0 : decode cL_acts 0 = .ok (.iload 5, 2) := by decide +kernel
theorem dL_acts_2 : decode cL_acts 2 = .ok (.iconst 5, 1) := by decide +kernel
theorem dL_acts_3 : decode cL_acts 3 = .ok (.ishr, 1) := by decide +kernel
theorem dL_acts_4 : decode cL_acts 4 = .ok (.ldc 44, 2) := by decide +kernel
theorem dL_acts_6 : decode cL_acts 6 = .ok (.invokestatic 45, 3) := by decide +kernel
theorem dL_acts_9 : decode cL_acts 9 = .ok (.istore 6, 2) := by decide +kernel
theorem dL_acts_11 : decode cL_acts 11 = .ok (.aload_n 1, 1) := by decide +kernel
theorem dL_acts_12 : decode cL_acts 12 = .ok (.iconst 0, 1) := by decide +kernel
theorem dL_acts_13 : decode cL_acts 13 = .ok (.iaload, 1) := by decide +kernel
theorem dL_acts_14 : decode cL_acts 14 = .ok (.aload_n 1, 1) := by decide +kernel
theorem dL_acts_15 : decode cL_acts 15 = .ok (.iconst 1, 1) := by decide +kernel
theorem dL_acts_16 : decode cL_acts 16 = .ok (.iaload, 1) := by decide +kernel
theorem dL_acts_17 : decode cL_acts 17 = .ok (.imul, 1) := by decide +kernel
theorem dL_acts_18 : decode cL_acts 18 = .ok (.istore 7, 2) := by decide +kernel
theorem dL_acts_20 : decode cL_acts 20 = .ok (.iload 6, 2) := by decide +kernel
theorem dL_acts_22 : decode cL_acts 22 = .ok (.iload 7, 2) := by decide +kernel
theorem dL_acts_24 : decode cL_acts 24 = .ok (.irem, 1) := by decide +kernel
theorem dL_acts_25 : decode cL_acts 25 = .ok (.istore 8, 2) := by decide +kernel
theorem dL_acts_27 : decode cL_acts 27 = .ok (.iload 6, 2) := by decide +kernel
theorem dL_acts_29 : decode cL_acts 29 = .ok (.bipush 6, 2) := by decide +kernel
theorem dL_acts_31 : decode cL_acts 31 = .ok (.idiv, 1) := by decide +kernel
theorem dL_acts_32 : decode cL_acts 32 = .ok (.iconst 4, 1) := by decide +kernel
theorem dL_acts_33 : decode cL_acts 33 = .ok (.irem, 1) := by decide +kernel
theorem dL_acts_34 : decode cL_acts 34 = .ok (.istore 9, 2) := by decide +kernel
theorem dL_acts_36 : decode cL_acts 36 = .ok (.iload 6, 2) := by decide +kernel
theorem dL_acts_38 : decode cL_acts 38 = .ok (.bipush 24, 2) := by decide +kernel
theorem dL_acts_40 : decode cL_acts 40 = .ok (.idiv, 1) := by decide +kernel
theorem dL_acts_41 : decode cL_acts 41 = .ok (.bipush 10, 2) := by decide +kernel
theorem dL_acts_43 : decode cL_acts 43 = .ok (.irem, 1) := by decide +kernel
theorem dL_acts_44 : decode cL_acts 44 = .ok (.istore 10, 2) := by decide +kernel
theorem dL_acts_46 : decode cL_acts 46 = .ok (.iconst 4, 1) := by decide +kernel
theorem dL_acts_47 : decode cL_acts 47 = .ok (.iload 8, 2) := by decide +kernel
theorem dL_acts_49 : decode cL_acts 49 = .ok (.imul, 1) := by decide +kernel
theorem dL_acts_50 : decode cL_acts 50 = .ok (.iload 9, 2) := by decide +kernel
theorem dL_acts_52 : decode cL_acts 52 = .ok (.iadd, 1) := by decide +kernel
theorem dL_acts_53 : decode cL_acts 53 = .ok (.istore 11, 2) := by decide +kernel
theorem dL_acts_55 : decode cL_acts 55 = .ok (.iconst 0, 1) := by decide +kernel
theorem dL_acts_56 : decode cL_acts 56 = .ok (.istore 12, 2) := by decide +kernel
theorem dL_acts_58 : decode cL_acts 58 = .ok (.aload_n 1, 1) := by decide +kernel
theorem dL_acts_59 : decode cL_acts 59 = .ok (.iload 12, 2) := by decide +kernel
theorem dL_acts_61 : decode cL_acts 61 = .ok (.invokestatic 31, 3) := by decide +kernel
theorem dL_acts_64 : decode cL_acts 64 = .ok (.ifCond .lt 9, 3) := by decide +kernel
theorem dL_acts_67 : decode cL_acts 67 = .ok (.iinc 12 1, 3) := by decide +kernel
