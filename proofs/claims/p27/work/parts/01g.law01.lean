theorem dL_cell_0 : decode cL_cell 0 = .ok (.iload_n 1, 1) := by decide +kernel
theorem dL_cell_1 : decode cL_cell 1 = .ok (.aload_n 0, 1) := by decide +kernel
theorem dL_cell_2 : decode cL_cell 2 = .ok (.arraylength, 1) := by decide +kernel
theorem dL_cell_3 : decode cL_cell 3 = .ok (.if_icmp .ge 9, 3) := by decide +kernel
theorem dL_cell_6 : decode cL_cell 6 = .ok (.aload_n 0, 1) := by decide +kernel
theorem dL_cell_7 : decode cL_cell 7 = .ok (.iload_n 1, 1) := by decide +kernel
theorem dL_cell_8 : decode cL_cell 8 = .ok (.iaload, 1) := by decide +kernel
theorem dL_cell_9 : decode cL_cell 9 = .ok (.goto 9, 3) := by decide +kernel
theorem dL_cell_12 : decode cL_cell 12 = .ok (.ldc 7, 2) := by decide +kernel
theorem dL_cell_14 : decode cL_cell 14 = .ok (.iload_n 1, 1) := by decide +kernel
theorem dL_cell_15 : decode cL_cell 15 = .ok (.iconst 3, 1) := by decide +kernel
theorem dL_cell_16 : decode cL_cell 16 = .ok (.iadd, 1) := by decide +kernel
theorem dL_cell_17 : decode cL_cell 17 = .ok (.imul, 1) := by decide +kernel
theorem dL_cell_18 : decode cL_cell 18 = .ok (.ireturn, 1) := by decide +kernel
theorem dL_low_0 : decode cL_low 0 = .ok (.iload_n 0, 1) := by decide +kernel
theorem dL_low_1 : decode cL_low 1 = .ok (.ldc 8, 2) := by decide +kernel
theorem dL_low_3 : decode cL_low 3 = .ok (.iand, 1) := by decide +kernel
theorem dL_low_4 : decode cL_low 4 = .ok (.iload_n 1, 1) := by decide +kernel
theorem dL_low_5 : decode cL_low 5 = .ok (.irem, 1) := by decide +kernel
theorem dL_low_6 : decode cL_low 6 = .ok (.ireturn, 1) := by decide +kernel
theorem dL_power_0 : decode cL_power 0 = .ok (.lconst 1, 1) := by decide +kernel
theorem dL_power_1 : decode cL_power 1 = .ok (.lstore_n 2, 1) := by decide +kernel
theorem dL_power_2 : decode cL_power 2 = .ok (.iconst 0, 1) := by decide +kernel
theorem dL_power_3 : decode cL_power 3 = .ok (.istore 4, 2) := by decide +kernel
theorem dL_power_5 : decode cL_power 5 = .ok (.iload 4, 2) := by decide +kernel
theorem dL_power_7 : decode cL_power 7 = .ok (.iload_n 1, 1) := by decide +kernel
theorem dL_power_8 : decode cL_power 8 = .ok (.if_icmp .ge 14, 3) := by decide +kernel
theorem dL_power_11 : decode cL_power 11 = .ok (.lload_n 2, 1) := by decide +kernel
theorem dL_power_12 : decode cL_power 12 = .ok (.iload_n 0, 1) := by decide +kernel
theorem dL_power_13 : decode cL_power 13 = .ok (.i2l, 1) := by decide +kernel
theorem dL_power_14 : decode cL_power 14 = .ok (.lmul, 1) := by decide +kernel
theorem dL_power_15 : decode cL_power 15 = .ok (.lstore_n 2, 1) := by decide +kernel
theorem dL_power_16 : decode cL_power 16 = .ok (.iinc 4 1, 3) := by decide +kernel
theorem dL_power_19 : decode cL_power 19 = .ok (.goto (-14), 3) := by decide +kernel
theorem dL_power_22 : decode cL_power 22 = .ok (.lload_n 2, 1) := by decide +kernel
theorem dL_power_23 : decode cL_power 23 = .ok (.lreturn, 1) := by decide +kernel
theorem dL_digit_0 : decode cL_digit 0 = .ok (.lload_n 0, 1) := by decide +kernel
theorem dL_digit_1 : decode cL_digit 1 = .ok (.iload_n 2, 1) := by decide +kernel
theorem dL_digit_2 : decode cL_digit 2 = .ok (.iload_n 3, 1) := by decide +kernel
theorem dL_digit_3 : decode cL_digit 3 = .ok (.invokestatic 9, 3) := by decide +kernel
theorem dL_digit_6 : decode cL_digit 6 = .ok (.ldiv, 1) := by decide +kernel
theorem dL_digit_7 : decode cL_digit 7 = .ok (.iload_n 2, 1) := by decide +kernel
theorem dL_digit_8 : decode cL_digit 8 = .ok (.i2l, 1) := by decide +kernel
theorem dL_digit_9 : decode cL_digit 9 = .ok (.lrem, 1) := by decide +kernel
theorem dL_digit_10 : decode cL_digit 10 = .ok (.l2i, 1) := by decide +kernel
theorem dL_digit_11 : decode cL_digit 11 = .ok (.ireturn, 1) := by decide +kernel
theorem dL_means_0 : decode cL_means 0 = .ok (.aload_n 0, 1) := by decide +kernel
theorem dL_means_1 : decode cL_means 1 = .ok (.iconst 4, 1) := by decide +kernel
theorem dL_means_2 : decode cL_means 2 = .ok (.iload_n 2, 1) := by decide +kernel
theorem dL_means_3 : decode cL_means 3 = .ok (.imul, 1) := by decide +kernel
theorem dL_means_4 : decode cL_means 4 = .ok (.iload_n 3, 1) := by decide +kernel
theorem dL_means_5 : decode cL_means 5 = .ok (.iadd, 1) := by decide +kernel
theorem dL_means_6 : decode cL_means 6 = .ok (.laload, 1) := by decide +kernel
theorem dL_means_7 : decode cL_means 7 = .ok (.bipush 11, 2) := by decide +kernel
theorem dL_means_9 : decode cL_means 9 = .ok (.iload 4, 2) := by decide +kernel
theorem dL_means_11 : decode cL_means 11 = .ok (.invokestatic 15, 3) := by decide +kernel
theorem dL_means_14 : decode cL_means 14 = .ok (.istore 5, 2) := by decide +kernel
theorem dL_means_16 : decode cL_means 16 = .ok (.iload 5, 2) := by decide +kernel
theorem dL_means_18 : decode cL_means 18 = .ok (.bipush 10, 2) := by decide +kernel
theorem dL_means_20 : decode cL_means 20 = .ok (.if_icmp .ne 8, 3) := by decide +kernel
theorem dL_means_23 : decode cL_means 23 = .ok (.bipush 10, 2) := by decide +kernel
theorem dL_means_25 : decode cL_means 25 = .ok (.goto 13, 3) := by decide +kernel
theorem dL_means_28 : decode cL_means 28 = .ok (.aload_n 1, 1) := by decide +kernel
theorem dL_means_29 : decode cL_means 29 = .ok (.iload_n 2, 1) := by decide +kernel
theorem dL_means_30 : decode cL_means 30 = .ok (.laload, 1) := by decide +kernel
theorem dL_means_31 : decode cL_means 31 = .ok (.bipush 10, 2) := by decide +kernel
theorem dL_means_33 : decode cL_means 33 = .ok (.iload 5, 2) := by decide +kernel
theorem dL_means_35 : decode cL_means 35 = .ok (.invokestatic 15, 3) := by decide +kernel
theorem dL_means_38 : decode cL_means 38 = .ok (.ireturn, 1) := by decide +kernel
theorem dL_edge_0 : decode cL_edge 0 = .ok (.iload_n 1, 1) := by decide +kernel
theorem dL_edge_1 : decode cL_edge 1 = .ok (.istore_n 2, 1) := by decide +kernel
theorem dL_edge_2 : decode cL_edge 2 = .ok (.iconst 0, 1) := by decide +kernel
theorem dL_edge_3 : decode cL_edge 3 = .ok (.istore_n 3, 1) := by decide +kernel
theorem dL_edge_4 : decode cL_edge 4 = .ok (.iload_n 3, 1) := by decide +kernel
theorem dL_edge_5 : decode cL_edge 5 = .ok (.iconst 2, 1) := by decide +kernel
theorem dL_edge_6 : decode cL_edge 6 = .ok (.aload_n 0, 1) := by decide +kernel
theorem dL_edge_7 : decode cL_edge 7 = .ok (.iconst 0, 1) := by decide +kernel
theorem dL_edge_8 : decode cL_edge 8 = .ok (.iaload, 1) := by decide +kernel
theorem dL_edge_9 : decode cL_edge 9 = .ok (.imul, 1) := by decide +kernel
theorem dL_edge_10 : decode cL_edge 10 = .ok (.aload_n 0, 1) := by decide +kernel
theorem dL_edge_11 : decode cL_edge 11 = .ok (.iconst 1, 1) := by decide +kernel
theorem dL_edge_12 : decode cL_edge 12 = .ok (.iaload, 1) := by decide +kernel
theorem dL_edge_13 : decode cL_edge 13 = .ok (.imul, 1) := by decide +kernel
theorem dL_edge_14 : decode cL_edge 14 = .ok (.if_icmp .ge 119, 3) := by decide +kernel
theorem dL_edge_17 : decode cL_edge 17 = .ok (.iload_n 3, 1) := by decide +kernel
theorem dL_edge_18 : decode cL_edge 18 = .ok (.aload_n 0, 1) := by decide +kernel
theorem dL_edge_19 : decode cL_edge 19 = .ok (.iconst 0, 1) := by decide +kernel
theorem dL_edge_20 : decode cL_edge 20 = .ok (.iaload, 1) := by decide +kernel
theorem dL_edge_21 : decode cL_edge 21 = .ok (.aload_n 0, 1) := by decide +kernel
theorem dL_edge_22 : decode cL_edge 22 = .ok (.iconst 1, 1) := by decide +kernel
theorem dL_edge_23 : decode cL_edge 23 = .ok (.iaload, 1) := by decide +kernel
theorem dL_edge_24 : decode cL_edge 24 = .ok (.imul, 1) := by decide +kernel
theorem dL_edge_25 : decode cL_edge 25 = .ok (.irem, 1) := by decide +kernel
theorem dL_edge_26 : decode cL_edge 26 = .ok (.istore 4, 2) := by decide +kernel
theorem dL_edge_28 : decode cL_edge 28 = .ok (.iload_n 3, 1) := by decide +kernel
theorem dL_edge_29 : decode cL_edge 29 = .ok (.iload 4, 2) := by decide +kernel
theorem dL_edge_31 : decode cL_edge 31 = .ok (.if_icmp .ne 7, 3) := by decide +kernel
theorem dL_edge_34 : decode cL_edge 34 = .ok (.iconst 1, 1) := by decide +kernel
theorem dL_edge_35 : decode cL_edge 35 = .ok (.goto 4, 3) := by decide +kernel
theorem dL_edge_38 : decode cL_edge 38 = .ok (.iconst 0, 1) := by decide +kernel
theorem dL_edge_39 : decode cL_edge 39 = .ok (.istore 5, 2) := by decide +kernel
theorem dL_edge_41 : decode cL_edge 41 = .ok (.iload 5, 2) := by decide +kernel
theorem dL_edge_43 : decode cL_edge 43 = .ok (.ifCond .eq 25, 3) := by decide +kernel
theorem dL_edge_46 : decode cL_edge 46 = .ok (.iload 4, 2) := by decide +kernel
theorem dL_edge_48 : decode cL_edge 48 = .ok (.aload_n 0, 1) := by decide +kernel
theorem dL_edge_49 : decode cL_edge 49 = .ok (.iconst 0, 1) := by decide +kernel
theorem dL_edge_50 : decode cL_edge 50 = .ok (.iaload, 1) := by decide +kernel
theorem dL_edge_51 : decode cL_edge 51 = .ok (.irem, 1) := by decide +kernel
theorem dL_edge_52 : decode cL_edge 52 = .ok (.iconst 1, 1) := by decide +kernel
theorem dL_edge_53 : decode cL_edge 53 = .ok (.iadd, 1) := by decide +kernel
theorem dL_edge_54 : decode cL_edge 54 = .ok (.aload_n 0, 1) := by decide +kernel
theorem dL_edge_55 : decode cL_edge 55 = .ok (.iconst 0, 1) := by decide +kernel
theorem dL_edge_56 : decode cL_edge 56 = .ok (.iaload, 1) := by decide +kernel
theorem dL_edge_57 : decode cL_edge 57 = .ok (.if_icmp .ge 7, 3) := by decide +kernel
theorem dL_edge_60 : decode cL_edge 60 = .ok (.iconst 1, 1) := by decide +kernel
theorem dL_edge_61 : decode cL_edge 61 = .ok (.goto 26, 3) := by decide +kernel
theorem dL_edge_64 : decode cL_edge 64 = .ok (.iconst 0, 1) := by decide +kernel
theorem dL_edge_65 : decode cL_edge 65 = .ok (.goto 22, 3) := by decide +kernel
theorem dL_edge_68 : decode cL_edge 68 = .ok (.iload 4, 2) := by decide +kernel
theorem dL_edge_70 : decode cL_edge 70 = .ok (.aload_n 0, 1) := by decide +kernel
theorem dL_edge_71 : decode cL_edge 71 = .ok (.iconst 0, 1) := by decide +kernel
theorem dL_edge_72 : decode cL_edge 72 = .ok (.iaload, 1) := by decide +kernel
theorem dL_edge_73 : decode cL_edge 73 = .ok (.idiv, 1) := by decide +kernel
theorem dL_edge_74 : decode cL_edge 74 = .ok (.iconst 1, 1) := by decide +kernel
theorem dL_edge_75 : decode cL_edge 75 = .ok (.iadd, 1) := by decide +kernel
theorem dL_edge_76 : decode cL_edge 76 = .ok (.aload_n 0, 1) := by decide +kernel
theorem dL_edge_77 : decode cL_edge 77 = .ok (.iconst 1, 1) := by decide +kernel
theorem dL_edge_78 : decode cL_edge 78 = .ok (.iaload, 1) := by decide +kernel
theorem dL_edge_79 : decode cL_edge 79 = .ok (.if_icmp .ge 7, 3) := by decide +kernel
theorem dL_edge_82 : decode cL_edge 82 = .ok (.iconst 1, 1) := by decide +kernel
theorem dL_edge_83 : decode cL_edge 83 = .ok (.goto 4, 3) := by decide +kernel
theorem dL_edge_86 : decode cL_edge 86 = .ok (.iconst 0, 1) := by decide +kernel
theorem dL_edge_87 : decode cL_edge 87 = .ok (.istore 6, 2) := by decide +kernel
theorem dL_edge_89 : decode cL_edge 89 = .ok (.iload 6, 2) := by decide +kernel
theorem dL_edge_91 : decode cL_edge 91 = .ok (.ifCond .eq 23, 3) := by decide +kernel
theorem dL_edge_94 : decode cL_edge 94 = .ok (.iload_n 2, 1) := by decide +kernel
theorem dL_edge_95 : decode cL_edge 95 = .ok (.ifCond .ne 19, 3) := by decide +kernel
theorem dL_edge_98 : decode cL_edge 98 = .ok (.iload 5, 2) := by decide +kernel
theorem dL_edge_100 : decode cL_edge 100 = .ok (.ifCond .eq 8, 3) := by decide +kernel
theorem dL_edge_103 : decode cL_edge 103 = .ok (.iload 4, 2) := by decide +kernel
theorem dL_edge_105 : decode cL_edge 105 = .ok (.goto 8, 3) := by decide +kernel
theorem dL_edge_108 : decode cL_edge 108 = .ok (.bipush 10, 2) := by decide +kernel
theorem dL_edge_110 : decode cL_edge 110 = .ok (.iload 4, 2) := by decide +kernel
theorem dL_edge_112 : decode cL_edge 112 = .ok (.iadd, 1) := by decide +kernel
theorem dL_edge_113 : decode cL_edge 113 = .ok (.ireturn, 1) := by decide +kernel
theorem dL_edge_114 : decode cL_edge 114 = .ok (.iload_n 2, 1) := by decide +kernel
theorem dL_edge_115 : decode cL_edge 115 = .ok (.iload 6, 2) := by decide +kernel
theorem dL_edge_117 : decode cL_edge 117 = .ok (.ifCond .eq 7, 3) := by decide +kernel
theorem dL_edge_120 : decode cL_edge 120 = .ok (.iconst 1, 1) := by decide +kernel
theorem dL_edge_121 : decode cL_edge 121 = .ok (.goto 4, 3) := by decide +kernel
theorem dL_edge_124 : decode cL_edge 124 = .ok (.iconst 0, 1) := by decide +kernel
theorem dL_edge_125 : decode cL_edge 125 = .ok (.isub, 1) := by decide +kernel
theorem dL_edge_126 : decode cL_edge 126 = .ok (.istore_n 2, 1) := by decide +kernel
theorem dL_edge_127 : decode cL_edge 127 = .ok (.iinc 3 1, 3) := by decide +kernel
theorem dL_edge_130 : decode cL_edge 130 = .ok (.goto (-126), 3) := by decide +kernel
theorem dL_edge_133 : decode cL_edge 133 = .ok (.iconst (-1), 1) := by decide +kernel
theorem dL_edge_134 : decode cL_edge 134 = .ok (.ireturn, 1) := by decide +kernel
theorem dL_other_0 : decode cL_other 0 = .ok (.iload_n 1, 1) := by decide +kernel
theorem dL_other_1 : decode cL_other 1 = .ok (.bipush 10, 2) := by decide +kernel
theorem dL_other_3 : decode cL_other 3 = .ok (.if_icmp .ge 9, 3) := by decide +kernel
theorem dL_other_6 : decode cL_other 6 = .ok (.iload_n 1, 1) := by decide +kernel
theorem dL_other_7 : decode cL_other 7 = .ok (.iconst 1, 1) := by decide +kernel
theorem dL_other_8 : decode cL_other 8 = .ok (.iadd, 1) := by decide +kernel
theorem dL_other_9 : decode cL_other 9 = .ok (.goto 11, 3) := by decide +kernel
theorem dL_other_12 : decode cL_other 12 = .ok (.iload_n 1, 1) := by decide +kernel
theorem dL_other_13 : decode cL_other 13 = .ok (.bipush 10, 2) := by decide +kernel
