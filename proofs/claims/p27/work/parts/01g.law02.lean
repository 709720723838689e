theorem dL_other_15 : decode cL_other 15 = .ok (.isub, 1) := by decide +kernel
theorem dL_other_16 : decode cL_other 16 = .ok (.aload_n 0, 1) := by decide +kernel
theorem dL_other_17 : decode cL_other 17 = .ok (.iconst 0, 1) := by decide +kernel
theorem dL_other_18 : decode cL_other 18 = .ok (.iaload, 1) := by decide +kernel
theorem dL_other_19 : decode cL_other 19 = .ok (.iadd, 1) := by decide +kernel
theorem dL_other_20 : decode cL_other 20 = .ok (.ireturn, 1) := by decide +kernel
theorem dL_reason_0 : decode cL_reason 0 = .ok (.aload_n 1, 1) := by decide +kernel
theorem dL_reason_1 : decode cL_reason 1 = .ok (.aload_n 2, 1) := by decide +kernel
theorem dL_reason_2 : decode cL_reason 2 = .ok (.iload_n 3, 1) := by decide +kernel
theorem dL_reason_3 : decode cL_reason 3 = .ok (.bipush 10, 2) := by decide +kernel
theorem dL_reason_5 : decode cL_reason 5 = .ok (.irem, 1) := by decide +kernel
theorem dL_reason_6 : decode cL_reason 6 = .ok (.iload_n 3, 1) := by decide +kernel
theorem dL_reason_7 : decode cL_reason 7 = .ok (.bipush 10, 2) := by decide +kernel
theorem dL_reason_9 : decode cL_reason 9 = .ok (.if_icmp .ge 7, 3) := by decide +kernel
theorem dL_reason_12 : decode cL_reason 12 = .ok (.iconst 1, 1) := by decide +kernel
theorem dL_reason_13 : decode cL_reason 13 = .ok (.goto 4, 3) := by decide +kernel
theorem dL_reason_16 : decode cL_reason 16 = .ok (.iconst 2, 1) := by decide +kernel
theorem dL_reason_17 : decode cL_reason 17 = .ok (.iload 4, 2) := by decide +kernel
theorem dL_reason_19 : decode cL_reason 19 = .ok (.invokestatic 19, 3) := by decide +kernel
theorem dL_reason_22 : decode cL_reason 22 = .ok (.istore 5, 2) := by decide +kernel
theorem dL_reason_24 : decode cL_reason 24 = .ok (.aload_n 1, 1) := by decide +kernel
theorem dL_reason_25 : decode cL_reason 25 = .ok (.aload_n 2, 1) := by decide +kernel
theorem dL_reason_26 : decode cL_reason 26 = .ok (.aload_n 0, 1) := by decide +kernel
theorem dL_reason_27 : decode cL_reason 27 = .ok (.iload_n 3, 1) := by decide +kernel
theorem dL_reason_28 : decode cL_reason 28 = .ok (.invokestatic 23, 3) := by decide +kernel
theorem dL_reason_31 : decode cL_reason 31 = .ok (.iload_n 3, 1) := by decide +kernel
theorem dL_reason_32 : decode cL_reason 32 = .ok (.bipush 10, 2) := by decide +kernel
theorem dL_reason_34 : decode cL_reason 34 = .ok (.if_icmp .ge 7, 3) := by decide +kernel
theorem dL_reason_37 : decode cL_reason 37 = .ok (.iconst 3, 1) := by decide +kernel
theorem dL_reason_38 : decode cL_reason 38 = .ok (.goto 4, 3) := by decide +kernel
theorem dL_reason_41 : decode cL_reason 41 = .ok (.iconst 0, 1) := by decide +kernel
theorem dL_reason_42 : decode cL_reason 42 = .ok (.iload 4, 2) := by decide +kernel
theorem dL_reason_44 : decode cL_reason 44 = .ok (.invokestatic 19, 3) := by decide +kernel
theorem dL_reason_47 : decode cL_reason 47 = .ok (.istore 6, 2) := by decide +kernel
theorem dL_reason_49 : decode cL_reason 49 = .ok (.iload 5, 2) := by decide +kernel
theorem dL_reason_51 : decode cL_reason 51 = .ok (.iload 6, 2) := by decide +kernel
theorem dL_reason_53 : decode cL_reason 53 = .ok (.if_icmp .ne 7, 3) := by decide +kernel
theorem dL_reason_56 : decode cL_reason 56 = .ok (.iconst 0, 1) := by decide +kernel
theorem dL_reason_57 : decode cL_reason 57 = .ok (.goto 22, 3) := by decide +kernel
theorem dL_reason_60 : decode cL_reason 60 = .ok (.iload 5, 2) := by decide +kernel
theorem dL_reason_62 : decode cL_reason 62 = .ok (.bipush 10, 2) := by decide +kernel
theorem dL_reason_64 : decode cL_reason 64 = .ok (.if_icmp .eq 10, 3) := by decide +kernel
theorem dL_reason_67 : decode cL_reason 67 = .ok (.iload 6, 2) := by decide +kernel
theorem dL_reason_69 : decode cL_reason 69 = .ok (.bipush 10, 2) := by decide +kernel
theorem dL_reason_71 : decode cL_reason 71 = .ok (.if_icmp .ne 7, 3) := by decide +kernel
theorem dL_reason_74 : decode cL_reason 74 = .ok (.iconst 1, 1) := by decide +kernel
theorem dL_reason_75 : decode cL_reason 75 = .ok (.goto 4, 3) := by decide +kernel
theorem dL_reason_78 : decode cL_reason 78 = .ok (.iconst 2, 1) := by decide +kernel
theorem dL_reason_79 : decode cL_reason 79 = .ok (.ireturn, 1) := by decide +kernel
theorem dL_quarrels_0 : decode cL_quarrels 0 = .ok (.iconst 0, 1) := by decide +kernel
theorem dL_quarrels_1 : decode cL_quarrels 1 = .ok (.istore 4, 2) := by decide +kernel
theorem dL_quarrels_3 : decode cL_quarrels 3 = .ok (.iconst 0, 1) := by decide +kernel
theorem dL_quarrels_4 : decode cL_quarrels 4 = .ok (.istore 5, 2) := by decide +kernel
theorem dL_quarrels_6 : decode cL_quarrels 6 = .ok (.iload 5, 2) := by decide +kernel
theorem dL_quarrels_8 : decode cL_quarrels 8 = .ok (.bipush 10, 2) := by decide +kernel
theorem dL_quarrels_10 : decode cL_quarrels 10 = .ok (.if_icmp .ge 31, 3) := by decide +kernel
theorem dL_quarrels_13 : decode cL_quarrels 13 = .ok (.iload 4, 2) := by decide +kernel
theorem dL_quarrels_15 : decode cL_quarrels 15 = .ok (.aload_n 0, 1) := by decide +kernel
theorem dL_quarrels_16 : decode cL_quarrels 16 = .ok (.aload_n 1, 1) := by decide +kernel
theorem dL_quarrels_17 : decode cL_quarrels 17 = .ok (.aload_n 2, 1) := by decide +kernel
theorem dL_quarrels_18 : decode cL_quarrels 18 = .ok (.iload_n 3, 1) := by decide +kernel
theorem dL_quarrels_19 : decode cL_quarrels 19 = .ok (.iload 5, 2) := by decide +kernel
theorem dL_quarrels_21 : decode cL_quarrels 21 = .ok (.invokestatic 27, 3) := by decide +kernel
theorem dL_quarrels_24 : decode cL_quarrels 24 = .ok (.ifCond .le 7, 3) := by decide +kernel
theorem dL_quarrels_27 : decode cL_quarrels 27 = .ok (.iconst 1, 1) := by decide +kernel
theorem dL_quarrels_28 : decode cL_quarrels 28 = .ok (.goto 4, 3) := by decide +kernel
theorem dL_quarrels_31 : decode cL_quarrels 31 = .ok (.iconst 0, 1) := by decide +kernel
theorem dL_quarrels_32 : decode cL_quarrels 32 = .ok (.iadd, 1) := by decide +kernel
theorem dL_quarrels_33 : decode cL_quarrels 33 = .ok (.istore 4, 2) := by decide +kernel
theorem dL_quarrels_35 : decode cL_quarrels 35 = .ok (.iinc 5 1, 3) := by decide +kernel
theorem dL_quarrels_38 : decode cL_quarrels 38 = .ok (.goto (-32), 3) := by decide +kernel
theorem dL_quarrels_41 : decode cL_quarrels 41 = .ok (.iload 4, 2) := by decide +kernel
theorem dL_quarrels_43 : decode cL_quarrels 43 = .ok (.ireturn, 1) := by decide +kernel
theorem dL_torn_0 : decode cL_torn 0 = .ok (.iconst 0, 1) := by decide +kernel
theorem dL_torn_1 : decode cL_torn 1 = .ok (.istore_n 3, 1) := by decide +kernel
theorem dL_torn_2 : decode cL_torn 2 = .ok (.iconst 0, 1) := by decide +kernel
theorem dL_torn_3 : decode cL_torn 3 = .ok (.istore 4, 2) := by decide +kernel
theorem dL_torn_5 : decode cL_torn 5 = .ok (.aload_n 0, 1) := by decide +kernel
theorem dL_torn_6 : decode cL_torn 6 = .ok (.iload 4, 2) := by decide +kernel
theorem dL_torn_8 : decode cL_torn 8 = .ok (.invokestatic 31, 3) := by decide +kernel
theorem dL_torn_11 : decode cL_torn 11 = .ok (.ifCond .lt 47, 3) := by decide +kernel
theorem dL_torn_14 : decode cL_torn 14 = .ok (.iload_n 3, 1) := by decide +kernel
theorem dL_torn_15 : decode cL_torn 15 = .ok (.aload_n 0, 1) := by decide +kernel
theorem dL_torn_16 : decode cL_torn 16 = .ok (.iconst 4, 1) := by decide +kernel
theorem dL_torn_17 : decode cL_torn 17 = .ok (.iaload, 1) := by decide +kernel
theorem dL_torn_18 : decode cL_torn 18 = .ok (.iload 4, 2) := by decide +kernel
theorem dL_torn_20 : decode cL_torn 20 = .ok (.ishr, 1) := by decide +kernel
theorem dL_torn_21 : decode cL_torn 21 = .ok (.iconst 1, 1) := by decide +kernel
theorem dL_torn_22 : decode cL_torn 22 = .ok (.iand, 1) := by decide +kernel
theorem dL_torn_23 : decode cL_torn 23 = .ok (.iconst 1, 1) := by decide +kernel
theorem dL_torn_24 : decode cL_torn 24 = .ok (.if_icmp .ne 25, 3) := by decide +kernel
theorem dL_torn_27 : decode cL_torn 27 = .ok (.aload_n 0, 1) := by decide +kernel
theorem dL_torn_28 : decode cL_torn 28 = .ok (.aload_n 1, 1) := by decide +kernel
theorem dL_torn_29 : decode cL_torn 29 = .ok (.aload_n 2, 1) := by decide +kernel
theorem dL_torn_30 : decode cL_torn 30 = .ok (.aload_n 0, 1) := by decide +kernel
theorem dL_torn_31 : decode cL_torn 31 = .ok (.iload 4, 2) := by decide +kernel
theorem dL_torn_33 : decode cL_torn 33 = .ok (.invokestatic 31, 3) := by decide +kernel
theorem dL_torn_36 : decode cL_torn 36 = .ok (.invokestatic 34, 3) := by decide +kernel
theorem dL_torn_39 : decode cL_torn 39 = .ok (.ifCond .le 10, 3) := by decide +kernel
theorem dL_torn_42 : decode cL_torn 42 = .ok (.iconst 1, 1) := by decide +kernel
theorem dL_torn_43 : decode cL_torn 43 = .ok (.iload 4, 2) := by decide +kernel
theorem dL_torn_45 : decode cL_torn 45 = .ok (.ishl, 1) := by decide +kernel
theorem dL_torn_46 : decode cL_torn 46 = .ok (.goto 4, 3) := by decide +kernel
theorem dL_torn_49 : decode cL_torn 49 = .ok (.iconst 0, 1) := by decide +kernel
theorem dL_torn_50 : decode cL_torn 50 = .ok (.ior, 1) := by decide +kernel
theorem dL_torn_51 : decode cL_torn 51 = .ok (.istore_n 3, 1) := by decide +kernel
theorem dL_torn_52 : decode cL_torn 52 = .ok (.iinc 4 1, 3) := by decide +kernel
theorem dL_torn_55 : decode cL_torn 55 = .ok (.goto (-50), 3) := by decide +kernel
theorem dL_torn_58 : decode cL_torn 58 = .ok (.iload_n 3, 1) := by decide +kernel
theorem dL_torn_59 : decode cL_torn 59 = .ok (.ireturn, 1) := by decide +kernel
theorem dL_begins_0 : decode cL_begins 0 = .ok (.aload_n 0, 1) := by decide +kernel
theorem dL_begins_1 : decode cL_begins 1 = .ok (.iconst 0, 1) := by decide +kernel
theorem dL_begins_2 : decode cL_begins 2 = .ok (.iload 4, 2) := by decide +kernel
theorem dL_begins_4 : decode cL_begins 4 = .ok (.iastore, 1) := by decide +kernel
theorem dL_begins_5 : decode cL_begins 5 = .ok (.aload_n 0, 1) := by decide +kernel
theorem dL_begins_6 : decode cL_begins 6 = .ok (.iconst 1, 1) := by decide +kernel
theorem dL_begins_7 : decode cL_begins 7 = .ok (.iload 5, 2) := by decide +kernel
theorem dL_begins_9 : decode cL_begins 9 = .ok (.iastore, 1) := by decide +kernel
theorem dL_begins_10 : decode cL_begins 10 = .ok (.aload_n 0, 1) := by decide +kernel
theorem dL_begins_11 : decode cL_begins 11 = .ok (.iconst 4, 1) := by decide +kernel
theorem dL_begins_12 : decode cL_begins 12 = .ok (.iconst 0, 1) := by decide +kernel
theorem dL_begins_13 : decode cL_begins 13 = .ok (.iastore, 1) := by decide +kernel
theorem dL_begins_14 : decode cL_begins 14 = .ok (.iconst 0, 1) := by decide +kernel
theorem dL_begins_15 : decode cL_begins 15 = .ok (.istore 6, 2) := by decide +kernel
theorem dL_begins_17 : decode cL_begins 17 = .ok (.iload 6, 2) := by decide +kernel
theorem dL_begins_19 : decode cL_begins 19 = .ok (.bipush 24, 2) := by decide +kernel
theorem dL_begins_21 : decode cL_begins 21 = .ok (.if_icmp .ge 65, 3) := by decide +kernel
theorem dL_begins_24 : decode cL_begins 24 = .ok (.aload_n 2, 1) := by decide +kernel
theorem dL_begins_25 : decode cL_begins 25 = .ok (.iload 6, 2) := by decide +kernel
theorem dL_begins_27 : decode cL_begins 27 = .ok (.bipush 11, 2) := by decide +kernel
theorem dL_begins_29 : decode cL_begins 29 = .ok (.bipush 10, 2) := by decide +kernel
theorem dL_begins_31 : decode cL_begins 31 = .ok (.invokestatic 9, 3) := by decide +kernel
theorem dL_begins_34 : decode cL_begins 34 = .ok (.lconst 1, 1) := by decide +kernel
theorem dL_begins_35 : decode cL_begins 35 = .ok (.lsub, 1) := by decide +kernel
theorem dL_begins_36 : decode cL_begins 36 = .ok (.lastore, 1) := by decide +kernel
theorem dL_begins_37 : decode cL_begins 37 = .ok (.aload_n 3, 1) := by decide +kernel
theorem dL_begins_38 : decode cL_begins 38 = .ok (.iload 6, 2) := by decide +kernel
theorem dL_begins_40 : decode cL_begins 40 = .ok (.bipush 6, 2) := by decide +kernel
theorem dL_begins_42 : decode cL_begins 42 = .ok (.irem, 1) := by decide +kernel
theorem dL_begins_43 : decode cL_begins 43 = .ok (.ldc2_w 38, 3) := by decide +kernel
theorem dL_begins_46 : decode cL_begins 46 = .ok (.lastore, 1) := by decide +kernel
theorem dL_begins_47 : decode cL_begins 47 = .ok (.aload_n 1, 1) := by decide +kernel
theorem dL_begins_48 : decode cL_begins 48 = .ok (.iload 6, 2) := by decide +kernel
theorem dL_begins_50 : decode cL_begins 50 = .ok (.bipush 6, 2) := by decide +kernel
theorem dL_begins_52 : decode cL_begins 52 = .ok (.irem, 1) := by decide +kernel
theorem dL_begins_53 : decode cL_begins 53 = .ok (.iconst 0, 1) := by decide +kernel
theorem dL_begins_54 : decode cL_begins 54 = .ok (.iastore, 1) := by decide +kernel
theorem dL_begins_55 : decode cL_begins 55 = .ok (.aload_n 1, 1) := by decide +kernel
theorem dL_begins_56 : decode cL_begins 56 = .ok (.bipush 6, 2) := by decide +kernel
theorem dL_begins_58 : decode cL_begins 58 = .ok (.iload 6, 2) := by decide +kernel
theorem dL_begins_60 : decode cL_begins 60 = .ok (.bipush 6, 2) := by decide +kernel
theorem dL_begins_62 : decode cL_begins 62 = .ok (.irem, 1) := by decide +kernel
theorem dL_begins_63 : decode cL_begins 63 = .ok (.iadd, 1) := by decide +kernel
theorem dL_begins_64 : decode cL_begins 64 = .ok (.bipush (-4), 2) := by decide +kernel
theorem dL_begins_66 : decode cL_begins 66 = .ok (.iastore, 1) := by decide +kernel
theorem dL_begins_67 : decode cL_begins 67 = .ok (.aload_n 1, 1) := by decide +kernel
theorem dL_begins_68 : decode cL_begins 68 = .ok (.bipush 12, 2) := by decide +kernel
theorem dL_begins_70 : decode cL_begins 70 = .ok (.iload 6, 2) := by decide +kernel
theorem dL_begins_72 : decode cL_begins 72 = .ok (.bipush 6, 2) := by decide +kernel
theorem dL_begins_74 : decode cL_begins 74 = .ok (.irem, 1) := by decide +kernel
theorem dL_begins_75 : decode cL_begins 75 = .ok (.iadd, 1) := by decide +kernel
theorem dL_begins_76 : decode cL_begins 76 = .ok (.sipush 1000, 3) := by decide +kernel
theorem dL_begins_79 : decode cL_begins 79 = .ok (.iastore, 1) := by decide +kernel
theorem dL_begins_80 : decode cL_begins 80 = .ok (.iinc 6 1, 3) := by decide +kernel
theorem dL_begins_83 : decode cL_begins 83 = .ok (.goto (-66), 3) := by decide +kernel
theorem dL_begins_86 : decode cL_begins 86 = .ok (.return_, 1) := by decide +kernel
