theorem inlX5 : ∀ w ∈ wsX50, w ∈ wsL_law := fun _ h => List.mem_append_left _ (List.mem_append_left _ (List.mem_append_left _ (List.mem_append_left _ (List.mem_append_left _ (List.mem_append_right _ h)))))
theorem inX5 : ∀ w ∈ wsX50, w ∈ lw_tbl := fun w h => wsL_law_in w (inlX5 w h)
theorem inJx145de : ∀ w ∈ wsJx145de0, w ∈ lw_tbl := by decide +kernel
theorem inJxb160c : ∀ w ∈ wsJxb160c0, w ∈ lw_tbl := by decide +kernel
theorem inJxf58ca : ∀ w ∈ wsJxf58ca0, w ∈ lw_tbl := by decide +kernel
set_option maxRecDepth 20000 in
theorem ggX5_init_X5_begins : GoodIn wsX5_init wsX5_begins := goodIn_r _ [14, 5, 15, 16, 17, 18, 19, 20, 21] (by decide +kernel) (by decide +kernel)
set_option maxRecDepth 20000 in
theorem gX5_init_X5_begins : GoodIn wsX5_init (wsV RX5 25 RX5 yX5_begins wsX5_begins) := goodIn_app (goodIn_of _ (by decide +kernel)) ggX5_init_X5_begins
theorem dX5_init_0 : decode cX5_init 0 = .ok (.aload_n 0, 1) := by decide +kernel
theorem dX5_init_1 : decode cX5_init 1 = .ok (.invokespecial 1, 3) := by decide +kernel
theorem dX5_init_4 : decode cX5_init 4 = .ok (.aload_n 0, 1) := by decide +kernel
theorem dX5_init_5 : decode cX5_init 5 = .ok (.sipush 1972, 3) := by decide +kernel
theorem dX5_init_8 : decode cX5_init 8 = .ok (.newarray .int, 2) := by decide +kernel
theorem dX5_init_10 : decode cX5_init 10 = .ok (.putfield 7, 3) := by decide +kernel
theorem dX5_init_13 : decode cX5_init 13 = .ok (.aload_n 0, 1) := by decide +kernel
theorem dX5_init_14 : decode cX5_init 14 = .ok (.sipush 7888, 3) := by decide +kernel
theorem dX5_init_17 : decode cX5_init 17 = .ok (.newarray .int, 2) := by decide +kernel
theorem dX5_init_19 : decode cX5_init 19 = .ok (.putfield 13, 3) := by decide +kernel
theorem dX5_init_22 : decode cX5_init 22 = .ok (.aload_n 0, 1) := by decide +kernel
theorem dX5_init_23 : decode cX5_init 23 = .ok (.sipush 1972, 3) := by decide +kernel
theorem dX5_init_26 : decode cX5_init 26 = .ok (.newarray .int, 2) := by decide +kernel
theorem dX5_init_28 : decode cX5_init 28 = .ok (.putfield 16, 3) := by decide +kernel
theorem dX5_init_31 : decode cX5_init 31 = .ok (.aload_n 0, 1) := by decide +kernel
theorem dX5_init_32 : decode cX5_init 32 = .ok (.bipush 100, 2) := by decide +kernel
theorem dX5_init_34 : decode cX5_init 34 = .ok (.newarray .int, 2) := by decide +kernel
theorem dX5_init_36 : decode cX5_init 36 = .ok (.putfield 19, 3) := by decide +kernel
theorem dX5_init_39 : decode cX5_init 39 = .ok (.aload_n 0, 1) := by decide +kernel
theorem dX5_init_40 : decode cX5_init 40 = .ok (.bipush 36, 2) := by decide +kernel
theorem dX5_init_42 : decode cX5_init 42 = .ok (.newarray .int, 2) := by decide +kernel
theorem dX5_init_44 : decode cX5_init 44 = .ok (.putfield 22, 3) := by decide +kernel
theorem dX5_init_47 : decode cX5_init 47 = .ok (.aload_n 0, 1) := by decide +kernel
theorem dX5_init_48 : decode cX5_init 48 = .ok (.getfield 7, 3) := by decide +kernel
theorem dX5_init_51 : decode cX5_init 51 = .ok (.iconst 2, 1) := by decide +kernel
theorem dX5_init_52 : decode cX5_init 52 = .ok (.iconst 1, 1) := by decide +kernel
theorem dX5_init_53 : decode cX5_init 53 = .ok (.iastore, 1) := by decide +kernel
theorem dX5_init_54 : decode cX5_init 54 = .ok (.aload_n 0, 1) := by decide +kernel
theorem dX5_init_55 : decode cX5_init 55 = .ok (.getfield 7, 3) := by decide +kernel
theorem dX5_init_58 : decode cX5_init 58 = .ok (.iconst 3, 1) := by decide +kernel
theorem dX5_init_59 : decode cX5_init 59 = .ok (.bipush 20, 2) := by decide +kernel
theorem dX5_init_61 : decode cX5_init 61 = .ok (.iastore, 1) := by decide +kernel
theorem dX5_init_62 : decode cX5_init 62 = .ok (.aload_n 0, 1) := by decide +kernel
theorem dX5_init_63 : decode cX5_init 63 = .ok (.iconst 3, 1) := by decide +kernel
theorem dX5_init_64 : decode cX5_init 64 = .ok (.iconst 2, 1) := by decide +kernel
theorem dX5_init_65 : decode cX5_init 65 = .ok (.invokevirtual 25, 3) := by decide +kernel
theorem dX5_init_68 : decode cX5_init 68 = .ok (.return_, 1) := by decide +kernel
theorem dX5_in_0 : decode cX5_in 0 = .ok (.iload_n 0, 1) := by decide +kernel
theorem dX5_in_1 : decode cX5_in 1 = .ok (.iload_n 1, 1) := by decide +kernel
theorem dX5_in_2 : decode cX5_in 2 = .ok (.if_icmp .lt 12, 3) := by decide +kernel
theorem dX5_in_5 : decode cX5_in 5 = .ok (.iload_n 0, 1) := by decide +kernel
theorem dX5_in_6 : decode cX5_in 6 = .ok (.iload_n 2, 1) := by decide +kernel
theorem dX5_in_7 : decode cX5_in 7 = .ok (.if_icmp .gt 7, 3) := by decide +kernel
theorem dX5_in_10 : decode cX5_in 10 = .ok (.iconst 1, 1) := by decide +kernel
theorem dX5_in_11 : decode cX5_in 11 = .ok (.goto 4, 3) := by decide +kernel
theorem dX5_in_14 : decode cX5_in 14 = .ok (.iconst 0, 1) := by decide +kernel
theorem dX5_in_15 : decode cX5_in 15 = .ok (.ireturn, 1) := by decide +kernel
theorem dX5_begins_0 : decode cX5_begins 0 = .ok (.aload_n 0, 1) := by decide +kernel
theorem dX5_begins_1 : decode cX5_begins 1 = .ok (.getfield 7, 3) := by decide +kernel
theorem dX5_begins_4 : decode cX5_begins 4 = .ok (.iconst 0, 1) := by decide +kernel
theorem dX5_begins_5 : decode cX5_begins 5 = .ok (.iload_n 1, 1) := by decide +kernel
theorem dX5_begins_6 : decode cX5_begins 6 = .ok (.iastore, 1) := by decide +kernel
theorem dX5_begins_7 : decode cX5_begins 7 = .ok (.aload_n 0, 1) := by decide +kernel
theorem dX5_begins_8 : decode cX5_begins 8 = .ok (.getfield 7, 3) := by decide +kernel
theorem dX5_begins_11 : decode cX5_begins 11 = .ok (.iconst 1, 1) := by decide +kernel
theorem dX5_begins_12 : decode cX5_begins 12 = .ok (.iload_n 2, 1) := by decide +kernel
theorem dX5_begins_13 : decode cX5_begins 13 = .ok (.iastore, 1) := by decide +kernel
theorem dX5_begins_14 : decode cX5_begins 14 = .ok (.iconst 4, 1) := by decide +kernel
theorem dX5_begins_15 : decode cX5_begins 15 = .ok (.istore_n 3, 1) := by decide +kernel
theorem dX5_begins_16 : decode cX5_begins 16 = .ok (.iload_n 3, 1) := by decide +kernel
theorem dX5_begins_17 : decode cX5_begins 17 = .ok (.bipush 64, 2) := by decide +kernel
theorem dX5_begins_19 : decode cX5_begins 19 = .ok (.if_icmp .ge 16, 3) := by decide +kernel
theorem dX5_begins_22 : decode cX5_begins 22 = .ok (.aload_n 0, 1) := by decide +kernel
theorem dX5_begins_23 : decode cX5_begins 23 = .ok (.getfield 7, 3) := by decide +kernel
theorem dX5_begins_26 : decode cX5_begins 26 = .ok (.iload_n 3, 1) := by decide +kernel
theorem dX5_begins_27 : decode cX5_begins 27 = .ok (.iconst 0, 1) := by decide +kernel
theorem dX5_begins_28 : decode cX5_begins 28 = .ok (.iastore, 1) := by decide +kernel
theorem dX5_begins_29 : decode cX5_begins 29 = .ok (.iinc 3 1, 3) := by decide +kernel
theorem dX5_begins_32 : decode cX5_begins 32 = .ok (.goto (-16), 3) := by decide +kernel
theorem dX5_begins_35 : decode cX5_begins 35 = .ok (.iconst 0, 1) := by decide +kernel
theorem dX5_begins_36 : decode cX5_begins 36 = .ok (.istore_n 3, 1) := by decide +kernel
theorem dX5_begins_37 : decode cX5_begins 37 = .ok (.iload_n 3, 1) := by decide +kernel
theorem dX5_begins_38 : decode cX5_begins 38 = .ok (.bipush 36, 2) := by decide +kernel
theorem dX5_begins_40 : decode cX5_begins 40 = .ok (.if_icmp .ge 93, 3) := by decide +kernel
theorem dX5_begins_43 : decode cX5_begins 43 = .ok (.iconst 0, 1) := by decide +kernel
theorem dX5_begins_44 : decode cX5_begins 44 = .ok (.istore 4, 2) := by decide +kernel
theorem dX5_begins_46 : decode cX5_begins 46 = .ok (.iload 4, 2) := by decide +kernel
theorem dX5_begins_48 : decode cX5_begins 48 = .ok (.bipush 53, 2) := by decide +kernel
theorem dX5_begins_50 : decode cX5_begins 50 = .ok (.if_icmp .ge 77, 3) := by decide +kernel
theorem dX5_begins_53 : decode cX5_begins 53 = .ok (.aload_n 0, 1) := by decide +kernel
theorem dX5_begins_54 : decode cX5_begins 54 = .ok (.getfield 7, 3) := by decide +kernel
theorem dX5_begins_57 : decode cX5_begins 57 = .ok (.bipush 64, 2) := by decide +kernel
theorem dX5_begins_59 : decode cX5_begins 59 = .ok (.bipush 53, 2) := by decide +kernel
theorem dX5_begins_61 : decode cX5_begins 61 = .ok (.iload_n 3, 1) := by decide +kernel
theorem dX5_begins_62 : decode cX5_begins 62 = .ok (.imul, 1) := by decide +kernel
theorem dX5_begins_63 : decode cX5_begins 63 = .ok (.iadd, 1) := by decide +kernel
theorem dX5_begins_64 : decode cX5_begins 64 = .ok (.iload 4, 2) := by decide +kernel
theorem dX5_begins_66 : decode cX5_begins 66 = .ok (.iadd, 1) := by decide +kernel
theorem dX5_begins_67 : decode cX5_begins 67 = .ok (.iload 4, 2) := by decide +kernel
theorem dX5_begins_69 : decode cX5_begins 69 = .ok (.bipush 40, 2) := by decide +kernel
theorem dX5_begins_71 : decode cX5_begins 71 = .ok (.if_icmp .ge 8, 3) := by decide +kernel
theorem dX5_begins_74 : decode cX5_begins 74 = .ok (.bipush 10, 2) := by decide +kernel
theorem dX5_begins_76 : decode cX5_begins 76 = .ok (.goto 44, 3) := by decide +kernel
theorem dX5_begins_79 : decode cX5_begins 79 = .ok (.iload 4, 2) := by decide +kernel
theorem dX5_begins_81 : decode cX5_begins 81 = .ok (.bipush 50, 2) := by decide +kernel
theorem dX5_begins_83 : decode cX5_begins 83 = .ok (.if_icmp .ge 11, 3) := by decide +kernel
theorem dX5_begins_86 : decode cX5_begins 86 = .ok (.iload 4, 2) := by decide +kernel
theorem dX5_begins_88 : decode cX5_begins 88 = .ok (.bipush 40, 2) := by decide +kernel
theorem dX5_begins_90 : decode cX5_begins 90 = .ok (.isub, 1) := by decide +kernel
theorem dX5_begins_91 : decode cX5_begins 91 = .ok (.goto 29, 3) := by decide +kernel
theorem dX5_begins_94 : decode cX5_begins 94 = .ok (.iload 4, 2) := by decide +kernel
theorem dX5_begins_96 : decode cX5_begins 96 = .ok (.bipush 50, 2) := by decide +kernel
theorem dX5_begins_98 : decode cX5_begins 98 = .ok (.if_icmp .ne 7, 3) := by decide +kernel
theorem dX5_begins_101 : decode cX5_begins 101 = .ok (.iconst 0, 1) := by decide +kernel
theorem dX5_begins_102 : decode cX5_begins 102 = .ok (.goto 18, 3) := by decide +kernel
theorem dX5_begins_105 : decode cX5_begins 105 = .ok (.iload 4, 2) := by decide +kernel
theorem dX5_begins_107 : decode cX5_begins 107 = .ok (.bipush 51, 2) := by decide +kernel
theorem dX5_begins_109 : decode cX5_begins 109 = .ok (.if_icmp .ne 8, 3) := by decide +kernel
theorem dX5_begins_112 : decode cX5_begins 112 = .ok (.bipush (-4), 2) := by decide +kernel
theorem dX5_begins_114 : decode cX5_begins 114 = .ok (.goto 6, 3) := by decide +kernel
theorem dX5_begins_117 : decode cX5_begins 117 = .ok (.sipush 1000, 3) := by decide +kernel
theorem dX5_begins_120 : decode cX5_begins 120 = .ok (.iastore, 1) := by decide +kernel
theorem dX5_begins_121 : decode cX5_begins 121 = .ok (.iinc 4 1, 3) := by decide +kernel
theorem dX5_begins_124 : decode cX5_begins 124 = .ok (.goto (-78), 3) := by decide +kernel
theorem dX5_begins_127 : decode cX5_begins 127 = .ok (.iinc 3 1, 3) := by decide +kernel
theorem dX5_begins_130 : decode cX5_begins 130 = .ok (.goto (-93), 3) := by decide +kernel
theorem dX5_begins_133 : decode cX5_begins 133 = .ok (.return_, 1) := by decide +kernel
theorem dX5_hold_0 : decode cX5_hold 0 = .ok (.iconst 0, 1) := by decide +kernel
theorem dX5_hold_1 : decode cX5_hold 1 = .ok (.istore_n 1, 1) := by decide +kernel
theorem dX5_hold_2 : decode cX5_hold 2 = .ok (.iload_n 1, 1) := by decide +kernel
theorem dX5_hold_3 : decode cX5_hold 3 = .ok (.sipush 1972, 3) := by decide +kernel
theorem dX5_hold_6 : decode cX5_hold 6 = .ok (.if_icmp .ge 21, 3) := by decide +kernel
theorem dX5_hold_9 : decode cX5_hold 9 = .ok (.aload_n 0, 1) := by decide +kernel
theorem dX5_hold_10 : decode cX5_hold 10 = .ok (.getfield 16, 3) := by decide +kernel
theorem dX5_hold_13 : decode cX5_hold 13 = .ok (.iload_n 1, 1) := by decide +kernel
theorem dX5_hold_14 : decode cX5_hold 14 = .ok (.aload_n 0, 1) := by decide +kernel
theorem dX5_hold_15 : decode cX5_hold 15 = .ok (.getfield 7, 3) := by decide +kernel
theorem dX5_hold_18 : decode cX5_hold 18 = .ok (.iload_n 1, 1) := by decide +kernel
theorem dX5_hold_19 : decode cX5_hold 19 = .ok (.iaload, 1) := by decide +kernel
theorem dX5_hold_20 : decode cX5_hold 20 = .ok (.iastore, 1) := by decide +kernel
theorem dX5_hold_21 : decode cX5_hold 21 = .ok (.iinc 1 1, 3) := by decide +kernel
theorem dX5_hold_24 : decode cX5_hold 24 = .ok (.goto (-22), 3) := by decide +kernel
theorem dX5_hold_27 : decode cX5_hold 27 = .ok (.return_, 1) := by decide +kernel
theorem dX5_restore_0 : decode cX5_restore 0 = .ok (.iconst 0, 1) := by decide +kernel
theorem dX5_restore_1 : decode cX5_restore 1 = .ok (.istore_n 1, 1) := by decide +kernel
theorem dX5_restore_2 : decode cX5_restore 2 = .ok (.iload_n 1, 1) := by decide +kernel
theorem dX5_restore_3 : decode cX5_restore 3 = .ok (.sipush 1972, 3) := by decide +kernel
theorem dX5_restore_6 : decode cX5_restore 6 = .ok (.if_icmp .ge 21, 3) := by decide +kernel
theorem dX5_restore_9 : decode cX5_restore 9 = .ok (.aload_n 0, 1) := by decide +kernel
theorem dX5_restore_10 : decode cX5_restore 10 = .ok (.getfield 7, 3) := by decide +kernel
theorem dX5_restore_13 : decode cX5_restore 13 = .ok (.iload_n 1, 1) := by decide +kernel
theorem dX5_restore_14 : decode cX5_restore 14 = .ok (.aload_n 0, 1) := by decide +kernel
theorem dX5_restore_15 : decode cX5_restore 15 = .ok (.getfield 16, 3) := by decide +kernel
theorem dX5_restore_18 : decode cX5_restore 18 = .ok (.iload_n 1, 1) := by decide +kernel
theorem dX5_restore_19 : decode cX5_restore 19 = .ok (.iaload, 1) := by decide +kernel
theorem dX5_restore_20 : decode cX5_restore 20 = .ok (.iastore, 1) := by decide +kernel
theorem dX5_restore_21 : decode cX5_restore 21 = .ok (.iinc 1 1, 3) := by decide +kernel
theorem dX5_restore_24 : decode cX5_restore 24 = .ok (.goto (-22), 3) := by decide +kernel
theorem dX5_restore_27 : decode cX5_restore 27 = .ok (.return_, 1) := by decide +kernel
theorem dX5_records_0 : decode cX5_records 0 = .ok (.aload_n 0, 1) := by decide +kernel
theorem dX5_records_1 : decode cX5_records 1 = .ok (.getfield 29, 3) := by decide +kernel
theorem dX5_records_4 : decode cX5_records 4 = .ok (.iconst 4, 1) := by decide +kernel
theorem dX5_records_5 : decode cX5_records 5 = .ok (.if_icmp .ne 44, 3) := by decide +kernel
theorem dX5_records_8 : decode cX5_records 8 = .ok (.iconst 0, 1) := by decide +kernel
theorem dX5_records_9 : decode cX5_records 9 = .ok (.istore_n 2, 1) := by decide +kernel
theorem dX5_records_10 : decode cX5_records 10 = .ok (.iload_n 2, 1) := by decide +kernel
theorem dX5_records_11 : decode cX5_records 11 = .ok (.sipush 5916, 3) := by decide +kernel
theorem dX5_records_14 : decode cX5_records 14 = .ok (.if_icmp .ge 25, 3) := by decide +kernel
theorem dX5_records_17 : decode cX5_records 17 = .ok (.aload_n 0, 1) := by decide +kernel
theorem dX5_records_18 : decode cX5_records 18 = .ok (.getfield 13, 3) := by decide +kernel
theorem dX5_records_21 : decode cX5_records 21 = .ok (.iload_n 2, 1) := by decide +kernel
theorem dX5_records_22 : decode cX5_records 22 = .ok (.aload_n 0, 1) := by decide +kernel
theorem dX5_records_23 : decode cX5_records 23 = .ok (.getfield 13, 3) := by decide +kernel
theorem dX5_records_26 : decode cX5_records 26 = .ok (.iload_n 2, 1) := by decide +kernel
theorem dX5_records_27 : decode cX5_records 27 = .ok (.sipush 1972, 3) := by decide +kernel
theorem dX5_records_30 : decode cX5_records 30 = .ok (.iadd, 1) := by decide +kernel
theorem dX5_records_31 : decode cX5_records 31 = .ok (.iaload, 1) := by decide +kernel
theorem dX5_records_32 : decode cX5_records 32 = .ok (.iastore, 1) := by decide +kernel
theorem dX5_records_33 : decode cX5_records 33 = .ok (.iinc 2 1, 3) := by decide +kernel
theorem dX5_records_36 : decode cX5_records 36 = .ok (.goto (-26), 3) := by decide +kernel
theorem dX5_records_39 : decode cX5_records 39 = .ok (.aload_n 0, 1) := by decide +kernel
theorem dX5_records_40 : decode cX5_records 40 = .ok (.dup, 1) := by decide +kernel
theorem dX5_records_41 : decode cX5_records 41 = .ok (.getfield 29, 3) := by decide +kernel
theorem dX5_records_44 : decode cX5_records 44 = .ok (.iconst 1, 1) := by decide +kernel
theorem dX5_records_45 : decode cX5_records 45 = .ok (.isub, 1) := by decide +kernel
theorem dX5_records_46 : decode cX5_records 46 = .ok (.putfield 29, 3) := by decide +kernel
theorem dX5_records_49 : decode cX5_records 49 = .ok (.iconst 0, 1) := by decide +kernel
theorem dX5_records_50 : decode cX5_records 50 = .ok (.istore_n 2, 1) := by decide +kernel
theorem dX5_records_51 : decode cX5_records 51 = .ok (.iload_n 2, 1) := by decide +kernel
theorem dX5_records_52 : decode cX5_records 52 = .ok (.sipush 1972, 3) := by decide +kernel
theorem dX5_records_55 : decode cX5_records 55 = .ok (.if_icmp .ge 30, 3) := by decide +kernel
theorem dX5_records_58 : decode cX5_records 58 = .ok (.aload_n 0, 1) := by decide +kernel
theorem dX5_records_59 : decode cX5_records 59 = .ok (.getfield 13, 3) := by decide +kernel
theorem dX5_records_62 : decode cX5_records 62 = .ok (.sipush 1972, 3) := by decide +kernel
theorem dX5_records_65 : decode cX5_records 65 = .ok (.aload_n 0, 1) := by decide +kernel
theorem dX5_records_66 : decode cX5_records 66 = .ok (.getfield 29, 3) := by decide +kernel
theorem dX5_records_69 : decode cX5_records 69 = .ok (.imul, 1) := by decide +kernel
theorem dX5_records_70 : decode cX5_records 70 = .ok (.iload_n 2, 1) := by decide +kernel
theorem dX5_records_71 : decode cX5_records 71 = .ok (.iadd, 1) := by decide +kernel
theorem dX5_records_72 : decode cX5_records 72 = .ok (.aload_n 0, 1) := by decide +kernel
theorem dX5_records_73 : decode cX5_records 73 = .ok (.getfield 16, 3) := by decide +kernel
theorem dX5_records_76 : decode cX5_records 76 = .ok (.iload_n 2, 1) := by decide +kernel
theorem dX5_records_77 : decode cX5_records 77 = .ok (.iaload, 1) := by decide +kernel
theorem dX5_records_78 : decode cX5_records 78 = .ok (.iastore, 1) := by decide +kernel
theorem dX5_records_79 : decode cX5_records 79 = .ok (.iinc 2 1, 3) := by decide +kernel
theorem dX5_records_82 : decode cX5_records 82 = .ok (.goto (-31), 3) := by decide +kernel
theorem dX5_records_85 : decode cX5_records 85 = .ok (.aload_n 0, 1) := by decide +kernel
theorem dX5_records_86 : decode cX5_records 86 = .ok (.dup, 1) := by decide +kernel
theorem dX5_records_87 : decode cX5_records 87 = .ok (.getfield 29, 3) := by decide +kernel
theorem dX5_records_90 : decode cX5_records 90 = .ok (.iconst 1, 1) := by decide +kernel
theorem dX5_records_91 : decode cX5_records 91 = .ok (.iadd, 1) := by decide +kernel
theorem dX5_records_92 : decode cX5_records 92 = .ok (.putfield 29, 3) := by decide +kernel
theorem dX5_records_95 : decode cX5_records 95 = .ok (.iload_n 1, 1) := by decide +kernel
theorem dX5_records_96 : decode cX5_records 96 = .ok (.ireturn, 1) := by decide +kernel
theorem dX5_sheets_0 : decode cX5_sheets 0 = .ok (.aload_n 0, 1) := by decide +kernel
theorem dX5_sheets_1 : decode cX5_sheets 1 = .ok (.getfield 7, 3) := by decide +kernel
theorem dX5_sheets_4 : decode cX5_sheets 4 = .ok (.iconst 0, 1) := by decide +kernel
theorem dX5_sheets_5 : decode cX5_sheets 5 = .ok (.iaload, 1) := by decide +kernel
theorem dX5_sheets_6 : decode cX5_sheets 6 = .ok (.aload_n 0, 1) := by decide +kernel
theorem dX5_sheets_7 : decode cX5_sheets 7 = .ok (.getfield 7, 3) := by decide +kernel
theorem dX5_sheets_10 : decode cX5_sheets 10 = .ok (.iconst 1, 1) := by decide +kernel
theorem dX5_sheets_11 : decode cX5_sheets 11 = .ok (.iaload, 1) := by decide +kernel
theorem dX5_sheets_12 : decode cX5_sheets 12 = .ok (.imul, 1) := by decide +kernel
theorem dX5_sheets_13 : decode cX5_sheets 13 = .ok (.ireturn, 1) := by decide +kernel
set_option maxRecDepth 20000 in
theorem ggX5_isSheet_X5_sheets : GoodIn wsX5_isSheet wsX5_sheets := goodIn_r _ [5, 6, 7, 8, 9, 10, 11, 12, 13] (by decide +kernel) (by decide +kernel)
set_option maxRecDepth 20000 in
theorem gX5_isSheet_X5_sheets : GoodIn wsX5_isSheet (wsV RX5 33 RX5 yX5_sheets wsX5_sheets) := goodIn_app (goodIn_of _ (by decide +kernel)) ggX5_isSheet_X5_sheets
theorem dX5_isSheet_0 : decode cX5_isSheet 0 = .ok (.iload_n 1, 1) := by decide +kernel
theorem dX5_isSheet_1 : decode cX5_isSheet 1 = .ok (.ifCond .lt 15, 3) := by decide +kernel
theorem dX5_isSheet_4 : decode cX5_isSheet 4 = .ok (.iload_n 1, 1) := by decide +kernel
theorem dX5_isSheet_5 : decode cX5_isSheet 5 = .ok (.aload_n 0, 1) := by decide +kernel
theorem dX5_isSheet_6 : decode cX5_isSheet 6 = .ok (.invokevirtual 33, 3) := by decide +kernel
theorem dX5_isSheet_9 : decode cX5_isSheet 9 = .ok (.if_icmp .ge 7, 3) := by decide +kernel
theorem dX5_isSheet_12 : decode cX5_isSheet 12 = .ok (.iconst 1, 1) := by decide +kernel
theorem dX5_isSheet_13 : decode cX5_isSheet 13 = .ok (.goto 4, 3) := by decide +kernel
theorem dX5_isSheet_16 : decode cX5_isSheet 16 = .ok (.iconst 0, 1) := by decide +kernel
theorem dX5_isSheet_17 : decode cX5_isSheet 17 = .ok (.ireturn, 1) := by decide +kernel
theorem dX5_of_0 : decode cX5_of 0 = .ok (.aload_n 0, 1) := by decide +kernel
theorem dX5_of_1 : decode cX5_of 1 = .ok (.getfield 7, 3) := by decide +kernel
theorem dX5_of_4 : decode cX5_of 4 = .ok (.bipush 64, 2) := by decide +kernel
theorem dX5_of_6 : decode cX5_of 6 = .ok (.bipush 53, 2) := by decide +kernel
theorem dX5_of_8 : decode cX5_of 8 = .ok (.iload_n 1, 1) := by decide +kernel
theorem dX5_of_9 : decode cX5_of 9 = .ok (.imul, 1) := by decide +kernel
theorem dX5_of_10 : decode cX5_of 10 = .ok (.iadd, 1) := by decide +kernel
theorem dX5_of_11 : decode cX5_of 11 = .ok (.iload_n 2, 1) := by decide +kernel
theorem dX5_of_12 : decode cX5_of 12 = .ok (.iadd, 1) := by decide +kernel
theorem dX5_of_13 : decode cX5_of 13 = .ok (.iaload, 1) := by decide +kernel
theorem dX5_of_14 : decode cX5_of 14 = .ok (.ireturn, 1) := by decide +kernel
theorem dX5_puts_0 : decode cX5_puts 0 = .ok (.aload_n 0, 1) := by decide +kernel
theorem dX5_puts_1 : decode cX5_puts 1 = .ok (.getfield 7, 3) := by decide +kernel
theorem dX5_puts_4 : decode cX5_puts 4 = .ok (.bipush 64, 2) := by decide +kernel
theorem dX5_puts_6 : decode cX5_puts 6 = .ok (.bipush 53, 2) := by decide +kernel
theorem dX5_puts_8 : decode cX5_puts 8 = .ok (.iload_n 1, 1) := by decide +kernel
theorem dX5_puts_9 : decode cX5_puts 9 = .ok (.imul, 1) := by decide +kernel
theorem dX5_puts_10 : decode cX5_puts 10 = .ok (.iadd, 1) := by decide +kernel
theorem dX5_puts_11 : decode cX5_puts 11 = .ok (.iload_n 2, 1) := by decide +kernel
theorem dX5_puts_12 : decode cX5_puts 12 = .ok (.iadd, 1) := by decide +kernel
theorem dX5_puts_13 : decode cX5_puts 13 = .ok (.iload_n 3, 1) := by decide +kernel
theorem dX5_puts_14 : decode cX5_puts 14 = .ok (.iastore, 1) := by decide +kernel
theorem dX5_puts_15 : decode cX5_puts 15 = .ok (.return_, 1) := by decide +kernel
set_option maxRecDepth 20000 in
theorem ggX5_revises_X5_of : GoodIn wsX5_revises wsX5_of := goodIn_r _ [5, 6, 11, 12, 13, 14, 15, 16, 17] (by decide +kernel) (by decide +kernel)
set_option maxRecDepth 20000 in
theorem gX5_revises_X5_of : GoodIn wsX5_revises (wsV RX5 37 RX5 yX5_of wsX5_of) := goodIn_app (goodIn_of _ (by decide +kernel)) ggX5_revises_X5_of
set_option maxRecDepth 20000 in
theorem ggX5_revises_X5_puts : GoodIn wsX5_revises wsX5_puts := goodIn_r _ [10, 6, 11, 12, 13, 14, 15, 16, 17] (by decide +kernel) (by decide +kernel)
set_option maxRecDepth 20000 in
theorem gX5_revises_X5_puts : GoodIn wsX5_revises (wsV RX5 41 RX5 yX5_puts wsX5_puts) := goodIn_app (goodIn_of _ (by decide +kernel)) ggX5_revises_X5_puts
theorem dX5_revises_0 : decode cX5_revises 0 = .ok (.aload_n 0, 1) := by decide +kernel
theorem dX5_revises_1 : decode cX5_revises 1 = .ok (.iload_n 1, 1) := by decide +kernel
theorem dX5_revises_2 : decode cX5_revises 2 = .ok (.bipush 50, 2) := by decide +kernel
theorem dX5_revises_4 : decode cX5_revises 4 = .ok (.aload_n 0, 1) := by decide +kernel
theorem dX5_revises_5 : decode cX5_revises 5 = .ok (.iload_n 1, 1) := by decide +kernel
theorem dX5_revises_6 : decode cX5_revises 6 = .ok (.bipush 50, 2) := by decide +kernel
theorem dX5_revises_8 : decode cX5_revises 8 = .ok (.invokevirtual 37, 3) := by decide +kernel
theorem dX5_revises_11 : decode cX5_revises 11 = .ok (.iconst 1, 1) := by decide +kernel
theorem dX5_revises_12 : decode cX5_revises 12 = .ok (.iadd, 1) := by decide +kernel
theorem dX5_revises_13 : decode cX5_revises 13 = .ok (.invokevirtual 41, 3) := by decide +kernel
theorem dX5_revises_16 : decode cX5_revises 16 = .ok (.return_, 1) := by decide +kernel
set_option maxRecDepth 20000 in
theorem ggX5_signAt_X5_of : GoodIn wsX5_signAt wsX5_of := goodIn_r _ [5, 6, 7, 8, 9, 10, 11, 12, 13] (by decide +kernel) (by decide +kernel)
set_option maxRecDepth 20000 in
theorem gX5_signAt_X5_of : GoodIn wsX5_signAt (wsV RX5 37 RX5 yX5_of wsX5_of) := goodIn_app (goodIn_of _ (by decide +kernel)) ggX5_signAt_X5_of
theorem dX5_signAt_0 : decode cX5_signAt 0 = .ok (.aload_n 0, 1) := by decide +kernel
theorem dX5_signAt_1 : decode cX5_signAt 1 = .ok (.iload_n 1, 1) := by decide +kernel
theorem dX5_signAt_2 : decode cX5_signAt 2 = .ok (.bipush 10, 2) := by decide +kernel
theorem dX5_signAt_4 : decode cX5_signAt 4 = .ok (.iload_n 2, 1) := by decide +kernel
theorem dX5_signAt_5 : decode cX5_signAt 5 = .ok (.imul, 1) := by decide +kernel
theorem dX5_signAt_6 : decode cX5_signAt 6 = .ok (.iload_n 3, 1) := by decide +kernel
theorem dX5_signAt_7 : decode cX5_signAt 7 = .ok (.iadd, 1) := by decide +kernel
theorem dX5_signAt_8 : decode cX5_signAt 8 = .ok (.invokevirtual 37, 3) := by decide +kernel
theorem dX5_signAt_11 : decode cX5_signAt 11 = .ok (.ireturn, 1) := by decide +kernel
set_option maxRecDepth 20000 in
theorem ggX5_meansAt_X5_signAt : GoodIn wsX5_meansAt wsX5_signAt := goodIn_r _ [5, 6, 7, 8, 4, 9, 10, 11, 12, 13, 14, 15, 16, 17] (by decide +kernel) (by decide +kernel)
set_option maxRecDepth 20000 in
theorem gX5_meansAt_X5_signAt : GoodIn wsX5_meansAt (wsV RX5 45 RX5 yX5_signAt wsX5_signAt) := goodIn_app (goodIn_of _ (by decide +kernel)) ggX5_meansAt_X5_signAt
set_option maxRecDepth 20000 in
theorem ggX5_meansAt_X5_of : GoodIn wsX5_meansAt wsX5_of := goodIn_r _ [9, 10, 11, 12, 13, 14, 15, 16, 17] (by decide +kernel) (by decide +kernel)
set_option maxRecDepth 20000 in
theorem gX5_meansAt_X5_of : GoodIn wsX5_meansAt (wsV RX5 37 RX5 yX5_of wsX5_of) := goodIn_app (goodIn_of _ (by decide +kernel)) ggX5_meansAt_X5_of
theorem dX5_meansAt_0 : decode cX5_meansAt 0 = .ok (.aload_n 0, 1) := by decide +kernel
theorem dX5_meansAt_1 : decode cX5_meansAt 1 = .ok (.iload_n 1, 1) := by decide +kernel
theorem dX5_meansAt_2 : decode cX5_meansAt 2 = .ok (.iload_n 2, 1) := by decide +kernel
theorem dX5_meansAt_3 : decode cX5_meansAt 3 = .ok (.iload_n 3, 1) := by decide +kernel
theorem dX5_meansAt_4 : decode cX5_meansAt 4 = .ok (.invokevirtual 45, 3) := by decide +kernel
theorem dX5_meansAt_7 : decode cX5_meansAt 7 = .ok (.istore 4, 2) := by decide +kernel
theorem dX5_meansAt_9 : decode cX5_meansAt 9 = .ok (.iload 4, 2) := by decide +kernel
theorem dX5_meansAt_11 : decode cX5_meansAt 11 = .ok (.bipush 10, 2) := by decide +kernel
theorem dX5_meansAt_13 : decode cX5_meansAt 13 = .ok (.if_icmp .ne 8, 3) := by decide +kernel
theorem dX5_meansAt_16 : decode cX5_meansAt 16 = .ok (.bipush 10, 2) := by decide +kernel
theorem dX5_meansAt_18 : decode cX5_meansAt 18 = .ok (.goto 13, 3) := by decide +kernel
theorem dX5_meansAt_21 : decode cX5_meansAt 21 = .ok (.aload_n 0, 1) := by decide +kernel
theorem dX5_meansAt_22 : decode cX5_meansAt 22 = .ok (.iload_n 1, 1) := by decide +kernel
theorem dX5_meansAt_23 : decode cX5_meansAt 23 = .ok (.bipush 40, 2) := by decide +kernel
theorem dX5_meansAt_25 : decode cX5_meansAt 25 = .ok (.iload 4, 2) := by decide +kernel
theorem dX5_meansAt_27 : decode cX5_meansAt 27 = .ok (.iadd, 1) := by decide +kernel
theorem dX5_meansAt_28 : decode cX5_meansAt 28 = .ok (.invokevirtual 37, 3) := by decide +kernel
theorem dX5_meansAt_31 : decode cX5_meansAt 31 = .ok (.ireturn, 1) := by decide +kernel
theorem dX5_rowEdges_0 : decode cX5_rowEdges 0 = .ok (.aload_n 0, 1) := by decide +kernel
theorem dX5_rowEdges_1 : decode cX5_rowEdges 1 = .ok (.getfield 7, 3) := by decide +kernel
theorem dX5_rowEdges_4 : decode cX5_rowEdges 4 = .ok (.iconst 0, 1) := by decide +kernel
theorem dX5_rowEdges_5 : decode cX5_rowEdges 5 = .ok (.iaload, 1) := by decide +kernel
theorem dX5_rowEdges_6 : decode cX5_rowEdges 6 = .ok (.iconst 1, 1) := by decide +kernel
theorem dX5_rowEdges_7 : decode cX5_rowEdges 7 = .ok (.isub, 1) := by decide +kernel
theorem dX5_rowEdges_8 : decode cX5_rowEdges 8 = .ok (.aload_n 0, 1) := by decide +kernel
theorem dX5_rowEdges_9 : decode cX5_rowEdges 9 = .ok (.getfield 7, 3) := by decide +kernel
theorem dX5_rowEdges_12 : decode cX5_rowEdges 12 = .ok (.iconst 1, 1) := by decide +kernel
theorem dX5_rowEdges_13 : decode cX5_rowEdges 13 = .ok (.iaload, 1) := by decide +kernel
theorem dX5_rowEdges_14 : decode cX5_rowEdges 14 = .ok (.imul, 1) := by decide +kernel
theorem dX5_rowEdges_15 : decode cX5_rowEdges 15 = .ok (.ireturn, 1) := by decide +kernel
set_option maxRecDepth 20000 in
theorem ggX5_edges_X5_rowEdges : GoodIn wsX5_edges wsX5_rowEdges := goodIn_r _ [6, 1, 7, 8, 9, 10, 11, 12, 13] (by decide +kernel) (by decide +kernel)
set_option maxRecDepth 20000 in
theorem gX5_edges_X5_rowEdges : GoodIn wsX5_edges (wsV RX5 49 RX5 yX5_rowEdges wsX5_rowEdges) := goodIn_app (goodIn_of _ (by decide +kernel)) ggX5_edges_X5_rowEdges
theorem dX5_edges_0 : decode cX5_edges 0 = .ok (.aload_n 0, 1) := by decide +kernel
theorem dX5_edges_1 : decode cX5_edges 1 = .ok (.invokevirtual 49, 3) := by decide +kernel
theorem dX5_edges_4 : decode cX5_edges 4 = .ok (.aload_n 0, 1) := by decide +kernel
theorem dX5_edges_5 : decode cX5_edges 5 = .ok (.getfield 7, 3) := by decide +kernel
theorem dX5_edges_8 : decode cX5_edges 8 = .ok (.iconst 0, 1) := by decide +kernel
theorem dX5_edges_9 : decode cX5_edges 9 = .ok (.iaload, 1) := by decide +kernel
theorem dX5_edges_10 : decode cX5_edges 10 = .ok (.aload_n 0, 1) := by decide +kernel
theorem dX5_edges_11 : decode cX5_edges 11 = .ok (.getfield 7, 3) := by decide +kernel
theorem dX5_edges_14 : decode cX5_edges 14 = .ok (.iconst 1, 1) := by decide +kernel
theorem dX5_edges_15 : decode cX5_edges 15 = .ok (.iaload, 1) := by decide +kernel
theorem dX5_edges_16 : decode cX5_edges 16 = .ok (.iconst 1, 1) := by decide +kernel
theorem dX5_edges_17 : decode cX5_edges 17 = .ok (.isub, 1) := by decide +kernel
theorem dX5_edges_18 : decode cX5_edges 18 = .ok (.imul, 1) := by decide +kernel
theorem dX5_edges_19 : decode cX5_edges 19 = .ok (.iadd, 1) := by decide +kernel
theorem dX5_edges_20 : decode cX5_edges 20 = .ok (.ireturn, 1) := by decide +kernel
set_option maxRecDepth 20000 in
theorem ggX5_isEdge_X5_edges : GoodIn wsX5_isEdge wsX5_edges := goodIn_r _ [5, 6, 7, 8, 9, 4, 10, 11, 12, 13, 14, 15, 16, 17] (by decide +kernel) (by decide +kernel)
set_option maxRecDepth 20000 in
theorem gX5_isEdge_X5_edges : GoodIn wsX5_isEdge (wsV RX5 52 RX5 yX5_edges wsX5_edges) := goodIn_app (goodIn_of _ (by decide +kernel)) ggX5_isEdge_X5_edges
theorem dX5_isEdge_0 : decode cX5_isEdge 0 = .ok (.iload_n 1, 1) := by decide +kernel
theorem dX5_isEdge_1 : decode cX5_isEdge 1 = .ok (.ifCond .lt 15, 3) := by decide +kernel
theorem dX5_isEdge_4 : decode cX5_isEdge 4 = .ok (.iload_n 1, 1) := by decide +kernel
theorem dX5_isEdge_5 : decode cX5_isEdge 5 = .ok (.aload_n 0, 1) := by decide +kernel
theorem dX5_isEdge_6 : decode cX5_isEdge 6 = .ok (.invokevirtual 52, 3) := by decide +kernel
theorem dX5_isEdge_9 : decode cX5_isEdge 9 = .ok (.if_icmp .ge 7, 3) := by decide +kernel
theorem dX5_isEdge_12 : decode cX5_isEdge 12 = .ok (.iconst 1, 1) := by decide +kernel
theorem dX5_isEdge_13 : decode cX5_isEdge 13 = .ok (.goto 4, 3) := by decide +kernel
theorem dX5_isEdge_16 : decode cX5_isEdge 16 = .ok (.iconst 0, 1) := by decide +kernel
theorem dX5_isEdge_17 : decode cX5_isEdge 17 = .ok (.ireturn, 1) := by decide +kernel
set_option maxRecDepth 20000 in
theorem ggX5_firstOf_X5_rowEdges : GoodIn wsX5_firstOf wsX5_rowEdges := goodIn_r _ [6, 1, 7, 8, 9, 10, 11, 12, 13] (by decide +kernel) (by decide +kernel)
set_option maxRecDepth 20000 in
theorem gX5_firstOf_X5_rowEdges : GoodIn wsX5_firstOf (wsV RX5 49 RX5 yX5_rowEdges wsX5_rowEdges) := goodIn_app (goodIn_of _ (by decide +kernel)) ggX5_firstOf_X5_rowEdges
theorem dX5_firstOf_0 : decode cX5_firstOf 0 = .ok (.aload_n 0, 1) := by decide +kernel
theorem dX5_firstOf_1 : decode cX5_firstOf 1 = .ok (.getfield 7, 3) := by decide +kernel
theorem dX5_firstOf_4 : decode cX5_firstOf 4 = .ok (.iconst 0, 1) := by decide +kernel
theorem dX5_firstOf_5 : decode cX5_firstOf 5 = .ok (.iaload, 1) := by decide +kernel
theorem dX5_firstOf_6 : decode cX5_firstOf 6 = .ok (.istore_n 2, 1) := by decide +kernel
theorem dX5_firstOf_7 : decode cX5_firstOf 7 = .ok (.iload_n 1, 1) := by decide +kernel
theorem dX5_firstOf_8 : decode cX5_firstOf 8 = .ok (.aload_n 0, 1) := by decide +kernel
theorem dX5_firstOf_9 : decode cX5_firstOf 9 = .ok (.invokevirtual 49, 3) := by decide +kernel
theorem dX5_firstOf_12 : decode cX5_firstOf 12 = .ok (.if_icmp .ge 19, 3) := by decide +kernel
theorem dX5_firstOf_15 : decode cX5_firstOf 15 = .ok (.iload_n 1, 1) := by decide +kernel
theorem dX5_firstOf_16 : decode cX5_firstOf 16 = .ok (.iload_n 2, 1) := by decide +kernel
theorem dX5_firstOf_17 : decode cX5_firstOf 17 = .ok (.iconst 1, 1) := by decide +kernel
theorem dX5_firstOf_18 : decode cX5_firstOf 18 = .ok (.isub, 1) := by decide +kernel
theorem dX5_firstOf_19 : decode cX5_firstOf 19 = .ok (.idiv, 1) := by decide +kernel
theorem dX5_firstOf_20 : decode cX5_firstOf 20 = .ok (.iload_n 2, 1) := by decide +kernel
theorem dX5_firstOf_21 : decode cX5_firstOf 21 = .ok (.imul, 1) := by decide +kernel
theorem dX5_firstOf_22 : decode cX5_firstOf 22 = .ok (.iload_n 1, 1) := by decide +kernel
theorem dX5_firstOf_23 : decode cX5_firstOf 23 = .ok (.iload_n 2, 1) := by decide +kernel
theorem dX5_firstOf_24 : decode cX5_firstOf 24 = .ok (.iconst 1, 1) := by decide +kernel
theorem dX5_firstOf_25 : decode cX5_firstOf 25 = .ok (.isub, 1) := by decide +kernel
theorem dX5_firstOf_26 : decode cX5_firstOf 26 = .ok (.irem, 1) := by decide +kernel
theorem dX5_firstOf_27 : decode cX5_firstOf 27 = .ok (.iadd, 1) := by decide +kernel
theorem dX5_firstOf_28 : decode cX5_firstOf 28 = .ok (.goto 9, 3) := by decide +kernel
theorem dX5_firstOf_31 : decode cX5_firstOf 31 = .ok (.iload_n 1, 1) := by decide +kernel
theorem dX5_firstOf_32 : decode cX5_firstOf 32 = .ok (.aload_n 0, 1) := by decide +kernel
theorem dX5_firstOf_33 : decode cX5_firstOf 33 = .ok (.invokevirtual 49, 3) := by decide +kernel
theorem dX5_firstOf_36 : decode cX5_firstOf 36 = .ok (.isub, 1) := by decide +kernel
theorem dX5_firstOf_37 : decode cX5_firstOf 37 = .ok (.ireturn, 1) := by decide +kernel
set_option maxRecDepth 20000 in
theorem ggX5_secondOf_X5_firstOf : GoodIn wsX5_secondOf wsX5_firstOf := goodIn_r _ [6, 1, 7, 8, 9, 5, 10, 11, 12, 13, 14, 15, 16, 17] (by decide +kernel) (by decide +kernel)
set_option maxRecDepth 20000 in
theorem gX5_secondOf_X5_firstOf : GoodIn wsX5_secondOf (wsV RX5 55 RX5 yX5_firstOf wsX5_firstOf) := goodIn_app (goodIn_of _ (by decide +kernel)) ggX5_secondOf_X5_firstOf
set_option maxRecDepth 20000 in
theorem ggX5_secondOf_X5_rowEdges : GoodIn wsX5_secondOf wsX5_rowEdges := goodIn_r _ [10, 1, 11, 12, 13, 14, 15, 16, 17] (by decide +kernel) (by decide +kernel)
set_option maxRecDepth 20000 in
theorem gX5_secondOf_X5_rowEdges : GoodIn wsX5_secondOf (wsV RX5 49 RX5 yX5_rowEdges wsX5_rowEdges) := goodIn_app (goodIn_of _ (by decide +kernel)) ggX5_secondOf_X5_rowEdges
theorem dX5_secondOf_0 : decode cX5_secondOf 0 = .ok (.aload_n 0, 1) := by decide +kernel
theorem dX5_secondOf_1 : decode cX5_secondOf 1 = .ok (.iload_n 1, 1) := by decide +kernel
theorem dX5_secondOf_2 : decode cX5_secondOf 2 = .ok (.invokevirtual 55, 3) := by decide +kernel
theorem dX5_secondOf_5 : decode cX5_secondOf 5 = .ok (.iload_n 1, 1) := by decide +kernel
theorem dX5_secondOf_6 : decode cX5_secondOf 6 = .ok (.aload_n 0, 1) := by decide +kernel
theorem dX5_secondOf_7 : decode cX5_secondOf 7 = .ok (.invokevirtual 49, 3) := by decide +kernel
theorem dX5_secondOf_10 : decode cX5_secondOf 10 = .ok (.if_icmp .ge 7, 3) := by decide +kernel
theorem dX5_secondOf_13 : decode cX5_secondOf 13 = .ok (.iconst 1, 1) := by decide +kernel
theorem dX5_secondOf_14 : decode cX5_secondOf 14 = .ok (.goto 9, 3) := by decide +kernel
theorem dX5_secondOf_17 : decode cX5_secondOf 17 = .ok (.aload_n 0, 1) := by decide +kernel
theorem dX5_secondOf_18 : decode cX5_secondOf 18 = .ok (.getfield 7, 3) := by decide +kernel
theorem dX5_secondOf_21 : decode cX5_secondOf 21 = .ok (.iconst 0, 1) := by decide +kernel
theorem dX5_secondOf_22 : decode cX5_secondOf 22 = .ok (.iaload, 1) := by decide +kernel
theorem dX5_secondOf_23 : decode cX5_secondOf 23 = .ok (.iadd, 1) := by decide +kernel
theorem dX5_secondOf_24 : decode cX5_secondOf 24 = .ok (.ireturn, 1) := by decide +kernel
set_option maxRecDepth 20000 in
theorem ggX5_sideOf_X5_rowEdges : GoodIn wsX5_sideOf wsX5_rowEdges := goodIn_r _ [5, 6, 7, 8, 9, 10, 11, 12, 13] (by decide +kernel) (by decide +kernel)
set_option maxRecDepth 20000 in
theorem gX5_sideOf_X5_rowEdges : GoodIn wsX5_sideOf (wsV RX5 49 RX5 yX5_rowEdges wsX5_rowEdges) := goodIn_app (goodIn_of _ (by decide +kernel)) ggX5_sideOf_X5_rowEdges
theorem dX5_sideOf_0 : decode cX5_sideOf 0 = .ok (.iload_n 1, 1) := by decide +kernel
theorem dX5_sideOf_1 : decode cX5_sideOf 1 = .ok (.aload_n 0, 1) := by decide +kernel
theorem dX5_sideOf_2 : decode cX5_sideOf 2 = .ok (.invokevirtual 49, 3) := by decide +kernel
theorem dX5_sideOf_5 : decode cX5_sideOf 5 = .ok (.if_icmp .ge 7, 3) := by decide +kernel
theorem dX5_sideOf_8 : decode cX5_sideOf 8 = .ok (.iconst 1, 1) := by decide +kernel
theorem dX5_sideOf_9 : decode cX5_sideOf 9 = .ok (.goto 4, 3) := by decide +kernel
theorem dX5_sideOf_12 : decode cX5_sideOf 12 = .ok (.iconst 2, 1) := by decide +kernel
theorem dX5_sideOf_13 : decode cX5_sideOf 13 = .ok (.ireturn, 1) := by decide +kernel
set_option maxRecDepth 20000 in
theorem ggX5_edgeOf_X5_rowEdges : GoodIn wsX5_edgeOf wsX5_rowEdges := goodIn_r _ [6, 1, 7, 8, 9, 10, 11, 12, 13] (by decide +kernel) (by decide +kernel)
set_option maxRecDepth 20000 in
theorem gX5_edgeOf_X5_rowEdges : GoodIn wsX5_edgeOf (wsV RX5 49 RX5 yX5_rowEdges wsX5_rowEdges) := goodIn_app (goodIn_of _ (by decide +kernel)) ggX5_edgeOf_X5_rowEdges
theorem dX5_edgeOf_0 : decode cX5_edgeOf 0 = .ok (.aload_n 0, 1) := by decide +kernel
theorem dX5_edgeOf_1 : decode cX5_edgeOf 1 = .ok (.getfield 7, 3) := by decide +kernel
theorem dX5_edgeOf_4 : decode cX5_edgeOf 4 = .ok (.iconst 0, 1) := by decide +kernel
theorem dX5_edgeOf_5 : decode cX5_edgeOf 5 = .ok (.iaload, 1) := by decide +kernel
theorem dX5_edgeOf_6 : decode cX5_edgeOf 6 = .ok (.istore_n 3, 1) := by decide +kernel
theorem dX5_edgeOf_7 : decode cX5_edgeOf 7 = .ok (.iload_n 1, 1) := by decide +kernel
theorem dX5_edgeOf_8 : decode cX5_edgeOf 8 = .ok (.iload_n 3, 1) := by decide +kernel
theorem dX5_edgeOf_9 : decode cX5_edgeOf 9 = .ok (.irem, 1) := by decide +kernel
theorem dX5_edgeOf_10 : decode cX5_edgeOf 10 = .ok (.istore 4, 2) := by decide +kernel
theorem dX5_edgeOf_12 : decode cX5_edgeOf 12 = .ok (.iload_n 1, 1) := by decide +kernel
theorem dX5_edgeOf_13 : decode cX5_edgeOf 13 = .ok (.iload_n 3, 1) := by decide +kernel
theorem dX5_edgeOf_14 : decode cX5_edgeOf 14 = .ok (.idiv, 1) := by decide +kernel
theorem dX5_edgeOf_15 : decode cX5_edgeOf 15 = .ok (.istore 5, 2) := by decide +kernel
theorem dX5_edgeOf_17 : decode cX5_edgeOf 17 = .ok (.iload_n 2, 1) := by decide +kernel
theorem dX5_edgeOf_18 : decode cX5_edgeOf 18 = .ok (.tableswitch 93 0 2 #[26, 45, 68], 26) := by decide +kernel
theorem dX5_edgeOf_44 : decode cX5_edgeOf 44 = .ok (.iload 5, 2) := by decide +kernel
theorem dX5_edgeOf_46 : decode cX5_edgeOf 46 = .ok (.ifCond .le 14, 3) := by decide +kernel
theorem dX5_edgeOf_49 : decode cX5_edgeOf 49 = .ok (.aload_n 0, 1) := by decide +kernel
theorem dX5_edgeOf_50 : decode cX5_edgeOf 50 = .ok (.invokevirtual 49, 3) := by decide +kernel
theorem dX5_edgeOf_53 : decode cX5_edgeOf 53 = .ok (.iload_n 1, 1) := by decide +kernel
theorem dX5_edgeOf_54 : decode cX5_edgeOf 54 = .ok (.iadd, 1) := by decide +kernel
theorem dX5_edgeOf_55 : decode cX5_edgeOf 55 = .ok (.iload_n 3, 1) := by decide +kernel
theorem dX5_edgeOf_56 : decode cX5_edgeOf 56 = .ok (.isub, 1) := by decide +kernel
theorem dX5_edgeOf_57 : decode cX5_edgeOf 57 = .ok (.goto 5, 3) := by decide +kernel
theorem dX5_edgeOf_60 : decode cX5_edgeOf 60 = .ok (.bipush (-4), 2) := by decide +kernel
theorem dX5_edgeOf_62 : decode cX5_edgeOf 62 = .ok (.ireturn, 1) := by decide +kernel
theorem dX5_edgeOf_63 : decode cX5_edgeOf 63 = .ok (.iload 4, 2) := by decide +kernel
theorem dX5_edgeOf_65 : decode cX5_edgeOf 65 = .ok (.iload_n 3, 1) := by decide +kernel
theorem dX5_edgeOf_66 : decode cX5_edgeOf 66 = .ok (.iconst 1, 1) := by decide +kernel
theorem dX5_edgeOf_67 : decode cX5_edgeOf 67 = .ok (.isub, 1) := by decide +kernel
theorem dX5_edgeOf_68 : decode cX5_edgeOf 68 = .ok (.if_icmp .ge 15, 3) := by decide +kernel
theorem dX5_edgeOf_71 : decode cX5_edgeOf 71 = .ok (.iload 5, 2) := by decide +kernel
theorem dX5_edgeOf_73 : decode cX5_edgeOf 73 = .ok (.iload_n 3, 1) := by decide +kernel
theorem dX5_edgeOf_74 : decode cX5_edgeOf 74 = .ok (.iconst 1, 1) := by decide +kernel
theorem dX5_edgeOf_75 : decode cX5_edgeOf 75 = .ok (.isub, 1) := by decide +kernel
theorem dX5_edgeOf_76 : decode cX5_edgeOf 76 = .ok (.imul, 1) := by decide +kernel
theorem dX5_edgeOf_77 : decode cX5_edgeOf 77 = .ok (.iload 4, 2) := by decide +kernel
theorem dX5_edgeOf_79 : decode cX5_edgeOf 79 = .ok (.iadd, 1) := by decide +kernel
theorem dX5_edgeOf_80 : decode cX5_edgeOf 80 = .ok (.goto 5, 3) := by decide +kernel
theorem dX5_edgeOf_83 : decode cX5_edgeOf 83 = .ok (.bipush (-4), 2) := by decide +kernel
theorem dX5_edgeOf_85 : decode cX5_edgeOf 85 = .ok (.ireturn, 1) := by decide +kernel
theorem dX5_edgeOf_86 : decode cX5_edgeOf 86 = .ok (.iload 5, 2) := by decide +kernel
theorem dX5_edgeOf_88 : decode cX5_edgeOf 88 = .ok (.aload_n 0, 1) := by decide +kernel
theorem dX5_edgeOf_89 : decode cX5_edgeOf 89 = .ok (.getfield 7, 3) := by decide +kernel
theorem dX5_edgeOf_92 : decode cX5_edgeOf 92 = .ok (.iconst 1, 1) := by decide +kernel
theorem dX5_edgeOf_93 : decode cX5_edgeOf 93 = .ok (.iaload, 1) := by decide +kernel
theorem dX5_edgeOf_94 : decode cX5_edgeOf 94 = .ok (.iconst 1, 1) := by decide +kernel
theorem dX5_edgeOf_95 : decode cX5_edgeOf 95 = .ok (.isub, 1) := by decide +kernel
theorem dX5_edgeOf_96 : decode cX5_edgeOf 96 = .ok (.if_icmp .ge 12, 3) := by decide +kernel
theorem dX5_edgeOf_99 : decode cX5_edgeOf 99 = .ok (.aload_n 0, 1) := by decide +kernel
theorem dX5_edgeOf_100 : decode cX5_edgeOf 100 = .ok (.invokevirtual 49, 3) := by decide +kernel
theorem dX5_edgeOf_103 : decode cX5_edgeOf 103 = .ok (.iload_n 1, 1) := by decide +kernel
theorem dX5_edgeOf_104 : decode cX5_edgeOf 104 = .ok (.iadd, 1) := by decide +kernel
theorem dX5_edgeOf_105 : decode cX5_edgeOf 105 = .ok (.goto 5, 3) := by decide +kernel
theorem dX5_edgeOf_108 : decode cX5_edgeOf 108 = .ok (.bipush (-4), 2) := by decide +kernel
theorem dX5_edgeOf_110 : decode cX5_edgeOf 110 = .ok (.ireturn, 1) := by decide +kernel
theorem dX5_edgeOf_111 : decode cX5_edgeOf 111 = .ok (.iload 4, 2) := by decide +kernel
theorem dX5_edgeOf_113 : decode cX5_edgeOf 113 = .ok (.ifCond .le 17, 3) := by decide +kernel
theorem dX5_edgeOf_116 : decode cX5_edgeOf 116 = .ok (.iload 5, 2) := by decide +kernel
theorem dX5_edgeOf_118 : decode cX5_edgeOf 118 = .ok (.iload_n 3, 1) := by decide +kernel
theorem dX5_edgeOf_119 : decode cX5_edgeOf 119 = .ok (.iconst 1, 1) := by decide +kernel
theorem dX5_edgeOf_120 : decode cX5_edgeOf 120 = .ok (.isub, 1) := by decide +kernel
theorem dX5_edgeOf_121 : decode cX5_edgeOf 121 = .ok (.imul, 1) := by decide +kernel
theorem dX5_edgeOf_122 : decode cX5_edgeOf 122 = .ok (.iload 4, 2) := by decide +kernel
theorem dX5_edgeOf_124 : decode cX5_edgeOf 124 = .ok (.iadd, 1) := by decide +kernel
theorem dX5_edgeOf_125 : decode cX5_edgeOf 125 = .ok (.iconst 1, 1) := by decide +kernel
theorem dX5_edgeOf_126 : decode cX5_edgeOf 126 = .ok (.isub, 1) := by decide +kernel
theorem dX5_edgeOf_127 : decode cX5_edgeOf 127 = .ok (.goto 5, 3) := by decide +kernel
theorem dX5_edgeOf_130 : decode cX5_edgeOf 130 = .ok (.bipush (-4), 2) := by decide +kernel
theorem dX5_edgeOf_132 : decode cX5_edgeOf 132 = .ok (.ireturn, 1) := by decide +kernel
theorem dX5_isAgreed_0 : decode cX5_isAgreed 0 = .ok (.aload_n 0, 1) := by decide +kernel
theorem dX5_isAgreed_1 : decode cX5_isAgreed 1 = .ok (.getfield 7, 3) := by decide +kernel
theorem dX5_isAgreed_4 : decode cX5_isAgreed 4 = .ok (.iconst 4, 1) := by decide +kernel
theorem dX5_isAgreed_5 : decode cX5_isAgreed 5 = .ok (.iload_n 1, 1) := by decide +kernel
theorem dX5_isAgreed_6 : decode cX5_isAgreed 6 = .ok (.iadd, 1) := by decide +kernel
theorem dX5_isAgreed_7 : decode cX5_isAgreed 7 = .ok (.iaload, 1) := by decide +kernel
theorem dX5_isAgreed_8 : decode cX5_isAgreed 8 = .ok (.iconst 1, 1) := by decide +kernel
theorem dX5_isAgreed_9 : decode cX5_isAgreed 9 = .ok (.if_icmp .ne 7, 3) := by decide +kernel
theorem dX5_isAgreed_12 : decode cX5_isAgreed 12 = .ok (.iconst 1, 1) := by decide +kernel
theorem dX5_isAgreed_13 : decode cX5_isAgreed 13 = .ok (.goto 4, 3) := by decide +kernel
theorem dX5_isAgreed_16 : decode cX5_isAgreed 16 = .ok (.iconst 0, 1) := by decide +kernel
theorem dX5_isAgreed_17 : decode cX5_isAgreed 17 = .ok (.ireturn, 1) := by decide +kernel
set_option maxRecDepth 20000 in
theorem ggX5_firstMeans_X5_firstOf : GoodIn wsX5_firstMeans wsX5_firstOf := goodIn_r _ [5, 6, 7, 8, 9, 4, 10, 27, 28, 29, 30, 31, 32, 33] (by decide +kernel) (by decide +kernel)
set_option maxRecDepth 20000 in
theorem gX5_firstMeans_X5_firstOf : GoodIn wsX5_firstMeans (wsV RX5 55 RX5 yX5_firstOf wsX5_firstOf) := goodIn_app (goodIn_of _ (by decide +kernel)) ggX5_firstMeans_X5_firstOf
set_option maxRecDepth 20000 in
theorem ggX5_firstMeans_X5_sideOf : GoodIn wsX5_firstMeans wsX5_sideOf := goodIn_r _ [14, 7, 8, 9, 4, 10, 6, 27, 28, 29, 30, 31, 32, 33] (by decide +kernel) (by decide +kernel)
set_option maxRecDepth 20000 in
theorem gX5_firstMeans_X5_sideOf : GoodIn wsX5_firstMeans (wsV RX5 59 RX5 yX5_sideOf wsX5_sideOf) := goodIn_app (goodIn_of _ (by decide +kernel)) ggX5_firstMeans_X5_sideOf
set_option maxRecDepth 20000 in
theorem ggX5_firstMeans_X5_meansAt : GoodIn wsX5_firstMeans wsX5_meansAt := goodIn_r _ [18, 19, 20, 21, 4, 22, 23, 24, 25, 26, 6, 27, 28, 29, 30, 31, 32, 33] (by decide +kernel) (by decide +kernel)
set_option maxRecDepth 20000 in
theorem gX5_firstMeans_X5_meansAt : GoodIn wsX5_firstMeans (wsV RX5 62 RX5 yX5_meansAt wsX5_meansAt) := goodIn_app (goodIn_of _ (by decide +kernel)) ggX5_firstMeans_X5_meansAt
theorem dX5_firstMeans_0 : decode cX5_firstMeans 0 = .ok (.aload_n 0, 1) := by decide +kernel
theorem dX5_firstMeans_1 : decode cX5_firstMeans 1 = .ok (.aload_n 0, 1) := by decide +kernel
theorem dX5_firstMeans_2 : decode cX5_firstMeans 2 = .ok (.iload_n 1, 1) := by decide +kernel
theorem dX5_firstMeans_3 : decode cX5_firstMeans 3 = .ok (.invokevirtual 55, 3) := by decide +kernel
theorem dX5_firstMeans_6 : decode cX5_firstMeans 6 = .ok (.aload_n 0, 1) := by decide +kernel
theorem dX5_firstMeans_7 : decode cX5_firstMeans 7 = .ok (.iload_n 1, 1) := by decide +kernel
theorem dX5_firstMeans_8 : decode cX5_firstMeans 8 = .ok (.invokevirtual 59, 3) := by decide +kernel
theorem dX5_firstMeans_11 : decode cX5_firstMeans 11 = .ok (.iload_n 2, 1) := by decide +kernel
theorem dX5_firstMeans_12 : decode cX5_firstMeans 12 = .ok (.invokevirtual 62, 3) := by decide +kernel
theorem dX5_firstMeans_15 : decode cX5_firstMeans 15 = .ok (.ireturn, 1) := by decide +kernel
set_option maxRecDepth 20000 in
theorem ggX5_secondMeans_X5_secondOf : GoodIn wsX5_secondMeans wsX5_secondOf := goodIn_r _ [5, 6, 7, 8, 9, 4, 10, 11, 12, 13, 14, 31, 32, 33, 34, 35, 36, 37] (by decide +kernel) (by decide +kernel)
set_option maxRecDepth 20000 in
theorem gX5_secondMeans_X5_secondOf : GoodIn wsX5_secondMeans (wsV RX5 65 RX5 yX5_secondOf wsX5_secondOf) := goodIn_app (goodIn_of _ (by decide +kernel)) ggX5_secondMeans_X5_secondOf
set_option maxRecDepth 20000 in
theorem ggX5_secondMeans_X5_sideOf : GoodIn wsX5_secondMeans wsX5_sideOf := goodIn_r _ [18, 11, 12, 13, 4, 14, 6, 31, 32, 33, 34, 35, 36, 37] (by decide +kernel) (by decide +kernel)
set_option maxRecDepth 20000 in
theorem gX5_secondMeans_X5_sideOf : GoodIn wsX5_secondMeans (wsV RX5 59 RX5 yX5_sideOf wsX5_sideOf) := goodIn_app (goodIn_of _ (by decide +kernel)) ggX5_secondMeans_X5_sideOf
set_option maxRecDepth 20000 in
theorem ggX5_secondMeans_X5_meansAt : GoodIn wsX5_secondMeans wsX5_meansAt := goodIn_r _ [22, 23, 24, 25, 4, 26, 27, 28, 29, 30, 6, 31, 32, 33, 34, 35, 36, 37] (by decide +kernel) (by decide +kernel)
set_option maxRecDepth 20000 in
theorem gX5_secondMeans_X5_meansAt : GoodIn wsX5_secondMeans (wsV RX5 62 RX5 yX5_meansAt wsX5_meansAt) := goodIn_app (goodIn_of _ (by decide +kernel)) ggX5_secondMeans_X5_meansAt
theorem dX5_secondMeans_0 : decode cX5_secondMeans 0 = .ok (.aload_n 0, 1) := by decide +kernel
theorem dX5_secondMeans_1 : decode cX5_secondMeans 1 = .ok (.aload_n 0, 1) := by decide +kernel
theorem dX5_secondMeans_2 : decode cX5_secondMeans 2 = .ok (.iload_n 1, 1) := by decide +kernel
theorem dX5_secondMeans_3 : decode cX5_secondMeans 3 = .ok (.invokevirtual 65, 3) := by decide +kernel
theorem dX5_secondMeans_6 : decode cX5_secondMeans 6 = .ok (.aload_n 0, 1) := by decide +kernel
theorem dX5_secondMeans_7 : decode cX5_secondMeans 7 = .ok (.iload_n 1, 1) := by decide +kernel
theorem dX5_secondMeans_8 : decode cX5_secondMeans 8 = .ok (.invokevirtual 59, 3) := by decide +kernel
theorem dX5_secondMeans_11 : decode cX5_secondMeans 11 = .ok (.iconst 1, 1) := by decide +kernel
theorem dX5_secondMeans_12 : decode cX5_secondMeans 12 = .ok (.if_icmp .ne 7, 3) := by decide +kernel
theorem dX5_secondMeans_15 : decode cX5_secondMeans 15 = .ok (.iconst 3, 1) := by decide +kernel
theorem dX5_secondMeans_16 : decode cX5_secondMeans 16 = .ok (.goto 4, 3) := by decide +kernel
theorem dX5_secondMeans_19 : decode cX5_secondMeans 19 = .ok (.iconst 0, 1) := by decide +kernel
theorem dX5_secondMeans_20 : decode cX5_secondMeans 20 = .ok (.iload_n 2, 1) := by decide +kernel
theorem dX5_secondMeans_21 : decode cX5_secondMeans 21 = .ok (.invokevirtual 62, 3) := by decide +kernel
theorem dX5_secondMeans_24 : decode cX5_secondMeans 24 = .ok (.ireturn, 1) := by decide +kernel
set_option maxRecDepth 20000 in
theorem ggX5_reasonAt_X5_firstMeans : GoodIn wsX5_reasonAt wsX5_firstMeans := goodIn_r _ [5, 6, 7, 8, 4, 9, 10, 11, 12, 13, 14, 15, 16, 17, 18, 19, 20, 21, 22, 23, 24, 25, 26, 27, 28, 29, 30, 39, 40, 41, 42, 43, 44, 45] (by decide +kernel) (by decide +kernel)
set_option maxRecDepth 20000 in
theorem gX5_reasonAt_X5_firstMeans : GoodIn wsX5_reasonAt (wsV RX5 68 RX5 yX5_firstMeans wsX5_firstMeans) := goodIn_app (goodIn_of _ (by decide +kernel)) ggX5_reasonAt_X5_firstMeans
set_option maxRecDepth 20000 in
theorem ggX5_reasonAt_X5_secondMeans : GoodIn wsX5_reasonAt wsX5_secondMeans := goodIn_r _ [34, 35, 36, 37, 4, 38, 10, 6, 7, 8, 9, 11, 12, 13, 14, 15, 16, 17, 18, 19, 20, 21, 22, 23, 24, 25, 26, 27, 28, 29, 30, 39, 40, 41, 42, 43, 44, 45] (by decide +kernel) (by decide +kernel)
set_option maxRecDepth 20000 in
theorem gX5_reasonAt_X5_secondMeans : GoodIn wsX5_reasonAt (wsV RX5 71 RX5 yX5_secondMeans wsX5_secondMeans) := goodIn_app (goodIn_of _ (by decide +kernel)) ggX5_reasonAt_X5_secondMeans
theorem dX5_reasonAt_0 : decode cX5_reasonAt 0 = .ok (.aload_n 0, 1) := by decide +kernel
theorem dX5_reasonAt_1 : decode cX5_reasonAt 1 = .ok (.iload_n 1, 1) := by decide +kernel
theorem dX5_reasonAt_2 : decode cX5_reasonAt 2 = .ok (.iload_n 2, 1) := by decide +kernel
theorem dX5_reasonAt_3 : decode cX5_reasonAt 3 = .ok (.invokevirtual 68, 3) := by decide +kernel
theorem dX5_reasonAt_6 : decode cX5_reasonAt 6 = .ok (.istore_n 3, 1) := by decide +kernel
theorem dX5_reasonAt_7 : decode cX5_reasonAt 7 = .ok (.aload_n 0, 1) := by decide +kernel
theorem dX5_reasonAt_8 : decode cX5_reasonAt 8 = .ok (.iload_n 1, 1) := by decide +kernel
theorem dX5_reasonAt_9 : decode cX5_reasonAt 9 = .ok (.iload_n 2, 1) := by decide +kernel
theorem dX5_reasonAt_10 : decode cX5_reasonAt 10 = .ok (.invokevirtual 71, 3) := by decide +kernel
theorem dX5_reasonAt_13 : decode cX5_reasonAt 13 = .ok (.istore 4, 2) := by decide +kernel
theorem dX5_reasonAt_15 : decode cX5_reasonAt 15 = .ok (.iload_n 3, 1) := by decide +kernel
theorem dX5_reasonAt_16 : decode cX5_reasonAt 16 = .ok (.iload 4, 2) := by decide +kernel
theorem dX5_reasonAt_18 : decode cX5_reasonAt 18 = .ok (.if_icmp .ne 7, 3) := by decide +kernel
theorem dX5_reasonAt_21 : decode cX5_reasonAt 21 = .ok (.iconst 0, 1) := by decide +kernel
theorem dX5_reasonAt_22 : decode cX5_reasonAt 22 = .ok (.goto 21, 3) := by decide +kernel
theorem dX5_reasonAt_25 : decode cX5_reasonAt 25 = .ok (.iload_n 3, 1) := by decide +kernel
theorem dX5_reasonAt_26 : decode cX5_reasonAt 26 = .ok (.bipush 10, 2) := by decide +kernel
theorem dX5_reasonAt_28 : decode cX5_reasonAt 28 = .ok (.if_icmp .eq 10, 3) := by decide +kernel
theorem dX5_reasonAt_31 : decode cX5_reasonAt 31 = .ok (.iload 4, 2) := by decide +kernel
theorem dX5_reasonAt_33 : decode cX5_reasonAt 33 = .ok (.bipush 10, 2) := by decide +kernel
theorem dX5_reasonAt_35 : decode cX5_reasonAt 35 = .ok (.if_icmp .ne 7, 3) := by decide +kernel
theorem dX5_reasonAt_38 : decode cX5_reasonAt 38 = .ok (.iconst 1, 1) := by decide +kernel
theorem dX5_reasonAt_39 : decode cX5_reasonAt 39 = .ok (.goto 4, 3) := by decide +kernel
theorem dX5_reasonAt_42 : decode cX5_reasonAt 42 = .ok (.iconst 2, 1) := by decide +kernel
theorem dX5_reasonAt_43 : decode cX5_reasonAt 43 = .ok (.ireturn, 1) := by decide +kernel
set_option maxRecDepth 20000 in
theorem ggX5_quarrels_X5_reasonAt : GoodIn wsX5_quarrels wsX5_reasonAt := goodIn_r _ [5, 6, 7, 8, 4, 9, 10, 11, 12, 13, 14, 15, 16, 17, 18, 19, 20, 21, 22, 23, 24, 25, 26, 27, 28, 29, 30, 31, 32, 33, 34, 35, 36, 37, 38, 39, 40, 41, 42, 43, 44, 45, 46, 47, 48, 49] (by decide +kernel) (by decide +kernel)
set_option maxRecDepth 20000 in
theorem gX5_quarrels_X5_reasonAt : GoodIn wsX5_quarrels (wsV RX5 74 RX5 yX5_reasonAt wsX5_reasonAt) := goodIn_app (goodIn_of _ (by decide +kernel)) ggX5_quarrels_X5_reasonAt
theorem dX5_quarrels_0 : decode cX5_quarrels 0 = .ok (.iconst 0, 1) := by decide +kernel
theorem dX5_quarrels_1 : decode cX5_quarrels 1 = .ok (.istore_n 2, 1) := by decide +kernel
theorem dX5_quarrels_2 : decode cX5_quarrels 2 = .ok (.iconst 0, 1) := by decide +kernel
theorem dX5_quarrels_3 : decode cX5_quarrels 3 = .ok (.istore_n 3, 1) := by decide +kernel
theorem dX5_quarrels_4 : decode cX5_quarrels 4 = .ok (.iload_n 3, 1) := by decide +kernel
theorem dX5_quarrels_5 : decode cX5_quarrels 5 = .ok (.bipush 10, 2) := by decide +kernel
theorem dX5_quarrels_7 : decode cX5_quarrels 7 = .ok (.if_icmp .ge 26, 3) := by decide +kernel
theorem dX5_quarrels_10 : decode cX5_quarrels 10 = .ok (.iload_n 2, 1) := by decide +kernel
theorem dX5_quarrels_11 : decode cX5_quarrels 11 = .ok (.aload_n 0, 1) := by decide +kernel
theorem dX5_quarrels_12 : decode cX5_quarrels 12 = .ok (.iload_n 1, 1) := by decide +kernel
theorem dX5_quarrels_13 : decode cX5_quarrels 13 = .ok (.iload_n 3, 1) := by decide +kernel
theorem dX5_quarrels_14 : decode cX5_quarrels 14 = .ok (.invokevirtual 74, 3) := by decide +kernel
theorem dX5_quarrels_17 : decode cX5_quarrels 17 = .ok (.ifCond .le 7, 3) := by decide +kernel
theorem dX5_quarrels_20 : decode cX5_quarrels 20 = .ok (.iconst 1, 1) := by decide +kernel
theorem dX5_quarrels_21 : decode cX5_quarrels 21 = .ok (.goto 4, 3) := by decide +kernel
theorem dX5_quarrels_24 : decode cX5_quarrels 24 = .ok (.iconst 0, 1) := by decide +kernel
theorem dX5_quarrels_25 : decode cX5_quarrels 25 = .ok (.iadd, 1) := by decide +kernel
theorem dX5_quarrels_26 : decode cX5_quarrels 26 = .ok (.istore_n 2, 1) := by decide +kernel
theorem dX5_quarrels_27 : decode cX5_quarrels 27 = .ok (.iinc 3 1, 3) := by decide +kernel
theorem dX5_quarrels_30 : decode cX5_quarrels 30 = .ok (.goto (-26), 3) := by decide +kernel
theorem dX5_quarrels_33 : decode cX5_quarrels 33 = .ok (.iload_n 2, 1) := by decide +kernel
theorem dX5_quarrels_34 : decode cX5_quarrels 34 = .ok (.ireturn, 1) := by decide +kernel
set_option maxRecDepth 20000 in
theorem ggX5_crossings_X5_firstMeans : GoodIn wsX5_crossings wsX5_firstMeans := goodIn_r _ [5, 6, 7, 8, 4, 9, 10, 11, 12, 13, 14, 15, 16, 17, 18, 19, 20, 21, 22, 23, 24, 25, 26, 27, 28, 29, 30, 39, 40, 41, 42, 43, 44, 45] (by decide +kernel) (by decide +kernel)
set_option maxRecDepth 20000 in
theorem gX5_crossings_X5_firstMeans : GoodIn wsX5_crossings (wsV RX5 68 RX5 yX5_firstMeans wsX5_firstMeans) := goodIn_app (goodIn_of _ (by decide +kernel)) ggX5_crossings_X5_firstMeans
set_option maxRecDepth 20000 in
theorem ggX5_crossings_X5_secondMeans : GoodIn wsX5_crossings wsX5_secondMeans := goodIn_r _ [34, 35, 36, 37, 4, 38, 10, 6, 7, 8, 9, 11, 12, 13, 14, 15, 16, 17, 18, 19, 20, 21, 22, 23, 24, 25, 26, 27, 28, 29, 30, 39, 40, 41, 42, 43, 44, 45] (by decide +kernel) (by decide +kernel)
set_option maxRecDepth 20000 in
theorem gX5_crossings_X5_secondMeans : GoodIn wsX5_crossings (wsV RX5 71 RX5 yX5_secondMeans wsX5_secondMeans) := goodIn_app (goodIn_of _ (by decide +kernel)) ggX5_crossings_X5_secondMeans
theorem dX5_crossings_0 : decode cX5_crossings 0 = .ok (.iconst 0, 1) := by decide +kernel
theorem dX5_crossings_1 : decode cX5_crossings 1 = .ok (.istore_n 2, 1) := by decide +kernel
theorem dX5_crossings_2 : decode cX5_crossings 2 = .ok (.iconst 0, 1) := by decide +kernel
theorem dX5_crossings_3 : decode cX5_crossings 3 = .ok (.istore_n 3, 1) := by decide +kernel
theorem dX5_crossings_4 : decode cX5_crossings 4 = .ok (.iload_n 3, 1) := by decide +kernel
theorem dX5_crossings_5 : decode cX5_crossings 5 = .ok (.bipush 10, 2) := by decide +kernel
theorem dX5_crossings_7 : decode cX5_crossings 7 = .ok (.if_icmp .ge 39, 3) := by decide +kernel
theorem dX5_crossings_10 : decode cX5_crossings 10 = .ok (.iload_n 2, 1) := by decide +kernel
theorem dX5_crossings_11 : decode cX5_crossings 11 = .ok (.aload_n 0, 1) := by decide +kernel
theorem dX5_crossings_12 : decode cX5_crossings 12 = .ok (.iload_n 1, 1) := by decide +kernel
theorem dX5_crossings_13 : decode cX5_crossings 13 = .ok (.iload_n 3, 1) := by decide +kernel
theorem dX5_crossings_14 : decode cX5_crossings 14 = .ok (.invokevirtual 68, 3) := by decide +kernel
theorem dX5_crossings_17 : decode cX5_crossings 17 = .ok (.bipush 10, 2) := by decide +kernel
theorem dX5_crossings_19 : decode cX5_crossings 19 = .ok (.if_icmp .eq 18, 3) := by decide +kernel
theorem dX5_crossings_22 : decode cX5_crossings 22 = .ok (.aload_n 0, 1) := by decide +kernel
theorem dX5_crossings_23 : decode cX5_crossings 23 = .ok (.iload_n 1, 1) := by decide +kernel
theorem dX5_crossings_24 : decode cX5_crossings 24 = .ok (.iload_n 3, 1) := by decide +kernel
theorem dX5_crossings_25 : decode cX5_crossings 25 = .ok (.invokevirtual 71, 3) := by decide +kernel
theorem dX5_crossings_28 : decode cX5_crossings 28 = .ok (.bipush 10, 2) := by decide +kernel
theorem dX5_crossings_30 : decode cX5_crossings 30 = .ok (.if_icmp .eq 7, 3) := by decide +kernel
theorem dX5_crossings_33 : decode cX5_crossings 33 = .ok (.iconst 1, 1) := by decide +kernel
theorem dX5_crossings_34 : decode cX5_crossings 34 = .ok (.goto 4, 3) := by decide +kernel
theorem dX5_crossings_37 : decode cX5_crossings 37 = .ok (.iconst 0, 1) := by decide +kernel
theorem dX5_crossings_38 : decode cX5_crossings 38 = .ok (.iadd, 1) := by decide +kernel
theorem dX5_crossings_39 : decode cX5_crossings 39 = .ok (.istore_n 2, 1) := by decide +kernel
theorem dX5_crossings_40 : decode cX5_crossings 40 = .ok (.iinc 3 1, 3) := by decide +kernel
theorem dX5_crossings_43 : decode cX5_crossings 43 = .ok (.goto (-39), 3) := by decide +kernel
theorem dX5_crossings_46 : decode cX5_crossings 46 = .ok (.iload_n 2, 1) := by decide +kernel
theorem dX5_crossings_47 : decode cX5_crossings 47 = .ok (.ireturn, 1) := by decide +kernel
set_option maxRecDepth 20000 in
theorem ggX5_isGuarded_X5_edges : GoodIn wsX5_isGuarded wsX5_edges := goodIn_r _ [6, 1, 7, 8, 9, 5, 10, 55, 56, 57, 58, 59, 60, 61] (by decide +kernel) (by decide +kernel)
set_option maxRecDepth 20000 in
theorem gX5_isGuarded_X5_edges : GoodIn wsX5_isGuarded (wsV RX5 52 RX5 yX5_edges wsX5_edges) := goodIn_app (goodIn_of _ (by decide +kernel)) ggX5_isGuarded_X5_edges
set_option maxRecDepth 20000 in
theorem ggX5_isGuarded_X5_isAgreed : GoodIn wsX5_isGuarded wsX5_isAgreed := goodIn_r _ [14, 1, 55, 56, 57, 58, 59, 60, 61] (by decide +kernel) (by decide +kernel)
set_option maxRecDepth 20000 in
theorem gX5_isGuarded_X5_isAgreed : GoodIn wsX5_isGuarded (wsV RX5 77 RX5 yX5_isAgreed wsX5_isAgreed) := goodIn_app (goodIn_of _ (by decide +kernel)) ggX5_isGuarded_X5_isAgreed
set_option maxRecDepth 20000 in
theorem ggX5_isGuarded_X5_quarrels : GoodIn wsX5_isGuarded wsX5_quarrels := goodIn_r _ [18, 19, 20, 21, 5, 22, 23, 24, 25, 26, 27, 28, 29, 30, 1, 7, 8, 9, 10, 31, 32, 33, 34, 35, 36, 37, 38, 39, 40, 41, 42, 43, 44, 45, 46, 47, 48, 49, 50, 51, 52, 53, 54, 55, 56, 57, 58, 59, 60, 61] (by decide +kernel) (by decide +kernel)
set_option maxRecDepth 20000 in
theorem gX5_isGuarded_X5_quarrels : GoodIn wsX5_isGuarded (wsV RX5 81 RX5 yX5_quarrels wsX5_quarrels) := goodIn_app (goodIn_of _ (by decide +kernel)) ggX5_isGuarded_X5_quarrels
theorem dX5_isGuarded_0 : decode cX5_isGuarded 0 = .ok (.iconst 1, 1) := by decide +kernel
theorem dX5_isGuarded_1 : decode cX5_isGuarded 1 = .ok (.istore_n 1, 1) := by decide +kernel
theorem dX5_isGuarded_2 : decode cX5_isGuarded 2 = .ok (.iconst 0, 1) := by decide +kernel
theorem dX5_isGuarded_3 : decode cX5_isGuarded 3 = .ok (.istore_n 2, 1) := by decide +kernel
theorem dX5_isGuarded_4 : decode cX5_isGuarded 4 = .ok (.iload_n 2, 1) := by decide +kernel
theorem dX5_isGuarded_5 : decode cX5_isGuarded 5 = .ok (.aload_n 0, 1) := by decide +kernel
theorem dX5_isGuarded_6 : decode cX5_isGuarded 6 = .ok (.invokevirtual 52, 3) := by decide +kernel
theorem dX5_isGuarded_9 : decode cX5_isGuarded 9 = .ok (.if_icmp .ge 53, 3) := by decide +kernel
theorem dX5_isGuarded_12 : decode cX5_isGuarded 12 = .ok (.aload_n 0, 1) := by decide +kernel
theorem dX5_isGuarded_13 : decode cX5_isGuarded 13 = .ok (.iload_n 2, 1) := by decide +kernel
theorem dX5_isGuarded_14 : decode cX5_isGuarded 14 = .ok (.invokevirtual 77, 3) := by decide +kernel
theorem dX5_isGuarded_17 : decode cX5_isGuarded 17 = .ok (.ifCond .eq 39, 3) := by decide +kernel
theorem dX5_isGuarded_20 : decode cX5_isGuarded 20 = .ok (.aload_n 0, 1) := by decide +kernel
theorem dX5_isGuarded_21 : decode cX5_isGuarded 21 = .ok (.iload_n 2, 1) := by decide +kernel
theorem dX5_isGuarded_22 : decode cX5_isGuarded 22 = .ok (.invokevirtual 81, 3) := by decide +kernel
theorem dX5_isGuarded_25 : decode cX5_isGuarded 25 = .ok (.ifCond .le 31, 3) := by decide +kernel
theorem dX5_isGuarded_28 : decode cX5_isGuarded 28 = .ok (.iload_n 1, 1) := by decide +kernel
theorem dX5_isGuarded_29 : decode cX5_isGuarded 29 = .ok (.ifCond .eq 16, 3) := by decide +kernel
theorem dX5_isGuarded_32 : decode cX5_isGuarded 32 = .ok (.aload_n 0, 1) := by decide +kernel
theorem dX5_isGuarded_33 : decode cX5_isGuarded 33 = .ok (.getfield 7, 3) := by decide +kernel
theorem dX5_isGuarded_36 : decode cX5_isGuarded 36 = .ok (.iconst 2, 1) := by decide +kernel
theorem dX5_isGuarded_37 : decode cX5_isGuarded 37 = .ok (.iaload, 1) := by decide +kernel
theorem dX5_isGuarded_38 : decode cX5_isGuarded 38 = .ok (.ifCond .ne 7, 3) := by decide +kernel
theorem dX5_isGuarded_41 : decode cX5_isGuarded 41 = .ok (.iconst 1, 1) := by decide +kernel
theorem dX5_isGuarded_42 : decode cX5_isGuarded 42 = .ok (.goto 4, 3) := by decide +kernel
theorem dX5_isGuarded_45 : decode cX5_isGuarded 45 = .ok (.iconst 0, 1) := by decide +kernel
theorem dX5_isGuarded_46 : decode cX5_isGuarded 46 = .ok (.istore_n 1, 1) := by decide +kernel
theorem dX5_isGuarded_47 : decode cX5_isGuarded 47 = .ok (.aload_n 0, 1) := by decide +kernel
theorem dX5_isGuarded_48 : decode cX5_isGuarded 48 = .ok (.getfield 7, 3) := by decide +kernel
theorem dX5_isGuarded_51 : decode cX5_isGuarded 51 = .ok (.iconst 4, 1) := by decide +kernel
theorem dX5_isGuarded_52 : decode cX5_isGuarded 52 = .ok (.iload_n 2, 1) := by decide +kernel
theorem dX5_isGuarded_53 : decode cX5_isGuarded 53 = .ok (.iadd, 1) := by decide +kernel
theorem dX5_isGuarded_54 : decode cX5_isGuarded 54 = .ok (.iconst 0, 1) := by decide +kernel
theorem dX5_isGuarded_55 : decode cX5_isGuarded 55 = .ok (.iastore, 1) := by decide +kernel
theorem dX5_isGuarded_56 : decode cX5_isGuarded 56 = .ok (.iinc 2 1, 3) := by decide +kernel
theorem dX5_isGuarded_59 : decode cX5_isGuarded 59 = .ok (.goto (-55), 3) := by decide +kernel
theorem dX5_isGuarded_62 : decode cX5_isGuarded 62 = .ok (.iload_n 1, 1) := by decide +kernel
theorem dX5_isGuarded_63 : decode cX5_isGuarded 63 = .ok (.ireturn, 1) := by decide +kernel
set_option maxRecDepth 20000 in
theorem ggX5_keeps_X5_isGuarded : GoodIn wsX5_keeps wsX5_isGuarded := goodIn_r _ [5, 6, 7, 8, 9, 4, 10, 11, 12, 13, 14, 15, 16, 17, 18, 19, 20, 21, 22, 23, 24, 25, 26, 27, 28, 29, 30, 31, 32, 33, 34, 35, 36, 37, 38, 39, 40, 41, 42, 43, 44, 45, 46, 47, 48, 49, 50, 51, 52, 53, 54, 55, 56, 57, 58, 78, 79, 80, 81, 82, 83, 84] (by decide +kernel) (by decide +kernel)
set_option maxRecDepth 20000 in
theorem gX5_keeps_X5_isGuarded : GoodIn wsX5_keeps (wsV RX5 84 RX5 yX5_isGuarded wsX5_isGuarded) := goodIn_app (goodIn_of _ (by decide +kernel)) ggX5_keeps_X5_isGuarded
set_option maxRecDepth 20000 in
theorem ggX5_keeps_X5_restore : GoodIn wsX5_keeps wsX5_restore := goodIn_r _ [62, 6, 63, 78, 79, 80, 81, 82, 83, 84] (by decide +kernel) (by decide +kernel)
set_option maxRecDepth 20000 in
theorem gX5_keeps_X5_restore : GoodIn wsX5_keeps (wsV RX5 88 RX5 yX5_restore wsX5_restore) := goodIn_app (goodIn_of _ (by decide +kernel)) ggX5_keeps_X5_restore
set_option maxRecDepth 20000 in
theorem ggX5_keeps_X5_revises : GoodIn wsX5_keeps wsX5_revises := goodIn_r _ [67, 47, 48, 49, 4, 50, 6, 68, 69, 70, 71, 78, 79, 80, 81, 82, 83, 84] (by decide +kernel) (by decide +kernel)
set_option maxRecDepth 20000 in
theorem gX5_keeps_X5_revises : GoodIn wsX5_keeps (wsV RX5 91 RX5 yX5_revises wsX5_revises) := goodIn_app (goodIn_of _ (by decide +kernel)) ggX5_keeps_X5_revises
set_option maxRecDepth 20000 in
theorem ggX5_keeps_X5_records : GoodIn wsX5_keeps wsX5_records := goodIn_r _ [75, 76, 77, 63, 78, 79, 80, 81, 82, 83, 84] (by decide +kernel) (by decide +kernel)
set_option maxRecDepth 20000 in
theorem gX5_keeps_X5_records : GoodIn wsX5_keeps (wsV RX5 95 RX5 yX5_records wsX5_records) := goodIn_app (goodIn_of _ (by decide +kernel)) ggX5_keeps_X5_records
theorem dX5_keeps_0 : decode cX5_keeps 0 = .ok (.aload_n 0, 1) := by decide +kernel
theorem dX5_keeps_1 : decode cX5_keeps 1 = .ok (.invokevirtual 84, 3) := by decide +kernel
theorem dX5_keeps_4 : decode cX5_keeps 4 = .ok (.ifCond .ne 10, 3) := by decide +kernel
theorem dX5_keeps_7 : decode cX5_keeps 7 = .ok (.aload_n 0, 1) := by decide +kernel
theorem dX5_keeps_8 : decode cX5_keeps 8 = .ok (.invokevirtual 88, 3) := by decide +kernel
theorem dX5_keeps_11 : decode cX5_keeps 11 = .ok (.bipush (-2), 2) := by decide +kernel
theorem dX5_keeps_13 : decode cX5_keeps 13 = .ok (.ireturn, 1) := by decide +kernel
theorem dX5_keeps_14 : decode cX5_keeps 14 = .ok (.iload_n 2, 1) := by decide +kernel
theorem dX5_keeps_15 : decode cX5_keeps 15 = .ok (.ifCond .eq 8, 3) := by decide +kernel
theorem dX5_keeps_18 : decode cX5_keeps 18 = .ok (.aload_n 0, 1) := by decide +kernel
theorem dX5_keeps_19 : decode cX5_keeps 19 = .ok (.iload_n 1, 1) := by decide +kernel
theorem dX5_keeps_20 : decode cX5_keeps 20 = .ok (.invokevirtual 91, 3) := by decide +kernel
theorem dX5_keeps_23 : decode cX5_keeps 23 = .ok (.aload_n 0, 1) := by decide +kernel
theorem dX5_keeps_24 : decode cX5_keeps 24 = .ok (.iload_n 3, 1) := by decide +kernel
theorem dX5_keeps_25 : decode cX5_keeps 25 = .ok (.invokevirtual 95, 3) := by decide +kernel
theorem dX5_keeps_28 : decode cX5_keeps 28 = .ok (.ireturn, 1) := by decide +kernel
set_option maxRecDepth 20000 in
theorem ggX5_scaleOf_X5_of : GoodIn wsX5_scaleOf wsX5_of := goodIn_r _ [6, 7, 8, 9, 10, 11, 12, 13, 14] (by decide +kernel) (by decide +kernel)
set_option maxRecDepth 20000 in
theorem gX5_scaleOf_X5_of : GoodIn wsX5_scaleOf (wsV RX5 37 RX5 yX5_of wsX5_of) := goodIn_app (goodIn_of _ (by decide +kernel)) ggX5_scaleOf_X5_of
theorem dX5_scaleOf_0 : decode cX5_scaleOf 0 = .ok (.aload_n 0, 1) := by decide +kernel
theorem dX5_scaleOf_1 : decode cX5_scaleOf 1 = .ok (.iload_n 1, 1) := by decide +kernel
theorem dX5_scaleOf_2 : decode cX5_scaleOf 2 = .ok (.bipush 52, 2) := by decide +kernel
theorem dX5_scaleOf_4 : decode cX5_scaleOf 4 = .ok (.invokevirtual 37, 3) := by decide +kernel
theorem dX5_scaleOf_7 : decode cX5_scaleOf 7 = .ok (.i2f, 1) := by decide +kernel
theorem dX5_scaleOf_8 : decode cX5_scaleOf 8 = .ok (.ldc 98, 2) := by decide +kernel
theorem dX5_scaleOf_10 : decode cX5_scaleOf 10 = .ok (.fdiv, 1) := by decide +kernel
theorem dX5_scaleOf_11 : decode cX5_scaleOf 11 = .ok (.freturn, 1) := by decide +kernel
set_option maxRecDepth 20000 in
theorem ggX5_ratioOf_X5_firstOf : GoodIn wsX5_ratioOf wsX5_firstOf := goodIn_r _ [5, 6, 7, 8, 9, 4, 10, 24, 25, 26, 27, 28, 29, 30] (by decide +kernel) (by decide +kernel)
set_option maxRecDepth 20000 in
theorem gX5_ratioOf_X5_firstOf : GoodIn wsX5_ratioOf (wsV RX5 55 RX5 yX5_firstOf wsX5_firstOf) := goodIn_app (goodIn_of _ (by decide +kernel)) ggX5_ratioOf_X5_firstOf
set_option maxRecDepth 20000 in
theorem ggX5_ratioOf_X5_scaleOf : GoodIn wsX5_ratioOf wsX5_scaleOf := goodIn_r _ [14, 15, 16, 17, 18, 4, 19, 6, 24, 25, 26, 27, 28, 29, 30] (by decide +kernel) (by decide +kernel)
set_option maxRecDepth 20000 in
theorem gX5_ratioOf_X5_scaleOf : GoodIn wsX5_ratioOf (wsV RX5 99 RX5 yX5_scaleOf wsX5_scaleOf) := goodIn_app (goodIn_of _ (by decide +kernel)) ggX5_ratioOf_X5_scaleOf
set_option maxRecDepth 20000 in
theorem ggX5_ratioOf_X5_secondOf : GoodIn wsX5_ratioOf wsX5_secondOf := goodIn_r _ [23, 6, 1, 2, 3, 4, 5, 7, 8, 9, 10, 24, 25, 26, 27, 28, 29, 30] (by decide +kernel) (by decide +kernel)
set_option maxRecDepth 20000 in
theorem gX5_ratioOf_X5_secondOf : GoodIn wsX5_ratioOf (wsV RX5 65 RX5 yX5_secondOf wsX5_secondOf) := goodIn_app (goodIn_of _ (by decide +kernel)) ggX5_ratioOf_X5_secondOf
theorem dX5_ratioOf_0 : decode cX5_ratioOf 0 = .ok (.aload_n 0, 1) := by decide +kernel
theorem dX5_ratioOf_1 : decode cX5_ratioOf 1 = .ok (.aload_n 0, 1) := by decide +kernel
theorem dX5_ratioOf_2 : decode cX5_ratioOf 2 = .ok (.iload_n 1, 1) := by decide +kernel
theorem dX5_ratioOf_3 : decode cX5_ratioOf 3 = .ok (.invokevirtual 55, 3) := by decide +kernel
theorem dX5_ratioOf_6 : decode cX5_ratioOf 6 = .ok (.invokevirtual 99, 3) := by decide +kernel
theorem dX5_ratioOf_9 : decode cX5_ratioOf 9 = .ok (.aload_n 0, 1) := by decide +kernel
theorem dX5_ratioOf_10 : decode cX5_ratioOf 10 = .ok (.aload_n 0, 1) := by decide +kernel
theorem dX5_ratioOf_11 : decode cX5_ratioOf 11 = .ok (.iload_n 1, 1) := by decide +kernel
theorem dX5_ratioOf_12 : decode cX5_ratioOf 12 = .ok (.invokevirtual 65, 3) := by decide +kernel
theorem dX5_ratioOf_15 : decode cX5_ratioOf 15 = .ok (.invokevirtual 99, 3) := by decide +kernel
theorem dX5_ratioOf_18 : decode cX5_ratioOf 18 = .ok (.fdiv, 1) := by decide +kernel
theorem dX5_ratioOf_19 : decode cX5_ratioOf 19 = .ok (.freturn, 1) := by decide +kernel
set_option maxRecDepth 20000 in
theorem ggX5_fits_X5_ratioOf : GoodIn wsX5_fits wsX5_ratioOf := goodIn_r _ [7, 8, 9, 10, 6, 11, 1, 12, 13, 14, 15, 16, 17, 18, 19, 20, 21, 22, 23, 24, 25, 26, 27, 28, 29, 30, 31, 32, 33, 34, 35] (by decide +kernel) (by decide +kernel)
set_option maxRecDepth 20000 in
theorem gX5_fits_X5_ratioOf : GoodIn wsX5_fits (wsV RX5 103 RX5 yX5_ratioOf wsX5_ratioOf) := goodIn_app (goodIn_of _ (by decide +kernel)) ggX5_fits_X5_ratioOf
theorem dX5_fits_0 : decode cX5_fits 0 = .ok (.aload_n 0, 1) := by decide +kernel
theorem dX5_fits_1 : decode cX5_fits 1 = .ok (.iload_n 1, 1) := by decide +kernel
theorem dX5_fits_2 : decode cX5_fits 2 = .ok (.invokevirtual 103, 3) := by decide +kernel
theorem dX5_fits_5 : decode cX5_fits 5 = .ok (.f2d, 1) := by decide +kernel
theorem dX5_fits_6 : decode cX5_fits 6 = .ok (.dconst 1, 1) := by decide +kernel
theorem dX5_fits_7 : decode cX5_fits 7 = .ok (.dsub, 1) := by decide +kernel
theorem dX5_fits_8 : decode cX5_fits 8 = .ok (.dstore_n 2, 1) := by decide +kernel
theorem dX5_fits_9 : decode cX5_fits 9 = .ok (.dload_n 2, 1) := by decide +kernel
theorem dX5_fits_10 : decode cX5_fits 10 = .ok (.dconst 0, 1) := by decide +kernel
theorem dX5_fits_11 : decode cX5_fits 11 = .ok (.dcmp .g, 1) := by decide +kernel
theorem dX5_fits_12 : decode cX5_fits 12 = .ok (.ifCond .ge 8, 3) := by decide +kernel
theorem dX5_fits_15 : decode cX5_fits 15 = .ok (.dload_n 2, 1) := by decide +kernel
theorem dX5_fits_16 : decode cX5_fits 16 = .ok (.dneg, 1) := by decide +kernel
theorem dX5_fits_17 : decode cX5_fits 17 = .ok (.goto 4, 3) := by decide +kernel
theorem dX5_fits_20 : decode cX5_fits 20 = .ok (.dload_n 2, 1) := by decide +kernel
theorem dX5_fits_21 : decode cX5_fits 21 = .ok (.aload_n 0, 1) := by decide +kernel
theorem dX5_fits_22 : decode cX5_fits 22 = .ok (.getfield 7, 3) := by decide +kernel
theorem dX5_fits_25 : decode cX5_fits 25 = .ok (.iconst 3, 1) := by decide +kernel
theorem dX5_fits_26 : decode cX5_fits 26 = .ok (.iaload, 1) := by decide +kernel
theorem dX5_fits_27 : decode cX5_fits 27 = .ok (.i2d, 1) := by decide +kernel
theorem dX5_fits_28 : decode cX5_fits 28 = .ok (.ldc2_w 106, 3) := by decide +kernel
theorem dX5_fits_31 : decode cX5_fits 31 = .ok (.ddiv, 1) := by decide +kernel
theorem dX5_fits_32 : decode cX5_fits 32 = .ok (.dcmp .g, 1) := by decide +kernel
theorem dX5_fits_33 : decode cX5_fits 33 = .ok (.ifCond .gt 7, 3) := by decide +kernel
theorem dX5_fits_36 : decode cX5_fits 36 = .ok (.iconst 1, 1) := by decide +kernel
theorem dX5_fits_37 : decode cX5_fits 37 = .ok (.goto 4, 3) := by decide +kernel
theorem dX5_fits_40 : decode cX5_fits 40 = .ok (.iconst 0, 1) := by decide +kernel
theorem dX5_fits_41 : decode cX5_fits 41 = .ok (.ireturn, 1) := by decide +kernel
set_option maxRecDepth 20000 in
theorem ggX5_findsBlocks_X5_sheets : GoodIn wsX5_findsBlocks wsX5_sheets := goodIn_r _ [6, 7, 28, 29, 30, 31, 32, 33, 34] (by decide +kernel) (by decide +kernel)
set_option maxRecDepth 20000 in
theorem gX5_findsBlocks_X5_sheets : GoodIn wsX5_findsBlocks (wsV RX5 33 RX5 yX5_sheets wsX5_sheets) := goodIn_app (goodIn_of _ (by decide +kernel)) ggX5_findsBlocks_X5_sheets
set_option maxRecDepth 20000 in
theorem ggX5_findsBlocks_X5_edges : GoodIn wsX5_findsBlocks wsX5_edges := goodIn_r _ [11, 7, 12, 13, 14, 5, 15, 28, 29, 30, 31, 32, 33, 34] (by decide +kernel) (by decide +kernel)
set_option maxRecDepth 20000 in
theorem gX5_findsBlocks_X5_edges : GoodIn wsX5_findsBlocks (wsV RX5 52 RX5 yX5_edges wsX5_edges) := goodIn_app (goodIn_of _ (by decide +kernel)) ggX5_findsBlocks_X5_edges
set_option maxRecDepth 20000 in
theorem ggX5_findsBlocks_X5_firstOf : GoodIn wsX5_findsBlocks wsX5_firstOf := goodIn_r _ [19, 7, 12, 13, 14, 5, 15, 28, 29, 30, 31, 32, 33, 34] (by decide +kernel) (by decide +kernel)
set_option maxRecDepth 20000 in
theorem gX5_findsBlocks_X5_firstOf : GoodIn wsX5_findsBlocks (wsV RX5 55 RX5 yX5_firstOf wsX5_firstOf) := goodIn_app (goodIn_of _ (by decide +kernel)) ggX5_findsBlocks_X5_firstOf
set_option maxRecDepth 20000 in
theorem ggX5_findsBlocks_X5_secondOf : GoodIn wsX5_findsBlocks wsX5_secondOf := goodIn_r _ [23, 7, 16, 17, 18, 5, 19, 12, 13, 14, 15, 28, 29, 30, 31, 32, 33, 34] (by decide +kernel) (by decide +kernel)
set_option maxRecDepth 20000 in
theorem gX5_findsBlocks_X5_secondOf : GoodIn wsX5_findsBlocks (wsV RX5 65 RX5 yX5_secondOf wsX5_secondOf) := goodIn_app (goodIn_of _ (by decide +kernel)) ggX5_findsBlocks_X5_secondOf
set_option maxRecDepth 20000 in
theorem ggX5_findsBlocks_X5_isAgreed : GoodIn wsX5_findsBlocks wsX5_isAgreed := goodIn_r _ [27, 7, 28, 29, 30, 31, 32, 33, 34] (by decide +kernel) (by decide +kernel)
set_option maxRecDepth 20000 in
theorem gX5_findsBlocks_X5_isAgreed : GoodIn wsX5_findsBlocks (wsV RX5 77 RX5 yX5_isAgreed wsX5_isAgreed) := goodIn_app (goodIn_of _ (by decide +kernel)) ggX5_findsBlocks_X5_isAgreed
theorem dX5_findsBlocks_0 : decode cX5_findsBlocks 0 = .ok (.iconst 0, 1) := by decide +kernel
theorem dX5_findsBlocks_1 : decode cX5_findsBlocks 1 = .ok (.istore_n 1, 1) := by decide +kernel
theorem dX5_findsBlocks_2 : decode cX5_findsBlocks 2 = .ok (.iload_n 1, 1) := by decide +kernel
theorem dX5_findsBlocks_3 : decode cX5_findsBlocks 3 = .ok (.aload_n 0, 1) := by decide +kernel
theorem dX5_findsBlocks_4 : decode cX5_findsBlocks 4 = .ok (.invokevirtual 33, 3) := by decide +kernel
theorem dX5_findsBlocks_7 : decode cX5_findsBlocks 7 = .ok (.if_icmp .ge 16, 3) := by decide +kernel
theorem dX5_findsBlocks_10 : decode cX5_findsBlocks 10 = .ok (.aload_n 0, 1) := by decide +kernel
theorem dX5_findsBlocks_11 : decode cX5_findsBlocks 11 = .ok (.getfield 22, 3) := by decide +kernel
theorem dX5_findsBlocks_14 : decode cX5_findsBlocks 14 = .ok (.iload_n 1, 1) := by decide +kernel
theorem dX5_findsBlocks_15 : decode cX5_findsBlocks 15 = .ok (.iload_n 1, 1) := by decide +kernel
theorem dX5_findsBlocks_16 : decode cX5_findsBlocks 16 = .ok (.iastore, 1) := by decide +kernel
theorem dX5_findsBlocks_17 : decode cX5_findsBlocks 17 = .ok (.iinc 1 1, 3) := by decide +kernel
theorem dX5_findsBlocks_20 : decode cX5_findsBlocks 20 = .ok (.goto (-18), 3) := by decide +kernel
theorem dX5_findsBlocks_23 : decode cX5_findsBlocks 23 = .ok (.iconst 1, 1) := by decide +kernel
theorem dX5_findsBlocks_24 : decode cX5_findsBlocks 24 = .ok (.istore_n 1, 1) := by decide +kernel
theorem dX5_findsBlocks_25 : decode cX5_findsBlocks 25 = .ok (.iload_n 1, 1) := by decide +kernel
theorem dX5_findsBlocks_26 : decode cX5_findsBlocks 26 = .ok (.ifCond .eq 107, 3) := by decide +kernel
theorem dX5_findsBlocks_29 : decode cX5_findsBlocks 29 = .ok (.iconst 0, 1) := by decide +kernel
theorem dX5_findsBlocks_30 : decode cX5_findsBlocks 30 = .ok (.istore_n 1, 1) := by decide +kernel
theorem dX5_findsBlocks_31 : decode cX5_findsBlocks 31 = .ok (.iconst 0, 1) := by decide +kernel
theorem dX5_findsBlocks_32 : decode cX5_findsBlocks 32 = .ok (.istore_n 2, 1) := by decide +kernel
theorem dX5_findsBlocks_33 : decode cX5_findsBlocks 33 = .ok (.iload_n 2, 1) := by decide +kernel
theorem dX5_findsBlocks_34 : decode cX5_findsBlocks 34 = .ok (.aload_n 0, 1) := by decide +kernel
theorem dX5_findsBlocks_35 : decode cX5_findsBlocks 35 = .ok (.invokevirtual 52, 3) := by decide +kernel
theorem dX5_findsBlocks_38 : decode cX5_findsBlocks 38 = .ok (.if_icmp .ge 92, 3) := by decide +kernel
theorem dX5_findsBlocks_41 : decode cX5_findsBlocks 41 = .ok (.aload_n 0, 1) := by decide +kernel
theorem dX5_findsBlocks_42 : decode cX5_findsBlocks 42 = .ok (.getfield 22, 3) := by decide +kernel
theorem dX5_findsBlocks_45 : decode cX5_findsBlocks 45 = .ok (.aload_n 0, 1) := by decide +kernel
theorem dX5_findsBlocks_46 : decode cX5_findsBlocks 46 = .ok (.iload_n 2, 1) := by decide +kernel
theorem dX5_findsBlocks_47 : decode cX5_findsBlocks 47 = .ok (.invokevirtual 55, 3) := by decide +kernel
theorem dX5_findsBlocks_50 : decode cX5_findsBlocks 50 = .ok (.iaload, 1) := by decide +kernel
theorem dX5_findsBlocks_51 : decode cX5_findsBlocks 51 = .ok (.istore_n 3, 1) := by decide +kernel
theorem dX5_findsBlocks_52 : decode cX5_findsBlocks 52 = .ok (.aload_n 0, 1) := by decide +kernel
theorem dX5_findsBlocks_53 : decode cX5_findsBlocks 53 = .ok (.getfield 22, 3) := by decide +kernel
theorem dX5_findsBlocks_56 : decode cX5_findsBlocks 56 = .ok (.aload_n 0, 1) := by decide +kernel
theorem dX5_findsBlocks_57 : decode cX5_findsBlocks 57 = .ok (.iload_n 2, 1) := by decide +kernel
theorem dX5_findsBlocks_58 : decode cX5_findsBlocks 58 = .ok (.invokevirtual 65, 3) := by decide +kernel
theorem dX5_findsBlocks_61 : decode cX5_findsBlocks 61 = .ok (.iaload, 1) := by decide +kernel
theorem dX5_findsBlocks_62 : decode cX5_findsBlocks 62 = .ok (.istore 4, 2) := by decide +kernel
theorem dX5_findsBlocks_64 : decode cX5_findsBlocks 64 = .ok (.aload_n 0, 1) := by decide +kernel
theorem dX5_findsBlocks_65 : decode cX5_findsBlocks 65 = .ok (.iload_n 2, 1) := by decide +kernel
theorem dX5_findsBlocks_66 : decode cX5_findsBlocks 66 = .ok (.invokevirtual 77, 3) := by decide +kernel
theorem dX5_findsBlocks_69 : decode cX5_findsBlocks 69 = .ok (.ifCond .eq 55, 3) := by decide +kernel
theorem dX5_findsBlocks_72 : decode cX5_findsBlocks 72 = .ok (.iload_n 3, 1) := by decide +kernel
theorem dX5_findsBlocks_73 : decode cX5_findsBlocks 73 = .ok (.iload 4, 2) := by decide +kernel
theorem dX5_findsBlocks_75 : decode cX5_findsBlocks 75 = .ok (.if_icmp .eq 49, 3) := by decide +kernel
theorem dX5_findsBlocks_78 : decode cX5_findsBlocks 78 = .ok (.aload_n 0, 1) := by decide +kernel
theorem dX5_findsBlocks_79 : decode cX5_findsBlocks 79 = .ok (.getfield 22, 3) := by decide +kernel
theorem dX5_findsBlocks_82 : decode cX5_findsBlocks 82 = .ok (.aload_n 0, 1) := by decide +kernel
theorem dX5_findsBlocks_83 : decode cX5_findsBlocks 83 = .ok (.iload_n 2, 1) := by decide +kernel
theorem dX5_findsBlocks_84 : decode cX5_findsBlocks 84 = .ok (.invokevirtual 55, 3) := by decide +kernel
theorem dX5_findsBlocks_87 : decode cX5_findsBlocks 87 = .ok (.iload_n 3, 1) := by decide +kernel
theorem dX5_findsBlocks_88 : decode cX5_findsBlocks 88 = .ok (.iload 4, 2) := by decide +kernel
theorem dX5_findsBlocks_90 : decode cX5_findsBlocks 90 = .ok (.if_icmp .ge 7, 3) := by decide +kernel
theorem dX5_findsBlocks_93 : decode cX5_findsBlocks 93 = .ok (.iload_n 3, 1) := by decide +kernel
theorem dX5_findsBlocks_94 : decode cX5_findsBlocks 94 = .ok (.goto 5, 3) := by decide +kernel
theorem dX5_findsBlocks_97 : decode cX5_findsBlocks 97 = .ok (.iload 4, 2) := by decide +kernel
theorem dX5_findsBlocks_99 : decode cX5_findsBlocks 99 = .ok (.iastore, 1) := by decide +kernel
theorem dX5_findsBlocks_100 : decode cX5_findsBlocks 100 = .ok (.aload_n 0, 1) := by decide +kernel
theorem dX5_findsBlocks_101 : decode cX5_findsBlocks 101 = .ok (.getfield 22, 3) := by decide +kernel
theorem dX5_findsBlocks_104 : decode cX5_findsBlocks 104 = .ok (.aload_n 0, 1) := by decide +kernel
theorem dX5_findsBlocks_105 : decode cX5_findsBlocks 105 = .ok (.iload_n 2, 1) := by decide +kernel
theorem dX5_findsBlocks_106 : decode cX5_findsBlocks 106 = .ok (.invokevirtual 65, 3) := by decide +kernel
theorem dX5_findsBlocks_109 : decode cX5_findsBlocks 109 = .ok (.iload_n 3, 1) := by decide +kernel
theorem dX5_findsBlocks_110 : decode cX5_findsBlocks 110 = .ok (.iload 4, 2) := by decide +kernel
theorem dX5_findsBlocks_112 : decode cX5_findsBlocks 112 = .ok (.if_icmp .ge 7, 3) := by decide +kernel
theorem dX5_findsBlocks_115 : decode cX5_findsBlocks 115 = .ok (.iload_n 3, 1) := by decide +kernel
theorem dX5_findsBlocks_116 : decode cX5_findsBlocks 116 = .ok (.goto 5, 3) := by decide +kernel
theorem dX5_findsBlocks_119 : decode cX5_findsBlocks 119 = .ok (.iload 4, 2) := by decide +kernel
theorem dX5_findsBlocks_121 : decode cX5_findsBlocks 121 = .ok (.iastore, 1) := by decide +kernel
theorem dX5_findsBlocks_122 : decode cX5_findsBlocks 122 = .ok (.iconst 1, 1) := by decide +kernel
theorem dX5_findsBlocks_123 : decode cX5_findsBlocks 123 = .ok (.istore_n 1, 1) := by decide +kernel
theorem dX5_findsBlocks_124 : decode cX5_findsBlocks 124 = .ok (.iinc 2 1, 3) := by decide +kernel
theorem dX5_findsBlocks_127 : decode cX5_findsBlocks 127 = .ok (.goto (-94), 3) := by decide +kernel
theorem dX5_findsBlocks_130 : decode cX5_findsBlocks 130 = .ok (.goto (-105), 3) := by decide +kernel
theorem dX5_findsBlocks_133 : decode cX5_findsBlocks 133 = .ok (.return_, 1) := by decide +kernel
set_option maxRecDepth 20000 in
theorem ggX5_blocks_X5_findsBlocks : GoodIn wsX5_blocks wsX5_findsBlocks := goodIn_r _ [6, 1, 7, 8, 9, 5, 10, 11, 12, 13, 14, 15, 16, 17, 18, 19, 20, 21, 22, 23, 24, 25, 26, 27, 28, 29, 30, 31, 32, 33, 34, 35, 36, 37, 38] (by decide +kernel) (by decide +kernel)
set_option maxRecDepth 20000 in
theorem gX5_blocks_X5_findsBlocks : GoodIn wsX5_blocks (wsV RX5 108 RX5 yX5_findsBlocks wsX5_findsBlocks) := goodIn_app (goodIn_of _ (by decide +kernel)) ggX5_blocks_X5_findsBlocks
set_option maxRecDepth 20000 in
theorem ggX5_blocks_X5_sheets : GoodIn wsX5_blocks wsX5_sheets := goodIn_r _ [10, 11, 32, 33, 34, 35, 36, 37, 38] (by decide +kernel) (by decide +kernel)
set_option maxRecDepth 20000 in
theorem gX5_blocks_X5_sheets : GoodIn wsX5_blocks (wsV RX5 33 RX5 yX5_sheets wsX5_sheets) := goodIn_app (goodIn_of _ (by decide +kernel)) ggX5_blocks_X5_sheets
theorem dX5_blocks_0 : decode cX5_blocks 0 = .ok (.aload_n 0, 1) := by decide +kernel
theorem dX5_blocks_1 : decode cX5_blocks 1 = .ok (.invokevirtual 108, 3) := by decide +kernel
theorem dX5_blocks_4 : decode cX5_blocks 4 = .ok (.iconst 0, 1) := by decide +kernel
theorem dX5_blocks_5 : decode cX5_blocks 5 = .ok (.istore_n 1, 1) := by decide +kernel
theorem dX5_blocks_6 : decode cX5_blocks 6 = .ok (.iconst 0, 1) := by decide +kernel
theorem dX5_blocks_7 : decode cX5_blocks 7 = .ok (.istore_n 2, 1) := by decide +kernel
theorem dX5_blocks_8 : decode cX5_blocks 8 = .ok (.iload_n 2, 1) := by decide +kernel
theorem dX5_blocks_9 : decode cX5_blocks 9 = .ok (.aload_n 0, 1) := by decide +kernel
theorem dX5_blocks_10 : decode cX5_blocks 10 = .ok (.invokevirtual 33, 3) := by decide +kernel
theorem dX5_blocks_13 : decode cX5_blocks 13 = .ok (.if_icmp .ge 27, 3) := by decide +kernel
theorem dX5_blocks_16 : decode cX5_blocks 16 = .ok (.iload_n 1, 1) := by decide +kernel
theorem dX5_blocks_17 : decode cX5_blocks 17 = .ok (.aload_n 0, 1) := by decide +kernel
theorem dX5_blocks_18 : decode cX5_blocks 18 = .ok (.getfield 22, 3) := by decide +kernel
theorem dX5_blocks_21 : decode cX5_blocks 21 = .ok (.iload_n 2, 1) := by decide +kernel
theorem dX5_blocks_22 : decode cX5_blocks 22 = .ok (.iaload, 1) := by decide +kernel
theorem dX5_blocks_23 : decode cX5_blocks 23 = .ok (.iload_n 2, 1) := by decide +kernel
theorem dX5_blocks_24 : decode cX5_blocks 24 = .ok (.if_icmp .ne 7, 3) := by decide +kernel
theorem dX5_blocks_27 : decode cX5_blocks 27 = .ok (.iconst 1, 1) := by decide +kernel
theorem dX5_blocks_28 : decode cX5_blocks 28 = .ok (.goto 4, 3) := by decide +kernel
theorem dX5_blocks_31 : decode cX5_blocks 31 = .ok (.iconst 0, 1) := by decide +kernel
theorem dX5_blocks_32 : decode cX5_blocks 32 = .ok (.iadd, 1) := by decide +kernel
theorem dX5_blocks_33 : decode cX5_blocks 33 = .ok (.istore_n 1, 1) := by decide +kernel
theorem dX5_blocks_34 : decode cX5_blocks 34 = .ok (.iinc 2 1, 3) := by decide +kernel
theorem dX5_blocks_37 : decode cX5_blocks 37 = .ok (.goto (-29), 3) := by decide +kernel
theorem dX5_blocks_40 : decode cX5_blocks 40 = .ok (.iload_n 1, 1) := by decide +kernel
theorem dX5_blocks_41 : decode cX5_blocks 41 = .ok (.ireturn, 1) := by decide +kernel
set_option maxRecDepth 20000 in
theorem ggX5_blockOf_X5_findsBlocks : GoodIn wsX5_blockOf wsX5_findsBlocks := goodIn_r _ [6, 1, 7, 8, 9, 5, 10, 11, 12, 13, 14, 15, 16, 17, 18, 19, 20, 21, 22, 23, 24, 25, 26, 27, 28, 29, 30, 31, 32, 33, 34, 35, 36, 37, 38] (by decide +kernel) (by decide +kernel)
set_option maxRecDepth 20000 in
theorem gX5_blockOf_X5_findsBlocks : GoodIn wsX5_blockOf (wsV RX5 108 RX5 yX5_findsBlocks wsX5_findsBlocks) := goodIn_app (goodIn_of _ (by decide +kernel)) ggX5_blockOf_X5_findsBlocks
theorem dX5_blockOf_0 : decode cX5_blockOf 0 = .ok (.aload_n 0, 1) := by decide +kernel
theorem dX5_blockOf_1 : decode cX5_blockOf 1 = .ok (.invokevirtual 108, 3) := by decide +kernel
theorem dX5_blockOf_4 : decode cX5_blockOf 4 = .ok (.aload_n 0, 1) := by decide +kernel
theorem dX5_blockOf_5 : decode cX5_blockOf 5 = .ok (.getfield 22, 3) := by decide +kernel
theorem dX5_blockOf_8 : decode cX5_blockOf 8 = .ok (.iload_n 1, 1) := by decide +kernel
theorem dX5_blockOf_9 : decode cX5_blockOf 9 = .ok (.iaload, 1) := by decide +kernel
theorem dX5_blockOf_10 : decode cX5_blockOf 10 = .ok (.ireturn, 1) := by decide +kernel
set_option maxRecDepth 20000 in
theorem ggX5_grid_X5_in : GoodIn wsX5_grid wsX5_in := goodIn_r _ [4] (by decide +kernel) (by decide +kernel)
set_option maxRecDepth 20000 in
theorem gX5_grid_X5_in : GoodIn wsX5_grid (va_wsS RX5 111 yX5_in wsX5_in) := goodIn_app (goodIn_of _ (by decide +kernel)) ggX5_grid_X5_in
set_option maxRecDepth 20000 in
theorem ggX5_grid_X5_hold : GoodIn wsX5_grid wsX5_hold := goodIn_r _ [8, 9, 10, 29, 30, 31, 32, 33, 34, 35] (by decide +kernel) (by decide +kernel)
set_option maxRecDepth 20000 in
theorem gX5_grid_X5_hold : GoodIn wsX5_grid (wsV RX5 115 RX5 yX5_hold wsX5_hold) := goodIn_app (goodIn_of _ (by decide +kernel)) ggX5_grid_X5_hold
set_option maxRecDepth 20000 in
theorem ggX5_grid_X5_begins : GoodIn wsX5_grid wsX5_begins := goodIn_r _ [14, 10, 29, 30, 31, 32, 33, 34, 35] (by decide +kernel) (by decide +kernel)
set_option maxRecDepth 20000 in
theorem gX5_grid_X5_begins : GoodIn wsX5_grid (wsV RX5 25 RX5 yX5_begins wsX5_begins) := goodIn_app (goodIn_of _ (by decide +kernel)) ggX5_grid_X5_begins
set_option maxRecDepth 20000 in
theorem ggX5_grid_X5_edges : GoodIn wsX5_grid wsX5_edges := goodIn_r _ [18, 10, 19, 20, 21, 3, 22, 29, 30, 31, 32, 33, 34, 35] (by decide +kernel) (by decide +kernel)
set_option maxRecDepth 20000 in
theorem gX5_grid_X5_edges : GoodIn wsX5_grid (wsV RX5 52 RX5 yX5_edges wsX5_edges) := goodIn_app (goodIn_of _ (by decide +kernel)) ggX5_grid_X5_edges
set_option maxRecDepth 20000 in
theorem ggX5_grid_X5_records : GoodIn wsX5_grid wsX5_records := goodIn_r _ [26, 27, 28, 9, 29, 30, 31, 32, 33, 34, 35] (by decide +kernel) (by decide +kernel)
set_option maxRecDepth 20000 in
theorem gX5_grid_X5_records : GoodIn wsX5_grid (wsV RX5 95 RX5 yX5_records wsX5_records) := goodIn_app (goodIn_of _ (by decide +kernel)) ggX5_grid_X5_records
theorem dX5_grid_0 : decode cX5_grid 0 = .ok (.iload_n 1, 1) := by decide +kernel
theorem dX5_grid_1 : decode cX5_grid 1 = .ok (.iconst 1, 1) := by decide +kernel
theorem dX5_grid_2 : decode cX5_grid 2 = .ok (.bipush 6, 2) := by decide +kernel
theorem dX5_grid_4 : decode cX5_grid 4 = .ok (.invokestatic 111, 3) := by decide +kernel
theorem dX5_grid_7 : decode cX5_grid 7 = .ok (.ifCond .eq 13, 3) := by decide +kernel
theorem dX5_grid_10 : decode cX5_grid 10 = .ok (.iload_n 2, 1) := by decide +kernel
theorem dX5_grid_11 : decode cX5_grid 11 = .ok (.iconst 1, 1) := by decide +kernel
theorem dX5_grid_12 : decode cX5_grid 12 = .ok (.bipush 6, 2) := by decide +kernel
theorem dX5_grid_14 : decode cX5_grid 14 = .ok (.invokestatic 111, 3) := by decide +kernel
theorem dX5_grid_17 : decode cX5_grid 17 = .ok (.ifCond .ne 5, 3) := by decide +kernel
theorem dX5_grid_20 : decode cX5_grid 20 = .ok (.iconst (-1), 1) := by decide +kernel
theorem dX5_grid_21 : decode cX5_grid 21 = .ok (.ireturn, 1) := by decide +kernel
theorem dX5_grid_22 : decode cX5_grid 22 = .ok (.aload_n 0, 1) := by decide +kernel
theorem dX5_grid_23 : decode cX5_grid 23 = .ok (.invokevirtual 115, 3) := by decide +kernel
theorem dX5_grid_26 : decode cX5_grid 26 = .ok (.aload_n 0, 1) := by decide +kernel
theorem dX5_grid_27 : decode cX5_grid 27 = .ok (.iload_n 1, 1) := by decide +kernel
theorem dX5_grid_28 : decode cX5_grid 28 = .ok (.iload_n 2, 1) := by decide +kernel
theorem dX5_grid_29 : decode cX5_grid 29 = .ok (.invokevirtual 25, 3) := by decide +kernel
theorem dX5_grid_32 : decode cX5_grid 32 = .ok (.aload_n 0, 1) := by decide +kernel
theorem dX5_grid_33 : decode cX5_grid 33 = .ok (.aload_n 0, 1) := by decide +kernel
theorem dX5_grid_34 : decode cX5_grid 34 = .ok (.invokevirtual 52, 3) := by decide +kernel
theorem dX5_grid_37 : decode cX5_grid 37 = .ok (.invokevirtual 95, 3) := by decide +kernel
theorem dX5_grid_40 : decode cX5_grid 40 = .ok (.ireturn, 1) := by decide +kernel
set_option maxRecDepth 20000 in
theorem ggX5_set_X5_in : GoodIn wsX5_set wsX5_in := goodIn_r _ [5] (by decide +kernel) (by decide +kernel)
set_option maxRecDepth 20000 in
theorem gX5_set_X5_in : GoodIn wsX5_set (va_wsS RX5 111 yX5_in wsX5_in) := goodIn_app (goodIn_of _ (by decide +kernel)) ggX5_set_X5_in
set_option maxRecDepth 20000 in
theorem ggX5_set_X5_hold : GoodIn wsX5_set wsX5_hold := goodIn_r _ [9, 10, 1, 17, 18, 19, 20, 21, 22, 23] (by decide +kernel) (by decide +kernel)
set_option maxRecDepth 20000 in
theorem gX5_set_X5_hold : GoodIn wsX5_set (wsV RX5 115 RX5 yX5_hold wsX5_hold) := goodIn_app (goodIn_of _ (by decide +kernel)) ggX5_set_X5_hold
set_option maxRecDepth 20000 in
theorem ggX5_set_X5_records : GoodIn wsX5_set wsX5_records := goodIn_r _ [14, 15, 16, 10, 17, 18, 19, 20, 21, 22, 23] (by decide +kernel) (by decide +kernel)
set_option maxRecDepth 20000 in
theorem gX5_set_X5_records : GoodIn wsX5_set (wsV RX5 95 RX5 yX5_records wsX5_records) := goodIn_app (goodIn_of _ (by decide +kernel)) ggX5_set_X5_records
theorem dX5_set_0 : decode cX5_set 0 = .ok (.iload_n 1, 1) := by decide +kernel
theorem dX5_set_1 : decode cX5_set 1 = .ok (.iconst 0, 1) := by decide +kernel
theorem dX5_set_2 : decode cX5_set 2 = .ok (.iconst 1, 1) := by decide +kernel
theorem dX5_set_3 : decode cX5_set 3 = .ok (.invokestatic 111, 3) := by decide +kernel
theorem dX5_set_6 : decode cX5_set 6 = .ok (.ifCond .eq 22, 3) := by decide +kernel
theorem dX5_set_9 : decode cX5_set 9 = .ok (.iload_n 2, 1) := by decide +kernel
theorem dX5_set_10 : decode cX5_set 10 = .ok (.iconst 0, 1) := by decide +kernel
theorem dX5_set_11 : decode cX5_set 11 = .ok (.iload_n 1, 1) := by decide +kernel
theorem dX5_set_12 : decode cX5_set 12 = .ok (.ifCond .ne 7, 3) := by decide +kernel
theorem dX5_set_15 : decode cX5_set 15 = .ok (.iconst 1, 1) := by decide +kernel
theorem dX5_set_16 : decode cX5_set 16 = .ok (.goto 6, 3) := by decide +kernel
theorem dX5_set_19 : decode cX5_set 19 = .ok (.sipush 1000, 3) := by decide +kernel
theorem dX5_set_22 : decode cX5_set 22 = .ok (.invokestatic 111, 3) := by decide +kernel
theorem dX5_set_25 : decode cX5_set 25 = .ok (.ifCond .ne 5, 3) := by decide +kernel
theorem dX5_set_28 : decode cX5_set 28 = .ok (.iconst (-1), 1) := by decide +kernel
theorem dX5_set_29 : decode cX5_set 29 = .ok (.ireturn, 1) := by decide +kernel
theorem dX5_set_30 : decode cX5_set 30 = .ok (.aload_n 0, 1) := by decide +kernel
theorem dX5_set_31 : decode cX5_set 31 = .ok (.invokevirtual 115, 3) := by decide +kernel
theorem dX5_set_34 : decode cX5_set 34 = .ok (.aload_n 0, 1) := by decide +kernel
theorem dX5_set_35 : decode cX5_set 35 = .ok (.getfield 7, 3) := by decide +kernel
theorem dX5_set_38 : decode cX5_set 38 = .ok (.iconst 2, 1) := by decide +kernel
theorem dX5_set_39 : decode cX5_set 39 = .ok (.iload_n 1, 1) := by decide +kernel
theorem dX5_set_40 : decode cX5_set 40 = .ok (.iadd, 1) := by decide +kernel
theorem dX5_set_41 : decode cX5_set 41 = .ok (.iaload, 1) := by decide +kernel
theorem dX5_set_42 : decode cX5_set 42 = .ok (.istore_n 3, 1) := by decide +kernel
theorem dX5_set_43 : decode cX5_set 43 = .ok (.aload_n 0, 1) := by decide +kernel
theorem dX5_set_44 : decode cX5_set 44 = .ok (.getfield 7, 3) := by decide +kernel
theorem dX5_set_47 : decode cX5_set 47 = .ok (.iconst 2, 1) := by decide +kernel
theorem dX5_set_48 : decode cX5_set 48 = .ok (.iload_n 1, 1) := by decide +kernel
theorem dX5_set_49 : decode cX5_set 49 = .ok (.iadd, 1) := by decide +kernel
theorem dX5_set_50 : decode cX5_set 50 = .ok (.iload_n 2, 1) := by decide +kernel
theorem dX5_set_51 : decode cX5_set 51 = .ok (.iastore, 1) := by decide +kernel
theorem dX5_set_52 : decode cX5_set 52 = .ok (.aload_n 0, 1) := by decide +kernel
theorem dX5_set_53 : decode cX5_set 53 = .ok (.iload_n 3, 1) := by decide +kernel
theorem dX5_set_54 : decode cX5_set 54 = .ok (.invokevirtual 95, 3) := by decide +kernel
theorem dX5_set_57 : decode cX5_set 57 = .ok (.ireturn, 1) := by decide +kernel
set_option maxRecDepth 20000 in
theorem ggX5_isPlace_X5_isSheet : GoodIn wsX5_isPlace wsX5_isSheet := goodIn_r _ [5, 6, 7, 8, 4, 9, 10, 14, 15, 16, 17, 18, 19, 20] (by decide +kernel) (by decide +kernel)
set_option maxRecDepth 20000 in
theorem gX5_isPlace_X5_isSheet : GoodIn wsX5_isPlace (wsV RX5 118 RX5 yX5_isSheet wsX5_isSheet) := goodIn_app (goodIn_of _ (by decide +kernel)) ggX5_isPlace_X5_isSheet
set_option maxRecDepth 20000 in
theorem ggX5_isPlace_X5_in : GoodIn wsX5_isPlace wsX5_in := goodIn_r _ [13] (by decide +kernel) (by decide +kernel)
set_option maxRecDepth 20000 in
theorem gX5_isPlace_X5_in : GoodIn wsX5_isPlace (va_wsS RX5 111 yX5_in wsX5_in) := goodIn_app (goodIn_of _ (by decide +kernel)) ggX5_isPlace_X5_in
theorem dX5_isPlace_0 : decode cX5_isPlace 0 = .ok (.aload_n 0, 1) := by decide +kernel
theorem dX5_isPlace_1 : decode cX5_isPlace 1 = .ok (.iload_n 1, 1) := by decide +kernel
theorem dX5_isPlace_2 : decode cX5_isPlace 2 = .ok (.invokevirtual 118, 3) := by decide +kernel
theorem dX5_isPlace_5 : decode cX5_isPlace 5 = .ok (.ifCond .eq 26, 3) := by decide +kernel
theorem dX5_isPlace_8 : decode cX5_isPlace 8 = .ok (.iload_n 2, 1) := by decide +kernel
theorem dX5_isPlace_9 : decode cX5_isPlace 9 = .ok (.iconst 0, 1) := by decide +kernel
theorem dX5_isPlace_10 : decode cX5_isPlace 10 = .ok (.iconst 3, 1) := by decide +kernel
theorem dX5_isPlace_11 : decode cX5_isPlace 11 = .ok (.invokestatic 111, 3) := by decide +kernel
theorem dX5_isPlace_14 : decode cX5_isPlace 14 = .ok (.ifCond .eq 17, 3) := by decide +kernel
theorem dX5_isPlace_17 : decode cX5_isPlace 17 = .ok (.iload_n 3, 1) := by decide +kernel
theorem dX5_isPlace_18 : decode cX5_isPlace 18 = .ok (.iconst 0, 1) := by decide +kernel
theorem dX5_isPlace_19 : decode cX5_isPlace 19 = .ok (.bipush 9, 2) := by decide +kernel
theorem dX5_isPlace_21 : decode cX5_isPlace 21 = .ok (.invokestatic 111, 3) := by decide +kernel
theorem dX5_isPlace_24 : decode cX5_isPlace 24 = .ok (.ifCond .eq 7, 3) := by decide +kernel
theorem dX5_isPlace_27 : decode cX5_isPlace 27 = .ok (.iconst 1, 1) := by decide +kernel
theorem dX5_isPlace_28 : decode cX5_isPlace 28 = .ok (.goto 4, 3) := by decide +kernel
theorem dX5_isPlace_31 : decode cX5_isPlace 31 = .ok (.iconst 0, 1) := by decide +kernel
theorem dX5_isPlace_32 : decode cX5_isPlace 32 = .ok (.ireturn, 1) := by decide +kernel
set_option maxRecDepth 20000 in
theorem ggX5_show_X5_isPlace : GoodIn wsX5_show wsX5_isPlace := goodIn_r _ [5, 6, 7, 8, 4, 9, 10, 11, 12, 13, 14, 15, 16, 17, 101, 102, 103, 104, 105, 106, 107] (by decide +kernel) (by decide +kernel)
set_option maxRecDepth 20000 in
theorem gX5_show_X5_isPlace : GoodIn wsX5_show (wsV RX5 121 RX5 yX5_isPlace wsX5_isPlace) := goodIn_app (goodIn_of _ (by decide +kernel)) ggX5_show_X5_isPlace
set_option maxRecDepth 20000 in
theorem ggX5_show_X5_in : GoodIn wsX5_show wsX5_in := goodIn_r _ [17] (by decide +kernel) (by decide +kernel)
set_option maxRecDepth 20000 in
theorem gX5_show_X5_in : GoodIn wsX5_show (va_wsS RX5 111 yX5_in wsX5_in) := goodIn_app (goodIn_of _ (by decide +kernel)) ggX5_show_X5_in
set_option maxRecDepth 20000 in
theorem ggX5_show_X5_hold : GoodIn wsX5_show wsX5_hold := goodIn_r _ [21, 22, 14, 101, 102, 103, 104, 105, 106, 107] (by decide +kernel) (by decide +kernel)
set_option maxRecDepth 20000 in
theorem gX5_show_X5_hold : GoodIn wsX5_show (wsV RX5 115 RX5 yX5_hold wsX5_hold) := goodIn_app (goodIn_of _ (by decide +kernel)) ggX5_show_X5_hold
set_option maxRecDepth 20000 in
theorem ggX5_show_X5_signAt : GoodIn wsX5_show wsX5_signAt := goodIn_r _ [26, 27, 28, 29, 4, 30, 14, 101, 102, 103, 104, 105, 106, 107] (by decide +kernel) (by decide +kernel)
set_option maxRecDepth 20000 in
theorem gX5_show_X5_signAt : GoodIn wsX5_show (wsV RX5 45 RX5 yX5_signAt wsX5_signAt) := goodIn_app (goodIn_of _ (by decide +kernel)) ggX5_show_X5_signAt
set_option maxRecDepth 20000 in
theorem ggX5_show_X5_puts : GoodIn wsX5_show wsX5_puts := goodIn_r _ [34, 14, 101, 102, 103, 104, 105, 106, 107] (by decide +kernel) (by decide +kernel)
set_option maxRecDepth 20000 in
theorem gX5_show_X5_puts : GoodIn wsX5_show (wsV RX5 41 RX5 yX5_puts wsX5_puts) := goodIn_app (goodIn_of _ (by decide +kernel)) ggX5_show_X5_puts
set_option maxRecDepth 20000 in
theorem ggX5_show_X5_keeps : GoodIn wsX5_show wsX5_keeps := goodIn_r _ [38, 39, 40, 41, 4, 42, 14, 43, 44, 45, 46, 47, 48, 49, 50, 51, 52, 53, 54, 55, 56, 57, 58, 59, 60, 61, 62, 63, 64, 65, 66, 67, 68, 69, 70, 71, 72, 73, 74, 75, 76, 77, 78, 23, 24, 25, 26, 27, 28, 29, 30, 79, 80, 81, 82, 83, 84, 85, 86, 87, 88, 89, 90, 22, 91, 92, 93, 94, 31, 32, 33, 34, 95, 96, 97, 98, 99, 100, 101, 102, 103, 104, 105, 106, 107] (by decide +kernel) (by decide +kernel)
set_option maxRecDepth 20000 in
theorem gX5_show_X5_keeps : GoodIn wsX5_show (wsV RX5 124 RX5 yX5_keeps wsX5_keeps) := goodIn_app (goodIn_of _ (by decide +kernel)) ggX5_show_X5_keeps
theorem dX5_show_0 : decode cX5_show 0 = .ok (.aload_n 0, 1) := by decide +kernel
theorem dX5_show_1 : decode cX5_show 1 = .ok (.iload_n 1, 1) := by decide +kernel
theorem dX5_show_2 : decode cX5_show 2 = .ok (.iload_n 2, 1) := by decide +kernel
theorem dX5_show_3 : decode cX5_show 3 = .ok (.iload_n 3, 1) := by decide +kernel
theorem dX5_show_4 : decode cX5_show 4 = .ok (.invokevirtual 121, 3) := by decide +kernel
theorem dX5_show_7 : decode cX5_show 7 = .ok (.ifCond .eq 14, 3) := by decide +kernel
theorem dX5_show_10 : decode cX5_show 10 = .ok (.iload 4, 2) := by decide +kernel
theorem dX5_show_12 : decode cX5_show 12 = .ok (.iconst 0, 1) := by decide +kernel
theorem dX5_show_13 : decode cX5_show 13 = .ok (.bipush 9, 2) := by decide +kernel
theorem dX5_show_15 : decode cX5_show 15 = .ok (.invokestatic 111, 3) := by decide +kernel
theorem dX5_show_18 : decode cX5_show 18 = .ok (.ifCond .ne 5, 3) := by decide +kernel
theorem dX5_show_21 : decode cX5_show 21 = .ok (.iconst (-1), 1) := by decide +kernel
theorem dX5_show_22 : decode cX5_show 22 = .ok (.ireturn, 1) := by decide +kernel
theorem dX5_show_23 : decode cX5_show 23 = .ok (.aload_n 0, 1) := by decide +kernel
theorem dX5_show_24 : decode cX5_show 24 = .ok (.invokevirtual 115, 3) := by decide +kernel
theorem dX5_show_27 : decode cX5_show 27 = .ok (.aload_n 0, 1) := by decide +kernel
theorem dX5_show_28 : decode cX5_show 28 = .ok (.iload_n 1, 1) := by decide +kernel
theorem dX5_show_29 : decode cX5_show 29 = .ok (.iload_n 2, 1) := by decide +kernel
theorem dX5_show_30 : decode cX5_show 30 = .ok (.iload_n 3, 1) := by decide +kernel
theorem dX5_show_31 : decode cX5_show 31 = .ok (.invokevirtual 45, 3) := by decide +kernel
theorem dX5_show_34 : decode cX5_show 34 = .ok (.istore 5, 2) := by decide +kernel
theorem dX5_show_36 : decode cX5_show 36 = .ok (.aload_n 0, 1) := by decide +kernel
theorem dX5_show_37 : decode cX5_show 37 = .ok (.iload_n 1, 1) := by decide +kernel
theorem dX5_show_38 : decode cX5_show 38 = .ok (.bipush 10, 2) := by decide +kernel
theorem dX5_show_40 : decode cX5_show 40 = .ok (.iload_n 2, 1) := by decide +kernel
theorem dX5_show_41 : decode cX5_show 41 = .ok (.imul, 1) := by decide +kernel
theorem dX5_show_42 : decode cX5_show 42 = .ok (.iload_n 3, 1) := by decide +kernel
theorem dX5_show_43 : decode cX5_show 43 = .ok (.iadd, 1) := by decide +kernel
theorem dX5_show_44 : decode cX5_show 44 = .ok (.iload 4, 2) := by decide +kernel
theorem dX5_show_46 : decode cX5_show 46 = .ok (.invokevirtual 41, 3) := by decide +kernel
theorem dX5_show_49 : decode cX5_show 49 = .ok (.aload_n 0, 1) := by decide +kernel
theorem dX5_show_50 : decode cX5_show 50 = .ok (.iload_n 1, 1) := by decide +kernel
theorem dX5_show_51 : decode cX5_show 51 = .ok (.iconst 1, 1) := by decide +kernel
theorem dX5_show_52 : decode cX5_show 52 = .ok (.iload 5, 2) := by decide +kernel
theorem dX5_show_54 : decode cX5_show 54 = .ok (.invokevirtual 124, 3) := by decide +kernel
theorem dX5_show_57 : decode cX5_show 57 = .ok (.ireturn, 1) := by decide +kernel
set_option maxRecDepth 20000 in
theorem ggX5_erase_X5_isPlace : GoodIn wsX5_erase wsX5_isPlace := goodIn_r _ [5, 6, 7, 8, 4, 9, 10, 11, 12, 13, 14, 15, 16, 17, 101, 102, 103, 104, 105, 106, 107] (by decide +kernel) (by decide +kernel)
set_option maxRecDepth 20000 in
theorem gX5_erase_X5_isPlace : GoodIn wsX5_erase (wsV RX5 121 RX5 yX5_isPlace wsX5_isPlace) := goodIn_app (goodIn_of _ (by decide +kernel)) ggX5_erase_X5_isPlace
set_option maxRecDepth 20000 in
theorem ggX5_erase_X5_signAt : GoodIn wsX5_erase wsX5_signAt := goodIn_r _ [21, 22, 23, 24, 4, 25, 14, 101, 102, 103, 104, 105, 106, 107] (by decide +kernel) (by decide +kernel)
set_option maxRecDepth 20000 in
theorem gX5_erase_X5_signAt : GoodIn wsX5_erase (wsV RX5 45 RX5 yX5_signAt wsX5_signAt) := goodIn_app (goodIn_of _ (by decide +kernel)) ggX5_erase_X5_signAt
set_option maxRecDepth 20000 in
theorem ggX5_erase_X5_hold : GoodIn wsX5_erase wsX5_hold := goodIn_r _ [29, 30, 14, 101, 102, 103, 104, 105, 106, 107] (by decide +kernel) (by decide +kernel)
set_option maxRecDepth 20000 in
theorem gX5_erase_X5_hold : GoodIn wsX5_erase (wsV RX5 115 RX5 yX5_hold wsX5_hold) := goodIn_app (goodIn_of _ (by decide +kernel)) ggX5_erase_X5_hold
set_option maxRecDepth 20000 in
theorem ggX5_erase_X5_puts : GoodIn wsX5_erase wsX5_puts := goodIn_r _ [34, 14, 101, 102, 103, 104, 105, 106, 107] (by decide +kernel) (by decide +kernel)
set_option maxRecDepth 20000 in
theorem gX5_erase_X5_puts : GoodIn wsX5_erase (wsV RX5 41 RX5 yX5_puts wsX5_puts) := goodIn_app (goodIn_of _ (by decide +kernel)) ggX5_erase_X5_puts
set_option maxRecDepth 20000 in
theorem ggX5_erase_X5_keeps : GoodIn wsX5_erase wsX5_keeps := goodIn_r _ [38, 39, 40, 41, 4, 42, 14, 43, 44, 45, 46, 47, 48, 49, 50, 51, 52, 53, 54, 55, 56, 57, 58, 59, 60, 61, 62, 63, 64, 65, 66, 67, 68, 69, 70, 71, 72, 73, 74, 75, 76, 77, 78, 18, 19, 20, 21, 22, 23, 24, 25, 79, 80, 81, 82, 83, 84, 85, 86, 87, 88, 89, 90, 30, 91, 92, 93, 94, 31, 32, 33, 34, 95, 96, 97, 98, 99, 100, 101, 102, 103, 104, 105, 106, 107] (by decide +kernel) (by decide +kernel)
set_option maxRecDepth 20000 in
theorem gX5_erase_X5_keeps : GoodIn wsX5_erase (wsV RX5 124 RX5 yX5_keeps wsX5_keeps) := goodIn_app (goodIn_of _ (by decide +kernel)) ggX5_erase_X5_keeps
theorem dX5_erase_0 : decode cX5_erase 0 = .ok (.aload_n 0, 1) := by decide +kernel
theorem dX5_erase_1 : decode cX5_erase 1 = .ok (.iload_n 1, 1) := by decide +kernel
theorem dX5_erase_2 : decode cX5_erase 2 = .ok (.iload_n 2, 1) := by decide +kernel
theorem dX5_erase_3 : decode cX5_erase 3 = .ok (.iload_n 3, 1) := by decide +kernel
theorem dX5_erase_4 : decode cX5_erase 4 = .ok (.invokevirtual 121, 3) := by decide +kernel
theorem dX5_erase_7 : decode cX5_erase 7 = .ok (.ifCond .ne 5, 3) := by decide +kernel
theorem dX5_erase_10 : decode cX5_erase 10 = .ok (.iconst (-1), 1) := by decide +kernel
theorem dX5_erase_11 : decode cX5_erase 11 = .ok (.ireturn, 1) := by decide +kernel
theorem dX5_erase_12 : decode cX5_erase 12 = .ok (.aload_n 0, 1) := by decide +kernel
theorem dX5_erase_13 : decode cX5_erase 13 = .ok (.iload_n 1, 1) := by decide +kernel
theorem dX5_erase_14 : decode cX5_erase 14 = .ok (.iload_n 2, 1) := by decide +kernel
theorem dX5_erase_15 : decode cX5_erase 15 = .ok (.iload_n 3, 1) := by decide +kernel
theorem dX5_erase_16 : decode cX5_erase 16 = .ok (.invokevirtual 45, 3) := by decide +kernel
theorem dX5_erase_19 : decode cX5_erase 19 = .ok (.istore 4, 2) := by decide +kernel
theorem dX5_erase_21 : decode cX5_erase 21 = .ok (.iload 4, 2) := by decide +kernel
theorem dX5_erase_23 : decode cX5_erase 23 = .ok (.bipush 10, 2) := by decide +kernel
theorem dX5_erase_25 : decode cX5_erase 25 = .ok (.if_icmp .ne 6, 3) := by decide +kernel
theorem dX5_erase_28 : decode cX5_erase 28 = .ok (.bipush (-2), 2) := by decide +kernel
theorem dX5_erase_30 : decode cX5_erase 30 = .ok (.ireturn, 1) := by decide +kernel
theorem dX5_erase_31 : decode cX5_erase 31 = .ok (.aload_n 0, 1) := by decide +kernel
theorem dX5_erase_32 : decode cX5_erase 32 = .ok (.invokevirtual 115, 3) := by decide +kernel
theorem dX5_erase_35 : decode cX5_erase 35 = .ok (.aload_n 0, 1) := by decide +kernel
theorem dX5_erase_36 : decode cX5_erase 36 = .ok (.iload_n 1, 1) := by decide +kernel
theorem dX5_erase_37 : decode cX5_erase 37 = .ok (.bipush 10, 2) := by decide +kernel
theorem dX5_erase_39 : decode cX5_erase 39 = .ok (.iload_n 2, 1) := by decide +kernel
theorem dX5_erase_40 : decode cX5_erase 40 = .ok (.imul, 1) := by decide +kernel
theorem dX5_erase_41 : decode cX5_erase 41 = .ok (.iload_n 3, 1) := by decide +kernel
theorem dX5_erase_42 : decode cX5_erase 42 = .ok (.iadd, 1) := by decide +kernel
theorem dX5_erase_43 : decode cX5_erase 43 = .ok (.bipush 10, 2) := by decide +kernel
theorem dX5_erase_45 : decode cX5_erase 45 = .ok (.invokevirtual 41, 3) := by decide +kernel
theorem dX5_erase_48 : decode cX5_erase 48 = .ok (.aload_n 0, 1) := by decide +kernel
theorem dX5_erase_49 : decode cX5_erase 49 = .ok (.iload_n 1, 1) := by decide +kernel
theorem dX5_erase_50 : decode cX5_erase 50 = .ok (.iconst 1, 1) := by decide +kernel
theorem dX5_erase_51 : decode cX5_erase 51 = .ok (.iload 4, 2) := by decide +kernel
theorem dX5_erase_53 : decode cX5_erase 53 = .ok (.invokevirtual 124, 3) := by decide +kernel
theorem dX5_erase_56 : decode cX5_erase 56 = .ok (.ireturn, 1) := by decide +kernel
set_option maxRecDepth 20000 in
theorem ggX5_mean_X5_isSheet : GoodIn wsX5_mean wsX5_isSheet := goodIn_r _ [5, 6, 7, 8, 4, 9, 10, 97, 98, 99, 100, 101, 102, 103] (by decide +kernel) (by decide +kernel)
set_option maxRecDepth 20000 in
theorem gX5_mean_X5_isSheet : GoodIn wsX5_mean (wsV RX5 118 RX5 yX5_isSheet wsX5_isSheet) := goodIn_app (goodIn_of _ (by decide +kernel)) ggX5_mean_X5_isSheet
set_option maxRecDepth 20000 in
theorem ggX5_mean_X5_in : GoodIn wsX5_mean wsX5_in := goodIn_r _ [13] (by decide +kernel) (by decide +kernel)
set_option maxRecDepth 20000 in
theorem gX5_mean_X5_in : GoodIn wsX5_mean (va_wsS RX5 111 yX5_in wsX5_in) := goodIn_app (goodIn_of _ (by decide +kernel)) ggX5_mean_X5_in
set_option maxRecDepth 20000 in
theorem ggX5_mean_X5_hold : GoodIn wsX5_mean wsX5_hold := goodIn_r _ [17, 18, 10, 97, 98, 99, 100, 101, 102, 103] (by decide +kernel) (by decide +kernel)
set_option maxRecDepth 20000 in
theorem gX5_mean_X5_hold : GoodIn wsX5_mean (wsV RX5 115 RX5 yX5_hold wsX5_hold) := goodIn_app (goodIn_of _ (by decide +kernel)) ggX5_mean_X5_hold
set_option maxRecDepth 20000 in
theorem ggX5_mean_X5_of : GoodIn wsX5_mean wsX5_of := goodIn_r _ [22, 10, 97, 98, 99, 100, 101, 102, 103] (by decide +kernel) (by decide +kernel)
set_option maxRecDepth 20000 in
theorem gX5_mean_X5_of : GoodIn wsX5_mean (wsV RX5 37 RX5 yX5_of wsX5_of) := goodIn_app (goodIn_of _ (by decide +kernel)) ggX5_mean_X5_of
set_option maxRecDepth 20000 in
theorem ggX5_mean_X5_puts : GoodIn wsX5_mean wsX5_puts := goodIn_r _ [26, 10, 97, 98, 99, 100, 101, 102, 103] (by decide +kernel) (by decide +kernel)
set_option maxRecDepth 20000 in
theorem gX5_mean_X5_puts : GoodIn wsX5_mean (wsV RX5 41 RX5 yX5_puts wsX5_puts) := goodIn_app (goodIn_of _ (by decide +kernel)) ggX5_mean_X5_puts
set_option maxRecDepth 20000 in
theorem ggX5_mean_X5_keeps : GoodIn wsX5_mean wsX5_keeps := goodIn_r _ [30, 31, 32, 33, 4, 34, 10, 35, 36, 37, 38, 39, 40, 41, 42, 43, 44, 45, 46, 47, 48, 49, 50, 51, 52, 53, 54, 55, 56, 57, 58, 59, 60, 61, 62, 63, 64, 65, 66, 67, 68, 69, 70, 71, 72, 73, 74, 19, 20, 21, 22, 75, 76, 77, 78, 79, 80, 81, 82, 83, 84, 85, 86, 18, 87, 88, 89, 90, 23, 24, 25, 26, 91, 92, 93, 94, 95, 96, 97, 98, 99, 100, 101, 102, 103] (by decide +kernel) (by decide +kernel)
set_option maxRecDepth 20000 in
theorem gX5_mean_X5_keeps : GoodIn wsX5_mean (wsV RX5 124 RX5 yX5_keeps wsX5_keeps) := goodIn_app (goodIn_of _ (by decide +kernel)) ggX5_mean_X5_keeps
theorem dX5_mean_0 : decode cX5_mean 0 = .ok (.aload_n 0, 1) := by decide +kernel
theorem dX5_mean_1 : decode cX5_mean 1 = .ok (.iload_n 1, 1) := by decide +kernel
theorem dX5_mean_2 : decode cX5_mean 2 = .ok (.invokevirtual 118, 3) := by decide +kernel
theorem dX5_mean_5 : decode cX5_mean 5 = .ok (.ifCond .eq 23, 3) := by decide +kernel
theorem dX5_mean_8 : decode cX5_mean 8 = .ok (.iload_n 2, 1) := by decide +kernel
theorem dX5_mean_9 : decode cX5_mean 9 = .ok (.iconst 0, 1) := by decide +kernel
theorem dX5_mean_10 : decode cX5_mean 10 = .ok (.bipush 9, 2) := by decide +kernel
theorem dX5_mean_12 : decode cX5_mean 12 = .ok (.invokestatic 111, 3) := by decide +kernel
theorem dX5_mean_15 : decode cX5_mean 15 = .ok (.ifCond .eq 13, 3) := by decide +kernel
theorem dX5_mean_18 : decode cX5_mean 18 = .ok (.iload_n 3, 1) := by decide +kernel
theorem dX5_mean_19 : decode cX5_mean 19 = .ok (.iconst 0, 1) := by decide +kernel
theorem dX5_mean_20 : decode cX5_mean 20 = .ok (.bipush 9, 2) := by decide +kernel
theorem dX5_mean_22 : decode cX5_mean 22 = .ok (.invokestatic 111, 3) := by decide +kernel
theorem dX5_mean_25 : decode cX5_mean 25 = .ok (.ifCond .ne 5, 3) := by decide +kernel
theorem dX5_mean_28 : decode cX5_mean 28 = .ok (.iconst (-1), 1) := by decide +kernel
theorem dX5_mean_29 : decode cX5_mean 29 = .ok (.ireturn, 1) := by decide +kernel
theorem dX5_mean_30 : decode cX5_mean 30 = .ok (.aload_n 0, 1) := by decide +kernel
theorem dX5_mean_31 : decode cX5_mean 31 = .ok (.invokevirtual 115, 3) := by decide +kernel
theorem dX5_mean_34 : decode cX5_mean 34 = .ok (.aload_n 0, 1) := by decide +kernel
theorem dX5_mean_35 : decode cX5_mean 35 = .ok (.iload_n 1, 1) := by decide +kernel
theorem dX5_mean_36 : decode cX5_mean 36 = .ok (.bipush 40, 2) := by decide +kernel
theorem dX5_mean_38 : decode cX5_mean 38 = .ok (.iload_n 2, 1) := by decide +kernel
theorem dX5_mean_39 : decode cX5_mean 39 = .ok (.iadd, 1) := by decide +kernel
theorem dX5_mean_40 : decode cX5_mean 40 = .ok (.invokevirtual 37, 3) := by decide +kernel
theorem dX5_mean_43 : decode cX5_mean 43 = .ok (.istore 4, 2) := by decide +kernel
theorem dX5_mean_45 : decode cX5_mean 45 = .ok (.aload_n 0, 1) := by decide +kernel
theorem dX5_mean_46 : decode cX5_mean 46 = .ok (.iload_n 1, 1) := by decide +kernel
theorem dX5_mean_47 : decode cX5_mean 47 = .ok (.bipush 40, 2) := by decide +kernel
theorem dX5_mean_49 : decode cX5_mean 49 = .ok (.iload_n 2, 1) := by decide +kernel
theorem dX5_mean_50 : decode cX5_mean 50 = .ok (.iadd, 1) := by decide +kernel
theorem dX5_mean_51 : decode cX5_mean 51 = .ok (.iload_n 3, 1) := by decide +kernel
theorem dX5_mean_52 : decode cX5_mean 52 = .ok (.invokevirtual 41, 3) := by decide +kernel
theorem dX5_mean_55 : decode cX5_mean 55 = .ok (.aload_n 0, 1) := by decide +kernel
theorem dX5_mean_56 : decode cX5_mean 56 = .ok (.iload_n 1, 1) := by decide +kernel
theorem dX5_mean_57 : decode cX5_mean 57 = .ok (.iconst 1, 1) := by decide +kernel
theorem dX5_mean_58 : decode cX5_mean 58 = .ok (.iload 4, 2) := by decide +kernel
theorem dX5_mean_60 : decode cX5_mean 60 = .ok (.invokevirtual 124, 3) := by decide +kernel
theorem dX5_mean_63 : decode cX5_mean 63 = .ok (.ireturn, 1) := by decide +kernel
set_option maxRecDepth 20000 in
theorem ggX5_sign_X5_isPlace : GoodIn wsX5_sign wsX5_isPlace := goodIn_r _ [5, 6, 7, 8, 4, 9, 10, 11, 12, 13, 14, 15, 16, 17, 26, 27, 28, 29, 30, 31, 32] (by decide +kernel) (by decide +kernel)
set_option maxRecDepth 20000 in
theorem gX5_sign_X5_isPlace : GoodIn wsX5_sign (wsV RX5 121 RX5 yX5_isPlace wsX5_isPlace) := goodIn_app (goodIn_of _ (by decide +kernel)) ggX5_sign_X5_isPlace
set_option maxRecDepth 20000 in
theorem ggX5_sign_X5_signAt : GoodIn wsX5_sign wsX5_signAt := goodIn_r _ [21, 22, 23, 24, 4, 25, 14, 26, 27, 28, 29, 30, 31, 32] (by decide +kernel) (by decide +kernel)
set_option maxRecDepth 20000 in
theorem gX5_sign_X5_signAt : GoodIn wsX5_sign (wsV RX5 45 RX5 yX5_signAt wsX5_signAt) := goodIn_app (goodIn_of _ (by decide +kernel)) ggX5_sign_X5_signAt
theorem dX5_sign_0 : decode cX5_sign 0 = .ok (.aload_n 0, 1) := by decide +kernel
theorem dX5_sign_1 : decode cX5_sign 1 = .ok (.iload_n 1, 1) := by decide +kernel
theorem dX5_sign_2 : decode cX5_sign 2 = .ok (.iload_n 2, 1) := by decide +kernel
theorem dX5_sign_3 : decode cX5_sign 3 = .ok (.iload_n 3, 1) := by decide +kernel
theorem dX5_sign_4 : decode cX5_sign 4 = .ok (.invokevirtual 121, 3) := by decide +kernel
theorem dX5_sign_7 : decode cX5_sign 7 = .ok (.ifCond .ne 5, 3) := by decide +kernel
theorem dX5_sign_10 : decode cX5_sign 10 = .ok (.iconst (-1), 1) := by decide +kernel
theorem dX5_sign_11 : decode cX5_sign 11 = .ok (.ireturn, 1) := by decide +kernel
theorem dX5_sign_12 : decode cX5_sign 12 = .ok (.aload_n 0, 1) := by decide +kernel
theorem dX5_sign_13 : decode cX5_sign 13 = .ok (.iload_n 1, 1) := by decide +kernel
theorem dX5_sign_14 : decode cX5_sign 14 = .ok (.iload_n 2, 1) := by decide +kernel
theorem dX5_sign_15 : decode cX5_sign 15 = .ok (.iload_n 3, 1) := by decide +kernel
theorem dX5_sign_16 : decode cX5_sign 16 = .ok (.invokevirtual 45, 3) := by decide +kernel
theorem dX5_sign_19 : decode cX5_sign 19 = .ok (.istore 4, 2) := by decide +kernel
theorem dX5_sign_21 : decode cX5_sign 21 = .ok (.iload 4, 2) := by decide +kernel
theorem dX5_sign_23 : decode cX5_sign 23 = .ok (.bipush 10, 2) := by decide +kernel
theorem dX5_sign_25 : decode cX5_sign 25 = .ok (.if_icmp .ne 8, 3) := by decide +kernel
theorem dX5_sign_28 : decode cX5_sign 28 = .ok (.bipush (-4), 2) := by decide +kernel
theorem dX5_sign_30 : decode cX5_sign 30 = .ok (.goto 5, 3) := by decide +kernel
theorem dX5_sign_33 : decode cX5_sign 33 = .ok (.iload 4, 2) := by decide +kernel
theorem dX5_sign_35 : decode cX5_sign 35 = .ok (.ireturn, 1) := by decide +kernel
set_option maxRecDepth 20000 in
theorem ggX5_meaning_X5_isSheet : GoodIn wsX5_meaning wsX5_isSheet := goodIn_r _ [5, 6, 7, 8, 4, 9, 10, 18, 19, 20, 21, 22, 23, 24] (by decide +kernel) (by decide +kernel)
set_option maxRecDepth 20000 in
theorem gX5_meaning_X5_isSheet : GoodIn wsX5_meaning (wsV RX5 118 RX5 yX5_isSheet wsX5_isSheet) := goodIn_app (goodIn_of _ (by decide +kernel)) ggX5_meaning_X5_isSheet
set_option maxRecDepth 20000 in
theorem ggX5_meaning_X5_in : GoodIn wsX5_meaning wsX5_in := goodIn_r _ [13] (by decide +kernel) (by decide +kernel)
set_option maxRecDepth 20000 in
theorem gX5_meaning_X5_in : GoodIn wsX5_meaning (va_wsS RX5 111 yX5_in wsX5_in) := goodIn_app (goodIn_of _ (by decide +kernel)) ggX5_meaning_X5_in
set_option maxRecDepth 20000 in
theorem ggX5_meaning_X5_of : GoodIn wsX5_meaning wsX5_of := goodIn_r _ [17, 10, 18, 19, 20, 21, 22, 23, 24] (by decide +kernel) (by decide +kernel)
set_option maxRecDepth 20000 in
theorem gX5_meaning_X5_of : GoodIn wsX5_meaning (wsV RX5 37 RX5 yX5_of wsX5_of) := goodIn_app (goodIn_of _ (by decide +kernel)) ggX5_meaning_X5_of
theorem dX5_meaning_0 : decode cX5_meaning 0 = .ok (.aload_n 0, 1) := by decide +kernel
theorem dX5_meaning_1 : decode cX5_meaning 1 = .ok (.iload_n 1, 1) := by decide +kernel
theorem dX5_meaning_2 : decode cX5_meaning 2 = .ok (.invokevirtual 118, 3) := by decide +kernel
theorem dX5_meaning_5 : decode cX5_meaning 5 = .ok (.ifCond .eq 25, 3) := by decide +kernel
theorem dX5_meaning_8 : decode cX5_meaning 8 = .ok (.iload_n 2, 1) := by decide +kernel
theorem dX5_meaning_9 : decode cX5_meaning 9 = .ok (.iconst 0, 1) := by decide +kernel
theorem dX5_meaning_10 : decode cX5_meaning 10 = .ok (.bipush 9, 2) := by decide +kernel
theorem dX5_meaning_12 : decode cX5_meaning 12 = .ok (.invokestatic 111, 3) := by decide +kernel
theorem dX5_meaning_15 : decode cX5_meaning 15 = .ok (.ifCond .eq 15, 3) := by decide +kernel
theorem dX5_meaning_18 : decode cX5_meaning 18 = .ok (.aload_n 0, 1) := by decide +kernel
theorem dX5_meaning_19 : decode cX5_meaning 19 = .ok (.iload_n 1, 1) := by decide +kernel
theorem dX5_meaning_20 : decode cX5_meaning 20 = .ok (.bipush 40, 2) := by decide +kernel
theorem dX5_meaning_22 : decode cX5_meaning 22 = .ok (.iload_n 2, 1) := by decide +kernel
theorem dX5_meaning_23 : decode cX5_meaning 23 = .ok (.iadd, 1) := by decide +kernel
theorem dX5_meaning_24 : decode cX5_meaning 24 = .ok (.invokevirtual 37, 3) := by decide +kernel
theorem dX5_meaning_27 : decode cX5_meaning 27 = .ok (.goto 4, 3) := by decide +kernel
theorem dX5_meaning_30 : decode cX5_meaning 30 = .ok (.iconst (-1), 1) := by decide +kernel
theorem dX5_meaning_31 : decode cX5_meaning 31 = .ok (.ireturn, 1) := by decide +kernel
set_option maxRecDepth 20000 in
theorem ggX5_edgesOf_X5_edgeOf : GoodIn wsX5_edgesOf wsX5_edgeOf := goodIn_r _ [5, 6, 7, 8, 9, 4, 10, 15, 16, 17, 18, 19, 20, 21] (by decide +kernel) (by decide +kernel)
set_option maxRecDepth 20000 in
theorem gX5_edgesOf_X5_edgeOf : GoodIn wsX5_edgesOf (wsV RX5 128 RX5 yX5_edgeOf wsX5_edgeOf) := goodIn_app (goodIn_of _ (by decide +kernel)) ggX5_edgesOf_X5_edgeOf
set_option maxRecDepth 20000 in
theorem ggX5_edgesOf_X5_isAgreed : GoodIn wsX5_edgesOf wsX5_isAgreed := goodIn_r _ [14, 6, 15, 16, 17, 18, 19, 20, 21] (by decide +kernel) (by decide +kernel)
set_option maxRecDepth 20000 in
theorem gX5_edgesOf_X5_isAgreed : GoodIn wsX5_edgesOf (wsV RX5 77 RX5 yX5_isAgreed wsX5_isAgreed) := goodIn_app (goodIn_of _ (by decide +kernel)) ggX5_edgesOf_X5_isAgreed
theorem dX5_edgesOf_0 : decode cX5_edgesOf 0 = .ok (.iconst 0, 1) := by decide +kernel
theorem dX5_edgesOf_1 : decode cX5_edgesOf 1 = .ok (.istore_n 3, 1) := by decide +kernel
theorem dX5_edgesOf_2 : decode cX5_edgesOf 2 = .ok (.iconst 0, 1) := by decide +kernel
theorem dX5_edgesOf_3 : decode cX5_edgesOf 3 = .ok (.istore 4, 2) := by decide +kernel
theorem dX5_edgesOf_5 : decode cX5_edgesOf 5 = .ok (.iload 4, 2) := by decide +kernel
theorem dX5_edgesOf_7 : decode cX5_edgesOf 7 = .ok (.iconst 4, 1) := by decide +kernel
theorem dX5_edgesOf_8 : decode cX5_edgesOf 8 = .ok (.if_icmp .ge 46, 3) := by decide +kernel
theorem dX5_edgesOf_11 : decode cX5_edgesOf 11 = .ok (.aload_n 0, 1) := by decide +kernel
theorem dX5_edgesOf_12 : decode cX5_edgesOf 12 = .ok (.iload_n 1, 1) := by decide +kernel
theorem dX5_edgesOf_13 : decode cX5_edgesOf 13 = .ok (.iload 4, 2) := by decide +kernel
theorem dX5_edgesOf_15 : decode cX5_edgesOf 15 = .ok (.invokevirtual 128, 3) := by decide +kernel
theorem dX5_edgesOf_18 : decode cX5_edgesOf 18 = .ok (.istore 5, 2) := by decide +kernel
theorem dX5_edgesOf_20 : decode cX5_edgesOf 20 = .ok (.iload_n 3, 1) := by decide +kernel
theorem dX5_edgesOf_21 : decode cX5_edgesOf 21 = .ok (.iload 5, 2) := by decide +kernel
theorem dX5_edgesOf_23 : decode cX5_edgesOf 23 = .ok (.bipush (-4), 2) := by decide +kernel
theorem dX5_edgesOf_25 : decode cX5_edgesOf 25 = .ok (.if_icmp .eq 20, 3) := by decide +kernel
theorem dX5_edgesOf_28 : decode cX5_edgesOf 28 = .ok (.iload_n 2, 1) := by decide +kernel
theorem dX5_edgesOf_29 : decode cX5_edgesOf 29 = .ok (.ifCond .eq 12, 3) := by decide +kernel
theorem dX5_edgesOf_32 : decode cX5_edgesOf 32 = .ok (.aload_n 0, 1) := by decide +kernel
theorem dX5_edgesOf_33 : decode cX5_edgesOf 33 = .ok (.iload 5, 2) := by decide +kernel
theorem dX5_edgesOf_35 : decode cX5_edgesOf 35 = .ok (.invokevirtual 77, 3) := by decide +kernel
theorem dX5_edgesOf_38 : decode cX5_edgesOf 38 = .ok (.ifCond .eq 7, 3) := by decide +kernel
theorem dX5_edgesOf_41 : decode cX5_edgesOf 41 = .ok (.iconst 1, 1) := by decide +kernel
theorem dX5_edgesOf_42 : decode cX5_edgesOf 42 = .ok (.goto 4, 3) := by decide +kernel
theorem dX5_edgesOf_45 : decode cX5_edgesOf 45 = .ok (.iconst 0, 1) := by decide +kernel
theorem dX5_edgesOf_46 : decode cX5_edgesOf 46 = .ok (.iadd, 1) := by decide +kernel
theorem dX5_edgesOf_47 : decode cX5_edgesOf 47 = .ok (.istore_n 3, 1) := by decide +kernel
theorem dX5_edgesOf_48 : decode cX5_edgesOf 48 = .ok (.iinc 4 1, 3) := by decide +kernel
theorem dX5_edgesOf_51 : decode cX5_edgesOf 51 = .ok (.goto (-46), 3) := by decide +kernel
theorem dX5_edgesOf_54 : decode cX5_edgesOf 54 = .ok (.iload_n 3, 1) := by decide +kernel
theorem dX5_edgesOf_55 : decode cX5_edgesOf 55 = .ok (.ireturn, 1) := by decide +kernel
set_option maxRecDepth 20000 in
theorem ggX5_signsOf_X5_of : GoodIn wsX5_signsOf wsX5_of := goodIn_r _ [5, 6, 7, 8, 9, 10, 11, 12, 13] (by decide +kernel) (by decide +kernel)
set_option maxRecDepth 20000 in
theorem gX5_signsOf_X5_of : GoodIn wsX5_signsOf (wsV RX5 37 RX5 yX5_of wsX5_of) := goodIn_app (goodIn_of _ (by decide +kernel)) ggX5_signsOf_X5_of
theorem dX5_signsOf_0 : decode cX5_signsOf 0 = .ok (.iconst 0, 1) := by decide +kernel
theorem dX5_signsOf_1 : decode cX5_signsOf 1 = .ok (.istore_n 2, 1) := by decide +kernel
theorem dX5_signsOf_2 : decode cX5_signsOf 2 = .ok (.iconst 0, 1) := by decide +kernel
theorem dX5_signsOf_3 : decode cX5_signsOf 3 = .ok (.istore_n 3, 1) := by decide +kernel
theorem dX5_signsOf_4 : decode cX5_signsOf 4 = .ok (.iload_n 3, 1) := by decide +kernel
theorem dX5_signsOf_5 : decode cX5_signsOf 5 = .ok (.bipush 40, 2) := by decide +kernel
theorem dX5_signsOf_7 : decode cX5_signsOf 7 = .ok (.if_icmp .ge 28, 3) := by decide +kernel
theorem dX5_signsOf_10 : decode cX5_signsOf 10 = .ok (.iload_n 2, 1) := by decide +kernel
theorem dX5_signsOf_11 : decode cX5_signsOf 11 = .ok (.aload_n 0, 1) := by decide +kernel
theorem dX5_signsOf_12 : decode cX5_signsOf 12 = .ok (.iload_n 1, 1) := by decide +kernel
theorem dX5_signsOf_13 : decode cX5_signsOf 13 = .ok (.iload_n 3, 1) := by decide +kernel
theorem dX5_signsOf_14 : decode cX5_signsOf 14 = .ok (.invokevirtual 37, 3) := by decide +kernel
theorem dX5_signsOf_17 : decode cX5_signsOf 17 = .ok (.bipush 10, 2) := by decide +kernel
theorem dX5_signsOf_19 : decode cX5_signsOf 19 = .ok (.if_icmp .ne 7, 3) := by decide +kernel
theorem dX5_signsOf_22 : decode cX5_signsOf 22 = .ok (.iconst 0, 1) := by decide +kernel
theorem dX5_signsOf_23 : decode cX5_signsOf 23 = .ok (.goto 4, 3) := by decide +kernel
theorem dX5_signsOf_26 : decode cX5_signsOf 26 = .ok (.iconst 1, 1) := by decide +kernel
theorem dX5_signsOf_27 : decode cX5_signsOf 27 = .ok (.iadd, 1) := by decide +kernel
theorem dX5_signsOf_28 : decode cX5_signsOf 28 = .ok (.istore_n 2, 1) := by decide +kernel
theorem dX5_signsOf_29 : decode cX5_signsOf 29 = .ok (.iinc 3 1, 3) := by decide +kernel
theorem dX5_signsOf_32 : decode cX5_signsOf 32 = .ok (.goto (-28), 3) := by decide +kernel
theorem dX5_signsOf_35 : decode cX5_signsOf 35 = .ok (.iload_n 2, 1) := by decide +kernel
theorem dX5_signsOf_36 : decode cX5_signsOf 36 = .ok (.ireturn, 1) := by decide +kernel
set_option maxRecDepth 20000 in
theorem ggX5_isUpToDate_X5_of : GoodIn wsX5_isUpToDate wsX5_of := goodIn_r _ [5, 6, 7, 8, 9, 10, 11, 12, 13] (by decide +kernel) (by decide +kernel)
set_option maxRecDepth 20000 in
theorem gX5_isUpToDate_X5_of : GoodIn wsX5_isUpToDate (wsV RX5 37 RX5 yX5_of wsX5_of) := goodIn_app (goodIn_of _ (by decide +kernel)) ggX5_isUpToDate_X5_of
theorem dX5_isUpToDate_0 : decode cX5_isUpToDate 0 = .ok (.aload_n 0, 1) := by decide +kernel
theorem dX5_isUpToDate_1 : decode cX5_isUpToDate 1 = .ok (.iload_n 1, 1) := by decide +kernel
theorem dX5_isUpToDate_2 : decode cX5_isUpToDate 2 = .ok (.bipush 51, 2) := by decide +kernel
theorem dX5_isUpToDate_4 : decode cX5_isUpToDate 4 = .ok (.invokevirtual 37, 3) := by decide +kernel
theorem dX5_isUpToDate_7 : decode cX5_isUpToDate 7 = .ok (.aload_n 0, 1) := by decide +kernel
theorem dX5_isUpToDate_8 : decode cX5_isUpToDate 8 = .ok (.iload_n 1, 1) := by decide +kernel
theorem dX5_isUpToDate_9 : decode cX5_isUpToDate 9 = .ok (.bipush 50, 2) := by decide +kernel
theorem dX5_isUpToDate_11 : decode cX5_isUpToDate 11 = .ok (.invokevirtual 37, 3) := by decide +kernel
theorem dX5_isUpToDate_14 : decode cX5_isUpToDate 14 = .ok (.if_icmp .ne 7, 3) := by decide +kernel
theorem dX5_isUpToDate_17 : decode cX5_isUpToDate 17 = .ok (.iconst 1, 1) := by decide +kernel
theorem dX5_isUpToDate_18 : decode cX5_isUpToDate 18 = .ok (.goto 4, 3) := by decide +kernel
theorem dX5_isUpToDate_21 : decode cX5_isUpToDate 21 = .ok (.iconst 0, 1) := by decide +kernel
theorem dX5_isUpToDate_22 : decode cX5_isUpToDate 22 = .ok (.ireturn, 1) := by decide +kernel
set_option maxRecDepth 20000 in
theorem ggX5_sheet_X5_isSheet : GoodIn wsX5_sheet wsX5_isSheet := goodIn_r _ [6, 7, 8, 9, 5, 10, 1, 63, 64, 65, 66, 67, 68, 69] (by decide +kernel) (by decide +kernel)
set_option maxRecDepth 20000 in
theorem gX5_sheet_X5_isSheet : GoodIn wsX5_sheet (wsV RX5 118 RX5 yX5_isSheet wsX5_isSheet) := goodIn_app (goodIn_of _ (by decide +kernel)) ggX5_sheet_X5_isSheet
set_option maxRecDepth 20000 in
theorem ggX5_sheet_X5_in : GoodIn wsX5_sheet wsX5_in := goodIn_r _ [13] (by decide +kernel) (by decide +kernel)
set_option maxRecDepth 20000 in
theorem gX5_sheet_X5_in : GoodIn wsX5_sheet (va_wsS RX5 111 yX5_in wsX5_in) := goodIn_app (goodIn_of _ (by decide +kernel)) ggX5_sheet_X5_in
set_option maxRecDepth 20000 in
theorem ggX5_sheet_X5_edgesOf : GoodIn wsX5_sheet wsX5_edgesOf := goodIn_r _ [17, 18, 19, 20, 5, 21, 1, 22, 23, 24, 25, 26, 27, 28, 29, 63, 64, 65, 66, 67, 68, 69] (by decide +kernel) (by decide +kernel)
set_option maxRecDepth 20000 in
theorem gX5_sheet_X5_edgesOf : GoodIn wsX5_sheet (wsV RX5 131 RX5 yX5_edgesOf wsX5_edgesOf) := goodIn_app (goodIn_of _ (by decide +kernel)) ggX5_sheet_X5_edgesOf
set_option maxRecDepth 20000 in
theorem ggX5_sheet_X5_isUpToDate : GoodIn wsX5_sheet wsX5_isUpToDate := goodIn_r _ [33, 34, 35, 36, 5, 37, 1, 63, 64, 65, 66, 67, 68, 69] (by decide +kernel) (by decide +kernel)
set_option maxRecDepth 20000 in
theorem gX5_sheet_X5_isUpToDate : GoodIn wsX5_sheet (wsV RX5 135 RX5 yX5_isUpToDate wsX5_isUpToDate) := goodIn_app (goodIn_of _ (by decide +kernel)) ggX5_sheet_X5_isUpToDate
set_option maxRecDepth 20000 in
theorem ggX5_sheet_X5_of : GoodIn wsX5_sheet wsX5_of := goodIn_r _ [37, 1, 63, 64, 65, 66, 67, 68, 69] (by decide +kernel) (by decide +kernel)
set_option maxRecDepth 20000 in
theorem gX5_sheet_X5_of : GoodIn wsX5_sheet (wsV RX5 37 RX5 yX5_of wsX5_of) := goodIn_app (goodIn_of _ (by decide +kernel)) ggX5_sheet_X5_of
set_option maxRecDepth 20000 in
theorem ggX5_sheet_X5_signsOf : GoodIn wsX5_sheet wsX5_signsOf := goodIn_r _ [41, 34, 35, 36, 5, 37, 1, 63, 64, 65, 66, 67, 68, 69] (by decide +kernel) (by decide +kernel)
set_option maxRecDepth 20000 in
theorem gX5_sheet_X5_signsOf : GoodIn wsX5_sheet (wsV RX5 138 RX5 yX5_signsOf wsX5_signsOf) := goodIn_app (goodIn_of _ (by decide +kernel)) ggX5_sheet_X5_signsOf
set_option maxRecDepth 20000 in
theorem ggX5_sheet_X5_blockOf : GoodIn wsX5_sheet wsX5_blockOf := goodIn_r _ [45, 46, 47, 48, 49, 5, 50, 7, 8, 9, 10, 1, 51, 52, 53, 54, 22, 23, 24, 25, 55, 56, 57, 58, 59, 60, 61, 62, 26, 27, 28, 29, 63, 64, 65, 66, 67, 68, 69] (by decide +kernel) (by decide +kernel)
set_option maxRecDepth 20000 in
theorem gX5_sheet_X5_blockOf : GoodIn wsX5_sheet (wsV RX5 141 RX5 yX5_blockOf wsX5_blockOf) := goodIn_app (goodIn_of _ (by decide +kernel)) ggX5_sheet_X5_blockOf
theorem dX5_sheet_0 : decode cX5_sheet 0 = .ok (.aload_n 0, 1) := by decide +kernel
theorem dX5_sheet_1 : decode cX5_sheet 1 = .ok (.iload_n 1, 1) := by decide +kernel
theorem dX5_sheet_2 : decode cX5_sheet 2 = .ok (.invokevirtual 118, 3) := by decide +kernel
theorem dX5_sheet_5 : decode cX5_sheet 5 = .ok (.ifCond .eq 13, 3) := by decide +kernel
theorem dX5_sheet_8 : decode cX5_sheet 8 = .ok (.iload_n 2, 1) := by decide +kernel
theorem dX5_sheet_9 : decode cX5_sheet 9 = .ok (.iconst 0, 1) := by decide +kernel
theorem dX5_sheet_10 : decode cX5_sheet 10 = .ok (.bipush 9, 2) := by decide +kernel
theorem dX5_sheet_12 : decode cX5_sheet 12 = .ok (.invokestatic 111, 3) := by decide +kernel
theorem dX5_sheet_15 : decode cX5_sheet 15 = .ok (.ifCond .ne 5, 3) := by decide +kernel
theorem dX5_sheet_18 : decode cX5_sheet 18 = .ok (.iconst (-1), 1) := by decide +kernel
theorem dX5_sheet_19 : decode cX5_sheet 19 = .ok (.ireturn, 1) := by decide +kernel
theorem dX5_sheet_20 : decode cX5_sheet 20 = .ok (.iload_n 2, 1) := by decide +kernel
theorem dX5_sheet_21 : decode cX5_sheet 21 = .ok (.tableswitch 123 0 9 #[55, 64, 73, 73, 123, 123, 89, 103, 111, 117], 55) := by decide +kernel
theorem dX5_sheet_76 : decode cX5_sheet 76 = .ok (.iload_n 1, 1) := by decide +kernel
theorem dX5_sheet_77 : decode cX5_sheet 77 = .ok (.aload_n 0, 1) := by decide +kernel
theorem dX5_sheet_78 : decode cX5_sheet 78 = .ok (.getfield 7, 3) := by decide +kernel
theorem dX5_sheet_81 : decode cX5_sheet 81 = .ok (.iconst 0, 1) := by decide +kernel
theorem dX5_sheet_82 : decode cX5_sheet 82 = .ok (.iaload, 1) := by decide +kernel
theorem dX5_sheet_83 : decode cX5_sheet 83 = .ok (.irem, 1) := by decide +kernel
theorem dX5_sheet_84 : decode cX5_sheet 84 = .ok (.ireturn, 1) := by decide +kernel
theorem dX5_sheet_85 : decode cX5_sheet 85 = .ok (.iload_n 1, 1) := by decide +kernel
theorem dX5_sheet_86 : decode cX5_sheet 86 = .ok (.aload_n 0, 1) := by decide +kernel
theorem dX5_sheet_87 : decode cX5_sheet 87 = .ok (.getfield 7, 3) := by decide +kernel
theorem dX5_sheet_90 : decode cX5_sheet 90 = .ok (.iconst 0, 1) := by decide +kernel
theorem dX5_sheet_91 : decode cX5_sheet 91 = .ok (.iaload, 1) := by decide +kernel
theorem dX5_sheet_92 : decode cX5_sheet 92 = .ok (.idiv, 1) := by decide +kernel
theorem dX5_sheet_93 : decode cX5_sheet 93 = .ok (.ireturn, 1) := by decide +kernel
theorem dX5_sheet_94 : decode cX5_sheet 94 = .ok (.aload_n 0, 1) := by decide +kernel
theorem dX5_sheet_95 : decode cX5_sheet 95 = .ok (.iload_n 1, 1) := by decide +kernel
theorem dX5_sheet_96 : decode cX5_sheet 96 = .ok (.iload_n 2, 1) := by decide +kernel
theorem dX5_sheet_97 : decode cX5_sheet 97 = .ok (.iconst 3, 1) := by decide +kernel
theorem dX5_sheet_98 : decode cX5_sheet 98 = .ok (.if_icmp .ne 7, 3) := by decide +kernel
theorem dX5_sheet_101 : decode cX5_sheet 101 = .ok (.iconst 1, 1) := by decide +kernel
theorem dX5_sheet_102 : decode cX5_sheet 102 = .ok (.goto 4, 3) := by decide +kernel
theorem dX5_sheet_105 : decode cX5_sheet 105 = .ok (.iconst 0, 1) := by decide +kernel
theorem dX5_sheet_106 : decode cX5_sheet 106 = .ok (.invokevirtual 131, 3) := by decide +kernel
theorem dX5_sheet_109 : decode cX5_sheet 109 = .ok (.ireturn, 1) := by decide +kernel
theorem dX5_sheet_110 : decode cX5_sheet 110 = .ok (.aload_n 0, 1) := by decide +kernel
theorem dX5_sheet_111 : decode cX5_sheet 111 = .ok (.iload_n 1, 1) := by decide +kernel
theorem dX5_sheet_112 : decode cX5_sheet 112 = .ok (.invokevirtual 135, 3) := by decide +kernel
theorem dX5_sheet_115 : decode cX5_sheet 115 = .ok (.ifCond .eq 7, 3) := by decide +kernel
theorem dX5_sheet_118 : decode cX5_sheet 118 = .ok (.iconst 1, 1) := by decide +kernel
theorem dX5_sheet_119 : decode cX5_sheet 119 = .ok (.goto 4, 3) := by decide +kernel
theorem dX5_sheet_122 : decode cX5_sheet 122 = .ok (.iconst 0, 1) := by decide +kernel
theorem dX5_sheet_123 : decode cX5_sheet 123 = .ok (.ireturn, 1) := by decide +kernel
theorem dX5_sheet_124 : decode cX5_sheet 124 = .ok (.aload_n 0, 1) := by decide +kernel
theorem dX5_sheet_125 : decode cX5_sheet 125 = .ok (.iload_n 1, 1) := by decide +kernel
theorem dX5_sheet_126 : decode cX5_sheet 126 = .ok (.bipush 52, 2) := by decide +kernel
theorem dX5_sheet_128 : decode cX5_sheet 128 = .ok (.invokevirtual 37, 3) := by decide +kernel
theorem dX5_sheet_131 : decode cX5_sheet 131 = .ok (.ireturn, 1) := by decide +kernel
theorem dX5_sheet_132 : decode cX5_sheet 132 = .ok (.aload_n 0, 1) := by decide +kernel
theorem dX5_sheet_133 : decode cX5_sheet 133 = .ok (.iload_n 1, 1) := by decide +kernel
theorem dX5_sheet_134 : decode cX5_sheet 134 = .ok (.invokevirtual 138, 3) := by decide +kernel
theorem dX5_sheet_137 : decode cX5_sheet 137 = .ok (.ireturn, 1) := by decide +kernel
theorem dX5_sheet_138 : decode cX5_sheet 138 = .ok (.aload_n 0, 1) := by decide +kernel
theorem dX5_sheet_139 : decode cX5_sheet 139 = .ok (.iload_n 1, 1) := by decide +kernel
theorem dX5_sheet_140 : decode cX5_sheet 140 = .ok (.invokevirtual 141, 3) := by decide +kernel
theorem dX5_sheet_143 : decode cX5_sheet 143 = .ok (.ireturn, 1) := by decide +kernel
theorem dX5_sheet_144 : decode cX5_sheet 144 = .ok (.aload_n 0, 1) := by decide +kernel
theorem dX5_sheet_145 : decode cX5_sheet 145 = .ok (.iload_n 1, 1) := by decide +kernel
theorem dX5_sheet_146 : decode cX5_sheet 146 = .ok (.bipush 50, 2) := by decide +kernel
theorem dX5_sheet_148 : decode cX5_sheet 148 = .ok (.iload_n 2, 1) := by decide +kernel
theorem dX5_sheet_149 : decode cX5_sheet 149 = .ok (.iadd, 1) := by decide +kernel
theorem dX5_sheet_150 : decode cX5_sheet 150 = .ok (.iconst 4, 1) := by decide +kernel
theorem dX5_sheet_151 : decode cX5_sheet 151 = .ok (.isub, 1) := by decide +kernel
theorem dX5_sheet_152 : decode cX5_sheet 152 = .ok (.invokevirtual 37, 3) := by decide +kernel
theorem dX5_sheet_155 : decode cX5_sheet 155 = .ok (.ireturn, 1) := by decide +kernel
set_option maxRecDepth 20000 in
theorem ggX5_sumOf_X5_edges : GoodIn wsX5_sumOf wsX5_edges := goodIn_r _ [5, 6, 7, 8, 9, 4, 10, 69, 70, 71, 72, 73, 74, 75] (by decide +kernel) (by decide +kernel)
set_option maxRecDepth 20000 in
theorem gX5_sumOf_X5_edges : GoodIn wsX5_sumOf (wsV RX5 52 RX5 yX5_edges wsX5_edges) := goodIn_app (goodIn_of _ (by decide +kernel)) ggX5_sumOf_X5_edges
set_option maxRecDepth 20000 in
theorem ggX5_sumOf_X5_quarrels : GoodIn wsX5_sumOf wsX5_quarrels := goodIn_r _ [14, 15, 16, 17, 4, 18, 19, 20, 21, 22, 23, 24, 25, 26, 6, 7, 8, 9, 10, 27, 28, 29, 30, 31, 32, 33, 34, 35, 36, 37, 38, 39, 40, 41, 42, 43, 44, 45, 46, 47, 48, 49, 50, 69, 70, 71, 72, 73, 74, 75] (by decide +kernel) (by decide +kernel)
set_option maxRecDepth 20000 in
theorem gX5_sumOf_X5_quarrels : GoodIn wsX5_sumOf (wsV RX5 81 RX5 yX5_quarrels wsX5_quarrels) := goodIn_app (goodIn_of _ (by decide +kernel)) ggX5_sumOf_X5_quarrels
set_option maxRecDepth 20000 in
theorem ggX5_sumOf_X5_isAgreed : GoodIn wsX5_sumOf wsX5_isAgreed := goodIn_r _ [54, 6, 69, 70, 71, 72, 73, 74, 75] (by decide +kernel) (by decide +kernel)
set_option maxRecDepth 20000 in
theorem gX5_sumOf_X5_isAgreed : GoodIn wsX5_sumOf (wsV RX5 77 RX5 yX5_isAgreed wsX5_isAgreed) := goodIn_app (goodIn_of _ (by decide +kernel)) ggX5_sumOf_X5_isAgreed
set_option maxRecDepth 20000 in
theorem ggX5_sumOf_X5_fits : GoodIn wsX5_sumOf wsX5_fits := goodIn_r _ [58, 6, 59, 60, 61, 62, 4, 63, 23, 24, 25, 26, 7, 8, 9, 10, 64, 65, 66, 67, 68, 39, 40, 41, 42, 47, 48, 49, 50, 69, 70, 71, 72, 73, 74, 75] (by decide +kernel) (by decide +kernel)
set_option maxRecDepth 20000 in
theorem gX5_sumOf_X5_fits : GoodIn wsX5_sumOf (wsV RX5 144 RX5 yX5_fits wsX5_fits) := goodIn_app (goodIn_of _ (by decide +kernel)) ggX5_sumOf_X5_fits
theorem dX5_sumOf_0 : decode cX5_sumOf 0 = .ok (.iconst 0, 1) := by decide +kernel
theorem dX5_sumOf_1 : decode cX5_sumOf 1 = .ok (.istore_n 2, 1) := by decide +kernel
theorem dX5_sumOf_2 : decode cX5_sumOf 2 = .ok (.iconst 0, 1) := by decide +kernel
theorem dX5_sumOf_3 : decode cX5_sumOf 3 = .ok (.istore_n 3, 1) := by decide +kernel
theorem dX5_sumOf_4 : decode cX5_sumOf 4 = .ok (.iload_n 3, 1) := by decide +kernel
theorem dX5_sumOf_5 : decode cX5_sumOf 5 = .ok (.aload_n 0, 1) := by decide +kernel
theorem dX5_sumOf_6 : decode cX5_sumOf 6 = .ok (.invokevirtual 52, 3) := by decide +kernel
theorem dX5_sumOf_9 : decode cX5_sumOf 9 = .ok (.if_icmp .ge 95, 3) := by decide +kernel
theorem dX5_sumOf_12 : decode cX5_sumOf 12 = .ok (.iload_n 1, 1) := by decide +kernel
theorem dX5_sumOf_13 : decode cX5_sumOf 13 = .ok (.bipush 6, 2) := by decide +kernel
theorem dX5_sumOf_15 : decode cX5_sumOf 15 = .ok (.if_icmp .ne 11, 3) := by decide +kernel
theorem dX5_sumOf_18 : decode cX5_sumOf 18 = .ok (.aload_n 0, 1) := by decide +kernel
theorem dX5_sumOf_19 : decode cX5_sumOf 19 = .ok (.iload_n 3, 1) := by decide +kernel
theorem dX5_sumOf_20 : decode cX5_sumOf 20 = .ok (.invokevirtual 81, 3) := by decide +kernel
theorem dX5_sumOf_23 : decode cX5_sumOf 23 = .ok (.goto 4, 3) := by decide +kernel
theorem dX5_sumOf_26 : decode cX5_sumOf 26 = .ok (.iconst 1, 1) := by decide +kernel
theorem dX5_sumOf_27 : decode cX5_sumOf 27 = .ok (.istore 4, 2) := by decide +kernel
theorem dX5_sumOf_29 : decode cX5_sumOf 29 = .ok (.iload_n 1, 1) := by decide +kernel
theorem dX5_sumOf_30 : decode cX5_sumOf 30 = .ok (.iconst 4, 1) := by decide +kernel
theorem dX5_sumOf_31 : decode cX5_sumOf 31 = .ok (.if_icmp .ne 11, 3) := by decide +kernel
theorem dX5_sumOf_34 : decode cX5_sumOf 34 = .ok (.aload_n 0, 1) := by decide +kernel
theorem dX5_sumOf_35 : decode cX5_sumOf 35 = .ok (.iload_n 3, 1) := by decide +kernel
theorem dX5_sumOf_36 : decode cX5_sumOf 36 = .ok (.invokevirtual 77, 3) := by decide +kernel
theorem dX5_sumOf_39 : decode cX5_sumOf 39 = .ok (.goto 43, 3) := by decide +kernel
theorem dX5_sumOf_42 : decode cX5_sumOf 42 = .ok (.iload_n 1, 1) := by decide +kernel
theorem dX5_sumOf_43 : decode cX5_sumOf 43 = .ok (.iconst 5, 1) := by decide +kernel
theorem dX5_sumOf_44 : decode cX5_sumOf 44 = .ok (.if_icmp .ne 19, 3) := by decide +kernel
theorem dX5_sumOf_47 : decode cX5_sumOf 47 = .ok (.aload_n 0, 1) := by decide +kernel
theorem dX5_sumOf_48 : decode cX5_sumOf 48 = .ok (.iload_n 3, 1) := by decide +kernel
theorem dX5_sumOf_49 : decode cX5_sumOf 49 = .ok (.invokevirtual 81, 3) := by decide +kernel
theorem dX5_sumOf_52 : decode cX5_sumOf 52 = .ok (.ifCond .ne 7, 3) := by decide +kernel
theorem dX5_sumOf_55 : decode cX5_sumOf 55 = .ok (.iconst 1, 1) := by decide +kernel
theorem dX5_sumOf_56 : decode cX5_sumOf 56 = .ok (.goto 26, 3) := by decide +kernel
theorem dX5_sumOf_59 : decode cX5_sumOf 59 = .ok (.iconst 0, 1) := by decide +kernel
theorem dX5_sumOf_60 : decode cX5_sumOf 60 = .ok (.goto 22, 3) := by decide +kernel
theorem dX5_sumOf_63 : decode cX5_sumOf 63 = .ok (.iload_n 1, 1) := by decide +kernel
theorem dX5_sumOf_64 : decode cX5_sumOf 64 = .ok (.bipush 6, 2) := by decide +kernel
theorem dX5_sumOf_66 : decode cX5_sumOf 66 = .ok (.if_icmp .eq 11, 3) := by decide +kernel
theorem dX5_sumOf_69 : decode cX5_sumOf 69 = .ok (.aload_n 0, 1) := by decide +kernel
theorem dX5_sumOf_70 : decode cX5_sumOf 70 = .ok (.iload_n 3, 1) := by decide +kernel
theorem dX5_sumOf_71 : decode cX5_sumOf 71 = .ok (.invokevirtual 144, 3) := by decide +kernel
theorem dX5_sumOf_74 : decode cX5_sumOf 74 = .ok (.ifCond .eq 7, 3) := by decide +kernel
theorem dX5_sumOf_77 : decode cX5_sumOf 77 = .ok (.iconst 1, 1) := by decide +kernel
theorem dX5_sumOf_78 : decode cX5_sumOf 78 = .ok (.goto 4, 3) := by decide +kernel
theorem dX5_sumOf_81 : decode cX5_sumOf 81 = .ok (.iconst 0, 1) := by decide +kernel
theorem dX5_sumOf_82 : decode cX5_sumOf 82 = .ok (.istore 5, 2) := by decide +kernel
theorem dX5_sumOf_84 : decode cX5_sumOf 84 = .ok (.iload_n 2, 1) := by decide +kernel
theorem dX5_sumOf_85 : decode cX5_sumOf 85 = .ok (.iload 5, 2) := by decide +kernel
theorem dX5_sumOf_87 : decode cX5_sumOf 87 = .ok (.ifCond .eq 8, 3) := by decide +kernel
theorem dX5_sumOf_90 : decode cX5_sumOf 90 = .ok (.iload 4, 2) := by decide +kernel
theorem dX5_sumOf_92 : decode cX5_sumOf 92 = .ok (.goto 4, 3) := by decide +kernel
theorem dX5_sumOf_95 : decode cX5_sumOf 95 = .ok (.iconst 0, 1) := by decide +kernel
theorem dX5_sumOf_96 : decode cX5_sumOf 96 = .ok (.iadd, 1) := by decide +kernel
theorem dX5_sumOf_97 : decode cX5_sumOf 97 = .ok (.istore_n 2, 1) := by decide +kernel
theorem dX5_sumOf_98 : decode cX5_sumOf 98 = .ok (.iinc 3 1, 3) := by decide +kernel
theorem dX5_sumOf_101 : decode cX5_sumOf 101 = .ok (.goto (-97), 3) := by decide +kernel
theorem dX5_sumOf_104 : decode cX5_sumOf 104 = .ok (.iload_n 2, 1) := by decide +kernel
theorem dX5_sumOf_105 : decode cX5_sumOf 105 = .ok (.ireturn, 1) := by decide +kernel
set_option maxRecDepth 20000 in
theorem ggX5_published_X5_sheets : GoodIn wsX5_published wsX5_sheets := goodIn_r _ [5, 6, 15, 16, 17, 18, 19, 20, 21] (by decide +kernel) (by decide +kernel)
set_option maxRecDepth 20000 in
theorem gX5_published_X5_sheets : GoodIn wsX5_published (wsV RX5 33 RX5 yX5_sheets wsX5_sheets) := goodIn_app (goodIn_of _ (by decide +kernel)) ggX5_published_X5_sheets
set_option maxRecDepth 20000 in
theorem ggX5_published_X5_of : GoodIn wsX5_published wsX5_of := goodIn_r _ [10, 6, 15, 16, 17, 18, 19, 20, 21] (by decide +kernel) (by decide +kernel)
set_option maxRecDepth 20000 in
theorem gX5_published_X5_of : GoodIn wsX5_published (wsV RX5 37 RX5 yX5_of wsX5_of) := goodIn_app (goodIn_of _ (by decide +kernel)) ggX5_published_X5_of
set_option maxRecDepth 20000 in
theorem ggX5_published_X5_isUpToDate : GoodIn wsX5_published wsX5_isUpToDate := goodIn_r _ [14, 7, 8, 9, 4, 10, 6, 15, 16, 17, 18, 19, 20, 21] (by decide +kernel) (by decide +kernel)
set_option maxRecDepth 20000 in
theorem gX5_published_X5_isUpToDate : GoodIn wsX5_published (wsV RX5 135 RX5 yX5_isUpToDate wsX5_isUpToDate) := goodIn_app (goodIn_of _ (by decide +kernel)) ggX5_published_X5_isUpToDate
theorem dX5_published_0 : decode cX5_published 0 = .ok (.iconst 0, 1) := by decide +kernel
theorem dX5_published_1 : decode cX5_published 1 = .ok (.istore_n 2, 1) := by decide +kernel
theorem dX5_published_2 : decode cX5_published 2 = .ok (.iconst 0, 1) := by decide +kernel
theorem dX5_published_3 : decode cX5_published 3 = .ok (.istore_n 3, 1) := by decide +kernel
theorem dX5_published_4 : decode cX5_published 4 = .ok (.iload_n 3, 1) := by decide +kernel
theorem dX5_published_5 : decode cX5_published 5 = .ok (.aload_n 0, 1) := by decide +kernel
theorem dX5_published_6 : decode cX5_published 6 = .ok (.invokevirtual 33, 3) := by decide +kernel
theorem dX5_published_9 : decode cX5_published 9 = .ok (.if_icmp .ge 41, 3) := by decide +kernel
theorem dX5_published_12 : decode cX5_published 12 = .ok (.iload_n 2, 1) := by decide +kernel
theorem dX5_published_13 : decode cX5_published 13 = .ok (.aload_n 0, 1) := by decide +kernel
theorem dX5_published_14 : decode cX5_published 14 = .ok (.iload_n 3, 1) := by decide +kernel
theorem dX5_published_15 : decode cX5_published 15 = .ok (.bipush 51, 2) := by decide +kernel
theorem dX5_published_17 : decode cX5_published 17 = .ok (.invokevirtual 37, 3) := by decide +kernel
theorem dX5_published_20 : decode cX5_published 20 = .ok (.bipush (-4), 2) := by decide +kernel
theorem dX5_published_22 : decode cX5_published 22 = .ok (.if_icmp .eq 19, 3) := by decide +kernel
theorem dX5_published_25 : decode cX5_published 25 = .ok (.iload_n 1, 1) := by decide +kernel
theorem dX5_published_26 : decode cX5_published 26 = .ok (.ifCond .eq 11, 3) := by decide +kernel
theorem dX5_published_29 : decode cX5_published 29 = .ok (.aload_n 0, 1) := by decide +kernel
theorem dX5_published_30 : decode cX5_published 30 = .ok (.iload_n 3, 1) := by decide +kernel
theorem dX5_published_31 : decode cX5_published 31 = .ok (.invokevirtual 135, 3) := by decide +kernel
theorem dX5_published_34 : decode cX5_published 34 = .ok (.ifCond .eq 7, 3) := by decide +kernel
theorem dX5_published_37 : decode cX5_published 37 = .ok (.iconst 1, 1) := by decide +kernel
theorem dX5_published_38 : decode cX5_published 38 = .ok (.goto 4, 3) := by decide +kernel
theorem dX5_published_41 : decode cX5_published 41 = .ok (.iconst 0, 1) := by decide +kernel
theorem dX5_published_42 : decode cX5_published 42 = .ok (.iadd, 1) := by decide +kernel
theorem dX5_published_43 : decode cX5_published 43 = .ok (.istore_n 2, 1) := by decide +kernel
theorem dX5_published_44 : decode cX5_published 44 = .ok (.iinc 3 1, 3) := by decide +kernel
theorem dX5_published_47 : decode cX5_published 47 = .ok (.goto (-43), 3) := by decide +kernel
theorem dX5_published_50 : decode cX5_published 50 = .ok (.iload_n 2, 1) := by decide +kernel
theorem dX5_published_51 : decode cX5_published 51 = .ok (.ireturn, 1) := by decide +kernel
set_option maxRecDepth 20000 in
theorem ggX5_count_X5_sheets : GoodIn wsX5_count wsX5_sheets := goodIn_r _ [8, 1, 96, 97, 98, 99, 100, 101, 102] (by decide +kernel) (by decide +kernel)
set_option maxRecDepth 20000 in
theorem gX5_count_X5_sheets : GoodIn wsX5_count (wsV RX5 33 RX5 yX5_sheets wsX5_sheets) := goodIn_app (goodIn_of _ (by decide +kernel)) ggX5_count_X5_sheets
set_option maxRecDepth 20000 in
theorem ggX5_count_X5_edges : GoodIn wsX5_count wsX5_edges := goodIn_r _ [12, 1, 13, 14, 15, 7, 16, 96, 97, 98, 99, 100, 101, 102] (by decide +kernel) (by decide +kernel)
set_option maxRecDepth 20000 in
theorem gX5_count_X5_edges : GoodIn wsX5_count (wsV RX5 52 RX5 yX5_edges wsX5_edges) := goodIn_app (goodIn_of _ (by decide +kernel)) ggX5_count_X5_edges
set_option maxRecDepth 20000 in
theorem ggX5_count_X5_sumOf : GoodIn wsX5_count wsX5_sumOf := goodIn_r _ [20, 9, 10, 11, 7, 12, 1, 13, 14, 15, 16, 21, 22, 23, 24, 25, 26, 27, 28, 29, 30, 31, 32, 33, 34, 35, 36, 37, 38, 39, 40, 41, 42, 43, 44, 45, 46, 47, 48, 49, 50, 51, 52, 53, 54, 55, 56, 57, 58, 59, 60, 61, 62, 63, 64, 65, 66, 67, 68, 69, 70, 71, 72, 73, 74, 75, 76, 77, 78, 96, 97, 98, 99, 100, 101, 102] (by decide +kernel) (by decide +kernel)
set_option maxRecDepth 20000 in
theorem gX5_count_X5_sumOf : GoodIn wsX5_count (wsV RX5 147 RX5 yX5_sumOf wsX5_sumOf) := goodIn_app (goodIn_of _ (by decide +kernel)) ggX5_count_X5_sumOf
set_option maxRecDepth 20000 in
theorem ggX5_count_X5_blocks : GoodIn wsX5_count wsX5_blocks := goodIn_r _ [82, 83, 84, 85, 86, 7, 87, 4, 5, 6, 8, 1, 9, 10, 11, 12, 13, 14, 15, 16, 33, 34, 35, 36, 57, 58, 59, 60, 61, 62, 63, 64, 96, 97, 98, 99, 100, 101, 102] (by decide +kernel) (by decide +kernel)
set_option maxRecDepth 20000 in
theorem gX5_count_X5_blocks : GoodIn wsX5_count (wsV RX5 150 RX5 yX5_blocks wsX5_blocks) := goodIn_app (goodIn_of _ (by decide +kernel)) ggX5_count_X5_blocks
set_option maxRecDepth 20000 in
theorem ggX5_count_X5_published : GoodIn wsX5_count wsX5_published := goodIn_r _ [91, 4, 5, 6, 7, 8, 1, 49, 50, 51, 52, 92, 93, 94, 95, 96, 97, 98, 99, 100, 101, 102] (by decide +kernel) (by decide +kernel)
set_option maxRecDepth 20000 in
theorem gX5_count_X5_published : GoodIn wsX5_count (wsV RX5 153 RX5 yX5_published wsX5_published) := goodIn_app (goodIn_of _ (by decide +kernel)) ggX5_count_X5_published
theorem dX5_count_0 : decode cX5_count 0 = .ok (.iload_n 1, 1) := by decide +kernel
theorem dX5_count_1 : decode cX5_count 1 = .ok (.tableswitch 141 0 14 #[75, 75, 82, 87, 92, 92, 92, 98, 103, 103, 92, 119, 124, 129, 129], 75) := by decide +kernel
theorem dX5_count_76 : decode cX5_count 76 = .ok (.aload_n 0, 1) := by decide +kernel
theorem dX5_count_77 : decode cX5_count 77 = .ok (.getfield 7, 3) := by decide +kernel
theorem dX5_count_80 : decode cX5_count 80 = .ok (.iload_n 1, 1) := by decide +kernel
theorem dX5_count_81 : decode cX5_count 81 = .ok (.iaload, 1) := by decide +kernel
theorem dX5_count_82 : decode cX5_count 82 = .ok (.ireturn, 1) := by decide +kernel
theorem dX5_count_83 : decode cX5_count 83 = .ok (.aload_n 0, 1) := by decide +kernel
theorem dX5_count_84 : decode cX5_count 84 = .ok (.invokevirtual 33, 3) := by decide +kernel
theorem dX5_count_87 : decode cX5_count 87 = .ok (.ireturn, 1) := by decide +kernel
theorem dX5_count_88 : decode cX5_count 88 = .ok (.aload_n 0, 1) := by decide +kernel
theorem dX5_count_89 : decode cX5_count 89 = .ok (.invokevirtual 52, 3) := by decide +kernel
theorem dX5_count_92 : decode cX5_count 92 = .ok (.ireturn, 1) := by decide +kernel
theorem dX5_count_93 : decode cX5_count 93 = .ok (.aload_n 0, 1) := by decide +kernel
theorem dX5_count_94 : decode cX5_count 94 = .ok (.iload_n 1, 1) := by decide +kernel
theorem dX5_count_95 : decode cX5_count 95 = .ok (.invokevirtual 147, 3) := by decide +kernel
theorem dX5_count_98 : decode cX5_count 98 = .ok (.ireturn, 1) := by decide +kernel
theorem dX5_count_99 : decode cX5_count 99 = .ok (.aload_n 0, 1) := by decide +kernel
theorem dX5_count_100 : decode cX5_count 100 = .ok (.invokevirtual 150, 3) := by decide +kernel
theorem dX5_count_103 : decode cX5_count 103 = .ok (.ireturn, 1) := by decide +kernel
theorem dX5_count_104 : decode cX5_count 104 = .ok (.aload_n 0, 1) := by decide +kernel
theorem dX5_count_105 : decode cX5_count 105 = .ok (.iload_n 1, 1) := by decide +kernel
theorem dX5_count_106 : decode cX5_count 106 = .ok (.bipush 9, 2) := by decide +kernel
theorem dX5_count_108 : decode cX5_count 108 = .ok (.if_icmp .ne 7, 3) := by decide +kernel
theorem dX5_count_111 : decode cX5_count 111 = .ok (.iconst 1, 1) := by decide +kernel
theorem dX5_count_112 : decode cX5_count 112 = .ok (.goto 4, 3) := by decide +kernel
theorem dX5_count_115 : decode cX5_count 115 = .ok (.iconst 0, 1) := by decide +kernel
theorem dX5_count_116 : decode cX5_count 116 = .ok (.invokevirtual 153, 3) := by decide +kernel
theorem dX5_count_119 : decode cX5_count 119 = .ok (.ireturn, 1) := by decide +kernel
theorem dX5_count_120 : decode cX5_count 120 = .ok (.aload_n 0, 1) := by decide +kernel
theorem dX5_count_121 : decode cX5_count 121 = .ok (.getfield 29, 3) := by decide +kernel
theorem dX5_count_124 : decode cX5_count 124 = .ok (.ireturn, 1) := by decide +kernel
theorem dX5_count_125 : decode cX5_count 125 = .ok (.aload_n 0, 1) := by decide +kernel
theorem dX5_count_126 : decode cX5_count 126 = .ok (.getfield 157, 3) := by decide +kernel
theorem dX5_count_129 : decode cX5_count 129 = .ok (.ireturn, 1) := by decide +kernel
theorem dX5_count_130 : decode cX5_count 130 = .ok (.aload_n 0, 1) := by decide +kernel
theorem dX5_count_131 : decode cX5_count 131 = .ok (.getfield 7, 3) := by decide +kernel
theorem dX5_count_134 : decode cX5_count 134 = .ok (.iconst 2, 1) := by decide +kernel
theorem dX5_count_135 : decode cX5_count 135 = .ok (.iload_n 1, 1) := by decide +kernel
theorem dX5_count_136 : decode cX5_count 136 = .ok (.iadd, 1) := by decide +kernel
theorem dX5_count_137 : decode cX5_count 137 = .ok (.bipush 13, 2) := by decide +kernel
theorem dX5_count_139 : decode cX5_count 139 = .ok (.isub, 1) := by decide +kernel
theorem dX5_count_140 : decode cX5_count 140 = .ok (.iaload, 1) := by decide +kernel
theorem dX5_count_141 : decode cX5_count 141 = .ok (.ireturn, 1) := by decide +kernel
theorem dX5_count_142 : decode cX5_count 142 = .ok (.iconst (-1), 1) := by decide +kernel
theorem dX5_count_143 : decode cX5_count 143 = .ok (.ireturn, 1) := by decide +kernel
theorem dX5_undo_0 : decode cX5_undo 0 = .ok (.aload_n 0, 1) := by decide +kernel
theorem dX5_undo_1 : decode cX5_undo 1 = .ok (.getfield 29, 3) := by decide +kernel
theorem dX5_undo_4 : decode cX5_undo 4 = .ok (.ifCond .ne 6, 3) := by decide +kernel
theorem dX5_undo_7 : decode cX5_undo 7 = .ok (.bipush (-2), 2) := by decide +kernel
theorem dX5_undo_9 : decode cX5_undo 9 = .ok (.ireturn, 1) := by decide +kernel
theorem dX5_undo_10 : decode cX5_undo 10 = .ok (.aload_n 0, 1) := by decide +kernel
theorem dX5_undo_11 : decode cX5_undo 11 = .ok (.dup, 1) := by decide +kernel
theorem dX5_undo_12 : decode cX5_undo 12 = .ok (.getfield 29, 3) := by decide +kernel
theorem dX5_undo_15 : decode cX5_undo 15 = .ok (.iconst 1, 1) := by decide +kernel
theorem dX5_undo_16 : decode cX5_undo 16 = .ok (.isub, 1) := by decide +kernel
theorem dX5_undo_17 : decode cX5_undo 17 = .ok (.putfield 29, 3) := by decide +kernel
theorem dX5_undo_20 : decode cX5_undo 20 = .ok (.iconst 0, 1) := by decide +kernel
theorem dX5_undo_21 : decode cX5_undo 21 = .ok (.istore_n 1, 1) := by decide +kernel
theorem dX5_undo_22 : decode cX5_undo 22 = .ok (.iload_n 1, 1) := by decide +kernel
theorem dX5_undo_23 : decode cX5_undo 23 = .ok (.sipush 1972, 3) := by decide +kernel
theorem dX5_undo_26 : decode cX5_undo 26 = .ok (.if_icmp .ge 30, 3) := by decide +kernel
theorem dX5_undo_29 : decode cX5_undo 29 = .ok (.aload_n 0, 1) := by decide +kernel
theorem dX5_undo_30 : decode cX5_undo 30 = .ok (.getfield 7, 3) := by decide +kernel
theorem dX5_undo_33 : decode cX5_undo 33 = .ok (.iload_n 1, 1) := by decide +kernel
theorem dX5_undo_34 : decode cX5_undo 34 = .ok (.aload_n 0, 1) := by decide +kernel
theorem dX5_undo_35 : decode cX5_undo 35 = .ok (.getfield 13, 3) := by decide +kernel
theorem dX5_undo_38 : decode cX5_undo 38 = .ok (.sipush 1972, 3) := by decide +kernel
theorem dX5_undo_41 : decode cX5_undo 41 = .ok (.aload_n 0, 1) := by decide +kernel
theorem dX5_undo_42 : decode cX5_undo 42 = .ok (.getfield 29, 3) := by decide +kernel
theorem dX5_undo_45 : decode cX5_undo 45 = .ok (.imul, 1) := by decide +kernel
theorem dX5_undo_46 : decode cX5_undo 46 = .ok (.iload_n 1, 1) := by decide +kernel
theorem dX5_undo_47 : decode cX5_undo 47 = .ok (.iadd, 1) := by decide +kernel
theorem dX5_undo_48 : decode cX5_undo 48 = .ok (.iaload, 1) := by decide +kernel
theorem dX5_undo_49 : decode cX5_undo 49 = .ok (.iastore, 1) := by decide +kernel
theorem dX5_undo_50 : decode cX5_undo 50 = .ok (.iinc 1 1, 3) := by decide +kernel
theorem dX5_undo_53 : decode cX5_undo 53 = .ok (.goto (-31), 3) := by decide +kernel
theorem dX5_undo_56 : decode cX5_undo 56 = .ok (.aload_n 0, 1) := by decide +kernel
theorem dX5_undo_57 : decode cX5_undo 57 = .ok (.getfield 29, 3) := by decide +kernel
theorem dX5_undo_60 : decode cX5_undo 60 = .ok (.ireturn, 1) := by decide +kernel
set_option maxRecDepth 20000 in
theorem ggX5_edge_X5_isEdge : GoodIn wsX5_edge wsX5_isEdge := goodIn_r _ [6, 7, 8, 9, 5, 10, 1, 11, 12, 13, 14, 76, 77, 78, 79, 80, 81, 82] (by decide +kernel) (by decide +kernel)
set_option maxRecDepth 20000 in
theorem gX5_edge_X5_isEdge : GoodIn wsX5_edge (wsV RX5 160 RX5 yX5_isEdge wsX5_isEdge) := goodIn_app (goodIn_of _ (by decide +kernel)) ggX5_edge_X5_isEdge
set_option maxRecDepth 20000 in
theorem ggX5_edge_X5_in : GoodIn wsX5_edge wsX5_in := goodIn_r _ [17] (by decide +kernel) (by decide +kernel)
set_option maxRecDepth 20000 in
theorem gX5_edge_X5_in : GoodIn wsX5_edge (va_wsS RX5 111 yX5_in wsX5_in) := goodIn_app (goodIn_of _ (by decide +kernel)) ggX5_edge_X5_in
set_option maxRecDepth 20000 in
theorem ggX5_edge_X5_firstOf : GoodIn wsX5_edge wsX5_firstOf := goodIn_r _ [21, 1, 11, 12, 13, 5, 14, 76, 77, 78, 79, 80, 81, 82] (by decide +kernel) (by decide +kernel)
set_option maxRecDepth 20000 in
theorem gX5_edge_X5_firstOf : GoodIn wsX5_edge (wsV RX5 55 RX5 yX5_firstOf wsX5_firstOf) := goodIn_app (goodIn_of _ (by decide +kernel)) ggX5_edge_X5_firstOf
set_option maxRecDepth 20000 in
theorem ggX5_edge_X5_secondOf : GoodIn wsX5_edge wsX5_secondOf := goodIn_r _ [25, 1, 18, 19, 20, 5, 21, 11, 12, 13, 14, 76, 77, 78, 79, 80, 81, 82] (by decide +kernel) (by decide +kernel)
set_option maxRecDepth 20000 in
theorem gX5_edge_X5_secondOf : GoodIn wsX5_edge (wsV RX5 65 RX5 yX5_secondOf wsX5_secondOf) := goodIn_app (goodIn_of _ (by decide +kernel)) ggX5_edge_X5_secondOf
set_option maxRecDepth 20000 in
theorem ggX5_edge_X5_sideOf : GoodIn wsX5_edge wsX5_sideOf := goodIn_r _ [29, 11, 12, 13, 5, 14, 1, 76, 77, 78, 79, 80, 81, 82] (by decide +kernel) (by decide +kernel)
set_option maxRecDepth 20000 in
theorem gX5_edge_X5_sideOf : GoodIn wsX5_edge (wsV RX5 59 RX5 yX5_sideOf wsX5_sideOf) := goodIn_app (goodIn_of _ (by decide +kernel)) ggX5_edge_X5_sideOf
set_option maxRecDepth 20000 in
theorem ggX5_edge_X5_quarrels : GoodIn wsX5_edge wsX5_quarrels := goodIn_r _ [33, 34, 35, 36, 5, 37, 38, 39, 40, 41, 18, 19, 20, 21, 1, 11, 12, 13, 14, 26, 27, 28, 29, 42, 43, 44, 45, 46, 47, 48, 49, 50, 51, 52, 53, 54, 55, 56, 57, 22, 23, 24, 25, 76, 77, 78, 79, 80, 81, 82] (by decide +kernel) (by decide +kernel)
set_option maxRecDepth 20000 in
theorem gX5_edge_X5_quarrels : GoodIn wsX5_edge (wsV RX5 81 RX5 yX5_quarrels wsX5_quarrels) := goodIn_app (goodIn_of _ (by decide +kernel)) ggX5_edge_X5_quarrels
set_option maxRecDepth 20000 in
theorem ggX5_edge_X5_crossings : GoodIn wsX5_edge wsX5_crossings := goodIn_r _ [61, 38, 39, 40, 5, 41, 18, 19, 20, 21, 1, 11, 12, 13, 14, 26, 27, 28, 29, 42, 43, 44, 45, 46, 47, 48, 49, 50, 51, 52, 53, 54, 55, 56, 57, 22, 23, 24, 25, 76, 77, 78, 79, 80, 81, 82] (by decide +kernel) (by decide +kernel)
set_option maxRecDepth 20000 in
theorem gX5_edge_X5_crossings : GoodIn wsX5_edge (wsV RX5 163 RX5 yX5_crossings wsX5_crossings) := goodIn_app (goodIn_of _ (by decide +kernel)) ggX5_edge_X5_crossings
set_option maxRecDepth 20000 in
theorem ggX5_edge_X5_fits : GoodIn wsX5_edge wsX5_fits := goodIn_r _ [65, 1, 66, 67, 68, 69, 5, 70, 18, 19, 20, 21, 11, 12, 13, 14, 71, 72, 73, 74, 75, 50, 51, 52, 53, 22, 23, 24, 25, 76, 77, 78, 79, 80, 81, 82] (by decide +kernel) (by decide +kernel)
set_option maxRecDepth 20000 in
theorem gX5_edge_X5_fits : GoodIn wsX5_edge (wsV RX5 144 RX5 yX5_fits wsX5_fits) := goodIn_app (goodIn_of _ (by decide +kernel)) ggX5_edge_X5_fits
theorem dX5_edge_0 : decode cX5_edge 0 = .ok (.aload_n 0, 1) := by decide +kernel
theorem dX5_edge_1 : decode cX5_edge 1 = .ok (.iload_n 1, 1) := by decide +kernel
theorem dX5_edge_2 : decode cX5_edge 2 = .ok (.invokevirtual 160, 3) := by decide +kernel
theorem dX5_edge_5 : decode cX5_edge 5 = .ok (.ifCond .eq 13, 3) := by decide +kernel
theorem dX5_edge_8 : decode cX5_edge 8 = .ok (.iload_n 2, 1) := by decide +kernel
theorem dX5_edge_9 : decode cX5_edge 9 = .ok (.iconst 0, 1) := by decide +kernel
theorem dX5_edge_10 : decode cX5_edge 10 = .ok (.bipush 6, 2) := by decide +kernel
theorem dX5_edge_12 : decode cX5_edge 12 = .ok (.invokestatic 111, 3) := by decide +kernel
theorem dX5_edge_15 : decode cX5_edge 15 = .ok (.ifCond .ne 5, 3) := by decide +kernel
theorem dX5_edge_18 : decode cX5_edge 18 = .ok (.iconst (-1), 1) := by decide +kernel
theorem dX5_edge_19 : decode cX5_edge 19 = .ok (.ireturn, 1) := by decide +kernel
theorem dX5_edge_20 : decode cX5_edge 20 = .ok (.iload_n 2, 1) := by decide +kernel
theorem dX5_edge_21 : decode cX5_edge 21 = .ok (.tableswitch 78 0 5 #[39, 45, 51, 57, 66, 72], 39) := by decide +kernel
theorem dX5_edge_60 : decode cX5_edge 60 = .ok (.aload_n 0, 1) := by decide +kernel
theorem dX5_edge_61 : decode cX5_edge 61 = .ok (.iload_n 1, 1) := by decide +kernel
theorem dX5_edge_62 : decode cX5_edge 62 = .ok (.invokevirtual 55, 3) := by decide +kernel
theorem dX5_edge_65 : decode cX5_edge 65 = .ok (.ireturn, 1) := by decide +kernel
theorem dX5_edge_66 : decode cX5_edge 66 = .ok (.aload_n 0, 1) := by decide +kernel
theorem dX5_edge_67 : decode cX5_edge 67 = .ok (.iload_n 1, 1) := by decide +kernel
theorem dX5_edge_68 : decode cX5_edge 68 = .ok (.invokevirtual 65, 3) := by decide +kernel
theorem dX5_edge_71 : decode cX5_edge 71 = .ok (.ireturn, 1) := by decide +kernel
theorem dX5_edge_72 : decode cX5_edge 72 = .ok (.aload_n 0, 1) := by decide +kernel
theorem dX5_edge_73 : decode cX5_edge 73 = .ok (.iload_n 1, 1) := by decide +kernel
theorem dX5_edge_74 : decode cX5_edge 74 = .ok (.invokevirtual 59, 3) := by decide +kernel
theorem dX5_edge_77 : decode cX5_edge 77 = .ok (.ireturn, 1) := by decide +kernel
theorem dX5_edge_78 : decode cX5_edge 78 = .ok (.aload_n 0, 1) := by decide +kernel
theorem dX5_edge_79 : decode cX5_edge 79 = .ok (.getfield 7, 3) := by decide +kernel
theorem dX5_edge_82 : decode cX5_edge 82 = .ok (.iconst 4, 1) := by decide +kernel
theorem dX5_edge_83 : decode cX5_edge 83 = .ok (.iload_n 1, 1) := by decide +kernel
theorem dX5_edge_84 : decode cX5_edge 84 = .ok (.iadd, 1) := by decide +kernel
theorem dX5_edge_85 : decode cX5_edge 85 = .ok (.iaload, 1) := by decide +kernel
theorem dX5_edge_86 : decode cX5_edge 86 = .ok (.ireturn, 1) := by decide +kernel
theorem dX5_edge_87 : decode cX5_edge 87 = .ok (.aload_n 0, 1) := by decide +kernel
theorem dX5_edge_88 : decode cX5_edge 88 = .ok (.iload_n 1, 1) := by decide +kernel
theorem dX5_edge_89 : decode cX5_edge 89 = .ok (.invokevirtual 81, 3) := by decide +kernel
theorem dX5_edge_92 : decode cX5_edge 92 = .ok (.ireturn, 1) := by decide +kernel
theorem dX5_edge_93 : decode cX5_edge 93 = .ok (.aload_n 0, 1) := by decide +kernel
theorem dX5_edge_94 : decode cX5_edge 94 = .ok (.iload_n 1, 1) := by decide +kernel
theorem dX5_edge_95 : decode cX5_edge 95 = .ok (.invokevirtual 163, 3) := by decide +kernel
theorem dX5_edge_98 : decode cX5_edge 98 = .ok (.ireturn, 1) := by decide +kernel
theorem dX5_edge_99 : decode cX5_edge 99 = .ok (.aload_n 0, 1) := by decide +kernel
theorem dX5_edge_100 : decode cX5_edge 100 = .ok (.iload_n 1, 1) := by decide +kernel
theorem dX5_edge_101 : decode cX5_edge 101 = .ok (.invokevirtual 144, 3) := by decide +kernel
theorem dX5_edge_104 : decode cX5_edge 104 = .ok (.ifCond .eq 7, 3) := by decide +kernel
theorem dX5_edge_107 : decode cX5_edge 107 = .ok (.iconst 1, 1) := by decide +kernel
theorem dX5_edge_108 : decode cX5_edge 108 = .ok (.goto 4, 3) := by decide +kernel
theorem dX5_edge_111 : decode cX5_edge 111 = .ok (.iconst 0, 1) := by decide +kernel
theorem dX5_edge_112 : decode cX5_edge 112 = .ok (.ireturn, 1) := by decide +kernel
set_option maxRecDepth 20000 in
theorem ggX5_edgeAt_X5_isSheet : GoodIn wsX5_edgeAt wsX5_isSheet := goodIn_r _ [5, 6, 7, 8, 4, 9, 10, 22, 23, 24, 25, 26, 27, 28] (by decide +kernel) (by decide +kernel)
set_option maxRecDepth 20000 in
theorem gX5_edgeAt_X5_isSheet : GoodIn wsX5_edgeAt (wsV RX5 118 RX5 yX5_isSheet wsX5_isSheet) := goodIn_app (goodIn_of _ (by decide +kernel)) ggX5_edgeAt_X5_isSheet
set_option maxRecDepth 20000 in
theorem ggX5_edgeAt_X5_in : GoodIn wsX5_edgeAt wsX5_in := goodIn_r _ [13] (by decide +kernel) (by decide +kernel)
set_option maxRecDepth 20000 in
theorem gX5_edgeAt_X5_in : GoodIn wsX5_edgeAt (va_wsS RX5 111 yX5_in wsX5_in) := goodIn_app (goodIn_of _ (by decide +kernel)) ggX5_edgeAt_X5_in
set_option maxRecDepth 20000 in
theorem ggX5_edgeAt_X5_edgeOf : GoodIn wsX5_edgeAt wsX5_edgeOf := goodIn_r _ [17, 10, 18, 19, 20, 4, 21, 22, 23, 24, 25, 26, 27, 28] (by decide +kernel) (by decide +kernel)
set_option maxRecDepth 20000 in
theorem gX5_edgeAt_X5_edgeOf : GoodIn wsX5_edgeAt (wsV RX5 128 RX5 yX5_edgeOf wsX5_edgeOf) := goodIn_app (goodIn_of _ (by decide +kernel)) ggX5_edgeAt_X5_edgeOf
theorem dX5_edgeAt_0 : decode cX5_edgeAt 0 = .ok (.aload_n 0, 1) := by decide +kernel
theorem dX5_edgeAt_1 : decode cX5_edgeAt 1 = .ok (.iload_n 1, 1) := by decide +kernel
theorem dX5_edgeAt_2 : decode cX5_edgeAt 2 = .ok (.invokevirtual 118, 3) := by decide +kernel
theorem dX5_edgeAt_5 : decode cX5_edgeAt 5 = .ok (.ifCond .eq 21, 3) := by decide +kernel
theorem dX5_edgeAt_8 : decode cX5_edgeAt 8 = .ok (.iload_n 2, 1) := by decide +kernel
theorem dX5_edgeAt_9 : decode cX5_edgeAt 9 = .ok (.iconst 0, 1) := by decide +kernel
theorem dX5_edgeAt_10 : decode cX5_edgeAt 10 = .ok (.iconst 3, 1) := by decide +kernel
theorem dX5_edgeAt_11 : decode cX5_edgeAt 11 = .ok (.invokestatic 111, 3) := by decide +kernel
theorem dX5_edgeAt_14 : decode cX5_edgeAt 14 = .ok (.ifCond .eq 12, 3) := by decide +kernel
theorem dX5_edgeAt_17 : decode cX5_edgeAt 17 = .ok (.aload_n 0, 1) := by decide +kernel
theorem dX5_edgeAt_18 : decode cX5_edgeAt 18 = .ok (.iload_n 1, 1) := by decide +kernel
theorem dX5_edgeAt_19 : decode cX5_edgeAt 19 = .ok (.iload_n 2, 1) := by decide +kernel
theorem dX5_edgeAt_20 : decode cX5_edgeAt 20 = .ok (.invokevirtual 128, 3) := by decide +kernel
theorem dX5_edgeAt_23 : decode cX5_edgeAt 23 = .ok (.goto 4, 3) := by decide +kernel
theorem dX5_edgeAt_26 : decode cX5_edgeAt 26 = .ok (.iconst (-1), 1) := by decide +kernel
theorem dX5_edgeAt_27 : decode cX5_edgeAt 27 = .ok (.ireturn, 1) := by decide +kernel
set_option maxRecDepth 20000 in
theorem ggX5_quarrelAt_X5_reasonAt : GoodIn wsX5_quarrelAt wsX5_reasonAt := goodIn_r _ [5, 6, 7, 8, 4, 9, 10, 11, 12, 13, 14, 15, 16, 17, 18, 19, 20, 21, 22, 23, 24, 25, 26, 27, 28, 29, 30, 31, 32, 33, 34, 35, 36, 37, 38, 39, 40, 41, 42, 43, 44, 45, 46, 47, 48, 49] (by decide +kernel) (by decide +kernel)
set_option maxRecDepth 20000 in
theorem gX5_quarrelAt_X5_reasonAt : GoodIn wsX5_quarrelAt (wsV RX5 74 RX5 yX5_reasonAt wsX5_reasonAt) := goodIn_app (goodIn_of _ (by decide +kernel)) ggX5_quarrelAt_X5_reasonAt
set_option maxRecDepth 20000 in
theorem ggX5_quarrelAt_X5_firstMeans : GoodIn wsX5_quarrelAt wsX5_firstMeans := goodIn_r _ [9, 10, 11, 12, 4, 13, 14, 15, 16, 17, 18, 19, 20, 21, 22, 23, 24, 25, 26, 27, 28, 29, 30, 31, 32, 33, 34, 43, 44, 45, 46, 47, 48, 49] (by decide +kernel) (by decide +kernel)
set_option maxRecDepth 20000 in
theorem gX5_quarrelAt_X5_firstMeans : GoodIn wsX5_quarrelAt (wsV RX5 68 RX5 yX5_firstMeans wsX5_firstMeans) := goodIn_app (goodIn_of _ (by decide +kernel)) ggX5_quarrelAt_X5_firstMeans
set_option maxRecDepth 20000 in
theorem ggX5_quarrelAt_X5_secondMeans : GoodIn wsX5_quarrelAt wsX5_secondMeans := goodIn_r _ [38, 39, 40, 41, 4, 42, 14, 10, 11, 12, 13, 15, 16, 17, 18, 19, 20, 21, 22, 23, 24, 25, 26, 27, 28, 29, 30, 31, 32, 33, 34, 43, 44, 45, 46, 47, 48, 49] (by decide +kernel) (by decide +kernel)
set_option maxRecDepth 20000 in
theorem gX5_quarrelAt_X5_secondMeans : GoodIn wsX5_quarrelAt (wsV RX5 71 RX5 yX5_secondMeans wsX5_secondMeans) := goodIn_app (goodIn_of _ (by decide +kernel)) ggX5_quarrelAt_X5_secondMeans
theorem dX5_quarrelAt_0 : decode cX5_quarrelAt 0 = .ok (.iload_n 3, 1) := by decide +kernel
theorem dX5_quarrelAt_1 : decode cX5_quarrelAt 1 = .ok (.ifCond .ne 7, 3) := by decide +kernel
theorem dX5_quarrelAt_4 : decode cX5_quarrelAt 4 = .ok (.iload_n 2, 1) := by decide +kernel
theorem dX5_quarrelAt_5 : decode cX5_quarrelAt 5 = .ok (.goto 37, 3) := by decide +kernel
theorem dX5_quarrelAt_8 : decode cX5_quarrelAt 8 = .ok (.iload_n 3, 1) := by decide +kernel
theorem dX5_quarrelAt_9 : decode cX5_quarrelAt 9 = .ok (.iconst 1, 1) := by decide +kernel
theorem dX5_quarrelAt_10 : decode cX5_quarrelAt 10 = .ok (.if_icmp .ne 12, 3) := by decide +kernel
theorem dX5_quarrelAt_13 : decode cX5_quarrelAt 13 = .ok (.aload_n 0, 1) := by decide +kernel
theorem dX5_quarrelAt_14 : decode cX5_quarrelAt 14 = .ok (.iload_n 1, 1) := by decide +kernel
theorem dX5_quarrelAt_15 : decode cX5_quarrelAt 15 = .ok (.iload_n 2, 1) := by decide +kernel
theorem dX5_quarrelAt_16 : decode cX5_quarrelAt 16 = .ok (.invokevirtual 74, 3) := by decide +kernel
theorem dX5_quarrelAt_19 : decode cX5_quarrelAt 19 = .ok (.goto 23, 3) := by decide +kernel
theorem dX5_quarrelAt_22 : decode cX5_quarrelAt 22 = .ok (.iload_n 3, 1) := by decide +kernel
theorem dX5_quarrelAt_23 : decode cX5_quarrelAt 23 = .ok (.iconst 2, 1) := by decide +kernel
theorem dX5_quarrelAt_24 : decode cX5_quarrelAt 24 = .ok (.if_icmp .ne 12, 3) := by decide +kernel
theorem dX5_quarrelAt_27 : decode cX5_quarrelAt 27 = .ok (.aload_n 0, 1) := by decide +kernel
theorem dX5_quarrelAt_28 : decode cX5_quarrelAt 28 = .ok (.iload_n 1, 1) := by decide +kernel
theorem dX5_quarrelAt_29 : decode cX5_quarrelAt 29 = .ok (.iload_n 2, 1) := by decide +kernel
theorem dX5_quarrelAt_30 : decode cX5_quarrelAt 30 = .ok (.invokevirtual 68, 3) := by decide +kernel
theorem dX5_quarrelAt_33 : decode cX5_quarrelAt 33 = .ok (.goto 9, 3) := by decide +kernel
theorem dX5_quarrelAt_36 : decode cX5_quarrelAt 36 = .ok (.aload_n 0, 1) := by decide +kernel
theorem dX5_quarrelAt_37 : decode cX5_quarrelAt 37 = .ok (.iload_n 1, 1) := by decide +kernel
theorem dX5_quarrelAt_38 : decode cX5_quarrelAt 38 = .ok (.iload_n 2, 1) := by decide +kernel
theorem dX5_quarrelAt_39 : decode cX5_quarrelAt 39 = .ok (.invokevirtual 71, 3) := by decide +kernel
theorem dX5_quarrelAt_42 : decode cX5_quarrelAt 42 = .ok (.istore 4, 2) := by decide +kernel
theorem dX5_quarrelAt_44 : decode cX5_quarrelAt 44 = .ok (.iload_n 3, 1) := by decide +kernel
theorem dX5_quarrelAt_45 : decode cX5_quarrelAt 45 = .ok (.iconst 1, 1) := by decide +kernel
theorem dX5_quarrelAt_46 : decode cX5_quarrelAt 46 = .ok (.if_icmp .le 15, 3) := by decide +kernel
theorem dX5_quarrelAt_49 : decode cX5_quarrelAt 49 = .ok (.iload 4, 2) := by decide +kernel
theorem dX5_quarrelAt_51 : decode cX5_quarrelAt 51 = .ok (.bipush 10, 2) := by decide +kernel
theorem dX5_quarrelAt_53 : decode cX5_quarrelAt 53 = .ok (.if_icmp .ne 8, 3) := by decide +kernel
theorem dX5_quarrelAt_56 : decode cX5_quarrelAt 56 = .ok (.bipush (-4), 2) := by decide +kernel
theorem dX5_quarrelAt_58 : decode cX5_quarrelAt 58 = .ok (.goto 5, 3) := by decide +kernel
theorem dX5_quarrelAt_61 : decode cX5_quarrelAt 61 = .ok (.iload 4, 2) := by decide +kernel
theorem dX5_quarrelAt_63 : decode cX5_quarrelAt 63 = .ok (.ireturn, 1) := by decide +kernel
set_option maxRecDepth 20000 in
theorem ggX5_quarrel_X5_isEdge : GoodIn wsX5_quarrel wsX5_isEdge := goodIn_r _ [5, 6, 7, 8, 4, 9, 10, 11, 12, 13, 14, 58, 59, 60, 61, 62, 63, 64] (by decide +kernel) (by decide +kernel)
set_option maxRecDepth 20000 in
theorem gX5_quarrel_X5_isEdge : GoodIn wsX5_quarrel (wsV RX5 160 RX5 yX5_isEdge wsX5_isEdge) := goodIn_app (goodIn_of _ (by decide +kernel)) ggX5_quarrel_X5_isEdge
set_option maxRecDepth 20000 in
theorem ggX5_quarrel_X5_in : GoodIn wsX5_quarrel wsX5_in := goodIn_r _ [17] (by decide +kernel) (by decide +kernel)
set_option maxRecDepth 20000 in
theorem gX5_quarrel_X5_in : GoodIn wsX5_quarrel (va_wsS RX5 111 yX5_in wsX5_in) := goodIn_app (goodIn_of _ (by decide +kernel)) ggX5_quarrel_X5_in
set_option maxRecDepth 20000 in
theorem ggX5_quarrel_X5_reasonAt : GoodIn wsX5_quarrel wsX5_reasonAt := goodIn_r _ [21, 22, 23, 24, 4, 25, 26, 27, 28, 29, 10, 11, 12, 13, 14, 30, 31, 32, 33, 34, 35, 36, 37, 38, 39, 40, 41, 42, 43, 44, 45, 46, 47, 48, 49, 50, 51, 52, 53, 58, 59, 60, 61, 62, 63, 64] (by decide +kernel) (by decide +kernel)
set_option maxRecDepth 20000 in
theorem gX5_quarrel_X5_reasonAt : GoodIn wsX5_quarrel (wsV RX5 74 RX5 yX5_reasonAt wsX5_reasonAt) := goodIn_app (goodIn_of _ (by decide +kernel)) ggX5_quarrel_X5_reasonAt
set_option maxRecDepth 20000 in
theorem ggX5_quarrel_X5_quarrelAt : GoodIn wsX5_quarrel wsX5_quarrelAt := goodIn_r _ [57, 18, 19, 20, 4, 21, 22, 23, 24, 25, 26, 27, 28, 29, 10, 11, 12, 13, 14, 30, 31, 32, 33, 34, 35, 36, 37, 38, 39, 40, 41, 42, 43, 44, 45, 46, 47, 48, 49, 50, 51, 52, 53, 58, 59, 60, 61, 62, 63, 64] (by decide +kernel) (by decide +kernel)
set_option maxRecDepth 20000 in
theorem gX5_quarrel_X5_quarrelAt : GoodIn wsX5_quarrel (wsV RX5 166 RX5 yX5_quarrelAt wsX5_quarrelAt) := goodIn_app (goodIn_of _ (by decide +kernel)) ggX5_quarrel_X5_quarrelAt
theorem dX5_quarrel_0 : decode cX5_quarrel 0 = .ok (.aload_n 0, 1) := by decide +kernel
theorem dX5_quarrel_1 : decode cX5_quarrel 1 = .ok (.iload_n 1, 1) := by decide +kernel
theorem dX5_quarrel_2 : decode cX5_quarrel 2 = .ok (.invokevirtual 160, 3) := by decide +kernel
theorem dX5_quarrel_5 : decode cX5_quarrel 5 = .ok (.ifCond .eq 16, 3) := by decide +kernel
theorem dX5_quarrel_8 : decode cX5_quarrel 8 = .ok (.iload_n 2, 1) := by decide +kernel
theorem dX5_quarrel_9 : decode cX5_quarrel 9 = .ok (.ifCond .lt 12, 3) := by decide +kernel
theorem dX5_quarrel_12 : decode cX5_quarrel 12 = .ok (.iload_n 3, 1) := by decide +kernel
theorem dX5_quarrel_13 : decode cX5_quarrel 13 = .ok (.iconst 0, 1) := by decide +kernel
theorem dX5_quarrel_14 : decode cX5_quarrel 14 = .ok (.iconst 3, 1) := by decide +kernel
theorem dX5_quarrel_15 : decode cX5_quarrel 15 = .ok (.invokestatic 111, 3) := by decide +kernel
theorem dX5_quarrel_18 : decode cX5_quarrel 18 = .ok (.ifCond .ne 5, 3) := by decide +kernel
theorem dX5_quarrel_21 : decode cX5_quarrel 21 = .ok (.iconst (-1), 1) := by decide +kernel
theorem dX5_quarrel_22 : decode cX5_quarrel 22 = .ok (.ireturn, 1) := by decide +kernel
theorem dX5_quarrel_23 : decode cX5_quarrel 23 = .ok (.iload_n 2, 1) := by decide +kernel
theorem dX5_quarrel_24 : decode cX5_quarrel 24 = .ok (.istore 4, 2) := by decide +kernel
theorem dX5_quarrel_26 : decode cX5_quarrel 26 = .ok (.iconst 0, 1) := by decide +kernel
theorem dX5_quarrel_27 : decode cX5_quarrel 27 = .ok (.istore 5, 2) := by decide +kernel
theorem dX5_quarrel_29 : decode cX5_quarrel 29 = .ok (.iload 5, 2) := by decide +kernel
theorem dX5_quarrel_31 : decode cX5_quarrel 31 = .ok (.bipush 10, 2) := by decide +kernel
theorem dX5_quarrel_33 : decode cX5_quarrel 33 = .ok (.if_icmp .ge 36, 3) := by decide +kernel
theorem dX5_quarrel_36 : decode cX5_quarrel 36 = .ok (.aload_n 0, 1) := by decide +kernel
theorem dX5_quarrel_37 : decode cX5_quarrel 37 = .ok (.iload_n 1, 1) := by decide +kernel
theorem dX5_quarrel_38 : decode cX5_quarrel 38 = .ok (.iload 5, 2) := by decide +kernel
theorem dX5_quarrel_40 : decode cX5_quarrel 40 = .ok (.invokevirtual 74, 3) := by decide +kernel
theorem dX5_quarrel_43 : decode cX5_quarrel 43 = .ok (.ifCond .le 20, 3) := by decide +kernel
theorem dX5_quarrel_46 : decode cX5_quarrel 46 = .ok (.iload 4, 2) := by decide +kernel
theorem dX5_quarrel_48 : decode cX5_quarrel 48 = .ok (.ifCond .ne 12, 3) := by decide +kernel
theorem dX5_quarrel_51 : decode cX5_quarrel 51 = .ok (.aload_n 0, 1) := by decide +kernel
theorem dX5_quarrel_52 : decode cX5_quarrel 52 = .ok (.iload_n 1, 1) := by decide +kernel
theorem dX5_quarrel_53 : decode cX5_quarrel 53 = .ok (.iload 5, 2) := by decide +kernel
theorem dX5_quarrel_55 : decode cX5_quarrel 55 = .ok (.iload_n 3, 1) := by decide +kernel
theorem dX5_quarrel_56 : decode cX5_quarrel 56 = .ok (.invokevirtual 166, 3) := by decide +kernel
theorem dX5_quarrel_59 : decode cX5_quarrel 59 = .ok (.ireturn, 1) := by decide +kernel
theorem dX5_quarrel_60 : decode cX5_quarrel 60 = .ok (.iinc 4 (-1), 3) := by decide +kernel
theorem dX5_quarrel_63 : decode cX5_quarrel 63 = .ok (.iinc 5 1, 3) := by decide +kernel
theorem dX5_quarrel_66 : decode cX5_quarrel 66 = .ok (.goto (-37), 3) := by decide +kernel
theorem dX5_quarrel_69 : decode cX5_quarrel 69 = .ok (.bipush (-4), 2) := by decide +kernel
theorem dX5_quarrel_71 : decode cX5_quarrel 71 = .ok (.ireturn, 1) := by decide +kernel
set_option maxRecDepth 20000 in
theorem ggX5_agree_X5_isEdge : GoodIn wsX5_agree wsX5_isEdge := goodIn_r _ [6, 7, 8, 9, 5, 10, 1, 11, 12, 13, 14, 66, 67, 68, 69, 70, 71, 72] (by decide +kernel) (by decide +kernel)
set_option maxRecDepth 20000 in
theorem gX5_agree_X5_isEdge : GoodIn wsX5_agree (wsV RX5 160 RX5 yX5_isEdge wsX5_isEdge) := goodIn_app (goodIn_of _ (by decide +kernel)) ggX5_agree_X5_isEdge
set_option maxRecDepth 20000 in
theorem ggX5_agree_X5_quarrels : GoodIn wsX5_agree wsX5_quarrels := goodIn_r _ [18, 19, 20, 21, 5, 22, 23, 24, 25, 26, 27, 28, 29, 30, 1, 11, 12, 13, 14, 31, 32, 33, 34, 35, 36, 37, 38, 39, 40, 41, 42, 43, 44, 45, 46, 47, 48, 49, 50, 51, 52, 53, 54, 66, 67, 68, 69, 70, 71, 72] (by decide +kernel) (by decide +kernel)
set_option maxRecDepth 20000 in
theorem gX5_agree_X5_quarrels : GoodIn wsX5_agree (wsV RX5 81 RX5 yX5_quarrels wsX5_quarrels) := goodIn_app (goodIn_of _ (by decide +kernel)) ggX5_agree_X5_quarrels
set_option maxRecDepth 20000 in
theorem ggX5_agree_X5_hold : GoodIn wsX5_agree wsX5_hold := goodIn_r _ [58, 59, 1, 66, 67, 68, 69, 70, 71, 72] (by decide +kernel) (by decide +kernel)
set_option maxRecDepth 20000 in
theorem gX5_agree_X5_hold : GoodIn wsX5_agree (wsV RX5 115 RX5 yX5_hold wsX5_hold) := goodIn_app (goodIn_of _ (by decide +kernel)) ggX5_agree_X5_hold
set_option maxRecDepth 20000 in
theorem ggX5_agree_X5_records : GoodIn wsX5_agree wsX5_records := goodIn_r _ [63, 64, 65, 59, 66, 67, 68, 69, 70, 71, 72] (by decide +kernel) (by decide +kernel)
set_option maxRecDepth 20000 in
theorem gX5_agree_X5_records : GoodIn wsX5_agree (wsV RX5 95 RX5 yX5_records wsX5_records) := goodIn_app (goodIn_of _ (by decide +kernel)) ggX5_agree_X5_records
theorem dX5_agree_0 : decode cX5_agree 0 = .ok (.aload_n 0, 1) := by decide +kernel
theorem dX5_agree_1 : decode cX5_agree 1 = .ok (.iload_n 1, 1) := by decide +kernel
theorem dX5_agree_2 : decode cX5_agree 2 = .ok (.invokevirtual 160, 3) := by decide +kernel
theorem dX5_agree_5 : decode cX5_agree 5 = .ok (.ifCond .ne 5, 3) := by decide +kernel
theorem dX5_agree_8 : decode cX5_agree 8 = .ok (.iconst (-1), 1) := by decide +kernel
theorem dX5_agree_9 : decode cX5_agree 9 = .ok (.ireturn, 1) := by decide +kernel
theorem dX5_agree_10 : decode cX5_agree 10 = .ok (.aload_n 0, 1) := by decide +kernel
theorem dX5_agree_11 : decode cX5_agree 11 = .ok (.iload_n 1, 1) := by decide +kernel
theorem dX5_agree_12 : decode cX5_agree 12 = .ok (.invokevirtual 81, 3) := by decide +kernel
theorem dX5_agree_15 : decode cX5_agree 15 = .ok (.ifCond .le 6, 3) := by decide +kernel
theorem dX5_agree_18 : decode cX5_agree 18 = .ok (.bipush (-2), 2) := by decide +kernel
theorem dX5_agree_20 : decode cX5_agree 20 = .ok (.ireturn, 1) := by decide +kernel
theorem dX5_agree_21 : decode cX5_agree 21 = .ok (.aload_n 0, 1) := by decide +kernel
theorem dX5_agree_22 : decode cX5_agree 22 = .ok (.invokevirtual 115, 3) := by decide +kernel
theorem dX5_agree_25 : decode cX5_agree 25 = .ok (.aload_n 0, 1) := by decide +kernel
theorem dX5_agree_26 : decode cX5_agree 26 = .ok (.getfield 7, 3) := by decide +kernel
theorem dX5_agree_29 : decode cX5_agree 29 = .ok (.iconst 4, 1) := by decide +kernel
theorem dX5_agree_30 : decode cX5_agree 30 = .ok (.iload_n 1, 1) := by decide +kernel
theorem dX5_agree_31 : decode cX5_agree 31 = .ok (.iadd, 1) := by decide +kernel
theorem dX5_agree_32 : decode cX5_agree 32 = .ok (.iaload, 1) := by decide +kernel
theorem dX5_agree_33 : decode cX5_agree 33 = .ok (.istore_n 2, 1) := by decide +kernel
theorem dX5_agree_34 : decode cX5_agree 34 = .ok (.aload_n 0, 1) := by decide +kernel
theorem dX5_agree_35 : decode cX5_agree 35 = .ok (.getfield 7, 3) := by decide +kernel
theorem dX5_agree_38 : decode cX5_agree 38 = .ok (.iconst 4, 1) := by decide +kernel
theorem dX5_agree_39 : decode cX5_agree 39 = .ok (.iload_n 1, 1) := by decide +kernel
theorem dX5_agree_40 : decode cX5_agree 40 = .ok (.iadd, 1) := by decide +kernel
theorem dX5_agree_41 : decode cX5_agree 41 = .ok (.iconst 1, 1) := by decide +kernel
theorem dX5_agree_42 : decode cX5_agree 42 = .ok (.iastore, 1) := by decide +kernel
theorem dX5_agree_43 : decode cX5_agree 43 = .ok (.aload_n 0, 1) := by decide +kernel
theorem dX5_agree_44 : decode cX5_agree 44 = .ok (.iload_n 2, 1) := by decide +kernel
theorem dX5_agree_45 : decode cX5_agree 45 = .ok (.invokevirtual 95, 3) := by decide +kernel
theorem dX5_agree_48 : decode cX5_agree 48 = .ok (.ireturn, 1) := by decide +kernel
set_option maxRecDepth 20000 in
theorem ggX5_release_X5_isEdge : GoodIn wsX5_release wsX5_isEdge := goodIn_r _ [6, 7, 8, 9, 5, 10, 1, 11, 12, 13, 14, 51, 52, 53, 54, 55, 56, 57] (by decide +kernel) (by decide +kernel)
set_option maxRecDepth 20000 in
theorem gX5_release_X5_isEdge : GoodIn wsX5_release (wsV RX5 160 RX5 yX5_isEdge wsX5_isEdge) := goodIn_app (goodIn_of _ (by decide +kernel)) ggX5_release_X5_isEdge
set_option maxRecDepth 20000 in
theorem ggX5_release_X5_isAgreed : GoodIn wsX5_release wsX5_isAgreed := goodIn_r _ [18, 1, 51, 52, 53, 54, 55, 56, 57] (by decide +kernel) (by decide +kernel)
set_option maxRecDepth 20000 in
theorem gX5_release_X5_isAgreed : GoodIn wsX5_release (wsV RX5 77 RX5 yX5_isAgreed wsX5_isAgreed) := goodIn_app (goodIn_of _ (by decide +kernel)) ggX5_release_X5_isAgreed
set_option maxRecDepth 20000 in
theorem ggX5_release_X5_hold : GoodIn wsX5_release wsX5_hold := goodIn_r _ [22, 23, 1, 51, 52, 53, 54, 55, 56, 57] (by decide +kernel) (by decide +kernel)
set_option maxRecDepth 20000 in
theorem gX5_release_X5_hold : GoodIn wsX5_release (wsV RX5 115 RX5 yX5_hold wsX5_hold) := goodIn_app (goodIn_of _ (by decide +kernel)) ggX5_release_X5_hold
set_option maxRecDepth 20000 in
theorem ggX5_release_X5_blocks : GoodIn wsX5_release wsX5_blocks := goodIn_r _ [27, 28, 29, 30, 31, 5, 32, 33, 34, 35, 36, 1, 7, 8, 9, 10, 11, 12, 13, 14, 37, 38, 39, 40, 41, 42, 43, 44, 15, 16, 17, 18, 51, 52, 53, 54, 55, 56, 57] (by decide +kernel) (by decide +kernel)
set_option maxRecDepth 20000 in
theorem gX5_release_X5_blocks : GoodIn wsX5_release (wsV RX5 150 RX5 yX5_blocks wsX5_blocks) := goodIn_app (goodIn_of _ (by decide +kernel)) ggX5_release_X5_blocks
set_option maxRecDepth 20000 in
theorem ggX5_release_X5_records : GoodIn wsX5_release wsX5_records := goodIn_r _ [48, 49, 50, 23, 51, 52, 53, 54, 55, 56, 57] (by decide +kernel) (by decide +kernel)
set_option maxRecDepth 20000 in
theorem gX5_release_X5_records : GoodIn wsX5_release (wsV RX5 95 RX5 yX5_records wsX5_records) := goodIn_app (goodIn_of _ (by decide +kernel)) ggX5_release_X5_records
theorem dX5_release_0 : decode cX5_release 0 = .ok (.aload_n 0, 1) := by decide +kernel
theorem dX5_release_1 : decode cX5_release 1 = .ok (.iload_n 1, 1) := by decide +kernel
theorem dX5_release_2 : decode cX5_release 2 = .ok (.invokevirtual 160, 3) := by decide +kernel
theorem dX5_release_5 : decode cX5_release 5 = .ok (.ifCond .ne 5, 3) := by decide +kernel
theorem dX5_release_8 : decode cX5_release 8 = .ok (.iconst (-1), 1) := by decide +kernel
theorem dX5_release_9 : decode cX5_release 9 = .ok (.ireturn, 1) := by decide +kernel
theorem dX5_release_10 : decode cX5_release 10 = .ok (.aload_n 0, 1) := by decide +kernel
theorem dX5_release_11 : decode cX5_release 11 = .ok (.iload_n 1, 1) := by decide +kernel
theorem dX5_release_12 : decode cX5_release 12 = .ok (.invokevirtual 77, 3) := by decide +kernel
theorem dX5_release_15 : decode cX5_release 15 = .ok (.ifCond .ne 6, 3) := by decide +kernel
theorem dX5_release_18 : decode cX5_release 18 = .ok (.bipush (-2), 2) := by decide +kernel
theorem dX5_release_20 : decode cX5_release 20 = .ok (.ireturn, 1) := by decide +kernel
theorem dX5_release_21 : decode cX5_release 21 = .ok (.aload_n 0, 1) := by decide +kernel
theorem dX5_release_22 : decode cX5_release 22 = .ok (.invokevirtual 115, 3) := by decide +kernel
theorem dX5_release_25 : decode cX5_release 25 = .ok (.aload_n 0, 1) := by decide +kernel
theorem dX5_release_26 : decode cX5_release 26 = .ok (.getfield 7, 3) := by decide +kernel
theorem dX5_release_29 : decode cX5_release 29 = .ok (.iconst 4, 1) := by decide +kernel
theorem dX5_release_30 : decode cX5_release 30 = .ok (.iload_n 1, 1) := by decide +kernel
theorem dX5_release_31 : decode cX5_release 31 = .ok (.iadd, 1) := by decide +kernel
theorem dX5_release_32 : decode cX5_release 32 = .ok (.iconst 0, 1) := by decide +kernel
theorem dX5_release_33 : decode cX5_release 33 = .ok (.iastore, 1) := by decide +kernel
theorem dX5_release_34 : decode cX5_release 34 = .ok (.aload_n 0, 1) := by decide +kernel
theorem dX5_release_35 : decode cX5_release 35 = .ok (.aload_n 0, 1) := by decide +kernel
theorem dX5_release_36 : decode cX5_release 36 = .ok (.invokevirtual 150, 3) := by decide +kernel
theorem dX5_release_39 : decode cX5_release 39 = .ok (.invokevirtual 95, 3) := by decide +kernel
theorem dX5_release_42 : decode cX5_release 42 = .ok (.ireturn, 1) := by decide +kernel
set_option maxRecDepth 20000 in
theorem ggX5_signFor_X5_of : GoodIn wsX5_signFor wsX5_of := goodIn_r _ [5, 6, 7, 8, 9, 10, 11, 12, 13] (by decide +kernel) (by decide +kernel)
set_option maxRecDepth 20000 in
theorem gX5_signFor_X5_of : GoodIn wsX5_signFor (wsV RX5 37 RX5 yX5_of wsX5_of) := goodIn_app (goodIn_of _ (by decide +kernel)) ggX5_signFor_X5_of
theorem dX5_signFor_0 : decode cX5_signFor 0 = .ok (.iload_n 3, 1) := by decide +kernel
theorem dX5_signFor_1 : decode cX5_signFor 1 = .ok (.bipush 10, 2) := by decide +kernel
theorem dX5_signFor_3 : decode cX5_signFor 3 = .ok (.if_icmp .eq 22, 3) := by decide +kernel
theorem dX5_signFor_6 : decode cX5_signFor 6 = .ok (.iload_n 2, 1) := by decide +kernel
theorem dX5_signFor_7 : decode cX5_signFor 7 = .ok (.bipush 10, 2) := by decide +kernel
theorem dX5_signFor_9 : decode cX5_signFor 9 = .ok (.if_icmp .eq 29, 3) := by decide +kernel
theorem dX5_signFor_12 : decode cX5_signFor 12 = .ok (.aload_n 0, 1) := by decide +kernel
theorem dX5_signFor_13 : decode cX5_signFor 13 = .ok (.iload_n 1, 1) := by decide +kernel
theorem dX5_signFor_14 : decode cX5_signFor 14 = .ok (.bipush 40, 2) := by decide +kernel
theorem dX5_signFor_16 : decode cX5_signFor 16 = .ok (.iload_n 2, 1) := by decide +kernel
theorem dX5_signFor_17 : decode cX5_signFor 17 = .ok (.iadd, 1) := by decide +kernel
theorem dX5_signFor_18 : decode cX5_signFor 18 = .ok (.invokevirtual 37, 3) := by decide +kernel
theorem dX5_signFor_21 : decode cX5_signFor 21 = .ok (.iload_n 3, 1) := by decide +kernel
theorem dX5_signFor_22 : decode cX5_signFor 22 = .ok (.if_icmp .ne 16, 3) := by decide +kernel
theorem dX5_signFor_25 : decode cX5_signFor 25 = .ok (.iload_n 3, 1) := by decide +kernel
theorem dX5_signFor_26 : decode cX5_signFor 26 = .ok (.bipush 10, 2) := by decide +kernel
theorem dX5_signFor_28 : decode cX5_signFor 28 = .ok (.if_icmp .ne 8, 3) := by decide +kernel
theorem dX5_signFor_31 : decode cX5_signFor 31 = .ok (.bipush 10, 2) := by decide +kernel
theorem dX5_signFor_33 : decode cX5_signFor 33 = .ok (.goto 4, 3) := by decide +kernel
theorem dX5_signFor_36 : decode cX5_signFor 36 = .ok (.iload_n 2, 1) := by decide +kernel
theorem dX5_signFor_37 : decode cX5_signFor 37 = .ok (.ireturn, 1) := by decide +kernel
theorem dX5_signFor_38 : decode cX5_signFor 38 = .ok (.iconst 0, 1) := by decide +kernel
theorem dX5_signFor_39 : decode cX5_signFor 39 = .ok (.istore 4, 2) := by decide +kernel
theorem dX5_signFor_41 : decode cX5_signFor 41 = .ok (.iload 4, 2) := by decide +kernel
theorem dX5_signFor_43 : decode cX5_signFor 43 = .ok (.bipush 10, 2) := by decide +kernel
theorem dX5_signFor_45 : decode cX5_signFor 45 = .ok (.if_icmp .ge 26, 3) := by decide +kernel
theorem dX5_signFor_48 : decode cX5_signFor 48 = .ok (.aload_n 0, 1) := by decide +kernel
theorem dX5_signFor_49 : decode cX5_signFor 49 = .ok (.iload_n 1, 1) := by decide +kernel
theorem dX5_signFor_50 : decode cX5_signFor 50 = .ok (.bipush 40, 2) := by decide +kernel
theorem dX5_signFor_52 : decode cX5_signFor 52 = .ok (.iload 4, 2) := by decide +kernel
theorem dX5_signFor_54 : decode cX5_signFor 54 = .ok (.iadd, 1) := by decide +kernel
theorem dX5_signFor_55 : decode cX5_signFor 55 = .ok (.invokevirtual 37, 3) := by decide +kernel
theorem dX5_signFor_58 : decode cX5_signFor 58 = .ok (.iload_n 3, 1) := by decide +kernel
theorem dX5_signFor_59 : decode cX5_signFor 59 = .ok (.if_icmp .ne 6, 3) := by decide +kernel
theorem dX5_signFor_62 : decode cX5_signFor 62 = .ok (.iload 4, 2) := by decide +kernel
theorem dX5_signFor_64 : decode cX5_signFor 64 = .ok (.ireturn, 1) := by decide +kernel
theorem dX5_signFor_65 : decode cX5_signFor 65 = .ok (.iinc 4 1, 3) := by decide +kernel
theorem dX5_signFor_68 : decode cX5_signFor 68 = .ok (.goto (-27), 3) := by decide +kernel
theorem dX5_signFor_71 : decode cX5_signFor 71 = .ok (.bipush (-4), 2) := by decide +kernel
theorem dX5_signFor_73 : decode cX5_signFor 73 = .ok (.ireturn, 1) := by decide +kernel
set_option maxRecDepth 20000 in
theorem ggX5_settle_X5_isEdge : GoodIn wsX5_settle wsX5_isEdge := goodIn_r _ [5, 6, 7, 8, 4, 9, 10, 11, 12, 13, 14, 74, 75, 76, 77, 78, 79, 80] (by decide +kernel) (by decide +kernel)
set_option maxRecDepth 20000 in
theorem gX5_settle_X5_isEdge : GoodIn wsX5_settle (wsV RX5 160 RX5 yX5_isEdge wsX5_isEdge) := goodIn_app (goodIn_of _ (by decide +kernel)) ggX5_settle_X5_isEdge
set_option maxRecDepth 20000 in
theorem ggX5_settle_X5_firstOf : GoodIn wsX5_settle wsX5_firstOf := goodIn_r _ [18, 10, 11, 12, 13, 4, 14, 74, 75, 76, 77, 78, 79, 80] (by decide +kernel) (by decide +kernel)
set_option maxRecDepth 20000 in
theorem gX5_settle_X5_firstOf : GoodIn wsX5_settle (wsV RX5 55 RX5 yX5_firstOf wsX5_firstOf) := goodIn_app (goodIn_of _ (by decide +kernel)) ggX5_settle_X5_firstOf
set_option maxRecDepth 20000 in
theorem ggX5_settle_X5_secondOf : GoodIn wsX5_settle wsX5_secondOf := goodIn_r _ [22, 10, 15, 16, 17, 4, 18, 11, 12, 13, 14, 74, 75, 76, 77, 78, 79, 80] (by decide +kernel) (by decide +kernel)
set_option maxRecDepth 20000 in
theorem gX5_settle_X5_secondOf : GoodIn wsX5_settle (wsV RX5 65 RX5 yX5_secondOf wsX5_secondOf) := goodIn_app (goodIn_of _ (by decide +kernel)) ggX5_settle_X5_secondOf
set_option maxRecDepth 20000 in
theorem ggX5_settle_X5_hold : GoodIn wsX5_settle wsX5_hold := goodIn_r _ [26, 27, 10, 74, 75, 76, 77, 78, 79, 80] (by decide +kernel) (by decide +kernel)
set_option maxRecDepth 20000 in
theorem gX5_settle_X5_hold : GoodIn wsX5_settle (wsV RX5 115 RX5 yX5_hold wsX5_hold) := goodIn_app (goodIn_of _ (by decide +kernel)) ggX5_settle_X5_hold
set_option maxRecDepth 20000 in
theorem ggX5_settle_X5_sideOf : GoodIn wsX5_settle wsX5_sideOf := goodIn_r _ [31, 11, 12, 13, 4, 14, 10, 74, 75, 76, 77, 78, 79, 80] (by decide +kernel) (by decide +kernel)
set_option maxRecDepth 20000 in
theorem gX5_settle_X5_sideOf : GoodIn wsX5_settle (wsV RX5 59 RX5 yX5_sideOf wsX5_sideOf) := goodIn_app (goodIn_of _ (by decide +kernel)) ggX5_settle_X5_sideOf
set_option maxRecDepth 20000 in
theorem ggX5_settle_X5_signAt : GoodIn wsX5_settle wsX5_signAt := goodIn_r _ [35, 36, 37, 38, 4, 39, 10, 74, 75, 76, 77, 78, 79, 80] (by decide +kernel) (by decide +kernel)
set_option maxRecDepth 20000 in
theorem gX5_settle_X5_signAt : GoodIn wsX5_settle (wsV RX5 45 RX5 yX5_signAt wsX5_signAt) := goodIn_app (goodIn_of _ (by decide +kernel)) ggX5_settle_X5_signAt
set_option maxRecDepth 20000 in
theorem ggX5_settle_X5_firstMeans : GoodIn wsX5_settle wsX5_firstMeans := goodIn_r _ [43, 15, 16, 17, 4, 18, 10, 11, 12, 13, 14, 28, 29, 30, 31, 44, 45, 46, 47, 32, 33, 34, 35, 36, 37, 38, 39, 74, 75, 76, 77, 78, 79, 80] (by decide +kernel) (by decide +kernel)
set_option maxRecDepth 20000 in
theorem gX5_settle_X5_firstMeans : GoodIn wsX5_settle (wsV RX5 68 RX5 yX5_firstMeans wsX5_firstMeans) := goodIn_app (goodIn_of _ (by decide +kernel)) ggX5_settle_X5_firstMeans
set_option maxRecDepth 20000 in
theorem ggX5_settle_X5_secondMeans : GoodIn wsX5_settle wsX5_secondMeans := goodIn_r _ [51, 19, 20, 21, 4, 22, 10, 15, 16, 17, 18, 11, 12, 13, 14, 28, 29, 30, 31, 44, 45, 46, 47, 32, 33, 34, 35, 36, 37, 38, 39, 74, 75, 76, 77, 78, 79, 80] (by decide +kernel) (by decide +kernel)
set_option maxRecDepth 20000 in
theorem gX5_settle_X5_secondMeans : GoodIn wsX5_settle (wsV RX5 71 RX5 yX5_secondMeans wsX5_secondMeans) := goodIn_app (goodIn_of _ (by decide +kernel)) ggX5_settle_X5_secondMeans
set_option maxRecDepth 20000 in
theorem ggX5_settle_X5_signFor : GoodIn wsX5_settle wsX5_signFor := goodIn_r _ [55, 36, 37, 38, 4, 39, 10, 74, 75, 76, 77, 78, 79, 80] (by decide +kernel) (by decide +kernel)
set_option maxRecDepth 20000 in
theorem gX5_settle_X5_signFor : GoodIn wsX5_settle (wsV RX5 169 RX5 yX5_signFor wsX5_signFor) := goodIn_app (goodIn_of _ (by decide +kernel)) ggX5_settle_X5_signFor
set_option maxRecDepth 20000 in
theorem ggX5_settle_X5_restore : GoodIn wsX5_settle wsX5_restore := goodIn_r _ [59, 10, 27, 74, 75, 76, 77, 78, 79, 80] (by decide +kernel) (by decide +kernel)
set_option maxRecDepth 20000 in
theorem gX5_settle_X5_restore : GoodIn wsX5_settle (wsV RX5 88 RX5 yX5_restore wsX5_restore) := goodIn_app (goodIn_of _ (by decide +kernel)) ggX5_settle_X5_restore
set_option maxRecDepth 20000 in
theorem ggX5_settle_X5_puts : GoodIn wsX5_settle wsX5_puts := goodIn_r _ [63, 10, 74, 75, 76, 77, 78, 79, 80] (by decide +kernel) (by decide +kernel)
set_option maxRecDepth 20000 in
theorem gX5_settle_X5_puts : GoodIn wsX5_settle (wsV RX5 41 RX5 yX5_puts wsX5_puts) := goodIn_app (goodIn_of _ (by decide +kernel)) ggX5_settle_X5_puts
set_option maxRecDepth 20000 in
theorem ggX5_settle_X5_revises : GoodIn wsX5_settle wsX5_revises := goodIn_r _ [67, 36, 37, 38, 4, 39, 10, 60, 61, 62, 63, 74, 75, 76, 77, 78, 79, 80] (by decide +kernel) (by decide +kernel)
set_option maxRecDepth 20000 in
theorem gX5_settle_X5_revises : GoodIn wsX5_settle (wsV RX5 91 RX5 yX5_revises wsX5_revises) := goodIn_app (goodIn_of _ (by decide +kernel)) ggX5_settle_X5_revises
set_option maxRecDepth 20000 in
theorem ggX5_settle_X5_records : GoodIn wsX5_settle wsX5_records := goodIn_r _ [71, 72, 73, 27, 74, 75, 76, 77, 78, 79, 80] (by decide +kernel) (by decide +kernel)
set_option maxRecDepth 20000 in
theorem gX5_settle_X5_records : GoodIn wsX5_settle (wsV RX5 95 RX5 yX5_records wsX5_records) := goodIn_app (goodIn_of _ (by decide +kernel)) ggX5_settle_X5_records
theorem dX5_settle_0 : decode cX5_settle 0 = .ok (.aload_n 0, 1) := by decide +kernel
theorem dX5_settle_1 : decode cX5_settle 1 = .ok (.iload_n 1, 1) := by decide +kernel
theorem dX5_settle_2 : decode cX5_settle 2 = .ok (.invokevirtual 160, 3) := by decide +kernel
theorem dX5_settle_5 : decode cX5_settle 5 = .ok (.ifCond .eq 21, 3) := by decide +kernel
theorem dX5_settle_8 : decode cX5_settle 8 = .ok (.iload_n 2, 1) := by decide +kernel
theorem dX5_settle_9 : decode cX5_settle 9 = .ok (.aload_n 0, 1) := by decide +kernel
theorem dX5_settle_10 : decode cX5_settle 10 = .ok (.iload_n 1, 1) := by decide +kernel
theorem dX5_settle_11 : decode cX5_settle 11 = .ok (.invokevirtual 55, 3) := by decide +kernel
theorem dX5_settle_14 : decode cX5_settle 14 = .ok (.if_icmp .eq 14, 3) := by decide +kernel
theorem dX5_settle_17 : decode cX5_settle 17 = .ok (.iload_n 2, 1) := by decide +kernel
theorem dX5_settle_18 : decode cX5_settle 18 = .ok (.aload_n 0, 1) := by decide +kernel
theorem dX5_settle_19 : decode cX5_settle 19 = .ok (.iload_n 1, 1) := by decide +kernel
theorem dX5_settle_20 : decode cX5_settle 20 = .ok (.invokevirtual 65, 3) := by decide +kernel
theorem dX5_settle_23 : decode cX5_settle 23 = .ok (.if_icmp .eq 5, 3) := by decide +kernel
theorem dX5_settle_26 : decode cX5_settle 26 = .ok (.iconst (-1), 1) := by decide +kernel
theorem dX5_settle_27 : decode cX5_settle 27 = .ok (.ireturn, 1) := by decide +kernel
theorem dX5_settle_28 : decode cX5_settle 28 = .ok (.aload_n 0, 1) := by decide +kernel
theorem dX5_settle_29 : decode cX5_settle 29 = .ok (.invokevirtual 115, 3) := by decide +kernel
theorem dX5_settle_32 : decode cX5_settle 32 = .ok (.iload_n 2, 1) := by decide +kernel
theorem dX5_settle_33 : decode cX5_settle 33 = .ok (.aload_n 0, 1) := by decide +kernel
theorem dX5_settle_34 : decode cX5_settle 34 = .ok (.iload_n 1, 1) := by decide +kernel
theorem dX5_settle_35 : decode cX5_settle 35 = .ok (.invokevirtual 55, 3) := by decide +kernel
theorem dX5_settle_38 : decode cX5_settle 38 = .ok (.if_icmp .ne 7, 3) := by decide +kernel
theorem dX5_settle_41 : decode cX5_settle 41 = .ok (.iconst 1, 1) := by decide +kernel
theorem dX5_settle_42 : decode cX5_settle 42 = .ok (.goto 4, 3) := by decide +kernel
theorem dX5_settle_45 : decode cX5_settle 45 = .ok (.iconst 0, 1) := by decide +kernel
theorem dX5_settle_46 : decode cX5_settle 46 = .ok (.istore_n 3, 1) := by decide +kernel
theorem dX5_settle_47 : decode cX5_settle 47 = .ok (.iload_n 3, 1) := by decide +kernel
theorem dX5_settle_48 : decode cX5_settle 48 = .ok (.ifCond .eq 11, 3) := by decide +kernel
theorem dX5_settle_51 : decode cX5_settle 51 = .ok (.aload_n 0, 1) := by decide +kernel
theorem dX5_settle_52 : decode cX5_settle 52 = .ok (.iload_n 1, 1) := by decide +kernel
theorem dX5_settle_53 : decode cX5_settle 53 = .ok (.invokevirtual 65, 3) := by decide +kernel
theorem dX5_settle_56 : decode cX5_settle 56 = .ok (.goto 8, 3) := by decide +kernel
theorem dX5_settle_59 : decode cX5_settle 59 = .ok (.aload_n 0, 1) := by decide +kernel
theorem dX5_settle_60 : decode cX5_settle 60 = .ok (.iload_n 1, 1) := by decide +kernel
theorem dX5_settle_61 : decode cX5_settle 61 = .ok (.invokevirtual 55, 3) := by decide +kernel
theorem dX5_settle_64 : decode cX5_settle 64 = .ok (.istore 4, 2) := by decide +kernel
theorem dX5_settle_66 : decode cX5_settle 66 = .ok (.iload_n 3, 1) := by decide +kernel
theorem dX5_settle_67 : decode cX5_settle 67 = .ok (.ifCond .ne 11, 3) := by decide +kernel
theorem dX5_settle_70 : decode cX5_settle 70 = .ok (.aload_n 0, 1) := by decide +kernel
theorem dX5_settle_71 : decode cX5_settle 71 = .ok (.iload_n 1, 1) := by decide +kernel
theorem dX5_settle_72 : decode cX5_settle 72 = .ok (.invokevirtual 59, 3) := by decide +kernel
theorem dX5_settle_75 : decode cX5_settle 75 = .ok (.goto 17, 3) := by decide +kernel
theorem dX5_settle_78 : decode cX5_settle 78 = .ok (.aload_n 0, 1) := by decide +kernel
theorem dX5_settle_79 : decode cX5_settle 79 = .ok (.iload_n 1, 1) := by decide +kernel
theorem dX5_settle_80 : decode cX5_settle 80 = .ok (.invokevirtual 59, 3) := by decide +kernel
theorem dX5_settle_83 : decode cX5_settle 83 = .ok (.iconst 1, 1) := by decide +kernel
theorem dX5_settle_84 : decode cX5_settle 84 = .ok (.if_icmp .ne 7, 3) := by decide +kernel
theorem dX5_settle_87 : decode cX5_settle 87 = .ok (.iconst 3, 1) := by decide +kernel
theorem dX5_settle_88 : decode cX5_settle 88 = .ok (.goto 4, 3) := by decide +kernel
theorem dX5_settle_91 : decode cX5_settle 91 = .ok (.iconst 0, 1) := by decide +kernel
theorem dX5_settle_92 : decode cX5_settle 92 = .ok (.istore 5, 2) := by decide +kernel
theorem dX5_settle_94 : decode cX5_settle 94 = .ok (.iconst 0, 1) := by decide +kernel
theorem dX5_settle_95 : decode cX5_settle 95 = .ok (.istore 6, 2) := by decide +kernel
theorem dX5_settle_97 : decode cX5_settle 97 = .ok (.iconst 0, 1) := by decide +kernel
theorem dX5_settle_98 : decode cX5_settle 98 = .ok (.istore 7, 2) := by decide +kernel
theorem dX5_settle_100 : decode cX5_settle 100 = .ok (.iload 7, 2) := by decide +kernel
theorem dX5_settle_102 : decode cX5_settle 102 = .ok (.bipush 10, 2) := by decide +kernel
theorem dX5_settle_104 : decode cX5_settle 104 = .ok (.if_icmp .ge 99, 3) := by decide +kernel
theorem dX5_settle_107 : decode cX5_settle 107 = .ok (.aload_n 0, 1) := by decide +kernel
theorem dX5_settle_108 : decode cX5_settle 108 = .ok (.iload 4, 2) := by decide +kernel
theorem dX5_settle_110 : decode cX5_settle 110 = .ok (.iload 5, 2) := by decide +kernel
theorem dX5_settle_112 : decode cX5_settle 112 = .ok (.iload 7, 2) := by decide +kernel
theorem dX5_settle_114 : decode cX5_settle 114 = .ok (.invokevirtual 45, 3) := by decide +kernel
theorem dX5_settle_117 : decode cX5_settle 117 = .ok (.istore 8, 2) := by decide +kernel
theorem dX5_settle_119 : decode cX5_settle 119 = .ok (.aload_n 0, 1) := by decide +kernel
theorem dX5_settle_120 : decode cX5_settle 120 = .ok (.iload 4, 2) := by decide +kernel
theorem dX5_settle_122 : decode cX5_settle 122 = .ok (.iload 8, 2) := by decide +kernel
theorem dX5_settle_124 : decode cX5_settle 124 = .ok (.iload_n 3, 1) := by decide +kernel
theorem dX5_settle_125 : decode cX5_settle 125 = .ok (.ifCond .eq 13, 3) := by decide +kernel
theorem dX5_settle_128 : decode cX5_settle 128 = .ok (.aload_n 0, 1) := by decide +kernel
theorem dX5_settle_129 : decode cX5_settle 129 = .ok (.iload_n 1, 1) := by decide +kernel
theorem dX5_settle_130 : decode cX5_settle 130 = .ok (.iload 7, 2) := by decide +kernel
theorem dX5_settle_132 : decode cX5_settle 132 = .ok (.invokevirtual 68, 3) := by decide +kernel
theorem dX5_settle_135 : decode cX5_settle 135 = .ok (.goto 10, 3) := by decide +kernel
theorem dX5_settle_138 : decode cX5_settle 138 = .ok (.aload_n 0, 1) := by decide +kernel
theorem dX5_settle_139 : decode cX5_settle 139 = .ok (.iload_n 1, 1) := by decide +kernel
theorem dX5_settle_140 : decode cX5_settle 140 = .ok (.iload 7, 2) := by decide +kernel
theorem dX5_settle_142 : decode cX5_settle 142 = .ok (.invokevirtual 71, 3) := by decide +kernel
theorem dX5_settle_145 : decode cX5_settle 145 = .ok (.invokevirtual 169, 3) := by decide +kernel
theorem dX5_settle_148 : decode cX5_settle 148 = .ok (.istore 9, 2) := by decide +kernel
theorem dX5_settle_150 : decode cX5_settle 150 = .ok (.iload 9, 2) := by decide +kernel
theorem dX5_settle_152 : decode cX5_settle 152 = .ok (.bipush (-4), 2) := by decide +kernel
theorem dX5_settle_154 : decode cX5_settle 154 = .ok (.if_icmp .ne 10, 3) := by decide +kernel
theorem dX5_settle_157 : decode cX5_settle 157 = .ok (.aload_n 0, 1) := by decide +kernel
theorem dX5_settle_158 : decode cX5_settle 158 = .ok (.invokevirtual 88, 3) := by decide +kernel
theorem dX5_settle_161 : decode cX5_settle 161 = .ok (.bipush (-2), 2) := by decide +kernel
theorem dX5_settle_163 : decode cX5_settle 163 = .ok (.ireturn, 1) := by decide +kernel
theorem dX5_settle_164 : decode cX5_settle 164 = .ok (.iload 6, 2) := by decide +kernel
theorem dX5_settle_166 : decode cX5_settle 166 = .ok (.iload 9, 2) := by decide +kernel
theorem dX5_settle_168 : decode cX5_settle 168 = .ok (.iload 8, 2) := by decide +kernel
theorem dX5_settle_170 : decode cX5_settle 170 = .ok (.if_icmp .ne 7, 3) := by decide +kernel
theorem dX5_settle_173 : decode cX5_settle 173 = .ok (.iconst 0, 1) := by decide +kernel
theorem dX5_settle_174 : decode cX5_settle 174 = .ok (.goto 4, 3) := by decide +kernel
theorem dX5_settle_177 : decode cX5_settle 177 = .ok (.iconst 1, 1) := by decide +kernel
theorem dX5_settle_178 : decode cX5_settle 178 = .ok (.iadd, 1) := by decide +kernel
theorem dX5_settle_179 : decode cX5_settle 179 = .ok (.istore 6, 2) := by decide +kernel
theorem dX5_settle_181 : decode cX5_settle 181 = .ok (.aload_n 0, 1) := by decide +kernel
theorem dX5_settle_182 : decode cX5_settle 182 = .ok (.iload 4, 2) := by decide +kernel
theorem dX5_settle_184 : decode cX5_settle 184 = .ok (.bipush 10, 2) := by decide +kernel
theorem dX5_settle_186 : decode cX5_settle 186 = .ok (.iload 5, 2) := by decide +kernel
theorem dX5_settle_188 : decode cX5_settle 188 = .ok (.imul, 1) := by decide +kernel
theorem dX5_settle_189 : decode cX5_settle 189 = .ok (.iload 7, 2) := by decide +kernel
theorem dX5_settle_191 : decode cX5_settle 191 = .ok (.iadd, 1) := by decide +kernel
theorem dX5_settle_192 : decode cX5_settle 192 = .ok (.iload 9, 2) := by decide +kernel
theorem dX5_settle_194 : decode cX5_settle 194 = .ok (.invokevirtual 41, 3) := by decide +kernel
theorem dX5_settle_197 : decode cX5_settle 197 = .ok (.iinc 7 1, 3) := by decide +kernel
theorem dX5_settle_200 : decode cX5_settle 200 = .ok (.goto (-100), 3) := by decide +kernel
theorem dX5_settle_203 : decode cX5_settle 203 = .ok (.iload 6, 2) := by decide +kernel
theorem dX5_settle_205 : decode cX5_settle 205 = .ok (.ifCond .le 9, 3) := by decide +kernel
theorem dX5_settle_208 : decode cX5_settle 208 = .ok (.aload_n 0, 1) := by decide +kernel
theorem dX5_settle_209 : decode cX5_settle 209 = .ok (.iload 4, 2) := by decide +kernel
theorem dX5_settle_211 : decode cX5_settle 211 = .ok (.invokevirtual 91, 3) := by decide +kernel
theorem dX5_settle_214 : decode cX5_settle 214 = .ok (.aload_n 0, 1) := by decide +kernel
theorem dX5_settle_215 : decode cX5_settle 215 = .ok (.iload 6, 2) := by decide +kernel
theorem dX5_settle_217 : decode cX5_settle 217 = .ok (.invokevirtual 95, 3) := by decide +kernel
theorem dX5_settle_220 : decode cX5_settle 220 = .ok (.ireturn, 1) := by decide +kernel
set_option maxRecDepth 20000 in
theorem ggX5_ratio_X5_isEdge : GoodIn wsX5_ratio wsX5_isEdge := goodIn_r _ [5, 6, 7, 8, 4, 9, 10, 11, 12, 13, 14, 48, 49, 50, 51, 52, 53, 54] (by decide +kernel) (by decide +kernel)
set_option maxRecDepth 20000 in
theorem gX5_ratio_X5_isEdge : GoodIn wsX5_ratio (wsV RX5 160 RX5 yX5_isEdge wsX5_isEdge) := goodIn_app (goodIn_of _ (by decide +kernel)) ggX5_ratio_X5_isEdge
set_option maxRecDepth 20000 in
theorem ggX5_ratio_X5_ratioOf : GoodIn wsX5_ratio wsX5_ratioOf := goodIn_r _ [18, 19, 20, 21, 4, 22, 10, 11, 12, 13, 14, 23, 24, 25, 26, 27, 28, 29, 30, 31, 32, 33, 34, 35, 48, 49, 50, 51, 52, 53, 54] (by decide +kernel) (by decide +kernel)
set_option maxRecDepth 20000 in
theorem gX5_ratio_X5_ratioOf : GoodIn wsX5_ratio (wsV RX5 103 RX5 yX5_ratioOf wsX5_ratioOf) := goodIn_app (goodIn_of _ (by decide +kernel)) ggX5_ratio_X5_ratioOf
set_option maxRecDepth 20000 in
theorem ggX5_ratio_Jxf58ca_floatToIntBits_5c35a : GoodIn wsX5_ratio wsJxf58ca_floatToIntBits_5c35a := goodIn_r _ [39, 40, 41, 42, 43, 44, 45, 46, 38, 47] (by decide +kernel) (by decide +kernel)
set_option maxRecDepth 20000 in
theorem gX5_ratio_Jxf58ca_floatToIntBits_5c35a : GoodIn wsX5_ratio (va_wsS RX5 172 yJxf58ca_floatToIntBits_5c35a wsJxf58ca_floatToIntBits_5c35a) := goodIn_app (goodIn_of _ (by decide +kernel)) ggX5_ratio_Jxf58ca_floatToIntBits_5c35a
theorem dX5_ratio_0 : decode cX5_ratio 0 = .ok (.aload_n 0, 1) := by decide +kernel
theorem dX5_ratio_1 : decode cX5_ratio 1 = .ok (.iload_n 1, 1) := by decide +kernel
theorem dX5_ratio_2 : decode cX5_ratio 2 = .ok (.invokevirtual 160, 3) := by decide +kernel
theorem dX5_ratio_5 : decode cX5_ratio 5 = .ok (.ifCond .eq 14, 3) := by decide +kernel
theorem dX5_ratio_8 : decode cX5_ratio 8 = .ok (.aload_n 0, 1) := by decide +kernel
theorem dX5_ratio_9 : decode cX5_ratio 9 = .ok (.iload_n 1, 1) := by decide +kernel
theorem dX5_ratio_10 : decode cX5_ratio 10 = .ok (.invokevirtual 103, 3) := by decide +kernel
theorem dX5_ratio_13 : decode cX5_ratio 13 = .ok (.invokestatic 172, 3) := by decide +kernel
theorem dX5_ratio_16 : decode cX5_ratio 16 = .ok (.goto 4, 3) := by decide +kernel
theorem dX5_ratio_19 : decode cX5_ratio 19 = .ok (.iconst (-1), 1) := by decide +kernel
theorem dX5_ratio_20 : decode cX5_ratio 20 = .ok (.ireturn, 1) := by decide +kernel
set_option maxRecDepth 20000 in
theorem ggX5_publish_X5_isSheet : GoodIn wsX5_publish wsX5_isSheet := goodIn_r _ [5, 6, 7, 8, 4, 9, 10, 46, 47, 48, 49, 50, 51, 52] (by decide +kernel) (by decide +kernel)
set_option maxRecDepth 20000 in
theorem gX5_publish_X5_isSheet : GoodIn wsX5_publish (wsV RX5 118 RX5 yX5_isSheet wsX5_isSheet) := goodIn_app (goodIn_of _ (by decide +kernel)) ggX5_publish_X5_isSheet
set_option maxRecDepth 20000 in
theorem ggX5_publish_X5_edgesOf : GoodIn wsX5_publish wsX5_edgesOf := goodIn_r _ [14, 15, 16, 17, 4, 18, 10, 19, 20, 21, 22, 23, 24, 25, 26, 46, 47, 48, 49, 50, 51, 52] (by decide +kernel) (by decide +kernel)
set_option maxRecDepth 20000 in
theorem gX5_publish_X5_edgesOf : GoodIn wsX5_publish (wsV RX5 131 RX5 yX5_edgesOf wsX5_edgesOf) := goodIn_app (goodIn_of _ (by decide +kernel)) ggX5_publish_X5_edgesOf
set_option maxRecDepth 20000 in
theorem ggX5_publish_X5_hold : GoodIn wsX5_publish wsX5_hold := goodIn_r _ [30, 31, 10, 46, 47, 48, 49, 50, 51, 52] (by decide +kernel) (by decide +kernel)
set_option maxRecDepth 20000 in
theorem gX5_publish_X5_hold : GoodIn wsX5_publish (wsV RX5 115 RX5 yX5_hold wsX5_hold) := goodIn_app (goodIn_of _ (by decide +kernel)) ggX5_publish_X5_hold
set_option maxRecDepth 20000 in
theorem ggX5_publish_X5_of : GoodIn wsX5_publish wsX5_of := goodIn_r _ [35, 10, 46, 47, 48, 49, 50, 51, 52] (by decide +kernel) (by decide +kernel)
set_option maxRecDepth 20000 in
theorem gX5_publish_X5_of : GoodIn wsX5_publish (wsV RX5 37 RX5 yX5_of wsX5_of) := goodIn_app (goodIn_of _ (by decide +kernel)) ggX5_publish_X5_of
set_option maxRecDepth 20000 in
theorem ggX5_publish_X5_puts : GoodIn wsX5_publish wsX5_puts := goodIn_r _ [39, 10, 46, 47, 48, 49, 50, 51, 52] (by decide +kernel) (by decide +kernel)
set_option maxRecDepth 20000 in
theorem gX5_publish_X5_puts : GoodIn wsX5_publish (wsV RX5 41 RX5 yX5_puts wsX5_puts) := goodIn_app (goodIn_of _ (by decide +kernel)) ggX5_publish_X5_puts
set_option maxRecDepth 20000 in
theorem ggX5_publish_X5_records : GoodIn wsX5_publish wsX5_records := goodIn_r _ [43, 44, 45, 31, 46, 47, 48, 49, 50, 51, 52] (by decide +kernel) (by decide +kernel)
set_option maxRecDepth 20000 in
theorem gX5_publish_X5_records : GoodIn wsX5_publish (wsV RX5 95 RX5 yX5_records wsX5_records) := goodIn_app (goodIn_of _ (by decide +kernel)) ggX5_publish_X5_records
theorem dX5_publish_0 : decode cX5_publish 0 = .ok (.aload_n 0, 1) := by decide +kernel
theorem dX5_publish_1 : decode cX5_publish 1 = .ok (.iload_n 1, 1) := by decide +kernel
theorem dX5_publish_2 : decode cX5_publish 2 = .ok (.invokevirtual 118, 3) := by decide +kernel
theorem dX5_publish_5 : decode cX5_publish 5 = .ok (.ifCond .ne 5, 3) := by decide +kernel
theorem dX5_publish_8 : decode cX5_publish 8 = .ok (.iconst (-1), 1) := by decide +kernel
theorem dX5_publish_9 : decode cX5_publish 9 = .ok (.ireturn, 1) := by decide +kernel
theorem dX5_publish_10 : decode cX5_publish 10 = .ok (.aload_n 0, 1) := by decide +kernel
theorem dX5_publish_11 : decode cX5_publish 11 = .ok (.iload_n 1, 1) := by decide +kernel
theorem dX5_publish_12 : decode cX5_publish 12 = .ok (.iconst 1, 1) := by decide +kernel
theorem dX5_publish_13 : decode cX5_publish 13 = .ok (.invokevirtual 131, 3) := by decide +kernel
theorem dX5_publish_16 : decode cX5_publish 16 = .ok (.aload_n 0, 1) := by decide +kernel
theorem dX5_publish_17 : decode cX5_publish 17 = .ok (.iload_n 1, 1) := by decide +kernel
theorem dX5_publish_18 : decode cX5_publish 18 = .ok (.iconst 0, 1) := by decide +kernel
theorem dX5_publish_19 : decode cX5_publish 19 = .ok (.invokevirtual 131, 3) := by decide +kernel
theorem dX5_publish_22 : decode cX5_publish 22 = .ok (.if_icmp .ge 6, 3) := by decide +kernel
theorem dX5_publish_25 : decode cX5_publish 25 = .ok (.bipush (-2), 2) := by decide +kernel
theorem dX5_publish_27 : decode cX5_publish 27 = .ok (.ireturn, 1) := by decide +kernel
theorem dX5_publish_28 : decode cX5_publish 28 = .ok (.aload_n 0, 1) := by decide +kernel
theorem dX5_publish_29 : decode cX5_publish 29 = .ok (.invokevirtual 115, 3) := by decide +kernel
theorem dX5_publish_32 : decode cX5_publish 32 = .ok (.aload_n 0, 1) := by decide +kernel
theorem dX5_publish_33 : decode cX5_publish 33 = .ok (.iload_n 1, 1) := by decide +kernel
theorem dX5_publish_34 : decode cX5_publish 34 = .ok (.bipush 51, 2) := by decide +kernel
theorem dX5_publish_36 : decode cX5_publish 36 = .ok (.aload_n 0, 1) := by decide +kernel
theorem dX5_publish_37 : decode cX5_publish 37 = .ok (.iload_n 1, 1) := by decide +kernel
theorem dX5_publish_38 : decode cX5_publish 38 = .ok (.bipush 50, 2) := by decide +kernel
theorem dX5_publish_40 : decode cX5_publish 40 = .ok (.invokevirtual 37, 3) := by decide +kernel
theorem dX5_publish_43 : decode cX5_publish 43 = .ok (.invokevirtual 41, 3) := by decide +kernel
theorem dX5_publish_46 : decode cX5_publish 46 = .ok (.aload_n 0, 1) := by decide +kernel
theorem dX5_publish_47 : decode cX5_publish 47 = .ok (.aload_n 0, 1) := by decide +kernel
theorem dX5_publish_48 : decode cX5_publish 48 = .ok (.iload_n 1, 1) := by decide +kernel
theorem dX5_publish_49 : decode cX5_publish 49 = .ok (.bipush 50, 2) := by decide +kernel
theorem dX5_publish_51 : decode cX5_publish 51 = .ok (.invokevirtual 37, 3) := by decide +kernel
theorem dX5_publish_54 : decode cX5_publish 54 = .ok (.invokevirtual 95, 3) := by decide +kernel
theorem dX5_publish_57 : decode cX5_publish 57 = .ok (.ireturn, 1) := by decide +kernel
set_option maxRecDepth 20000 in
theorem ggX5_scale_X5_isSheet : GoodIn wsX5_scale wsX5_isSheet := goodIn_r _ [6, 7, 8, 9, 5, 10, 11, 34, 35, 36, 37, 38, 39, 40] (by decide +kernel) (by decide +kernel)
set_option maxRecDepth 20000 in
theorem gX5_scale_X5_isSheet : GoodIn wsX5_scale (wsV RX5 118 RX5 yX5_isSheet wsX5_isSheet) := goodIn_app (goodIn_of _ (by decide +kernel)) ggX5_scale_X5_isSheet
set_option maxRecDepth 20000 in
theorem ggX5_scale_X5_in : GoodIn wsX5_scale wsX5_in := goodIn_r _ [14] (by decide +kernel) (by decide +kernel)
set_option maxRecDepth 20000 in
theorem gX5_scale_X5_in : GoodIn wsX5_scale (va_wsS RX5 111 yX5_in wsX5_in) := goodIn_app (goodIn_of _ (by decide +kernel)) ggX5_scale_X5_in
set_option maxRecDepth 20000 in
theorem ggX5_scale_X5_hold : GoodIn wsX5_scale wsX5_hold := goodIn_r _ [18, 19, 11, 34, 35, 36, 37, 38, 39, 40] (by decide +kernel) (by decide +kernel)
set_option maxRecDepth 20000 in
theorem gX5_scale_X5_hold : GoodIn wsX5_scale (wsV RX5 115 RX5 yX5_hold wsX5_hold) := goodIn_app (goodIn_of _ (by decide +kernel)) ggX5_scale_X5_hold
set_option maxRecDepth 20000 in
theorem ggX5_scale_X5_of : GoodIn wsX5_scale wsX5_of := goodIn_r _ [23, 11, 34, 35, 36, 37, 38, 39, 40] (by decide +kernel) (by decide +kernel)
set_option maxRecDepth 20000 in
theorem gX5_scale_X5_of : GoodIn wsX5_scale (wsV RX5 37 RX5 yX5_of wsX5_of) := goodIn_app (goodIn_of _ (by decide +kernel)) ggX5_scale_X5_of
set_option maxRecDepth 20000 in
theorem ggX5_scale_X5_puts : GoodIn wsX5_scale wsX5_puts := goodIn_r _ [27, 11, 34, 35, 36, 37, 38, 39, 40] (by decide +kernel) (by decide +kernel)
set_option maxRecDepth 20000 in
theorem gX5_scale_X5_puts : GoodIn wsX5_scale (wsV RX5 41 RX5 yX5_puts wsX5_puts) := goodIn_app (goodIn_of _ (by decide +kernel)) ggX5_scale_X5_puts
set_option maxRecDepth 20000 in
theorem ggX5_scale_X5_records : GoodIn wsX5_scale wsX5_records := goodIn_r _ [31, 32, 33, 19, 34, 35, 36, 37, 38, 39, 40] (by decide +kernel) (by decide +kernel)
set_option maxRecDepth 20000 in
theorem gX5_scale_X5_records : GoodIn wsX5_scale (wsV RX5 95 RX5 yX5_records wsX5_records) := goodIn_app (goodIn_of _ (by decide +kernel)) ggX5_scale_X5_records
theorem dX5_scale_0 : decode cX5_scale 0 = .ok (.aload_n 0, 1) := by decide +kernel
theorem dX5_scale_1 : decode cX5_scale 1 = .ok (.iload_n 1, 1) := by decide +kernel
theorem dX5_scale_2 : decode cX5_scale 2 = .ok (.invokevirtual 118, 3) := by decide +kernel
theorem dX5_scale_5 : decode cX5_scale 5 = .ok (.ifCond .eq 13, 3) := by decide +kernel
theorem dX5_scale_8 : decode cX5_scale 8 = .ok (.iload_n 2, 1) := by decide +kernel
theorem dX5_scale_9 : decode cX5_scale 9 = .ok (.iconst 1, 1) := by decide +kernel
theorem dX5_scale_10 : decode cX5_scale 10 = .ok (.ldc 178, 2) := by decide +kernel
theorem dX5_scale_12 : decode cX5_scale 12 = .ok (.invokestatic 111, 3) := by decide +kernel
theorem dX5_scale_15 : decode cX5_scale 15 = .ok (.ifCond .ne 5, 3) := by decide +kernel
theorem dX5_scale_18 : decode cX5_scale 18 = .ok (.iconst (-1), 1) := by decide +kernel
theorem dX5_scale_19 : decode cX5_scale 19 = .ok (.ireturn, 1) := by decide +kernel
theorem dX5_scale_20 : decode cX5_scale 20 = .ok (.aload_n 0, 1) := by decide +kernel
theorem dX5_scale_21 : decode cX5_scale 21 = .ok (.invokevirtual 115, 3) := by decide +kernel
theorem dX5_scale_24 : decode cX5_scale 24 = .ok (.aload_n 0, 1) := by decide +kernel
theorem dX5_scale_25 : decode cX5_scale 25 = .ok (.iload_n 1, 1) := by decide +kernel
theorem dX5_scale_26 : decode cX5_scale 26 = .ok (.bipush 52, 2) := by decide +kernel
theorem dX5_scale_28 : decode cX5_scale 28 = .ok (.invokevirtual 37, 3) := by decide +kernel
theorem dX5_scale_31 : decode cX5_scale 31 = .ok (.istore_n 3, 1) := by decide +kernel
theorem dX5_scale_32 : decode cX5_scale 32 = .ok (.aload_n 0, 1) := by decide +kernel
theorem dX5_scale_33 : decode cX5_scale 33 = .ok (.iload_n 1, 1) := by decide +kernel
theorem dX5_scale_34 : decode cX5_scale 34 = .ok (.bipush 52, 2) := by decide +kernel
theorem dX5_scale_36 : decode cX5_scale 36 = .ok (.iload_n 2, 1) := by decide +kernel
theorem dX5_scale_37 : decode cX5_scale 37 = .ok (.invokevirtual 41, 3) := by decide +kernel
theorem dX5_scale_40 : decode cX5_scale 40 = .ok (.aload_n 0, 1) := by decide +kernel
theorem dX5_scale_41 : decode cX5_scale 41 = .ok (.iload_n 3, 1) := by decide +kernel
theorem dX5_scale_42 : decode cX5_scale 42 = .ok (.invokevirtual 95, 3) := by decide +kernel
theorem dX5_scale_45 : decode cX5_scale 45 = .ok (.ireturn, 1) := by decide +kernel
set_option maxRecDepth 20000 in
theorem ggX5_stretched_X5_isSheet : GoodIn wsX5_stretched wsX5_isSheet := goodIn_r _ [6, 7, 8, 9, 5, 10, 11, 24, 25, 26, 27, 28, 29, 30] (by decide +kernel) (by decide +kernel)
set_option maxRecDepth 20000 in
theorem gX5_stretched_X5_isSheet : GoodIn wsX5_stretched (wsV RX5 118 RX5 yX5_isSheet wsX5_isSheet) := goodIn_app (goodIn_of _ (by decide +kernel)) ggX5_stretched_X5_isSheet
set_option maxRecDepth 20000 in
theorem ggX5_stretched_X5_in : GoodIn wsX5_stretched wsX5_in := goodIn_r _ [14] (by decide +kernel) (by decide +kernel)
set_option maxRecDepth 20000 in
theorem gX5_stretched_X5_in : GoodIn wsX5_stretched (va_wsS RX5 111 yX5_in wsX5_in) := goodIn_app (goodIn_of _ (by decide +kernel)) ggX5_stretched_X5_in
set_option maxRecDepth 20000 in
theorem ggX5_stretched_X5_scaleOf : GoodIn wsX5_stretched wsX5_scaleOf := goodIn_r _ [18, 19, 20, 21, 22, 5, 23, 11, 24, 25, 26, 27, 28, 29, 30] (by decide +kernel) (by decide +kernel)
set_option maxRecDepth 20000 in
theorem gX5_stretched_X5_scaleOf : GoodIn wsX5_stretched (wsV RX5 99 RX5 yX5_scaleOf wsX5_scaleOf) := goodIn_app (goodIn_of _ (by decide +kernel)) ggX5_stretched_X5_scaleOf
theorem dX5_stretched_0 : decode cX5_stretched 0 = .ok (.aload_n 0, 1) := by decide +kernel
theorem dX5_stretched_1 : decode cX5_stretched 1 = .ok (.iload_n 1, 1) := by decide +kernel
theorem dX5_stretched_2 : decode cX5_stretched 2 = .ok (.invokevirtual 118, 3) := by decide +kernel
theorem dX5_stretched_5 : decode cX5_stretched 5 = .ok (.ifCond .eq 25, 3) := by decide +kernel
theorem dX5_stretched_8 : decode cX5_stretched 8 = .ok (.iload_n 2, 1) := by decide +kernel
theorem dX5_stretched_9 : decode cX5_stretched 9 = .ok (.iconst 0, 1) := by decide +kernel
theorem dX5_stretched_10 : decode cX5_stretched 10 = .ok (.ldc 179, 2) := by decide +kernel
theorem dX5_stretched_12 : decode cX5_stretched 12 = .ok (.invokestatic 111, 3) := by decide +kernel
theorem dX5_stretched_15 : decode cX5_stretched 15 = .ok (.ifCond .eq 15, 3) := by decide +kernel
theorem dX5_stretched_18 : decode cX5_stretched 18 = .ok (.iload_n 2, 1) := by decide +kernel
theorem dX5_stretched_19 : decode cX5_stretched 19 = .ok (.i2f, 1) := by decide +kernel
theorem dX5_stretched_20 : decode cX5_stretched 20 = .ok (.aload_n 0, 1) := by decide +kernel
theorem dX5_stretched_21 : decode cX5_stretched 21 = .ok (.iload_n 1, 1) := by decide +kernel
theorem dX5_stretched_22 : decode cX5_stretched 22 = .ok (.invokevirtual 99, 3) := by decide +kernel
theorem dX5_stretched_25 : decode cX5_stretched 25 = .ok (.fmul, 1) := by decide +kernel
theorem dX5_stretched_26 : decode cX5_stretched 26 = .ok (.f2i, 1) := by decide +kernel
theorem dX5_stretched_27 : decode cX5_stretched 27 = .ok (.goto 4, 3) := by decide +kernel
theorem dX5_stretched_30 : decode cX5_stretched 30 = .ok (.iconst (-1), 1) := by decide +kernel
theorem dX5_stretched_31 : decode cX5_stretched 31 = .ok (.ireturn, 1) := by decide +kernel
set_option maxRecDepth 20000 in
theorem ggX5_type_X5_in : GoodIn wsX5_type wsX5_in := goodIn_r _ [6] (by decide +kernel) (by decide +kernel)
set_option maxRecDepth 20000 in
theorem gX5_type_X5_in : GoodIn wsX5_type (va_wsS RX5 111 yX5_in wsX5_in) := goodIn_app (goodIn_of _ (by decide +kernel)) ggX5_type_X5_in
theorem dX5_type_0 : decode cX5_type 0 = .ok (.iload_n 1, 1) := by decide +kernel
theorem dX5_type_1 : decode cX5_type 1 = .ok (.bipush 32, 2) := by decide +kernel
theorem dX5_type_3 : decode cX5_type 3 = .ok (.bipush 126, 2) := by decide +kernel
theorem dX5_type_5 : decode cX5_type 5 = .ok (.invokestatic 111, 3) := by decide +kernel
theorem dX5_type_8 : decode cX5_type 8 = .ok (.ifCond .ne 5, 3) := by decide +kernel
theorem dX5_type_11 : decode cX5_type 11 = .ok (.iconst (-1), 1) := by decide +kernel
theorem dX5_type_12 : decode cX5_type 12 = .ok (.ireturn, 1) := by decide +kernel
theorem dX5_type_13 : decode cX5_type 13 = .ok (.aload_n 0, 1) := by decide +kernel
theorem dX5_type_14 : decode cX5_type 14 = .ok (.getfield 157, 3) := by decide +kernel
theorem dX5_type_17 : decode cX5_type 17 = .ok (.bipush 100, 2) := by decide +kernel
theorem dX5_type_19 : decode cX5_type 19 = .ok (.if_icmp .ne 6, 3) := by decide +kernel
theorem dX5_type_22 : decode cX5_type 22 = .ok (.bipush (-3), 2) := by decide +kernel
theorem dX5_type_24 : decode cX5_type 24 = .ok (.ireturn, 1) := by decide +kernel
theorem dX5_type_25 : decode cX5_type 25 = .ok (.aload_n 0, 1) := by decide +kernel
theorem dX5_type_26 : decode cX5_type 26 = .ok (.getfield 19, 3) := by decide +kernel
theorem dX5_type_29 : decode cX5_type 29 = .ok (.aload_n 0, 1) := by decide +kernel
theorem dX5_type_30 : decode cX5_type 30 = .ok (.getfield 157, 3) := by decide +kernel
theorem dX5_type_33 : decode cX5_type 33 = .ok (.iload_n 1, 1) := by decide +kernel
theorem dX5_type_34 : decode cX5_type 34 = .ok (.iastore, 1) := by decide +kernel
theorem dX5_type_35 : decode cX5_type 35 = .ok (.aload_n 0, 1) := by decide +kernel
theorem dX5_type_36 : decode cX5_type 36 = .ok (.dup, 1) := by decide +kernel
theorem dX5_type_37 : decode cX5_type 37 = .ok (.getfield 157, 3) := by decide +kernel
theorem dX5_type_40 : decode cX5_type 40 = .ok (.iconst 1, 1) := by decide +kernel
theorem dX5_type_41 : decode cX5_type 41 = .ok (.iadd, 1) := by decide +kernel
theorem dX5_type_42 : decode cX5_type 42 = .ok (.putfield 157, 3) := by decide +kernel
theorem dX5_type_45 : decode cX5_type 45 = .ok (.aload_n 0, 1) := by decide +kernel
theorem dX5_type_46 : decode cX5_type 46 = .ok (.getfield 157, 3) := by decide +kernel
theorem dX5_type_49 : decode cX5_type 49 = .ok (.ireturn, 1) := by decide +kernel
theorem dX5_clearText_0 : decode cX5_clearText 0 = .ok (.aload_n 0, 1) := by decide +kernel
theorem dX5_clearText_1 : decode cX5_clearText 1 = .ok (.getfield 157, 3) := by decide +kernel
theorem dX5_clearText_4 : decode cX5_clearText 4 = .ok (.istore_n 1, 1) := by decide +kernel
theorem dX5_clearText_5 : decode cX5_clearText 5 = .ok (.aload_n 0, 1) := by decide +kernel
theorem dX5_clearText_6 : decode cX5_clearText 6 = .ok (.iconst 0, 1) := by decide +kernel
theorem dX5_clearText_7 : decode cX5_clearText 7 = .ok (.putfield 157, 3) := by decide +kernel
theorem dX5_clearText_10 : decode cX5_clearText 10 = .ok (.iload_n 1, 1) := by decide +kernel
theorem dX5_clearText_11 : decode cX5_clearText 11 = .ok (.ireturn, 1) := by decide +kernel
theorem dX5_sideNamed_0 : decode cX5_sideNamed 0 = .ok (.iload_n 0, 1) := by decide +kernel
theorem dX5_sideNamed_1 : decode cX5_sideNamed 1 = .ok (.bipush 110, 2) := by decide +kernel
theorem dX5_sideNamed_3 : decode cX5_sideNamed 3 = .ok (.if_icmp .ne 7, 3) := by decide +kernel
theorem dX5_sideNamed_6 : decode cX5_sideNamed 6 = .ok (.iconst 0, 1) := by decide +kernel
theorem dX5_sideNamed_7 : decode cX5_sideNamed 7 = .ok (.goto 35, 3) := by decide +kernel
theorem dX5_sideNamed_10 : decode cX5_sideNamed 10 = .ok (.iload_n 0, 1) := by decide +kernel
theorem dX5_sideNamed_11 : decode cX5_sideNamed 11 = .ok (.bipush 101, 2) := by decide +kernel
theorem dX5_sideNamed_13 : decode cX5_sideNamed 13 = .ok (.if_icmp .ne 7, 3) := by decide +kernel
theorem dX5_sideNamed_16 : decode cX5_sideNamed 16 = .ok (.iconst 1, 1) := by decide +kernel
theorem dX5_sideNamed_17 : decode cX5_sideNamed 17 = .ok (.goto 25, 3) := by decide +kernel
theorem dX5_sideNamed_20 : decode cX5_sideNamed 20 = .ok (.iload_n 0, 1) := by decide +kernel
theorem dX5_sideNamed_21 : decode cX5_sideNamed 21 = .ok (.bipush 115, 2) := by decide +kernel
theorem dX5_sideNamed_23 : decode cX5_sideNamed 23 = .ok (.if_icmp .ne 7, 3) := by decide +kernel
theorem dX5_sideNamed_26 : decode cX5_sideNamed 26 = .ok (.iconst 2, 1) := by decide +kernel
theorem dX5_sideNamed_27 : decode cX5_sideNamed 27 = .ok (.goto 15, 3) := by decide +kernel
theorem dX5_sideNamed_30 : decode cX5_sideNamed 30 = .ok (.iload_n 0, 1) := by decide +kernel
theorem dX5_sideNamed_31 : decode cX5_sideNamed 31 = .ok (.bipush 119, 2) := by decide +kernel
theorem dX5_sideNamed_33 : decode cX5_sideNamed 33 = .ok (.if_icmp .ne 7, 3) := by decide +kernel
theorem dX5_sideNamed_36 : decode cX5_sideNamed 36 = .ok (.iconst 3, 1) := by decide +kernel
theorem dX5_sideNamed_37 : decode cX5_sideNamed 37 = .ok (.goto 5, 3) := by decide +kernel
theorem dX5_sideNamed_40 : decode cX5_sideNamed 40 = .ok (.bipush (-4), 2) := by decide +kernel
theorem dX5_sideNamed_42 : decode cX5_sideNamed 42 = .ok (.ireturn, 1) := by decide +kernel
set_option maxRecDepth 20000 in
theorem ggX5_isDigit_X5_in : GoodIn wsX5_isDigit wsX5_in := goodIn_r _ [6] (by decide +kernel) (by decide +kernel)
set_option maxRecDepth 20000 in
theorem gX5_isDigit_X5_in : GoodIn wsX5_isDigit (va_wsS RX5 111 yX5_in wsX5_in) := goodIn_app (goodIn_of _ (by decide +kernel)) ggX5_isDigit_X5_in
theorem dX5_isDigit_0 : decode cX5_isDigit 0 = .ok (.iload_n 1, 1) := by decide +kernel
theorem dX5_isDigit_1 : decode cX5_isDigit 1 = .ok (.aload_n 0, 1) := by decide +kernel
theorem dX5_isDigit_2 : decode cX5_isDigit 2 = .ok (.getfield 157, 3) := by decide +kernel
theorem dX5_isDigit_5 : decode cX5_isDigit 5 = .ok (.if_icmp .ge 23, 3) := by decide +kernel
theorem dX5_isDigit_8 : decode cX5_isDigit 8 = .ok (.aload_n 0, 1) := by decide +kernel
theorem dX5_isDigit_9 : decode cX5_isDigit 9 = .ok (.getfield 19, 3) := by decide +kernel
theorem dX5_isDigit_12 : decode cX5_isDigit 12 = .ok (.iload_n 1, 1) := by decide +kernel
theorem dX5_isDigit_13 : decode cX5_isDigit 13 = .ok (.iaload, 1) := by decide +kernel
theorem dX5_isDigit_14 : decode cX5_isDigit 14 = .ok (.bipush 48, 2) := by decide +kernel
theorem dX5_isDigit_16 : decode cX5_isDigit 16 = .ok (.bipush 57, 2) := by decide +kernel
theorem dX5_isDigit_18 : decode cX5_isDigit 18 = .ok (.invokestatic 111, 3) := by decide +kernel
theorem dX5_isDigit_21 : decode cX5_isDigit 21 = .ok (.ifCond .eq 7, 3) := by decide +kernel
theorem dX5_isDigit_24 : decode cX5_isDigit 24 = .ok (.iconst 1, 1) := by decide +kernel
theorem dX5_isDigit_25 : decode cX5_isDigit 25 = .ok (.goto 4, 3) := by decide +kernel
theorem dX5_isDigit_28 : decode cX5_isDigit 28 = .ok (.iconst 0, 1) := by decide +kernel
theorem dX5_isDigit_29 : decode cX5_isDigit 29 = .ok (.ireturn, 1) := by decide +kernel
theorem dX5_isAt_0 : decode cX5_isAt 0 = .ok (.iload_n 1, 1) := by decide +kernel
theorem dX5_isAt_1 : decode cX5_isAt 1 = .ok (.aload_n 0, 1) := by decide +kernel
theorem dX5_isAt_2 : decode cX5_isAt 2 = .ok (.getfield 157, 3) := by decide +kernel
theorem dX5_isAt_5 : decode cX5_isAt 5 = .ok (.if_icmp .ge 17, 3) := by decide +kernel
theorem dX5_isAt_8 : decode cX5_isAt 8 = .ok (.aload_n 0, 1) := by decide +kernel
theorem dX5_isAt_9 : decode cX5_isAt 9 = .ok (.getfield 19, 3) := by decide +kernel
theorem dX5_isAt_12 : decode cX5_isAt 12 = .ok (.iload_n 1, 1) := by decide +kernel
theorem dX5_isAt_13 : decode cX5_isAt 13 = .ok (.iaload, 1) := by decide +kernel
theorem dX5_isAt_14 : decode cX5_isAt 14 = .ok (.iload_n 2, 1) := by decide +kernel
theorem dX5_isAt_15 : decode cX5_isAt 15 = .ok (.if_icmp .ne 7, 3) := by decide +kernel
theorem dX5_isAt_18 : decode cX5_isAt 18 = .ok (.iconst 1, 1) := by decide +kernel
theorem dX5_isAt_19 : decode cX5_isAt 19 = .ok (.goto 4, 3) := by decide +kernel
theorem dX5_isAt_22 : decode cX5_isAt 22 = .ok (.iconst 0, 1) := by decide +kernel
theorem dX5_isAt_23 : decode cX5_isAt 23 = .ok (.ireturn, 1) := by decide +kernel
set_option maxRecDepth 20000 in
theorem ggX5_itemAt_X5_sideNamed : GoodIn wsX5_itemAt wsX5_sideNamed := goodIn_r _ [6] (by decide +kernel) (by decide +kernel)
set_option maxRecDepth 20000 in
theorem gX5_itemAt_X5_sideNamed : GoodIn wsX5_itemAt (va_wsS RX5 180 yX5_sideNamed wsX5_sideNamed) := goodIn_app (goodIn_of _ (by decide +kernel)) ggX5_itemAt_X5_sideNamed
set_option maxRecDepth 20000 in
theorem ggX5_itemAt_X5_isDigit : GoodIn wsX5_itemAt wsX5_isDigit := goodIn_r _ [10, 1, 2, 11, 12, 5, 13, 18, 19, 20, 21, 22, 23, 24] (by decide +kernel) (by decide +kernel)
set_option maxRecDepth 20000 in
theorem gX5_itemAt_X5_isDigit : GoodIn wsX5_itemAt (wsV RX5 183 RX5 yX5_isDigit wsX5_isDigit) := goodIn_app (goodIn_of _ (by decide +kernel)) ggX5_itemAt_X5_isDigit
set_option maxRecDepth 20000 in
theorem ggX5_itemAt_X5_isAt : GoodIn wsX5_itemAt wsX5_isAt := goodIn_r _ [17, 1, 2, 18, 19, 20, 21, 22, 23, 24] (by decide +kernel) (by decide +kernel)
set_option maxRecDepth 20000 in
theorem gX5_itemAt_X5_isAt : GoodIn wsX5_itemAt (wsV RX5 186 RX5 yX5_isAt wsX5_isAt) := goodIn_app (goodIn_of _ (by decide +kernel)) ggX5_itemAt_X5_isAt
theorem dX5_itemAt_0 : decode cX5_itemAt 0 = .ok (.iload_n 1, 1) := by decide +kernel
theorem dX5_itemAt_1 : decode cX5_itemAt 1 = .ok (.aload_n 0, 1) := by decide +kernel
theorem dX5_itemAt_2 : decode cX5_itemAt 2 = .ok (.getfield 157, 3) := by decide +kernel
theorem dX5_itemAt_5 : decode cX5_itemAt 5 = .ok (.if_icmp .eq 17, 3) := by decide +kernel
theorem dX5_itemAt_8 : decode cX5_itemAt 8 = .ok (.aload_n 0, 1) := by decide +kernel
theorem dX5_itemAt_9 : decode cX5_itemAt 9 = .ok (.getfield 19, 3) := by decide +kernel
theorem dX5_itemAt_12 : decode cX5_itemAt 12 = .ok (.iload_n 1, 1) := by decide +kernel
theorem dX5_itemAt_13 : decode cX5_itemAt 13 = .ok (.iaload, 1) := by decide +kernel
theorem dX5_itemAt_14 : decode cX5_itemAt 14 = .ok (.invokestatic 180, 3) := by decide +kernel
theorem dX5_itemAt_17 : decode cX5_itemAt 17 = .ok (.bipush (-4), 2) := by decide +kernel
theorem dX5_itemAt_19 : decode cX5_itemAt 19 = .ok (.if_icmp .ne 5, 3) := by decide +kernel
theorem dX5_itemAt_22 : decode cX5_itemAt 22 = .ok (.iconst (-1), 1) := by decide +kernel
theorem dX5_itemAt_23 : decode cX5_itemAt 23 = .ok (.ireturn, 1) := by decide +kernel
theorem dX5_itemAt_24 : decode cX5_itemAt 24 = .ok (.aload_n 0, 1) := by decide +kernel
theorem dX5_itemAt_25 : decode cX5_itemAt 25 = .ok (.iload_n 1, 1) := by decide +kernel
theorem dX5_itemAt_26 : decode cX5_itemAt 26 = .ok (.iconst 1, 1) := by decide +kernel
theorem dX5_itemAt_27 : decode cX5_itemAt 27 = .ok (.iadd, 1) := by decide +kernel
theorem dX5_itemAt_28 : decode cX5_itemAt 28 = .ok (.invokevirtual 183, 3) := by decide +kernel
theorem dX5_itemAt_31 : decode cX5_itemAt 31 = .ok (.ifCond .ne 6, 3) := by decide +kernel
theorem dX5_itemAt_34 : decode cX5_itemAt 34 = .ok (.bipush (-2), 2) := by decide +kernel
theorem dX5_itemAt_36 : decode cX5_itemAt 36 = .ok (.ireturn, 1) := by decide +kernel
theorem dX5_itemAt_37 : decode cX5_itemAt 37 = .ok (.aload_n 0, 1) := by decide +kernel
theorem dX5_itemAt_38 : decode cX5_itemAt 38 = .ok (.iload_n 1, 1) := by decide +kernel
theorem dX5_itemAt_39 : decode cX5_itemAt 39 = .ok (.iconst 2, 1) := by decide +kernel
theorem dX5_itemAt_40 : decode cX5_itemAt 40 = .ok (.iadd, 1) := by decide +kernel
theorem dX5_itemAt_41 : decode cX5_itemAt 41 = .ok (.bipush 45, 2) := by decide +kernel
theorem dX5_itemAt_43 : decode cX5_itemAt 43 = .ok (.invokevirtual 186, 3) := by decide +kernel
theorem dX5_itemAt_46 : decode cX5_itemAt 46 = .ok (.ifCond .eq 22, 3) := by decide +kernel
theorem dX5_itemAt_49 : decode cX5_itemAt 49 = .ok (.aload_n 0, 1) := by decide +kernel
theorem dX5_itemAt_50 : decode cX5_itemAt 50 = .ok (.iload_n 1, 1) := by decide +kernel
theorem dX5_itemAt_51 : decode cX5_itemAt 51 = .ok (.iconst 3, 1) := by decide +kernel
theorem dX5_itemAt_52 : decode cX5_itemAt 52 = .ok (.iadd, 1) := by decide +kernel
theorem dX5_itemAt_53 : decode cX5_itemAt 53 = .ok (.bipush 59, 2) := by decide +kernel
theorem dX5_itemAt_55 : decode cX5_itemAt 55 = .ok (.invokevirtual 186, 3) := by decide +kernel
theorem dX5_itemAt_58 : decode cX5_itemAt 58 = .ok (.ifCond .eq 7, 3) := by decide +kernel
theorem dX5_itemAt_61 : decode cX5_itemAt 61 = .ok (.iconst 4, 1) := by decide +kernel
theorem dX5_itemAt_62 : decode cX5_itemAt 62 = .ok (.goto 5, 3) := by decide +kernel
theorem dX5_itemAt_65 : decode cX5_itemAt 65 = .ok (.bipush (-4), 2) := by decide +kernel
theorem dX5_itemAt_67 : decode cX5_itemAt 67 = .ok (.ireturn, 1) := by decide +kernel
theorem dX5_itemAt_68 : decode cX5_itemAt 68 = .ok (.aload_n 0, 1) := by decide +kernel
theorem dX5_itemAt_69 : decode cX5_itemAt 69 = .ok (.iload_n 1, 1) := by decide +kernel
theorem dX5_itemAt_70 : decode cX5_itemAt 70 = .ok (.iconst 2, 1) := by decide +kernel
theorem dX5_itemAt_71 : decode cX5_itemAt 71 = .ok (.iadd, 1) := by decide +kernel
theorem dX5_itemAt_72 : decode cX5_itemAt 72 = .ok (.bipush 61, 2) := by decide +kernel
theorem dX5_itemAt_74 : decode cX5_itemAt 74 = .ok (.invokevirtual 186, 3) := by decide +kernel
theorem dX5_itemAt_77 : decode cX5_itemAt 77 = .ok (.ifCond .ne 6, 3) := by decide +kernel
theorem dX5_itemAt_80 : decode cX5_itemAt 80 = .ok (.bipush (-3), 2) := by decide +kernel
theorem dX5_itemAt_82 : decode cX5_itemAt 82 = .ok (.ireturn, 1) := by decide +kernel
theorem dX5_itemAt_83 : decode cX5_itemAt 83 = .ok (.aload_n 0, 1) := by decide +kernel
theorem dX5_itemAt_84 : decode cX5_itemAt 84 = .ok (.iload_n 1, 1) := by decide +kernel
theorem dX5_itemAt_85 : decode cX5_itemAt 85 = .ok (.iconst 3, 1) := by decide +kernel
theorem dX5_itemAt_86 : decode cX5_itemAt 86 = .ok (.iadd, 1) := by decide +kernel
theorem dX5_itemAt_87 : decode cX5_itemAt 87 = .ok (.invokevirtual 183, 3) := by decide +kernel
theorem dX5_itemAt_90 : decode cX5_itemAt 90 = .ok (.ifCond .ne 8, 3) := by decide +kernel
theorem dX5_itemAt_93 : decode cX5_itemAt 93 = .ok (.bipush (-4), 2) := by decide +kernel
theorem dX5_itemAt_95 : decode cX5_itemAt 95 = .ok (.goto 21, 3) := by decide +kernel
theorem dX5_itemAt_98 : decode cX5_itemAt 98 = .ok (.aload_n 0, 1) := by decide +kernel
theorem dX5_itemAt_99 : decode cX5_itemAt 99 = .ok (.iload_n 1, 1) := by decide +kernel
theorem dX5_itemAt_100 : decode cX5_itemAt 100 = .ok (.iconst 4, 1) := by decide +kernel
theorem dX5_itemAt_101 : decode cX5_itemAt 101 = .ok (.iadd, 1) := by decide +kernel
theorem dX5_itemAt_102 : decode cX5_itemAt 102 = .ok (.bipush 59, 2) := by decide +kernel
theorem dX5_itemAt_104 : decode cX5_itemAt 104 = .ok (.invokevirtual 186, 3) := by decide +kernel
theorem dX5_itemAt_107 : decode cX5_itemAt 107 = .ok (.ifCond .eq 7, 3) := by decide +kernel
theorem dX5_itemAt_110 : decode cX5_itemAt 110 = .ok (.iconst 5, 1) := by decide +kernel
theorem dX5_itemAt_111 : decode cX5_itemAt 111 = .ok (.goto 5, 3) := by decide +kernel
theorem dX5_itemAt_114 : decode cX5_itemAt 114 = .ok (.bipush (-5), 2) := by decide +kernel
theorem dX5_itemAt_116 : decode cX5_itemAt 116 = .ok (.ireturn, 1) := by decide +kernel
set_option maxRecDepth 20000 in
theorem ggX5_faultAt_X5_itemAt : GoodIn wsX5_faultAt wsX5_itemAt := goodIn_r _ [6, 1, 7, 8, 9, 5, 10, 11, 12, 13, 14, 15, 16, 17, 18, 19, 20, 21, 22, 23, 24, 25, 26, 27, 28] (by decide +kernel) (by decide +kernel)
set_option maxRecDepth 20000 in
theorem gX5_faultAt_X5_itemAt : GoodIn wsX5_faultAt (wsV RX5 190 RX5 yX5_itemAt wsX5_itemAt) := goodIn_app (goodIn_of _ (by decide +kernel)) ggX5_faultAt_X5_itemAt
theorem dX5_faultAt_0 : decode cX5_faultAt 0 = .ok (.iconst 0, 1) := by decide +kernel
theorem dX5_faultAt_1 : decode cX5_faultAt 1 = .ok (.istore_n 1, 1) := by decide +kernel
theorem dX5_faultAt_2 : decode cX5_faultAt 2 = .ok (.iload_n 1, 1) := by decide +kernel
theorem dX5_faultAt_3 : decode cX5_faultAt 3 = .ok (.aload_n 0, 1) := by decide +kernel
theorem dX5_faultAt_4 : decode cX5_faultAt 4 = .ok (.getfield 157, 3) := by decide +kernel
theorem dX5_faultAt_7 : decode cX5_faultAt 7 = .ok (.if_icmp .ge 26, 3) := by decide +kernel
theorem dX5_faultAt_10 : decode cX5_faultAt 10 = .ok (.aload_n 0, 1) := by decide +kernel
theorem dX5_faultAt_11 : decode cX5_faultAt 11 = .ok (.iload_n 1, 1) := by decide +kernel
theorem dX5_faultAt_12 : decode cX5_faultAt 12 = .ok (.invokevirtual 190, 3) := by decide +kernel
theorem dX5_faultAt_15 : decode cX5_faultAt 15 = .ok (.istore_n 2, 1) := by decide +kernel
theorem dX5_faultAt_16 : decode cX5_faultAt 16 = .ok (.iload_n 2, 1) := by decide +kernel
theorem dX5_faultAt_17 : decode cX5_faultAt 17 = .ok (.ifCond .ge 9, 3) := by decide +kernel
theorem dX5_faultAt_20 : decode cX5_faultAt 20 = .ok (.iload_n 1, 1) := by decide +kernel
theorem dX5_faultAt_21 : decode cX5_faultAt 21 = .ok (.iload_n 2, 1) := by decide +kernel
theorem dX5_faultAt_22 : decode cX5_faultAt 22 = .ok (.isub, 1) := by decide +kernel
theorem dX5_faultAt_23 : decode cX5_faultAt 23 = .ok (.iconst 1, 1) := by decide +kernel
theorem dX5_faultAt_24 : decode cX5_faultAt 24 = .ok (.isub, 1) := by decide +kernel
theorem dX5_faultAt_25 : decode cX5_faultAt 25 = .ok (.ireturn, 1) := by decide +kernel
theorem dX5_faultAt_26 : decode cX5_faultAt 26 = .ok (.iload_n 1, 1) := by decide +kernel
theorem dX5_faultAt_27 : decode cX5_faultAt 27 = .ok (.iload_n 2, 1) := by decide +kernel
theorem dX5_faultAt_28 : decode cX5_faultAt 28 = .ok (.iadd, 1) := by decide +kernel
theorem dX5_faultAt_29 : decode cX5_faultAt 29 = .ok (.istore_n 1, 1) := by decide +kernel
theorem dX5_faultAt_30 : decode cX5_faultAt 30 = .ok (.goto (-28), 3) := by decide +kernel
theorem dX5_faultAt_33 : decode cX5_faultAt 33 = .ok (.bipush (-4), 2) := by decide +kernel
theorem dX5_faultAt_35 : decode cX5_faultAt 35 = .ok (.ireturn, 1) := by decide +kernel
set_option maxRecDepth 20000 in
theorem ggX5_fault_X5_faultAt : GoodIn wsX5_fault wsX5_faultAt := goodIn_r _ [5, 6, 7, 8, 9, 4, 10, 11, 12, 13, 14, 15, 16, 17, 18, 19, 20, 21, 22, 23, 24, 25, 26, 27, 28, 29, 30, 31, 32] (by decide +kernel) (by decide +kernel)
set_option maxRecDepth 20000 in
theorem gX5_fault_X5_faultAt : GoodIn wsX5_fault (wsV RX5 193 RX5 yX5_faultAt wsX5_faultAt) := goodIn_app (goodIn_of _ (by decide +kernel)) ggX5_fault_X5_faultAt
theorem dX5_fault_0 : decode cX5_fault 0 = .ok (.aload_n 0, 1) := by decide +kernel
theorem dX5_fault_1 : decode cX5_fault 1 = .ok (.invokevirtual 193, 3) := by decide +kernel
theorem dX5_fault_4 : decode cX5_fault 4 = .ok (.ireturn, 1) := by decide +kernel
set_option maxRecDepth 20000 in
theorem ggX5_read_X5_isSheet : GoodIn wsX5_read wsX5_isSheet := goodIn_r _ [7, 8, 9, 10, 6, 11, 12, 118, 119, 120, 121, 122, 123, 124] (by decide +kernel) (by decide +kernel)
set_option maxRecDepth 20000 in
theorem gX5_read_X5_isSheet : GoodIn wsX5_read (wsV RX5 118 RX5 yX5_isSheet wsX5_isSheet) := goodIn_app (goodIn_of _ (by decide +kernel)) ggX5_read_X5_isSheet
set_option maxRecDepth 20000 in
theorem ggX5_read_X5_faultAt : GoodIn wsX5_read wsX5_faultAt := goodIn_r _ [16, 1, 17, 18, 19, 6, 20, 2, 21, 22, 23, 24, 25, 26, 27, 28, 29, 30, 31, 32, 33, 34, 118, 119, 120, 121, 122, 123, 124] (by decide +kernel) (by decide +kernel)
set_option maxRecDepth 20000 in
theorem gX5_read_X5_faultAt : GoodIn wsX5_read (wsV RX5 193 RX5 yX5_faultAt wsX5_faultAt) := goodIn_app (goodIn_of _ (by decide +kernel)) ggX5_read_X5_faultAt
set_option maxRecDepth 20000 in
theorem ggX5_read_X5_hold : GoodIn wsX5_read wsX5_hold := goodIn_r _ [38, 39, 12, 118, 119, 120, 121, 122, 123, 124] (by decide +kernel) (by decide +kernel)
set_option maxRecDepth 20000 in
theorem gX5_read_X5_hold : GoodIn wsX5_read (wsV RX5 115 RX5 yX5_hold wsX5_hold) := goodIn_app (goodIn_of _ (by decide +kernel)) ggX5_read_X5_hold
set_option maxRecDepth 20000 in
theorem ggX5_read_X5_itemAt : GoodIn wsX5_read wsX5_itemAt := goodIn_r _ [20, 1, 2, 21, 22, 6, 23, 24, 25, 26, 27, 28, 29, 30, 31, 32, 33, 34, 118, 119, 120, 121, 122, 123, 124] (by decide +kernel) (by decide +kernel)
set_option maxRecDepth 20000 in
theorem gX5_read_X5_itemAt : GoodIn wsX5_read (wsV RX5 190 RX5 yX5_itemAt wsX5_itemAt) := goodIn_app (goodIn_of _ (by decide +kernel)) ggX5_read_X5_itemAt
set_option maxRecDepth 20000 in
theorem ggX5_read_X5_sideNamed : GoodIn wsX5_read wsX5_sideNamed := goodIn_r _ [23] (by decide +kernel) (by decide +kernel)
set_option maxRecDepth 20000 in
theorem gX5_read_X5_sideNamed : GoodIn wsX5_read (va_wsS RX5 180 yX5_sideNamed wsX5_sideNamed) := goodIn_app (goodIn_of _ (by decide +kernel)) ggX5_read_X5_sideNamed
set_option maxRecDepth 20000 in
theorem ggX5_read_X5_puts : GoodIn wsX5_read wsX5_puts := goodIn_r _ [43, 12, 118, 119, 120, 121, 122, 123, 124] (by decide +kernel) (by decide +kernel)
set_option maxRecDepth 20000 in
theorem gX5_read_X5_puts : GoodIn wsX5_read (wsV RX5 41 RX5 yX5_puts wsX5_puts) := goodIn_app (goodIn_of _ (by decide +kernel)) ggX5_read_X5_puts
set_option maxRecDepth 20000 in
theorem ggX5_read_X5_keeps : GoodIn wsX5_read wsX5_keeps := goodIn_r _ [47, 48, 49, 50, 6, 51, 12, 52, 53, 54, 55, 56, 57, 58, 59, 60, 61, 62, 63, 64, 65, 66, 67, 68, 69, 70, 71, 72, 73, 74, 75, 76, 77, 78, 79, 80, 81, 82, 83, 84, 85, 86, 87, 88, 89, 90, 91, 92, 93, 94, 95, 96, 97, 98, 99, 100, 101, 102, 103, 104, 105, 106, 107, 39, 108, 109, 110, 111, 40, 41, 42, 43, 112, 113, 114, 115, 116, 117, 118, 119, 120, 121, 122, 123, 124] (by decide +kernel) (by decide +kernel)
set_option maxRecDepth 20000 in
theorem gX5_read_X5_keeps : GoodIn wsX5_read (wsV RX5 124 RX5 yX5_keeps wsX5_keeps) := goodIn_app (goodIn_of _ (by decide +kernel)) ggX5_read_X5_keeps
theorem dX5_read_0 : decode cX5_read 0 = .ok (.aload_n 0, 1) := by decide +kernel
theorem dX5_read_1 : decode cX5_read 1 = .ok (.iload_n 1, 1) := by decide +kernel
theorem dX5_read_2 : decode cX5_read 2 = .ok (.invokevirtual 118, 3) := by decide +kernel
theorem dX5_read_5 : decode cX5_read 5 = .ok (.ifCond .ne 5, 3) := by decide +kernel
theorem dX5_read_8 : decode cX5_read 8 = .ok (.iconst (-1), 1) := by decide +kernel
theorem dX5_read_9 : decode cX5_read 9 = .ok (.ireturn, 1) := by decide +kernel
theorem dX5_read_10 : decode cX5_read 10 = .ok (.aload_n 0, 1) := by decide +kernel
theorem dX5_read_11 : decode cX5_read 11 = .ok (.invokevirtual 193, 3) := by decide +kernel
theorem dX5_read_14 : decode cX5_read 14 = .ok (.bipush (-4), 2) := by decide +kernel
theorem dX5_read_16 : decode cX5_read 16 = .ok (.if_icmp .eq 6, 3) := by decide +kernel
theorem dX5_read_19 : decode cX5_read 19 = .ok (.bipush (-2), 2) := by decide +kernel
theorem dX5_read_21 : decode cX5_read 21 = .ok (.ireturn, 1) := by decide +kernel
theorem dX5_read_22 : decode cX5_read 22 = .ok (.aload_n 0, 1) := by decide +kernel
theorem dX5_read_23 : decode cX5_read 23 = .ok (.invokevirtual 115, 3) := by decide +kernel
theorem dX5_read_26 : decode cX5_read 26 = .ok (.iconst 0, 1) := by decide +kernel
theorem dX5_read_27 : decode cX5_read 27 = .ok (.istore_n 2, 1) := by decide +kernel
theorem dX5_read_28 : decode cX5_read 28 = .ok (.iconst 0, 1) := by decide +kernel
theorem dX5_read_29 : decode cX5_read 29 = .ok (.istore_n 3, 1) := by decide +kernel
theorem dX5_read_30 : decode cX5_read 30 = .ok (.iload_n 3, 1) := by decide +kernel
theorem dX5_read_31 : decode cX5_read 31 = .ok (.aload_n 0, 1) := by decide +kernel
theorem dX5_read_32 : decode cX5_read 32 = .ok (.getfield 157, 3) := by decide +kernel
theorem dX5_read_35 : decode cX5_read 35 = .ok (.if_icmp .ge 76, 3) := by decide +kernel
theorem dX5_read_38 : decode cX5_read 38 = .ok (.aload_n 0, 1) := by decide +kernel
theorem dX5_read_39 : decode cX5_read 39 = .ok (.iload_n 3, 1) := by decide +kernel
theorem dX5_read_40 : decode cX5_read 40 = .ok (.invokevirtual 190, 3) := by decide +kernel
theorem dX5_read_43 : decode cX5_read 43 = .ok (.istore 4, 2) := by decide +kernel
theorem dX5_read_45 : decode cX5_read 45 = .ok (.iload 4, 2) := by decide +kernel
theorem dX5_read_47 : decode cX5_read 47 = .ok (.iconst 4, 1) := by decide +kernel
theorem dX5_read_48 : decode cX5_read 48 = .ok (.if_icmp .ne 8, 3) := by decide +kernel
theorem dX5_read_51 : decode cX5_read 51 = .ok (.bipush 10, 2) := by decide +kernel
theorem dX5_read_53 : decode cX5_read 53 = .ok (.goto 14, 3) := by decide +kernel
theorem dX5_read_56 : decode cX5_read 56 = .ok (.aload_n 0, 1) := by decide +kernel
theorem dX5_read_57 : decode cX5_read 57 = .ok (.getfield 19, 3) := by decide +kernel
theorem dX5_read_60 : decode cX5_read 60 = .ok (.iload_n 3, 1) := by decide +kernel
theorem dX5_read_61 : decode cX5_read 61 = .ok (.iconst 3, 1) := by decide +kernel
theorem dX5_read_62 : decode cX5_read 62 = .ok (.iadd, 1) := by decide +kernel
theorem dX5_read_63 : decode cX5_read 63 = .ok (.iaload, 1) := by decide +kernel
theorem dX5_read_64 : decode cX5_read 64 = .ok (.bipush 48, 2) := by decide +kernel
theorem dX5_read_66 : decode cX5_read 66 = .ok (.isub, 1) := by decide +kernel
theorem dX5_read_67 : decode cX5_read 67 = .ok (.istore 5, 2) := by decide +kernel
theorem dX5_read_69 : decode cX5_read 69 = .ok (.aload_n 0, 1) := by decide +kernel
theorem dX5_read_70 : decode cX5_read 70 = .ok (.iload_n 1, 1) := by decide +kernel
theorem dX5_read_71 : decode cX5_read 71 = .ok (.bipush 10, 2) := by decide +kernel
theorem dX5_read_73 : decode cX5_read 73 = .ok (.aload_n 0, 1) := by decide +kernel
theorem dX5_read_74 : decode cX5_read 74 = .ok (.getfield 19, 3) := by decide +kernel
theorem dX5_read_77 : decode cX5_read 77 = .ok (.iload_n 3, 1) := by decide +kernel
theorem dX5_read_78 : decode cX5_read 78 = .ok (.iaload, 1) := by decide +kernel
theorem dX5_read_79 : decode cX5_read 79 = .ok (.invokestatic 180, 3) := by decide +kernel
theorem dX5_read_82 : decode cX5_read 82 = .ok (.imul, 1) := by decide +kernel
theorem dX5_read_83 : decode cX5_read 83 = .ok (.aload_n 0, 1) := by decide +kernel
theorem dX5_read_84 : decode cX5_read 84 = .ok (.getfield 19, 3) := by decide +kernel
theorem dX5_read_87 : decode cX5_read 87 = .ok (.iload_n 3, 1) := by decide +kernel
theorem dX5_read_88 : decode cX5_read 88 = .ok (.iconst 1, 1) := by decide +kernel
theorem dX5_read_89 : decode cX5_read 89 = .ok (.iadd, 1) := by decide +kernel
theorem dX5_read_90 : decode cX5_read 90 = .ok (.iaload, 1) := by decide +kernel
theorem dX5_read_91 : decode cX5_read 91 = .ok (.iadd, 1) := by decide +kernel
theorem dX5_read_92 : decode cX5_read 92 = .ok (.bipush 48, 2) := by decide +kernel
theorem dX5_read_94 : decode cX5_read 94 = .ok (.isub, 1) := by decide +kernel
theorem dX5_read_95 : decode cX5_read 95 = .ok (.iload 5, 2) := by decide +kernel
theorem dX5_read_97 : decode cX5_read 97 = .ok (.invokevirtual 41, 3) := by decide +kernel
theorem dX5_read_100 : decode cX5_read 100 = .ok (.iinc 2 1, 3) := by decide +kernel
theorem dX5_read_103 : decode cX5_read 103 = .ok (.iload_n 3, 1) := by decide +kernel
theorem dX5_read_104 : decode cX5_read 104 = .ok (.iload 4, 2) := by decide +kernel
theorem dX5_read_106 : decode cX5_read 106 = .ok (.iadd, 1) := by decide +kernel
theorem dX5_read_107 : decode cX5_read 107 = .ok (.istore_n 3, 1) := by decide +kernel
theorem dX5_read_108 : decode cX5_read 108 = .ok (.goto (-78), 3) := by decide +kernel
theorem dX5_read_111 : decode cX5_read 111 = .ok (.aload_n 0, 1) := by decide +kernel
theorem dX5_read_112 : decode cX5_read 112 = .ok (.iload_n 1, 1) := by decide +kernel
theorem dX5_read_113 : decode cX5_read 113 = .ok (.iload_n 2, 1) := by decide +kernel
theorem dX5_read_114 : decode cX5_read 114 = .ok (.ifCond .le 7, 3) := by decide +kernel
theorem dX5_read_117 : decode cX5_read 117 = .ok (.iconst 1, 1) := by decide +kernel
theorem dX5_read_118 : decode cX5_read 118 = .ok (.goto 4, 3) := by decide +kernel
theorem dX5_read_121 : decode cX5_read 121 = .ok (.iconst 0, 1) := by decide +kernel
theorem dX5_read_122 : decode cX5_read 122 = .ok (.iload_n 2, 1) := by decide +kernel
theorem dX5_read_123 : decode cX5_read 123 = .ok (.invokevirtual 124, 3) := by decide +kernel
theorem dX5_read_126 : decode cX5_read 126 = .ok (.ireturn, 1) := by decide +kernel
theorem dJxf58ca_isNaN_12338_0 : decode cJxf58ca_isNaN_12338 0 = .ok (.fload_n 0, 1) := by decide +kernel
theorem dJxf58ca_isNaN_12338_1 : decode cJxf58ca_isNaN_12338 1 = .ok (.fload_n 0, 1) := by decide +kernel
theorem dJxf58ca_isNaN_12338_2 : decode cJxf58ca_isNaN_12338 2 = .ok (.fcmp .l, 1) := by decide +kernel
theorem dJxf58ca_isNaN_12338_3 : decode cJxf58ca_isNaN_12338 3 = .ok (.ifCond .eq 7, 3) := by decide +kernel
theorem dJxf58ca_isNaN_12338_6 : decode cJxf58ca_isNaN_12338 6 = .ok (.iconst 1, 1) := by decide +kernel
theorem dJxf58ca_isNaN_12338_7 : decode cJxf58ca_isNaN_12338 7 = .ok (.goto 4, 3) := by decide +kernel
theorem dJxf58ca_isNaN_12338_10 : decode cJxf58ca_isNaN_12338 10 = .ok (.iconst 0, 1) := by decide +kernel
theorem dJxf58ca_isNaN_12338_11 : decode cJxf58ca_isNaN_12338 11 = .ok (.ireturn, 1) := by decide +kernel
set_option maxRecDepth 20000 in
theorem ggJxf58ca_floatToIntBits_5c35a_Jxf58ca_isNaN_12338 : GoodIn wsJxf58ca_floatToIntBits_5c35a wsJxf58ca_isNaN_12338 := goodIn_r _ [9] (by decide +kernel) (by decide +kernel)
set_option maxRecDepth 20000 in
theorem gJxf58ca_floatToIntBits_5c35a_Jxf58ca_isNaN_12338 : GoodIn wsJxf58ca_floatToIntBits_5c35a (va_wsS RJxf58ca 59 yJxf58ca_isNaN_12338 wsJxf58ca_isNaN_12338) := goodIn_app (goodIn_of _ (by decide +kernel)) ggJxf58ca_floatToIntBits_5c35a_Jxf58ca_isNaN_12338
theorem dJxf58ca_floatToIntBits_5c35a_0 : decode cJxf58ca_floatToIntBits_5c35a 0 = .ok (.fload_n 0, 1) := by decide +kernel
theorem dJxf58ca_floatToIntBits_5c35a_1 : decode cJxf58ca_floatToIntBits_5c35a 1 = .ok (.invokestatic 59, 3) := by decide +kernel
theorem dJxf58ca_floatToIntBits_5c35a_4 : decode cJxf58ca_floatToIntBits_5c35a 4 = .ok (.ifCond .ne 8, 3) := by decide +kernel
theorem dJxf58ca_floatToIntBits_5c35a_7 : decode cJxf58ca_floatToIntBits_5c35a 7 = .ok (.fload_n 0, 1) := by decide +kernel
theorem dJxf58ca_floatToIntBits_5c35a_8 : decode cJxf58ca_floatToIntBits_5c35a 8 = .ok (.invokestatic 74, 3) := by decide +kernel
theorem dJxf58ca_floatToIntBits_5c35a_11 : decode cJxf58ca_floatToIntBits_5c35a 11 = .ok (.ireturn, 1) := by decide +kernel
theorem dJxf58ca_floatToIntBits_5c35a_12 : decode cJxf58ca_floatToIntBits_5c35a 12 = .ok (.ldc 77, 2) := by decide +kernel
theorem dJxf58ca_floatToIntBits_5c35a_14 : decode cJxf58ca_floatToIntBits_5c35a 14 = .ok (.ireturn, 1) := by decide +kernel
