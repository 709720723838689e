theorem inlX1 : ∀ w ∈ wsX10, w ∈ wsL_law := fun _ h => List.mem_append_left _ (List.mem_append_left _ (List.mem_append_right _ h))
theorem inX1 : ∀ w ∈ wsX10, w ∈ lw_tbl := fun w h => wsL_law_in w (inlX1 w h)
theorem inlX2 : ∀ w ∈ wsX20, w ∈ wsL_law := fun _ h => List.mem_append_left _ (List.mem_append_left _ (List.mem_append_left _ (List.mem_append_right _ h)))
theorem inX2 : ∀ w ∈ wsX20, w ∈ lw_tbl := fun w h => wsL_law_in w (inlX2 w h)
theorem inlX3 : ∀ w ∈ wsX30, w ∈ wsL_law := fun _ h => List.mem_append_left _ (List.mem_append_right _ h)
theorem inX3 : ∀ w ∈ wsX30, w ∈ lw_tbl := fun w h => wsL_law_in w (inlX3 w h)
theorem inJ9 : ∀ w ∈ wsJ90, w ∈ lw_tbl := by decide +kernel
theorem inJxd2413 : ∀ w ∈ wsJxd24130, w ∈ lw_tbl := by decide +kernel
theorem inJ10 : ∀ w ∈ wsJ100, w ∈ lw_tbl := by decide +kernel
theorem inJxfd54e : ∀ w ∈ wsJxfd54e0, w ∈ lw_tbl := by decide +kernel
theorem inJx3cf43 : ∀ w ∈ wsJx3cf430, w ∈ lw_tbl := by decide +kernel
theorem inJ7 : ∀ w ∈ wsJ70, w ∈ lw_tbl := by decide +kernel
theorem dX1_init_0 : decode cX1_init 0 = .ok (.aload_n 0, 1) := by decide +kernel
theorem dX1_init_1 : decode cX1_init 1 = .ok (.invokespecial 3, 3) := by decide +kernel
theorem dX1_init_4 : decode cX1_init 4 = .ok (.aload_n 0, 1) := by decide +kernel
theorem dX1_init_5 : decode cX1_init 5 = .ok (.bipush 36, 2) := by decide +kernel
theorem dX1_init_7 : decode cX1_init 7 = .ok (.newarray .int, 2) := by decide +kernel
theorem dX1_init_9 : decode cX1_init 9 = .ok (.putfield 9, 3) := by decide +kernel
theorem dX1_init_12 : decode cX1_init 12 = .ok (.return_, 1) := by decide +kernel
set_option maxRecDepth 20000 in
theorem ggX1_find_X0_edgeCount : GoodIn wsX1_find wsX0_edgeCount := goodIn_r _ [13, 14, 15, 16, 17, 18, 12, 19, 51, 52, 53, 54, 55, 56, 57, 58, 59, 60] (by decide +kernel) (by decide +kernel)
set_option maxRecDepth 20000 in
theorem gX1_find_X0_edgeCount : GoodIn wsX1_find (wsV RX1 15 RX0 yX0_edgeCount wsX0_edgeCount) := goodIn_app (goodIn_of _ (by decide +kernel)) ggX1_find_X0_edgeCount
set_option maxRecDepth 20000 in
theorem ggX1_find_X0_sheetCount : GoodIn wsX1_find wsX0_sheetCount := goodIn_r _ [23, 14, 15, 51, 52, 53, 54, 55, 56, 57, 58, 59, 60] (by decide +kernel) (by decide +kernel)
set_option maxRecDepth 20000 in
theorem gX1_find_X0_sheetCount : GoodIn wsX1_find (wsV RX1 21 RX0 yX0_sheetCount wsX0_sheetCount) := goodIn_app (goodIn_of _ (by decide +kernel)) ggX1_find_X0_sheetCount
set_option maxRecDepth 20000 in
theorem ggX1_find_X0_isAgreed : GoodIn wsX1_find wsX0_isAgreed := goodIn_r _ [27, 28, 29, 30, 31, 51, 52, 53, 54, 55, 56, 57, 58, 59, 60] (by decide +kernel) (by decide +kernel)
set_option maxRecDepth 20000 in
theorem gX1_find_X0_isAgreed : GoodIn wsX1_find (wsV RX1 24 RX0 yX0_isAgreed wsX0_isAgreed) := goodIn_app (goodIn_of _ (by decide +kernel)) ggX1_find_X0_isAgreed
set_option maxRecDepth 20000 in
theorem ggX1_find_X0_firstSheet : GoodIn wsX1_find wsX0_firstSheet := goodIn_r _ [35, 14, 15, 51, 52, 53, 54, 55, 56, 57, 58, 59, 60] (by decide +kernel) (by decide +kernel)
set_option maxRecDepth 20000 in
theorem gX1_find_X0_firstSheet : GoodIn wsX1_find (wsV RX1 28 RX0 yX0_firstSheet wsX0_firstSheet) := goodIn_app (goodIn_of _ (by decide +kernel)) ggX1_find_X0_firstSheet
set_option maxRecDepth 20000 in
theorem ggX1_find_X1_lowestOf : GoodIn wsX1_find wsX1_lowestOf := goodIn_r _ [40, 1, 29, 30, 31, 50] (by decide +kernel) (by decide +kernel)
set_option maxRecDepth 20000 in
theorem gX1_find_X1_lowestOf : GoodIn wsX1_find (wsV RX1 32 RX1 yX1_lowestOf wsX1_lowestOf) := goodIn_app (goodIn_of _ (by decide +kernel)) ggX1_find_X1_lowestOf
set_option maxRecDepth 20000 in
theorem ggX1_find_X0_secondSheet : GoodIn wsX1_find wsX0_secondSheet := goodIn_r _ [44, 14, 45, 33, 34, 12, 35, 15, 16, 17, 18, 19, 51, 52, 53, 54, 55, 56, 57, 58, 59, 60] (by decide +kernel) (by decide +kernel)
set_option maxRecDepth 20000 in
theorem gX1_find_X0_secondSheet : GoodIn wsX1_find (wsV RX1 35 RX0 yX0_secondSheet wsX0_secondSheet) := goodIn_app (goodIn_of _ (by decide +kernel)) ggX1_find_X0_secondSheet
set_option maxRecDepth 20000 in
theorem ggX1_find_X1_join : GoodIn wsX1_find wsX1_join := goodIn_r _ [49, 1, 50] (by decide +kernel) (by decide +kernel)
set_option maxRecDepth 20000 in
theorem gX1_find_X1_join : GoodIn wsX1_find (wsV RX1 47 RX1 yX1_join wsX1_join) := goodIn_app (goodIn_of _ (by decide +kernel)) ggX1_find_X1_join
theorem dX1_find_0 : decode cX1_find 0 = .ok (.iconst 0, 1) := by decide +kernel
theorem dX1_find_1 : decode cX1_find 1 = .ok (.istore_n 2, 1) := by decide +kernel
theorem dX1_find_2 : decode cX1_find 2 = .ok (.iload_n 2, 1) := by decide +kernel
theorem dX1_find_3 : decode cX1_find 3 = .ok (.aload_n 0, 1) := by decide +kernel
theorem dX1_find_4 : decode cX1_find 4 = .ok (.getfield 9, 3) := by decide +kernel
theorem dX1_find_7 : decode cX1_find 7 = .ok (.arraylength, 1) := by decide +kernel
theorem dX1_find_8 : decode cX1_find 8 = .ok (.if_icmp .ge 16, 3) := by decide +kernel
theorem dX1_find_11 : decode cX1_find 11 = .ok (.aload_n 0, 1) := by decide +kernel
theorem dX1_find_12 : decode cX1_find 12 = .ok (.getfield 9, 3) := by decide +kernel
theorem dX1_find_15 : decode cX1_find 15 = .ok (.iload_n 2, 1) := by decide +kernel
theorem dX1_find_16 : decode cX1_find 16 = .ok (.iload_n 2, 1) := by decide +kernel
theorem dX1_find_17 : decode cX1_find 17 = .ok (.iastore, 1) := by decide +kernel
theorem dX1_find_18 : decode cX1_find 18 = .ok (.iinc 2 1, 3) := by decide +kernel
theorem dX1_find_21 : decode cX1_find 21 = .ok (.goto (-19), 3) := by decide +kernel
theorem dX1_find_24 : decode cX1_find 24 = .ok (.aload_n 1, 1) := by decide +kernel
theorem dX1_find_25 : decode cX1_find 25 = .ok (.invokevirtual 15, 3) := by decide +kernel
theorem dX1_find_28 : decode cX1_find 28 = .ok (.istore_n 2, 1) := by decide +kernel
theorem dX1_find_29 : decode cX1_find 29 = .ok (.aload_n 1, 1) := by decide +kernel
theorem dX1_find_30 : decode cX1_find 30 = .ok (.invokevirtual 21, 3) := by decide +kernel
theorem dX1_find_33 : decode cX1_find 33 = .ok (.istore_n 3, 1) := by decide +kernel
theorem dX1_find_34 : decode cX1_find 34 = .ok (.iconst 0, 1) := by decide +kernel
theorem dX1_find_35 : decode cX1_find 35 = .ok (.istore 4, 2) := by decide +kernel
theorem dX1_find_37 : decode cX1_find 37 = .ok (.iload 4, 2) := by decide +kernel
theorem dX1_find_39 : decode cX1_find 39 = .ok (.iload_n 2, 1) := by decide +kernel
theorem dX1_find_40 : decode cX1_find 40 = .ok (.if_icmp .ge 73, 3) := by decide +kernel
theorem dX1_find_43 : decode cX1_find 43 = .ok (.aload_n 1, 1) := by decide +kernel
theorem dX1_find_44 : decode cX1_find 44 = .ok (.iload 4, 2) := by decide +kernel
theorem dX1_find_46 : decode cX1_find 46 = .ok (.invokevirtual 24, 3) := by decide +kernel
theorem dX1_find_49 : decode cX1_find 49 = .ok (.ifCond .ne 6, 3) := by decide +kernel
theorem dX1_find_52 : decode cX1_find 52 = .ok (.goto 55, 3) := by decide +kernel
theorem dX1_find_55 : decode cX1_find 55 = .ok (.aload_n 0, 1) := by decide +kernel
theorem dX1_find_56 : decode cX1_find 56 = .ok (.aload_n 1, 1) := by decide +kernel
theorem dX1_find_57 : decode cX1_find 57 = .ok (.iload 4, 2) := by decide +kernel
theorem dX1_find_59 : decode cX1_find 59 = .ok (.invokevirtual 28, 3) := by decide +kernel
theorem dX1_find_62 : decode cX1_find 62 = .ok (.invokevirtual 32, 3) := by decide +kernel
theorem dX1_find_65 : decode cX1_find 65 = .ok (.istore 5, 2) := by decide +kernel
theorem dX1_find_67 : decode cX1_find 67 = .ok (.aload_n 0, 1) := by decide +kernel
theorem dX1_find_68 : decode cX1_find 68 = .ok (.aload_n 1, 1) := by decide +kernel
theorem dX1_find_69 : decode cX1_find 69 = .ok (.iload 4, 2) := by decide +kernel
theorem dX1_find_71 : decode cX1_find 71 = .ok (.invokevirtual 35, 3) := by decide +kernel
theorem dX1_find_74 : decode cX1_find 74 = .ok (.invokevirtual 32, 3) := by decide +kernel
theorem dX1_find_77 : decode cX1_find 77 = .ok (.istore 6, 2) := by decide +kernel
theorem dX1_find_79 : decode cX1_find 79 = .ok (.iload 5, 2) := by decide +kernel
theorem dX1_find_81 : decode cX1_find 81 = .ok (.iload 6, 2) := by decide +kernel
theorem dX1_find_83 : decode cX1_find 83 = .ok (.if_icmp .eq 24, 3) := by decide +kernel
theorem dX1_find_86 : decode cX1_find 86 = .ok (.aload_n 0, 1) := by decide +kernel
theorem dX1_find_87 : decode cX1_find 87 = .ok (.iload 5, 2) := by decide +kernel
theorem dX1_find_89 : decode cX1_find 89 = .ok (.iload 6, 2) := by decide +kernel
theorem dX1_find_91 : decode cX1_find 91 = .ok (.invokestatic 38, 3) := by decide +kernel
theorem dX1_find_94 : decode cX1_find 94 = .ok (.iload 5, 2) := by decide +kernel
theorem dX1_find_96 : decode cX1_find 96 = .ok (.iload 6, 2) := by decide +kernel
theorem dX1_find_98 : decode cX1_find 98 = .ok (.invokestatic 44, 3) := by decide +kernel
theorem dX1_find_101 : decode cX1_find 101 = .ok (.invokevirtual 47, 3) := by decide +kernel
theorem dX1_find_104 : decode cX1_find 104 = .ok (.iinc 3 (-1), 3) := by decide +kernel
theorem dX1_find_107 : decode cX1_find 107 = .ok (.iinc 4 1, 3) := by decide +kernel
theorem dX1_find_110 : decode cX1_find 110 = .ok (.goto (-73), 3) := by decide +kernel
theorem dX1_find_113 : decode cX1_find 113 = .ok (.iload_n 3, 1) := by decide +kernel
theorem dX1_find_114 : decode cX1_find 114 = .ok (.ireturn, 1) := by decide +kernel
set_option maxRecDepth 20000 in
theorem ggX1_lowestOf_X4_valueAt : GoodIn wsX1_lowestOf wsX4_valueAt := goodIn_r _ [4] (by decide +kernel) (by decide +kernel)
set_option maxRecDepth 20000 in
theorem gX1_lowestOf_X4_valueAt_n51 : GoodIn wsX1_lowestOf (wsX4_valueAt) := ggX1_lowestOf_X4_valueAt
theorem dX1_lowestOf_0 : decode cX1_lowestOf 0 = .ok (.aload_n 0, 1) := by decide +kernel
theorem dX1_lowestOf_1 : decode cX1_lowestOf 1 = .ok (.getfield 9, 3) := by decide +kernel
theorem dX1_lowestOf_4 : decode cX1_lowestOf 4 = .ok (.iload_n 1, 1) := by decide +kernel
theorem dX1_lowestOf_5 : decode cX1_lowestOf 5 = .ok (.iload_n 1, 1) := by decide +kernel
theorem dX1_lowestOf_6 : decode cX1_lowestOf 6 = .ok (.invokestatic 51, 3) := by decide +kernel
theorem dX1_lowestOf_9 : decode cX1_lowestOf 9 = .ok (.ireturn, 1) := by decide +kernel
theorem dX1_join_0 : decode cX1_join 0 = .ok (.iconst 0, 1) := by decide +kernel
theorem dX1_join_1 : decode cX1_join 1 = .ok (.istore_n 3, 1) := by decide +kernel
theorem dX1_join_2 : decode cX1_join 2 = .ok (.iload_n 3, 1) := by decide +kernel
theorem dX1_join_3 : decode cX1_join 3 = .ok (.aload_n 0, 1) := by decide +kernel
theorem dX1_join_4 : decode cX1_join 4 = .ok (.getfield 9, 3) := by decide +kernel
theorem dX1_join_7 : decode cX1_join 7 = .ok (.arraylength, 1) := by decide +kernel
theorem dX1_join_8 : decode cX1_join 8 = .ok (.if_icmp .ge 26, 3) := by decide +kernel
theorem dX1_join_11 : decode cX1_join 11 = .ok (.aload_n 0, 1) := by decide +kernel
theorem dX1_join_12 : decode cX1_join 12 = .ok (.getfield 9, 3) := by decide +kernel
theorem dX1_join_15 : decode cX1_join 15 = .ok (.iload_n 3, 1) := by decide +kernel
theorem dX1_join_16 : decode cX1_join 16 = .ok (.iaload, 1) := by decide +kernel
theorem dX1_join_17 : decode cX1_join 17 = .ok (.iload_n 2, 1) := by decide +kernel
theorem dX1_join_18 : decode cX1_join 18 = .ok (.if_icmp .ne 10, 3) := by decide +kernel
theorem dX1_join_21 : decode cX1_join 21 = .ok (.aload_n 0, 1) := by decide +kernel
theorem dX1_join_22 : decode cX1_join 22 = .ok (.getfield 9, 3) := by decide +kernel
theorem dX1_join_25 : decode cX1_join 25 = .ok (.iload_n 3, 1) := by decide +kernel
theorem dX1_join_26 : decode cX1_join 26 = .ok (.iload_n 1, 1) := by decide +kernel
theorem dX1_join_27 : decode cX1_join 27 = .ok (.iastore, 1) := by decide +kernel
theorem dX1_join_28 : decode cX1_join 28 = .ok (.iinc 3 1, 3) := by decide +kernel
theorem dX1_join_31 : decode cX1_join 31 = .ok (.goto (-29), 3) := by decide +kernel
theorem dX1_join_34 : decode cX1_join 34 = .ok (.return_, 1) := by decide +kernel
set_option maxRecDepth 20000 in
theorem ggX2_init_X0_init : GoodIn wsX2_init wsX0_init := goodIn_r _ [12, 13, 2, 3, 14, 15, 16, 17, 18, 19, 20, 21, 22, 23, 24, 25, 9, 26, 27, 28, 29, 30, 31, 32, 36, 37, 38, 39, 40, 41, 42, 43, 44, 45] (by decide +kernel) (by decide +kernel)
set_option maxRecDepth 20000 in
theorem gX2_init_X0_init : GoodIn wsX2_init (wsX0_init) := ggX2_init_X0_init
theorem dX2_init_0 : decode cX2_init 0 = .ok (.aload_n 0, 1) := by decide +kernel
theorem dX2_init_1 : decode cX2_init 1 = .ok (.invokespecial 3, 3) := by decide +kernel
theorem dX2_init_4 : decode cX2_init 4 = .ok (.aload_n 0, 1) := by decide +kernel
theorem dX2_init_5 : decode cX2_init 5 = .ok (.iconst 5, 1) := by decide +kernel
theorem dX2_init_6 : decode cX2_init 6 = .ok (.anewarray 11, 3) := by decide +kernel
theorem dX2_init_9 : decode cX2_init 9 = .ok (.putfield 13, 3) := by decide +kernel
theorem dX2_init_12 : decode cX2_init 12 = .ok (.aload_n 0, 1) := by decide +kernel
theorem dX2_init_13 : decode cX2_init 13 = .ok (.iconst 0, 1) := by decide +kernel
theorem dX2_init_14 : decode cX2_init 14 = .ok (.putfield 17, 3) := by decide +kernel
theorem dX2_init_17 : decode cX2_init 17 = .ok (.aload_n 0, 1) := by decide +kernel
theorem dX2_init_18 : decode cX2_init 18 = .ok (.iconst 0, 1) := by decide +kernel
theorem dX2_init_19 : decode cX2_init 19 = .ok (.putfield 21, 3) := by decide +kernel
theorem dX2_init_22 : decode cX2_init 22 = .ok (.iconst 0, 1) := by decide +kernel
theorem dX2_init_23 : decode cX2_init 23 = .ok (.istore_n 1, 1) := by decide +kernel
theorem dX2_init_24 : decode cX2_init 24 = .ok (.iload_n 1, 1) := by decide +kernel
theorem dX2_init_25 : decode cX2_init 25 = .ok (.aload_n 0, 1) := by decide +kernel
theorem dX2_init_26 : decode cX2_init 26 = .ok (.getfield 13, 3) := by decide +kernel
theorem dX2_init_29 : decode cX2_init 29 = .ok (.arraylength, 1) := by decide +kernel
theorem dX2_init_30 : decode cX2_init 30 = .ok (.if_icmp .ge 22, 3) := by decide +kernel
theorem dX2_init_33 : decode cX2_init 33 = .ok (.aload_n 0, 1) := by decide +kernel
theorem dX2_init_34 : decode cX2_init 34 = .ok (.getfield 13, 3) := by decide +kernel
theorem dX2_init_37 : decode cX2_init 37 = .ok (.iload_n 1, 1) := by decide +kernel
theorem dX2_init_38 : decode cX2_init 38 = .ok (.new 11, 3) := by decide +kernel
theorem dX2_init_41 : decode cX2_init 41 = .ok (.dup, 1) := by decide +kernel
theorem dX2_init_42 : decode cX2_init 42 = .ok (.invokespecial 24, 3) := by decide +kernel
theorem dX2_init_45 : decode cX2_init 45 = .ok (.aastore, 1) := by decide +kernel
theorem dX2_init_46 : decode cX2_init 46 = .ok (.iinc 1 1, 3) := by decide +kernel
theorem dX2_init_49 : decode cX2_init 49 = .ok (.goto (-25), 3) := by decide +kernel
theorem dX2_init_52 : decode cX2_init 52 = .ok (.return_, 1) := by decide +kernel
theorem dX2_stateCount_0 : decode cX2_stateCount 0 = .ok (.aload_n 0, 1) := by decide +kernel
theorem dX2_stateCount_1 : decode cX2_stateCount 1 = .ok (.getfield 21, 3) := by decide +kernel
theorem dX2_stateCount_4 : decode cX2_stateCount 4 = .ok (.ireturn, 1) := by decide +kernel
set_option maxRecDepth 20000 in
theorem ggX2_recordState_X2_stateAt : GoodIn wsX2_recordState wsX2_stateAt := goodIn_r _ [6, 7, 8, 31, 32, 33] (by decide +kernel) (by decide +kernel)
set_option maxRecDepth 20000 in
theorem gX2_recordState_X2_stateAt : GoodIn wsX2_recordState (wsV RX2 25 RX2 yX2_stateAt wsX2_stateAt) := goodIn_app (goodIn_of _ (by decide +kernel)) ggX2_recordState_X2_stateAt
set_option maxRecDepth 20000 in
theorem ggX2_recordState_X0_copyFrom : GoodIn wsX2_recordState wsX0_copyFrom := goodIn_r _ [13, 14, 15, 16, 17, 18, 19, 20, 21, 22, 23, 24, 25, 26, 27, 28, 29, 30, 34, 35, 36, 37, 38, 39, 40, 41, 42, 43] (by decide +kernel) (by decide +kernel)
set_option maxRecDepth 20000 in
theorem gX2_recordState_X0_copyFrom : GoodIn wsX2_recordState (wsV RX2 29 RX0 yX0_copyFrom wsX0_copyFrom) := goodIn_app (goodIn_of _ (by decide +kernel)) ggX2_recordState_X0_copyFrom
theorem dX2_recordState_0 : decode cX2_recordState 0 = .ok (.aload_n 0, 1) := by decide +kernel
theorem dX2_recordState_1 : decode cX2_recordState 1 = .ok (.aload_n 0, 1) := by decide +kernel
theorem dX2_recordState_2 : decode cX2_recordState 2 = .ok (.getfield 21, 3) := by decide +kernel
theorem dX2_recordState_5 : decode cX2_recordState 5 = .ok (.invokevirtual 25, 3) := by decide +kernel
theorem dX2_recordState_8 : decode cX2_recordState 8 = .ok (.astore_n 2, 1) := by decide +kernel
theorem dX2_recordState_9 : decode cX2_recordState 9 = .ok (.aload_n 2, 1) := by decide +kernel
theorem dX2_recordState_10 : decode cX2_recordState 10 = .ok (.ifnull 8, 3) := by decide +kernel
theorem dX2_recordState_13 : decode cX2_recordState 13 = .ok (.aload_n 2, 1) := by decide +kernel
theorem dX2_recordState_14 : decode cX2_recordState 14 = .ok (.aload_n 1, 1) := by decide +kernel
theorem dX2_recordState_15 : decode cX2_recordState 15 = .ok (.invokevirtual 29, 3) := by decide +kernel
theorem dX2_recordState_18 : decode cX2_recordState 18 = .ok (.return_, 1) := by decide +kernel
set_option maxRecDepth 20000 in
theorem ggX2_returnToRecord_X2_stateAt : GoodIn wsX2_returnToRecord wsX2_stateAt := goodIn_r _ [6, 7, 8, 31, 32, 33] (by decide +kernel) (by decide +kernel)
set_option maxRecDepth 20000 in
theorem gX2_returnToRecord_X2_stateAt : GoodIn wsX2_returnToRecord (wsV RX2 25 RX2 yX2_stateAt wsX2_stateAt) := goodIn_app (goodIn_of _ (by decide +kernel)) ggX2_returnToRecord_X2_stateAt
set_option maxRecDepth 20000 in
theorem ggX2_returnToRecord_X0_copyFrom : GoodIn wsX2_returnToRecord wsX0_copyFrom := goodIn_r _ [13, 14, 15, 16, 17, 18, 19, 20, 21, 22, 23, 24, 25, 26, 27, 28, 29, 30, 34, 35, 36, 37, 38, 39, 40, 41, 42, 43] (by decide +kernel) (by decide +kernel)
set_option maxRecDepth 20000 in
theorem gX2_returnToRecord_X0_copyFrom : GoodIn wsX2_returnToRecord (wsV RX2 29 RX0 yX0_copyFrom wsX0_copyFrom) := goodIn_app (goodIn_of _ (by decide +kernel)) ggX2_returnToRecord_X0_copyFrom
theorem dX2_returnToRecord_0 : decode cX2_returnToRecord 0 = .ok (.aload_n 0, 1) := by decide +kernel
theorem dX2_returnToRecord_1 : decode cX2_returnToRecord 1 = .ok (.aload_n 0, 1) := by decide +kernel
theorem dX2_returnToRecord_2 : decode cX2_returnToRecord 2 = .ok (.getfield 21, 3) := by decide +kernel
theorem dX2_returnToRecord_5 : decode cX2_returnToRecord 5 = .ok (.invokevirtual 25, 3) := by decide +kernel
theorem dX2_returnToRecord_8 : decode cX2_returnToRecord 8 = .ok (.astore_n 2, 1) := by decide +kernel
theorem dX2_returnToRecord_9 : decode cX2_returnToRecord 9 = .ok (.aload_n 2, 1) := by decide +kernel
theorem dX2_returnToRecord_10 : decode cX2_returnToRecord 10 = .ok (.ifnull 8, 3) := by decide +kernel
theorem dX2_returnToRecord_13 : decode cX2_returnToRecord 13 = .ok (.aload_n 1, 1) := by decide +kernel
theorem dX2_returnToRecord_14 : decode cX2_returnToRecord 14 = .ok (.aload_n 2, 1) := by decide +kernel
theorem dX2_returnToRecord_15 : decode cX2_returnToRecord 15 = .ok (.invokevirtual 29, 3) := by decide +kernel
theorem dX2_returnToRecord_18 : decode cX2_returnToRecord 18 = .ok (.return_, 1) := by decide +kernel
theorem dX2_keepRecord_0 : decode cX2_keepRecord 0 = .ok (.aload_n 0, 1) := by decide +kernel
theorem dX2_keepRecord_1 : decode cX2_keepRecord 1 = .ok (.getfield 21, 3) := by decide +kernel
theorem dX2_keepRecord_4 : decode cX2_keepRecord 4 = .ok (.iconst 4, 1) := by decide +kernel
theorem dX2_keepRecord_5 : decode cX2_keepRecord 5 = .ok (.if_icmp .ge 16, 3) := by decide +kernel
theorem dX2_keepRecord_8 : decode cX2_keepRecord 8 = .ok (.aload_n 0, 1) := by decide +kernel
theorem dX2_keepRecord_9 : decode cX2_keepRecord 9 = .ok (.dup, 1) := by decide +kernel
theorem dX2_keepRecord_10 : decode cX2_keepRecord 10 = .ok (.getfield 21, 3) := by decide +kernel
theorem dX2_keepRecord_13 : decode cX2_keepRecord 13 = .ok (.iconst 1, 1) := by decide +kernel
theorem dX2_keepRecord_14 : decode cX2_keepRecord 14 = .ok (.iadd, 1) := by decide +kernel
theorem dX2_keepRecord_15 : decode cX2_keepRecord 15 = .ok (.putfield 21, 3) := by decide +kernel
theorem dX2_keepRecord_18 : decode cX2_keepRecord 18 = .ok (.goto 15, 3) := by decide +kernel
theorem dX2_keepRecord_21 : decode cX2_keepRecord 21 = .ok (.aload_n 0, 1) := by decide +kernel
theorem dX2_keepRecord_22 : decode cX2_keepRecord 22 = .ok (.aload_n 0, 1) := by decide +kernel
theorem dX2_keepRecord_23 : decode cX2_keepRecord 23 = .ok (.getfield 17, 3) := by decide +kernel
theorem dX2_keepRecord_26 : decode cX2_keepRecord 26 = .ok (.iconst 1, 1) := by decide +kernel
theorem dX2_keepRecord_27 : decode cX2_keepRecord 27 = .ok (.iadd, 1) := by decide +kernel
theorem dX2_keepRecord_28 : decode cX2_keepRecord 28 = .ok (.iconst 5, 1) := by decide +kernel
theorem dX2_keepRecord_29 : decode cX2_keepRecord 29 = .ok (.irem, 1) := by decide +kernel
theorem dX2_keepRecord_30 : decode cX2_keepRecord 30 = .ok (.putfield 17, 3) := by decide +kernel
theorem dX2_keepRecord_33 : decode cX2_keepRecord 33 = .ok (.return_, 1) := by decide +kernel
set_option maxRecDepth 20000 in
theorem ggX2_restoreLatest_X2_returnToRecord : GoodIn wsX2_restoreLatest wsX2_returnToRecord := goodIn_r _ [6, 1, 7, 8, 9, 5, 10, 11, 12, 13, 14, 15, 16, 17, 18, 19, 20, 21, 22, 23, 24, 25, 26, 27, 28, 29, 30, 31, 32, 33, 34, 35, 36, 37, 38, 39, 40, 41, 42, 43, 44, 45, 46, 47] (by decide +kernel) (by decide +kernel)
set_option maxRecDepth 20000 in
theorem gX2_restoreLatest_X2_returnToRecord : GoodIn wsX2_restoreLatest (wsV RX2 33 RX2 yX2_returnToRecord wsX2_returnToRecord) := goodIn_app (goodIn_of _ (by decide +kernel)) ggX2_restoreLatest_X2_returnToRecord
theorem dX2_restoreLatest_0 : decode cX2_restoreLatest 0 = .ok (.aload_n 0, 1) := by decide +kernel
theorem dX2_restoreLatest_1 : decode cX2_restoreLatest 1 = .ok (.getfield 21, 3) := by decide +kernel
theorem dX2_restoreLatest_4 : decode cX2_restoreLatest 4 = .ok (.ifCond .le 18, 3) := by decide +kernel
theorem dX2_restoreLatest_7 : decode cX2_restoreLatest 7 = .ok (.aload_n 0, 1) := by decide +kernel
theorem dX2_restoreLatest_8 : decode cX2_restoreLatest 8 = .ok (.dup, 1) := by decide +kernel
theorem dX2_restoreLatest_9 : decode cX2_restoreLatest 9 = .ok (.getfield 21, 3) := by decide +kernel
theorem dX2_restoreLatest_12 : decode cX2_restoreLatest 12 = .ok (.iconst 1, 1) := by decide +kernel
theorem dX2_restoreLatest_13 : decode cX2_restoreLatest 13 = .ok (.isub, 1) := by decide +kernel
theorem dX2_restoreLatest_14 : decode cX2_restoreLatest 14 = .ok (.putfield 21, 3) := by decide +kernel
theorem dX2_restoreLatest_17 : decode cX2_restoreLatest 17 = .ok (.aload_n 0, 1) := by decide +kernel
theorem dX2_restoreLatest_18 : decode cX2_restoreLatest 18 = .ok (.aload_n 1, 1) := by decide +kernel
theorem dX2_restoreLatest_19 : decode cX2_restoreLatest 19 = .ok (.invokevirtual 33, 3) := by decide +kernel
theorem dX2_restoreLatest_22 : decode cX2_restoreLatest 22 = .ok (.return_, 1) := by decide +kernel
theorem dX2_stateAt_0 : decode cX2_stateAt 0 = .ok (.aload_n 0, 1) := by decide +kernel
theorem dX2_stateAt_1 : decode cX2_stateAt 1 = .ok (.getfield 17, 3) := by decide +kernel
theorem dX2_stateAt_4 : decode cX2_stateAt 4 = .ok (.iload_n 1, 1) := by decide +kernel
theorem dX2_stateAt_5 : decode cX2_stateAt 5 = .ok (.iadd, 1) := by decide +kernel
theorem dX2_stateAt_6 : decode cX2_stateAt 6 = .ok (.iconst 5, 1) := by decide +kernel
theorem dX2_stateAt_7 : decode cX2_stateAt 7 = .ok (.irem, 1) := by decide +kernel
theorem dX2_stateAt_8 : decode cX2_stateAt 8 = .ok (.istore_n 2, 1) := by decide +kernel
theorem dX2_stateAt_9 : decode cX2_stateAt 9 = .ok (.iload_n 2, 1) := by decide +kernel
theorem dX2_stateAt_10 : decode cX2_stateAt 10 = .ok (.ifCond .lt 21, 3) := by decide +kernel
theorem dX2_stateAt_13 : decode cX2_stateAt 13 = .ok (.iload_n 2, 1) := by decide +kernel
theorem dX2_stateAt_14 : decode cX2_stateAt 14 = .ok (.aload_n 0, 1) := by decide +kernel
theorem dX2_stateAt_15 : decode cX2_stateAt 15 = .ok (.getfield 13, 3) := by decide +kernel
theorem dX2_stateAt_18 : decode cX2_stateAt 18 = .ok (.arraylength, 1) := by decide +kernel
theorem dX2_stateAt_19 : decode cX2_stateAt 19 = .ok (.if_icmp .ge 12, 3) := by decide +kernel
theorem dX2_stateAt_22 : decode cX2_stateAt 22 = .ok (.aload_n 0, 1) := by decide +kernel
theorem dX2_stateAt_23 : decode cX2_stateAt 23 = .ok (.getfield 13, 3) := by decide +kernel
theorem dX2_stateAt_26 : decode cX2_stateAt 26 = .ok (.iload_n 2, 1) := by decide +kernel
theorem dX2_stateAt_27 : decode cX2_stateAt 27 = .ok (.aaload, 1) := by decide +kernel
theorem dX2_stateAt_28 : decode cX2_stateAt 28 = .ok (.goto 4, 3) := by decide +kernel
theorem dX2_stateAt_31 : decode cX2_stateAt 31 = .ok (.aconst_null, 1) := by decide +kernel
theorem dX2_stateAt_32 : decode cX2_stateAt 32 = .ok (.areturn, 1) := by decide +kernel
theorem dX3_init_0 : decode cX3_init 0 = .ok (.aload_n 0, 1) := by decide +kernel
theorem dX3_init_1 : decode cX3_init 1 = .ok (.invokespecial 3, 3) := by decide +kernel
theorem dX3_init_4 : decode cX3_init 4 = .ok (.aload_n 0, 1) := by decide +kernel
theorem dX3_init_5 : decode cX3_init 5 = .ok (.bipush 100, 2) := by decide +kernel
theorem dX3_init_7 : decode cX3_init 7 = .ok (.newarray .char, 2) := by decide +kernel
theorem dX3_init_9 : decode cX3_init 9 = .ok (.putfield 9, 3) := by decide +kernel
theorem dX3_init_12 : decode cX3_init 12 = .ok (.aload_n 0, 1) := by decide +kernel
theorem dX3_init_13 : decode cX3_init 13 = .ok (.iconst 0, 1) := by decide +kernel
theorem dX3_init_14 : decode cX3_init 14 = .ok (.putfield 15, 3) := by decide +kernel
theorem dX3_init_17 : decode cX3_init 17 = .ok (.return_, 1) := by decide +kernel
theorem dX3_characterCount_0 : decode cX3_characterCount 0 = .ok (.aload_n 0, 1) := by decide +kernel
theorem dX3_characterCount_1 : decode cX3_characterCount 1 = .ok (.getfield 15, 3) := by decide +kernel
theorem dX3_characterCount_4 : decode cX3_characterCount 4 = .ok (.ireturn, 1) := by decide +kernel
theorem dX3_appendCharacter_0 : decode cX3_appendCharacter 0 = .ok (.aload_n 0, 1) := by decide +kernel
theorem dX3_appendCharacter_1 : decode cX3_appendCharacter 1 = .ok (.getfield 15, 3) := by decide +kernel
theorem dX3_appendCharacter_4 : decode cX3_appendCharacter 4 = .ok (.ifCond .lt 35, 3) := by decide +kernel
theorem dX3_appendCharacter_7 : decode cX3_appendCharacter 7 = .ok (.aload_n 0, 1) := by decide +kernel
theorem dX3_appendCharacter_8 : decode cX3_appendCharacter 8 = .ok (.getfield 15, 3) := by decide +kernel
theorem dX3_appendCharacter_11 : decode cX3_appendCharacter 11 = .ok (.aload_n 0, 1) := by decide +kernel
theorem dX3_appendCharacter_12 : decode cX3_appendCharacter 12 = .ok (.getfield 9, 3) := by decide +kernel
theorem dX3_appendCharacter_15 : decode cX3_appendCharacter 15 = .ok (.arraylength, 1) := by decide +kernel
theorem dX3_appendCharacter_16 : decode cX3_appendCharacter 16 = .ok (.if_icmp .ge 23, 3) := by decide +kernel
theorem dX3_appendCharacter_19 : decode cX3_appendCharacter 19 = .ok (.aload_n 0, 1) := by decide +kernel
theorem dX3_appendCharacter_20 : decode cX3_appendCharacter 20 = .ok (.getfield 9, 3) := by decide +kernel
theorem dX3_appendCharacter_23 : decode cX3_appendCharacter 23 = .ok (.aload_n 0, 1) := by decide +kernel
theorem dX3_appendCharacter_24 : decode cX3_appendCharacter 24 = .ok (.getfield 15, 3) := by decide +kernel
theorem dX3_appendCharacter_27 : decode cX3_appendCharacter 27 = .ok (.iload_n 1, 1) := by decide +kernel
theorem dX3_appendCharacter_28 : decode cX3_appendCharacter 28 = .ok (.castore, 1) := by decide +kernel
theorem dX3_appendCharacter_29 : decode cX3_appendCharacter 29 = .ok (.aload_n 0, 1) := by decide +kernel
theorem dX3_appendCharacter_30 : decode cX3_appendCharacter 30 = .ok (.dup, 1) := by decide +kernel
theorem dX3_appendCharacter_31 : decode cX3_appendCharacter 31 = .ok (.getfield 15, 3) := by decide +kernel
theorem dX3_appendCharacter_34 : decode cX3_appendCharacter 34 = .ok (.iconst 1, 1) := by decide +kernel
theorem dX3_appendCharacter_35 : decode cX3_appendCharacter 35 = .ok (.iadd, 1) := by decide +kernel
theorem dX3_appendCharacter_36 : decode cX3_appendCharacter 36 = .ok (.putfield 15, 3) := by decide +kernel
theorem dX3_appendCharacter_39 : decode cX3_appendCharacter 39 = .ok (.return_, 1) := by decide +kernel
theorem dX3_removeAll_0 : decode cX3_removeAll 0 = .ok (.aload_n 0, 1) := by decide +kernel
theorem dX3_removeAll_1 : decode cX3_removeAll 1 = .ok (.iconst 0, 1) := by decide +kernel
theorem dX3_removeAll_2 : decode cX3_removeAll 2 = .ok (.putfield 15, 3) := by decide +kernel
theorem dX3_removeAll_5 : decode cX3_removeAll 5 = .ok (.return_, 1) := by decide +kernel
set_option maxRecDepth 20000 in
theorem ggX3_firstFault_X3_expectedAfter : GoodIn wsX3_firstFault wsX3_expectedAfter := goodIn_r _ [6, 7, 8, 5, 9, 10, 11, 12, 13, 14, 15] (by decide +kernel) (by decide +kernel)
set_option maxRecDepth 20000 in
theorem gX3_firstFault_X3_expectedAfter : GoodIn wsX3_firstFault (va_wsS RX3 19 yX3_expectedAfter wsX3_expectedAfter) := goodIn_app (goodIn_of _ (by decide +kernel)) ggX3_firstFault_X3_expectedAfter
theorem dX3_firstFault_0 : decode cX3_firstFault 0 = .ok (.iconst 0, 1) := by decide +kernel
theorem dX3_firstFault_1 : decode cX3_firstFault 1 = .ok (.istore_n 1, 1) := by decide +kernel
theorem dX3_firstFault_2 : decode cX3_firstFault 2 = .ok (.iconst 0, 1) := by decide +kernel
theorem dX3_firstFault_3 : decode cX3_firstFault 3 = .ok (.istore_n 2, 1) := by decide +kernel
theorem dX3_firstFault_4 : decode cX3_firstFault 4 = .ok (.iload_n 2, 1) := by decide +kernel
theorem dX3_firstFault_5 : decode cX3_firstFault 5 = .ok (.aload_n 0, 1) := by decide +kernel
theorem dX3_firstFault_6 : decode cX3_firstFault 6 = .ok (.getfield 15, 3) := by decide +kernel
theorem dX3_firstFault_9 : decode cX3_firstFault 9 = .ok (.if_icmp .ge 36, 3) := by decide +kernel
theorem dX3_firstFault_12 : decode cX3_firstFault 12 = .ok (.iload_n 2, 1) := by decide +kernel
theorem dX3_firstFault_13 : decode cX3_firstFault 13 = .ok (.aload_n 0, 1) := by decide +kernel
theorem dX3_firstFault_14 : decode cX3_firstFault 14 = .ok (.getfield 9, 3) := by decide +kernel
theorem dX3_firstFault_17 : decode cX3_firstFault 17 = .ok (.arraylength, 1) := by decide +kernel
theorem dX3_firstFault_18 : decode cX3_firstFault 18 = .ok (.if_icmp .ge 27, 3) := by decide +kernel
theorem dX3_firstFault_21 : decode cX3_firstFault 21 = .ok (.iload_n 1, 1) := by decide +kernel
theorem dX3_firstFault_22 : decode cX3_firstFault 22 = .ok (.aload_n 0, 1) := by decide +kernel
theorem dX3_firstFault_23 : decode cX3_firstFault 23 = .ok (.getfield 9, 3) := by decide +kernel
theorem dX3_firstFault_26 : decode cX3_firstFault 26 = .ok (.iload_n 2, 1) := by decide +kernel
theorem dX3_firstFault_27 : decode cX3_firstFault 27 = .ok (.caload, 1) := by decide +kernel
theorem dX3_firstFault_28 : decode cX3_firstFault 28 = .ok (.invokestatic 19, 3) := by decide +kernel
theorem dX3_firstFault_31 : decode cX3_firstFault 31 = .ok (.istore_n 1, 1) := by decide +kernel
theorem dX3_firstFault_32 : decode cX3_firstFault 32 = .ok (.iload_n 1, 1) := by decide +kernel
theorem dX3_firstFault_33 : decode cX3_firstFault 33 = .ok (.iconst 5, 1) := by decide +kernel
theorem dX3_firstFault_34 : decode cX3_firstFault 34 = .ok (.if_icmp .ne 5, 3) := by decide +kernel
theorem dX3_firstFault_37 : decode cX3_firstFault 37 = .ok (.iload_n 2, 1) := by decide +kernel
theorem dX3_firstFault_38 : decode cX3_firstFault 38 = .ok (.ireturn, 1) := by decide +kernel
theorem dX3_firstFault_39 : decode cX3_firstFault 39 = .ok (.iinc 2 1, 3) := by decide +kernel
theorem dX3_firstFault_42 : decode cX3_firstFault 42 = .ok (.goto (-38), 3) := by decide +kernel
theorem dX3_firstFault_45 : decode cX3_firstFault 45 = .ok (.iload_n 1, 1) := by decide +kernel
theorem dX3_firstFault_46 : decode cX3_firstFault 46 = .ok (.ifCond .ne 8, 3) := by decide +kernel
theorem dX3_firstFault_49 : decode cX3_firstFault 49 = .ok (.bipush (-4), 2) := by decide +kernel
theorem dX3_firstFault_51 : decode cX3_firstFault 51 = .ok (.goto 7, 3) := by decide +kernel
theorem dX3_firstFault_54 : decode cX3_firstFault 54 = .ok (.aload_n 0, 1) := by decide +kernel
theorem dX3_firstFault_55 : decode cX3_firstFault 55 = .ok (.getfield 15, 3) := by decide +kernel
theorem dX3_firstFault_58 : decode cX3_firstFault 58 = .ok (.ireturn, 1) := by decide +kernel
set_option maxRecDepth 20000 in
theorem ggX3_takeInto_X3_sideNamed : GoodIn wsX3_takeInto wsX3_sideNamed := goodIn_r _ [6] (by decide +kernel) (by decide +kernel)
set_option maxRecDepth 20000 in
theorem gX3_takeInto_X3_sideNamed : GoodIn wsX3_takeInto (va_wsS RX3 23 yX3_sideNamed wsX3_sideNamed) := goodIn_app (goodIn_of _ (by decide +kernel)) ggX3_takeInto_X3_sideNamed
set_option maxRecDepth 20000 in
theorem ggX3_takeInto_X0_putSign : GoodIn wsX3_takeInto wsX0_putSign := goodIn_r _ [11, 12, 13, 14, 10, 15, 16, 17, 18, 29, 30, 31, 32, 33, 34, 35, 36, 37, 38] (by decide +kernel) (by decide +kernel)
set_option maxRecDepth 20000 in
theorem gX3_takeInto_X0_putSign : GoodIn wsX3_takeInto (wsV RX3 27 RX0 yX0_putSign wsX0_putSign) := goodIn_app (goodIn_of _ (by decide +kernel)) ggX3_takeInto_X0_putSign
set_option maxRecDepth 20000 in
theorem ggX3_takeInto_X3_expectedAfter : GoodIn wsX3_takeInto wsX3_expectedAfter := goodIn_r _ [21, 3, 4, 5, 6, 22, 17, 23, 24, 25, 26] (by decide +kernel) (by decide +kernel)
set_option maxRecDepth 20000 in
theorem gX3_takeInto_X3_expectedAfter : GoodIn wsX3_takeInto (va_wsS RX3 19 yX3_expectedAfter wsX3_expectedAfter) := goodIn_app (goodIn_of _ (by decide +kernel)) ggX3_takeInto_X3_expectedAfter
theorem dX3_takeInto_0 : decode cX3_takeInto 0 = .ok (.iconst 0, 1) := by decide +kernel
theorem dX3_takeInto_1 : decode cX3_takeInto 1 = .ok (.istore_n 3, 1) := by decide +kernel
theorem dX3_takeInto_2 : decode cX3_takeInto 2 = .ok (.iconst 0, 1) := by decide +kernel
theorem dX3_takeInto_3 : decode cX3_takeInto 3 = .ok (.istore 4, 2) := by decide +kernel
theorem dX3_takeInto_5 : decode cX3_takeInto 5 = .ok (.iconst 0, 1) := by decide +kernel
theorem dX3_takeInto_6 : decode cX3_takeInto 6 = .ok (.istore 5, 2) := by decide +kernel
theorem dX3_takeInto_8 : decode cX3_takeInto 8 = .ok (.bipush 10, 2) := by decide +kernel
theorem dX3_takeInto_10 : decode cX3_takeInto 10 = .ok (.istore 6, 2) := by decide +kernel
theorem dX3_takeInto_12 : decode cX3_takeInto 12 = .ok (.iconst 0, 1) := by decide +kernel
theorem dX3_takeInto_13 : decode cX3_takeInto 13 = .ok (.istore 7, 2) := by decide +kernel
theorem dX3_takeInto_15 : decode cX3_takeInto 15 = .ok (.iconst 0, 1) := by decide +kernel
theorem dX3_takeInto_16 : decode cX3_takeInto 16 = .ok (.istore 8, 2) := by decide +kernel
theorem dX3_takeInto_18 : decode cX3_takeInto 18 = .ok (.iload 8, 2) := by decide +kernel
theorem dX3_takeInto_20 : decode cX3_takeInto 20 = .ok (.aload_n 0, 1) := by decide +kernel
theorem dX3_takeInto_21 : decode cX3_takeInto 21 = .ok (.getfield 15, 3) := by decide +kernel
theorem dX3_takeInto_24 : decode cX3_takeInto 24 = .ok (.if_icmp .ge 103, 3) := by decide +kernel
theorem dX3_takeInto_27 : decode cX3_takeInto 27 = .ok (.iload 8, 2) := by decide +kernel
theorem dX3_takeInto_29 : decode cX3_takeInto 29 = .ok (.aload_n 0, 1) := by decide +kernel
theorem dX3_takeInto_30 : decode cX3_takeInto 30 = .ok (.getfield 9, 3) := by decide +kernel
theorem dX3_takeInto_33 : decode cX3_takeInto 33 = .ok (.arraylength, 1) := by decide +kernel
theorem dX3_takeInto_34 : decode cX3_takeInto 34 = .ok (.if_icmp .ge 93, 3) := by decide +kernel
theorem dX3_takeInto_37 : decode cX3_takeInto 37 = .ok (.aload_n 0, 1) := by decide +kernel
theorem dX3_takeInto_38 : decode cX3_takeInto 38 = .ok (.getfield 9, 3) := by decide +kernel
theorem dX3_takeInto_41 : decode cX3_takeInto 41 = .ok (.iload 8, 2) := by decide +kernel
theorem dX3_takeInto_43 : decode cX3_takeInto 43 = .ok (.caload, 1) := by decide +kernel
theorem dX3_takeInto_44 : decode cX3_takeInto 44 = .ok (.istore 9, 2) := by decide +kernel
theorem dX3_takeInto_46 : decode cX3_takeInto 46 = .ok (.iload_n 3, 1) := by decide +kernel
theorem dX3_takeInto_47 : decode cX3_takeInto 47 = .ok (.ifCond .ne 17, 3) := by decide +kernel
theorem dX3_takeInto_50 : decode cX3_takeInto 50 = .ok (.iload 9, 2) := by decide +kernel
theorem dX3_takeInto_52 : decode cX3_takeInto 52 = .ok (.invokestatic 23, 3) := by decide +kernel
theorem dX3_takeInto_55 : decode cX3_takeInto 55 = .ok (.istore 4, 2) := by decide +kernel
theorem dX3_takeInto_57 : decode cX3_takeInto 57 = .ok (.bipush 10, 2) := by decide +kernel
theorem dX3_takeInto_59 : decode cX3_takeInto 59 = .ok (.istore 6, 2) := by decide +kernel
theorem dX3_takeInto_61 : decode cX3_takeInto 61 = .ok (.goto 53, 3) := by decide +kernel
theorem dX3_takeInto_64 : decode cX3_takeInto 64 = .ok (.iload_n 3, 1) := by decide +kernel
theorem dX3_takeInto_65 : decode cX3_takeInto 65 = .ok (.iconst 1, 1) := by decide +kernel
theorem dX3_takeInto_66 : decode cX3_takeInto 66 = .ok (.if_icmp .ne 13, 3) := by decide +kernel
theorem dX3_takeInto_69 : decode cX3_takeInto 69 = .ok (.iload 9, 2) := by decide +kernel
theorem dX3_takeInto_71 : decode cX3_takeInto 71 = .ok (.bipush 48, 2) := by decide +kernel
theorem dX3_takeInto_73 : decode cX3_takeInto 73 = .ok (.isub, 1) := by decide +kernel
theorem dX3_takeInto_74 : decode cX3_takeInto 74 = .ok (.istore 5, 2) := by decide +kernel
theorem dX3_takeInto_76 : decode cX3_takeInto 76 = .ok (.goto 38, 3) := by decide +kernel
theorem dX3_takeInto_79 : decode cX3_takeInto 79 = .ok (.iload_n 3, 1) := by decide +kernel
theorem dX3_takeInto_80 : decode cX3_takeInto 80 = .ok (.iconst 3, 1) := by decide +kernel
theorem dX3_takeInto_81 : decode cX3_takeInto 81 = .ok (.if_icmp .ne 13, 3) := by decide +kernel
theorem dX3_takeInto_84 : decode cX3_takeInto 84 = .ok (.iload 9, 2) := by decide +kernel
theorem dX3_takeInto_86 : decode cX3_takeInto 86 = .ok (.bipush 48, 2) := by decide +kernel
theorem dX3_takeInto_88 : decode cX3_takeInto 88 = .ok (.isub, 1) := by decide +kernel
theorem dX3_takeInto_89 : decode cX3_takeInto 89 = .ok (.istore 6, 2) := by decide +kernel
theorem dX3_takeInto_91 : decode cX3_takeInto 91 = .ok (.goto 23, 3) := by decide +kernel
theorem dX3_takeInto_94 : decode cX3_takeInto 94 = .ok (.iload_n 3, 1) := by decide +kernel
theorem dX3_takeInto_95 : decode cX3_takeInto 95 = .ok (.iconst 4, 1) := by decide +kernel
theorem dX3_takeInto_96 : decode cX3_takeInto 96 = .ok (.if_icmp .ne 18, 3) := by decide +kernel
theorem dX3_takeInto_99 : decode cX3_takeInto 99 = .ok (.aload_n 1, 1) := by decide +kernel
theorem dX3_takeInto_100 : decode cX3_takeInto 100 = .ok (.iload_n 2, 1) := by decide +kernel
theorem dX3_takeInto_101 : decode cX3_takeInto 101 = .ok (.iload 4, 2) := by decide +kernel
theorem dX3_takeInto_103 : decode cX3_takeInto 103 = .ok (.iload 5, 2) := by decide +kernel
theorem dX3_takeInto_105 : decode cX3_takeInto 105 = .ok (.iload 6, 2) := by decide +kernel
theorem dX3_takeInto_107 : decode cX3_takeInto 107 = .ok (.invokevirtual 27, 3) := by decide +kernel
theorem dX3_takeInto_110 : decode cX3_takeInto 110 = .ok (.pop, 1) := by decide +kernel
theorem dX3_takeInto_111 : decode cX3_takeInto 111 = .ok (.iinc 7 1, 3) := by decide +kernel
theorem dX3_takeInto_114 : decode cX3_takeInto 114 = .ok (.iload_n 3, 1) := by decide +kernel
theorem dX3_takeInto_115 : decode cX3_takeInto 115 = .ok (.iload 9, 2) := by decide +kernel
theorem dX3_takeInto_117 : decode cX3_takeInto 117 = .ok (.invokestatic 19, 3) := by decide +kernel
theorem dX3_takeInto_120 : decode cX3_takeInto 120 = .ok (.istore_n 3, 1) := by decide +kernel
theorem dX3_takeInto_121 : decode cX3_takeInto 121 = .ok (.iinc 8 1, 3) := by decide +kernel
theorem dX3_takeInto_124 : decode cX3_takeInto 124 = .ok (.goto (-106), 3) := by decide +kernel
theorem dX3_takeInto_127 : decode cX3_takeInto 127 = .ok (.iload 7, 2) := by decide +kernel
theorem dX3_takeInto_129 : decode cX3_takeInto 129 = .ok (.ireturn, 1) := by decide +kernel
set_option maxRecDepth 20000 in
theorem ggX3_expectedAfter_X3_sideNamed : GoodIn wsX3_expectedAfter wsX3_sideNamed := goodIn_r _ [4] (by decide +kernel) (by decide +kernel)
set_option maxRecDepth 20000 in
theorem gX3_expectedAfter_X3_sideNamed : GoodIn wsX3_expectedAfter (va_wsS RX3 23 yX3_sideNamed wsX3_sideNamed) := goodIn_app (goodIn_of _ (by decide +kernel)) ggX3_expectedAfter_X3_sideNamed
set_option maxRecDepth 20000 in
theorem ggX3_expectedAfter_X4_isDigit : GoodIn wsX3_expectedAfter wsX4_isDigit := goodIn_r _ [7, 8, 9, 6, 10] (by decide +kernel) (by decide +kernel)
set_option maxRecDepth 20000 in
theorem gX3_expectedAfter_X4_isDigit_n33 : GoodIn wsX3_expectedAfter (wsX4_isDigit) := ggX3_expectedAfter_X4_isDigit
theorem dX3_expectedAfter_0 : decode cX3_expectedAfter 0 = .ok (.iload_n 0, 1) := by decide +kernel
theorem dX3_expectedAfter_1 : decode cX3_expectedAfter 1 = .ok (.tableswitch 114 0 4 #[35, 50, 66, 86, 102], 35) := by decide +kernel
theorem dX3_expectedAfter_36 : decode cX3_expectedAfter 36 = .ok (.iload_n 1, 1) := by decide +kernel
theorem dX3_expectedAfter_37 : decode cX3_expectedAfter 37 = .ok (.invokestatic 23, 3) := by decide +kernel
theorem dX3_expectedAfter_40 : decode cX3_expectedAfter 40 = .ok (.bipush (-4), 2) := by decide +kernel
theorem dX3_expectedAfter_42 : decode cX3_expectedAfter 42 = .ok (.if_icmp .ne 7, 3) := by decide +kernel
theorem dX3_expectedAfter_45 : decode cX3_expectedAfter 45 = .ok (.iconst 5, 1) := by decide +kernel
theorem dX3_expectedAfter_46 : decode cX3_expectedAfter 46 = .ok (.goto 4, 3) := by decide +kernel
theorem dX3_expectedAfter_49 : decode cX3_expectedAfter 49 = .ok (.iconst 1, 1) := by decide +kernel
theorem dX3_expectedAfter_50 : decode cX3_expectedAfter 50 = .ok (.ireturn, 1) := by decide +kernel
theorem dX3_expectedAfter_51 : decode cX3_expectedAfter 51 = .ok (.iload_n 1, 1) := by decide +kernel
theorem dX3_expectedAfter_52 : decode cX3_expectedAfter 52 = .ok (.bipush 48, 2) := by decide +kernel
theorem dX3_expectedAfter_54 : decode cX3_expectedAfter 54 = .ok (.isub, 1) := by decide +kernel
theorem dX3_expectedAfter_55 : decode cX3_expectedAfter 55 = .ok (.invokestatic 33, 3) := by decide +kernel
theorem dX3_expectedAfter_58 : decode cX3_expectedAfter 58 = .ok (.ifCond .eq 7, 3) := by decide +kernel
theorem dX3_expectedAfter_61 : decode cX3_expectedAfter 61 = .ok (.iconst 2, 1) := by decide +kernel
theorem dX3_expectedAfter_62 : decode cX3_expectedAfter 62 = .ok (.goto 4, 3) := by decide +kernel
theorem dX3_expectedAfter_65 : decode cX3_expectedAfter 65 = .ok (.iconst 5, 1) := by decide +kernel
theorem dX3_expectedAfter_66 : decode cX3_expectedAfter 66 = .ok (.ireturn, 1) := by decide +kernel
theorem dX3_expectedAfter_67 : decode cX3_expectedAfter 67 = .ok (.iload_n 1, 1) := by decide +kernel
theorem dX3_expectedAfter_68 : decode cX3_expectedAfter 68 = .ok (.bipush 45, 2) := by decide +kernel
theorem dX3_expectedAfter_70 : decode cX3_expectedAfter 70 = .ok (.if_icmp .ne 5, 3) := by decide +kernel
theorem dX3_expectedAfter_73 : decode cX3_expectedAfter 73 = .ok (.iconst 4, 1) := by decide +kernel
theorem dX3_expectedAfter_74 : decode cX3_expectedAfter 74 = .ok (.ireturn, 1) := by decide +kernel
theorem dX3_expectedAfter_75 : decode cX3_expectedAfter 75 = .ok (.iload_n 1, 1) := by decide +kernel
theorem dX3_expectedAfter_76 : decode cX3_expectedAfter 76 = .ok (.bipush 61, 2) := by decide +kernel
theorem dX3_expectedAfter_78 : decode cX3_expectedAfter 78 = .ok (.if_icmp .ne 7, 3) := by decide +kernel
theorem dX3_expectedAfter_81 : decode cX3_expectedAfter 81 = .ok (.iconst 3, 1) := by decide +kernel
theorem dX3_expectedAfter_82 : decode cX3_expectedAfter 82 = .ok (.goto 4, 3) := by decide +kernel
theorem dX3_expectedAfter_85 : decode cX3_expectedAfter 85 = .ok (.iconst 5, 1) := by decide +kernel
theorem dX3_expectedAfter_86 : decode cX3_expectedAfter 86 = .ok (.ireturn, 1) := by decide +kernel
theorem dX3_expectedAfter_87 : decode cX3_expectedAfter 87 = .ok (.iload_n 1, 1) := by decide +kernel
theorem dX3_expectedAfter_88 : decode cX3_expectedAfter 88 = .ok (.bipush 48, 2) := by decide +kernel
theorem dX3_expectedAfter_90 : decode cX3_expectedAfter 90 = .ok (.isub, 1) := by decide +kernel
theorem dX3_expectedAfter_91 : decode cX3_expectedAfter 91 = .ok (.invokestatic 33, 3) := by decide +kernel
theorem dX3_expectedAfter_94 : decode cX3_expectedAfter 94 = .ok (.ifCond .eq 7, 3) := by decide +kernel
theorem dX3_expectedAfter_97 : decode cX3_expectedAfter 97 = .ok (.iconst 4, 1) := by decide +kernel
theorem dX3_expectedAfter_98 : decode cX3_expectedAfter 98 = .ok (.goto 4, 3) := by decide +kernel
theorem dX3_expectedAfter_101 : decode cX3_expectedAfter 101 = .ok (.iconst 5, 1) := by decide +kernel
theorem dX3_expectedAfter_102 : decode cX3_expectedAfter 102 = .ok (.ireturn, 1) := by decide +kernel
theorem dX3_expectedAfter_103 : decode cX3_expectedAfter 103 = .ok (.iload_n 1, 1) := by decide +kernel
theorem dX3_expectedAfter_104 : decode cX3_expectedAfter 104 = .ok (.bipush 59, 2) := by decide +kernel
theorem dX3_expectedAfter_106 : decode cX3_expectedAfter 106 = .ok (.if_icmp .ne 7, 3) := by decide +kernel
theorem dX3_expectedAfter_109 : decode cX3_expectedAfter 109 = .ok (.iconst 0, 1) := by decide +kernel
theorem dX3_expectedAfter_110 : decode cX3_expectedAfter 110 = .ok (.goto 4, 3) := by decide +kernel
theorem dX3_expectedAfter_113 : decode cX3_expectedAfter 113 = .ok (.iconst 5, 1) := by decide +kernel
theorem dX3_expectedAfter_114 : decode cX3_expectedAfter 114 = .ok (.ireturn, 1) := by decide +kernel
theorem dX3_expectedAfter_115 : decode cX3_expectedAfter 115 = .ok (.iconst 5, 1) := by decide +kernel
theorem dX3_expectedAfter_116 : decode cX3_expectedAfter 116 = .ok (.ireturn, 1) := by decide +kernel
theorem dX3_sideNamed_0 : decode cX3_sideNamed 0 = .ok (.iload_n 0, 1) := by decide +kernel
theorem dX3_sideNamed_1 : decode cX3_sideNamed 1 = .ok (.lookupswitch 51 #[(101, 45), (110, 43), (115, 47), (119, 49)], 43) := by decide +kernel
theorem dX3_sideNamed_44 : decode cX3_sideNamed 44 = .ok (.iconst 0, 1) := by decide +kernel
theorem dX3_sideNamed_45 : decode cX3_sideNamed 45 = .ok (.ireturn, 1) := by decide +kernel
theorem dX3_sideNamed_46 : decode cX3_sideNamed 46 = .ok (.iconst 1, 1) := by decide +kernel
theorem dX3_sideNamed_47 : decode cX3_sideNamed 47 = .ok (.ireturn, 1) := by decide +kernel
theorem dX3_sideNamed_48 : decode cX3_sideNamed 48 = .ok (.iconst 2, 1) := by decide +kernel
theorem dX3_sideNamed_49 : decode cX3_sideNamed 49 = .ok (.ireturn, 1) := by decide +kernel
theorem dX3_sideNamed_50 : decode cX3_sideNamed 50 = .ok (.iconst 3, 1) := by decide +kernel
theorem dX3_sideNamed_51 : decode cX3_sideNamed 51 = .ok (.ireturn, 1) := by decide +kernel
theorem dX3_sideNamed_52 : decode cX3_sideNamed 52 = .ok (.bipush (-4), 2) := by decide +kernel
theorem dX3_sideNamed_54 : decode cX3_sideNamed 54 = .ok (.ireturn, 1) := by decide +kernel
theorem dJ9_max_7cf53_0 : decode cJ9_max_7cf53 0 = .ok (.iload_n 0, 1) := by decide +kernel
theorem dJ9_max_7cf53_1 : decode cJ9_max_7cf53 1 = .ok (.iload_n 1, 1) := by decide +kernel
theorem dJ9_max_7cf53_2 : decode cJ9_max_7cf53 2 = .ok (.if_icmp .lt 7, 3) := by decide +kernel
theorem dJ9_max_7cf53_5 : decode cJ9_max_7cf53 5 = .ok (.iload_n 0, 1) := by decide +kernel
theorem dJ9_max_7cf53_6 : decode cJ9_max_7cf53 6 = .ok (.goto 4, 3) := by decide +kernel
theorem dJ9_max_7cf53_9 : decode cJ9_max_7cf53 9 = .ok (.iload_n 1, 1) := by decide +kernel
theorem dJ9_max_7cf53_10 : decode cJ9_max_7cf53 10 = .ok (.ireturn, 1) := by decide +kernel
theorem dJ9_min_7cf53_0 : decode cJ9_min_7cf53 0 = .ok (.iload_n 0, 1) := by decide +kernel
theorem dJ9_min_7cf53_1 : decode cJ9_min_7cf53 1 = .ok (.iload_n 1, 1) := by decide +kernel
theorem dJ9_min_7cf53_2 : decode cJ9_min_7cf53 2 = .ok (.if_icmp .gt 7, 3) := by decide +kernel
theorem dJ9_min_7cf53_5 : decode cJ9_min_7cf53 5 = .ok (.iload_n 0, 1) := by decide +kernel
theorem dJ9_min_7cf53_6 : decode cJ9_min_7cf53 6 = .ok (.goto 4, 3) := by decide +kernel
theorem dJ9_min_7cf53_9 : decode cJ9_min_7cf53 9 = .ok (.iload_n 1, 1) := by decide +kernel
theorem dJ9_min_7cf53_10 : decode cJ9_min_7cf53 10 = .ok (.ireturn, 1) := by decide +kernel
theorem dJ7_fill_53178_0 : decode cJ7_fill_53178 0 = .ok (.iconst 0, 1) := by decide +kernel
theorem dJ7_fill_53178_1 : decode cJ7_fill_53178 1 = .ok (.istore_n 2, 1) := by decide +kernel
theorem dJ7_fill_53178_2 : decode cJ7_fill_53178 2 = .ok (.aload_n 0, 1) := by decide +kernel
theorem dJ7_fill_53178_3 : decode cJ7_fill_53178 3 = .ok (.arraylength, 1) := by decide +kernel
theorem dJ7_fill_53178_4 : decode cJ7_fill_53178 4 = .ok (.istore_n 3, 1) := by decide +kernel
theorem dJ7_fill_53178_5 : decode cJ7_fill_53178 5 = .ok (.iload_n 2, 1) := by decide +kernel
theorem dJ7_fill_53178_6 : decode cJ7_fill_53178 6 = .ok (.iload_n 3, 1) := by decide +kernel
theorem dJ7_fill_53178_7 : decode cJ7_fill_53178 7 = .ok (.if_icmp .ge 13, 3) := by decide +kernel
theorem dJ7_fill_53178_10 : decode cJ7_fill_53178 10 = .ok (.aload_n 0, 1) := by decide +kernel
theorem dJ7_fill_53178_11 : decode cJ7_fill_53178 11 = .ok (.iload_n 2, 1) := by decide +kernel
theorem dJ7_fill_53178_12 : decode cJ7_fill_53178 12 = .ok (.iload_n 1, 1) := by decide +kernel
theorem dJ7_fill_53178_13 : decode cJ7_fill_53178 13 = .ok (.iastore, 1) := by decide +kernel
theorem dJ7_fill_53178_14 : decode cJ7_fill_53178 14 = .ok (.iinc 2 1, 3) := by decide +kernel
theorem dJ7_fill_53178_17 : decode cJ7_fill_53178 17 = .ok (.goto (-12), 3) := by decide +kernel
theorem dJ7_fill_53178_20 : decode cJ7_fill_53178 20 = .ok (.return_, 1) := by decide +kernel
