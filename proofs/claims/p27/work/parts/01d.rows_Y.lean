theorem inlX1 : ∀ w ∈ wsX10, w ∈ wsL_law := fun _ h => List.mem_append_left _ (List.mem_append_left _ (List.mem_append_right _ h))
theorem inX1 : ∀ w ∈ wsX10, w ∈ lw_tbl := fun w h => wsL_law_in w (inlX1 w h)
theorem inlX2 : ∀ w ∈ wsX20, w ∈ wsL_law := fun _ h => List.mem_append_left _ (List.mem_append_left _ (List.mem_append_left _ (List.mem_append_right _ h)))
theorem inX2 : ∀ w ∈ wsX20, w ∈ lw_tbl := fun w h => wsL_law_in w (inlX2 w h)
theorem inlX3 : ∀ w ∈ wsX30, w ∈ wsL_law := fun _ h => List.mem_append_left _ (List.mem_append_right _ h)
theorem inX3 : ∀ w ∈ wsX30, w ∈ lw_tbl := fun w h => wsL_law_in w (inlX3 w h)
theorem inJ9 : ∀ w ∈ wsJ90, w ∈ lw_tbl := by decide +kernel
theorem inJ10 : ∀ w ∈ wsJ100, w ∈ lw_tbl := by decide +kernel
theorem inJ7 : ∀ w ∈ wsJ70, w ∈ lw_tbl := by decide +kernel
theorem dX1_init_0 : decode cX1_init 0 = .ok (.aload_n 0, 1) := by decide +kernel
theorem dX1_init_1 : decode cX1_init 1 = .ok (.invokespecial 3, 3) := by decide +kernel
theorem dX1_init_4 : decode cX1_init 4 = .ok (.aload_n 0, 1) := by decide +kernel
theorem dX1_init_5 : decode cX1_init 5 = .ok (.bipush 36, 2) := by decide +kernel
theorem dX1_init_7 : decode cX1_init 7 = .ok (.newarray .int, 2) := by decide +kernel
theorem dX1_init_9 : decode cX1_init 9 = .ok (.putfield 9, 3) := by decide +kernel
theorem dX1_init_12 : decode cX1_init 12 = .ok (.return_, 1) := by decide +kernel
set_option maxRecDepth 20000 in
theorem ggX1_find_X0_edgeCount : GoodIn wsX1_find wsX0_edgeCount := goodIn_r _ [13, 14, 15, 16, 17, 18, 12, 19, 51, 52, 53, 54, 55, 56, 57, 58, 59, 60] (by decide +kernel) (by decide +kernel)
set_option maxRecDepth 20000 in
theorem gX1_find_X0_edgeCount : GoodIn wsX1_find (wsV RX1 15 RX0 yX0_edgeCount wsX0_edgeCount) := goodIn_app (goodIn_of _ (by decide +kernel)) ggX1_find_X0_edgeCount
set_option maxRecDepth 20000 in
theorem ggX1_find_X0_sheetCount : GoodIn wsX1_find wsX0_sheetCount := goodIn_r _ [23, 14, 15, 51, 52, 53, 54, 55, 56, 57, 58, 59, 60] (by decide +kernel) (by decide +kernel)
set_option maxRecDepth 20000 in
theorem gX1_find_X0_sheetCount : GoodIn wsX1_find (wsV RX1 21 RX0 yX0_sheetCount wsX0_sheetCount) := goodIn_app (goodIn_of _ (by decide +kernel)) ggX1_find_X0_sheetCount
set_option maxRecDepth 20000 in
theorem ggX1_find_X0_isAgreed : GoodIn wsX1_find wsX0_isAgreed := goodIn_r _ [27, 28, 29, 30, 31, 51, 52, 53, 54, 55, 56, 57, 58, 59, 60] (by decide +kernel) (by decide +kernel)
set_option maxRecDepth 20000 in
theorem gX1_find_X0_isAgreed : GoodIn wsX1_find (wsV RX1 24 RX0 yX0_isAgreed wsX0_isAgreed) := goodIn_app (goodIn_of _ (by decide +kernel)) ggX1_find_X0_isAgreed
set_option maxRecDepth 20000 in
theorem ggX1_find_X0_firstSheet : GoodIn wsX1_find wsX0_firstSheet := goodIn_r _ [35, 14, 15, 51, 52, 53, 54, 55, 56, 57, 58, 59, 60] (by decide +kernel) (by decide +kernel)
set_option maxRecDepth 20000 in
theorem gX1_find_X0_firstSheet : GoodIn wsX1_find (wsV RX1 28 RX0 yX0_firstSheet wsX0_firstSheet) := goodIn_app (goodIn_of _ (by decide +kernel)) ggX1_find_X0_firstSheet
set_option maxRecDepth 20000 in
theorem ggX1_find_X1_lowestOf : GoodIn wsX1_find wsX1_lowestOf := goodIn_r _ [40, 1, 29, 30, 31, 50] (by decide +kernel) (by decide +kernel)
set_option maxRecDepth 20000 in
theorem gX1_find_X1_lowestOf : GoodIn wsX1_find (wsV RX1 32 RX1 yX1_lowestOf wsX1_lowestOf) := goodIn_app (goodIn_of _ (by decide +kernel)) ggX1_find_X1_lowestOf
set_option maxRecDepth 20000 in
theorem ggX1_find_X0_secondSheet : GoodIn wsX1_find wsX0_secondSheet := goodIn_r _ [44, 14, 45, 33, 34, 12, 35, 15, 16, 17, 18, 19, 51, 52, 53, 54, 55, 56, 57, 58, 59, 60] (by decide +kernel) (by decide +kernel)
set_option maxRecDepth 20000 in
theorem gX1_find_X0_secondSheet : GoodIn wsX1_find (wsV RX1 35 RX0 yX0_secondSheet wsX0_secondSheet) := goodIn_app (goodIn_of _ (by decide +kernel)) ggX1_find_X0_secondSheet
set_option maxRecDepth 20000 in
theorem ggX1_find_X1_join : GoodIn wsX1_find wsX1_join := goodIn_r _ [49, 1, 50] (by decide +kernel) (by decide +kernel)
set_option maxRecDepth 20000 in
theorem gX1_find_X1_join : GoodIn wsX1_find (wsV RX1 47 RX1 yX1_join wsX1_join) := goodIn_app (goodIn_of _ (by decide +kernel)) ggX1_find_X1_join
theorem dX1_find_0 : decode cX1_find 0 = .ok (.iconst 0, 1) := by decide +kernel
theorem dX1_find_1 : decode cX1_find 1 = .ok (.istore_n 2, 1) := by decide +kernel
theorem dX1_find_2 : decode cX1_find 2 = .ok (.iload_n 2, 1) := by decide +kernel
theorem dX1_find_3 : decode cX1_find 3 = .ok (.aload_n 0, 1) := by decide +kernel
theorem dX1_find_4 : decode cX1_find 4 = .ok (.getfield 9, 3) := by decide +kernel
theorem dX1_find_7 : decode cX1_find 7 = .ok (.arraylength, 1) := by decide +kernel
theorem dX1_find_8 : decode cX1_find 8 = .ok (.if_icmp .ge 16, 3) := by decide +kernel
theorem dX1_find_11 : decode cX1_find 11 = .ok (.aload_n 0, 1) := by decide +kernel
theorem dX1_find_12 : decode cX1_find 12 = .ok (.getfield 9, 3) := by decide +kernel
theorem dX1_find_15 : decode cX1_find 15 = .ok (.iload_n 2, 1) := by decide +kernel
theorem dX1_find_16 : decode cX1_find 16 = .ok (.iload_n 2, 1) := by decide +kernel
theorem dX1_find_17 : decode cX1_find 17 = .ok (.iastore, 1) := by decide +kernel
theorem dX1_find_18 : decode cX1_find 18 = .ok (.iinc 2 1, 3) := by decide +kernel
theorem dX1_find_21 : decode cX1_find 21 = .ok (.goto (-19), 3) := by decide +kernel
theorem dX1_find_24 : decode cX1_find 24 = .ok (.aload_n 1, 1) := by decide +kernel
theorem dX1_find_25 : decode cX1_find 25 = .ok (.invokevirtual 15, 3) := by decide +kernel
theorem dX1_find_28 : decode cX1_find 28 = .ok (.istore_n 2, 1) := by decide +kernel
theorem dX1_find_29 : decode cX1_find 29 = .ok (.aload_n 1, 1) := by decide +kernel
theorem dX1_find_30 : decode cX1_find 30 = .ok (.invokevirtual 21, 3) := by decide +kernel
theorem dX1_find_33 : decode cX1_find 33 = .ok (.istore_n 3, 1) := by decide +kernel
theorem dX1_find_34 : decode cX1_find 34 = .ok (.iconst 0, 1) := by decide +kernel
theorem dX1_find_35 : decode cX1_find 35 = .ok (.istore 4, 2) := by decide +kernel
theorem dX1_find_37 : decode cX1_find 37 = .ok (.iload 4, 2) := by decide +kernel
theorem dX1_find_39 : decode cX1_find 39 = .ok (.iload_n 2, 1) := by decide +kernel
theorem dX1_find_40 : decode cX1_find 40 = .ok (.if_icmp .ge 73, 3) := by decide +kernel
theorem dX1_find_43 : decode cX1_find 43 = .ok (.aload_n 1, 1) := by decide +kernel
theorem dX1_find_44 : decode cX1_find 44 = .ok (.iload 4, 2) := by decide +kernel
theorem dX1_find_46 : decode cX1_find 46 = .ok (.invokevirtual 24, 3) := by decide +kernel
theorem dX1_find_49 : decode cX1_find 49 = .ok (.ifCond .ne 6, 3) := by decide +kernel
theorem dX1_find_52 : decode cX1_find 52 = .ok (.goto 55, 3) := by decide +kernel
theorem dX1_find_55 : decode cX1_find 55 = .ok (.aload_n 0, 1) := by decide +kernel
theorem dX1_find_56 : decode cX1_find 56 = .ok (.aload_n 1, 1) := by decide +kernel
theorem dX1_find_57 : decode cX1_find 57 = .ok (.iload 4, 2) := by decide +kernel
theorem dX1_find_59 : decode cX1_find 59 = .ok (.invokevirtual 28, 3) := by decide +kernel
theorem dX1_find_62 : decode cX1_find 62 = .ok (.invokevirtual 32, 3) := by decide +kernel
theorem dX1_find_65 : decode cX1_find 65 = .ok (.istore 5, 2) := by decide +kernel
theorem dX1_find_67 : decode cX1_find 67 = .ok (.aload_n 0, 1) := by decide +kernel
theorem dX1_find_68 : decode cX1_find 68 = .ok (.aload_n 1, 1) := by decide +kernel
theorem dX1_find_69 : decode cX1_find 69 = .ok (.iload 4, 2) := by decide +kernel
theorem dX1_find_71 : decode cX1_find 71 = .ok (.invokevirtual 35, 3) := by decide +kernel
theorem dX1_find_74 : decode cX1_find 74 = .ok (.invokevirtual 32, 3) := by decide +kernel
theorem dX1_find_77 : decode cX1_find 77 = .ok (.istore 6, 2) := by decide +kernel
theorem dX1_find_79 : decode cX1_find 79 = .ok (.iload 5, 2) := by decide +kernel
theorem dX1_find_81 : decode cX1_find 81 = .ok (.iload 6, 2) := by decide +kernel
theorem dX1_find_83 : decode cX1_find 83 = .ok (.if_icmp .eq 24, 3) := by decide +kernel
theorem dX1_find_86 : decode cX1_find 86 = .ok (.aload_n 0, 1) := by decide +kernel
theorem dX1_find_87 : decode cX1_find 87 = .ok (.iload 5, 2) := by decide +kernel
theorem dX1_find_89 : decode cX1_find 89 = .ok (.iload 6, 2) := by decide +kernel
theorem dX1_find_91 : decode cX1_find 91 = .ok (.invokestatic 38, 3) := by decide +kernel
theorem dX1_find_94 : decode cX1_find 94 = .ok (.iload 5, 2) := by decide +kernel
theorem dX1_find_96 : decode cX1_find 96 = .ok (.iload 6, 2) := by decide +kernel
theorem dX1_find_98 : decode cX1_find 98 = .ok (.invokestatic 44, 3) := by decide +kernel
theorem dX1_find_101 : decode cX1_find 101 = .ok (.invokevirtual 47, 3) := by decide +kernel
theorem dX1_find_104 : decode cX1_find 104 = .ok (.iinc 3 (-1), 3) := by decide +kernel
theorem dX1_find_107 : decode cX1_find 107 = .ok (.iinc 4 1, 3) := by decide +kernel
theorem dX1_find_110 : decode cX1_find 110 = .ok (.goto (-73), 3) := by decide +kernel
theorem dX1_find_113 : decode cX1_find 113 = .ok (.iload_n 3, 1) := by decide +kernel
theorem dX1_find_114 : decode cX1_find 114 = .ok (.ireturn, 1) := by decide +kernel
set_option maxRecDepth 20000 in
theorem ggX1_lowestOf_X4_valueAt : GoodIn wsX1_lowestOf wsX4_valueAt := goodIn_r _ [4] (by decide +kernel) (by decide +kernel)
set_option maxRecDepth 20000 in
theorem gX1_lowestOf_X4_valueAt_n51 : GoodIn wsX1_lowestOf (wsX4_valueAt) := ggX1_lowestOf_X4_valueAt
theorem dX1_lowestOf_0 : decode cX1_lowestOf 0 = .ok (.aload_n 0, 1) := by decide +kernel
theorem dX1_lowestOf_1 : decode cX1_lowestOf 1 = .ok (.getfield 9, 3) := by decide +kernel
theorem dX1_lowestOf_4 : decode cX1_lowestOf 4 = .ok (.iload_n 1, 1) := by decide +kernel
theorem dX1_lowestOf_5 : decode cX1_lowestOf 5 = .ok (.iload_n 1, 1) := by decide +kernel
theorem dX1_lowestOf_6 : decode cX1_lowestOf 6 = .ok (.invokestatic 51, 3) := by decide +kernel
theorem dX1_lowestOf_9 : decode cX1_lowestOf 9 = .ok (.ireturn, 1) := by decide +kernel
theorem dX1_join_0 : decode cX1_join 0 = .ok (.iconst 0, 1) := by decide +kernel
theorem dX1_join_1 : decode cX1_join 1 = .ok (.istore_n 3, 1) := by decide +kernel
theorem dX1_join_2 : decode cX1_join 2 = .ok (.iload_n 3, 1) := by decide +kernel
theorem dX1_join_3 : decode cX1_join 3 = .ok (.aload_n 0, 1) := by decide +kernel
theorem dX1_join_4 : decode cX1_join 4 = .ok (.getfield 9, 3) := by decide +kernel
theorem dX1_join_7 : decode cX1_join 7 = .ok (.arraylength, 1) := by decide +kernel
theorem dX1_join_8 : decode cX1_join 8 = .ok (.if_icmp .ge 26, 3) := by decide +kernel
theorem dX1_join_11 : decode cX1_join 11 = .ok (.aload_n 0, 1) := by decide +kernel
theorem dX1_join_12 : decode cX1_join 12 = .ok (.getfield 9, 3) := by decide +kernel
theorem dX1_join_15 : decode cX1_join 15 = .ok (.iload_n 3, 1) := by decide +kernel
theorem dX1_join_16 : decode cX1_join 16 = .ok (.iaload, 1) := by decide +kernel
theorem dX1_join_17 : decode cX1_join 17 = .ok (.iload_n 2, 1) := by decide +kernel
theorem dX1_join_18 : decode cX1_join 18 = .ok (.if_icmp .ne 10, 3) := by decide +kernel
theorem dX1_join_21 : decode cX1_join 21 = .ok (.aload_n 0, 1) := by decide +kernel
theorem dX1_join_22 : decode cX1_join 22 = .ok (.getfield 9, 3) := by decide +kernel
theorem dX1_join_25 : decode cX1_join 25 = .ok (.iload_n 3, 1) := by decide +kernel
theorem dX1_join_26 : decode cX1_join 26 = .ok (.iload_n 1, 1) := by decide +kernel
theorem dX1_join_27 : decode cX1_join 27 = .ok (.iastore, 1) := by decide +kernel
theorem dX1_join_28 : decode cX1_join 28 = .ok (.iinc 3 1, 3) := by decide +kernel
theorem dX1_join_31 : decode cX1_join 31 = .ok (.goto (-29), 3) := by decide +kernel
theorem dX1_join_34 : decode cX1_join 34 = .ok (.return_, 1) := by decide +kernel
set_option maxRecDepth 20000 in
theorem ggX2_init_X0_init : GoodIn wsX2_init wsX0_init := goodIn_r _ [12, 13, 2, 3, 14, 15, 16, 17, 18, 19, 20, 21, 22, 23, 24, 25, 9, 26, 27, 28, 29, 30, 31, 32, 36, 37, 38, 39, 40, 41, 42, 43, 44, 45] (by decide +kernel) (by decide +kernel)
set_option maxRecDepth 20000 in
theorem gX2_init_X0_init : GoodIn wsX2_init (wsX0_init) := ggX2_init_X0_init
theorem dX2_init_0 : decode cX2_init 0 = .ok (.aload_n 0, 1) := by decide +kernel
theorem dX2_init_1 : decode cX2_init 1 = .ok (.invokespecial 3, 3) := by decide +kernel
theorem dX2_init_4 : decode cX2_init 4 = .ok (.aload_n 0, 1) := by decide +kernel
theorem dX2_init_5 : decode cX2_init 5 = .ok (.iconst 5, 1) := by decide +kernel
theorem dX2_init_6 : decode cX2_init 6 = .ok (.anewarray 11, 3) := by decide +kernel
theorem dX2_init_9 : decode cX2_init 9 = .ok (.putfield 13, 3) := by decide +kernel
theorem dX2_init_12 : decode cX2_init 12 = .ok (.aload_n 0, 1) := by decide +kernel
theorem dX2_init_13 : decode cX2_init 13 = .ok (.iconst 0, 1) := by decide +kernel
theorem dX2_init_14 : decode cX2_init 14 = .ok (.putfield 17, 3) := by decide +kernel
theorem dX2_init_17 : decode cX2_init 17 = .ok (.aload_n 0, 1) := by decide +kernel
theorem dX2_init_18 : decode cX2_init 18 = .ok (.iconst 0, 1) := by decide +kernel
theorem dX2_init_19 : decode cX2_init 19 = .ok (.putfield 21, 3) := by decide +kernel
theorem dX2_init_22 : decode cX2_init 22 = .ok (.iconst 0, 1) := by decide +kernel
theorem dX2_init_23 : decode cX2_init 23 = .ok (.istore_n 1, 1) := by decide +kernel
theorem dX2_init_24 : decode cX2_init 24 = .ok (.iload_n 1, 1) := by decide +kernel
theorem dX2_init_25 : decode cX2_init 25 = .ok (.aload_n 0, 1) := by decide +kernel
theorem dX2_init_26 : decode cX2_init 26 = .ok (.getfield 13, 3) := by decide +kernel
theorem dX2_init_29 : decode cX2_init 29 = .ok (.arraylength, 1) := by decide +kernel
theorem dX2_init_30 : decode cX2_init 30 = .ok (.if_icmp .ge 22, 3) := by decide +kernel
theorem dX2_init_33 : decode cX2_init 33 = .ok (.aload_n 0, 1) := by decide +kernel
theorem dX2_init_34 : decode cX2_init 34 = .ok (.getfield 13, 3) := by decide +kernel
theorem dX2_init_37 : decode cX2_init 37 = .ok (.iload_n 1, 1) := by decide +kernel
theorem dX2_init_38 : decode cX2_init 38 = .ok (.new 11, 3) := by decide +kernel
theorem dX2_init_41 : decode cX2_init 41 = .ok (.dup, 1) := by decide +kernel
theorem dX2_init_42 : decode cX2_init 42 = .ok (.invokespecial 24, 3) := by decide +kernel
theorem dX2_init_45 : decode cX2_init 45 = .ok (.aastore, 1) := by decide +kernel
theorem dX2_init_46 : decode cX2_init 46 = .ok (.iinc 1 1, 3) := by decide +kernel
theorem dX2_init_49 : decode cX2_init 49 = .ok (.goto (-25), 3) := by decide +kernel
theorem dX2_init_52 : decode cX2_init 52 = .ok (.return_, 1) := by decide +kernel
theorem dX2_stateCount_0 : decode cX2_stateCount 0 = .ok (.aload_n 0, 1) := by decide +kernel
theorem dX2_stateCount_1 : decode cX2_stateCount 1 = .ok (.getfield 21, 3) := by decide +kernel
theorem dX2_stateCount_4 : decode cX2_stateCount 4 = .ok (.ireturn, 1) := by decide +kernel
set_option maxRecDepth 20000 in
theorem ggX2_recordState_X2_stateAt : GoodIn wsX2_recordState wsX2_stateAt := goodIn_r _ [6, 7, 8, 31, 32, 33] (by decide +kernel) (by decide +kernel)
set_option maxRecDepth 20000 in
theorem gX2_recordState_X2_stateAt : GoodIn wsX2_recordState (wsV RX2 25 RX2 yX2_stateAt wsX2_stateAt) := goodIn_app (goodIn_of _ (by decide +kernel)) ggX2_recordState_X2_stateAt
set_option maxRecDepth 20000 in
theorem ggX2_recordState_X0_copyFrom : GoodIn wsX2_recordState wsX0_copyFrom := goodIn_r _ [13, 14, 15, 16, 17, 18, 19, 20, 21, 22, 23, 24, 25, 26, 27, 28, 29, 30, 34, 35, 36, 37, 38, 39, 40, 41, 42, 43] (by decide +kernel) (by decide +kernel)
set_option maxRecDepth 20000 in
theorem gX2_recordState_X0_copyFrom : GoodIn wsX2_recordState (wsV RX2 29 RX0 yX0_copyFrom wsX0_copyFrom) := goodIn_app (goodIn_of _ (by decide +kernel)) ggX2_recordState_X0_copyFrom
theorem dX2_recordState_0 : decode cX2_recordState 0 = .ok (.aload_n 0, 1) := by decide +kernel
theorem dX2_recordState_1 : decode cX2_recordState 1 = .ok (.aload_n 0, 1) := by decide +kernel
theorem dX2_recordState_2 : decode cX2_recordState 2 = .ok (.getfield 21, 3) := by decide +kernel
theorem dX2_recordState_5 : decode cX2_recordState 5 = .ok (.invokevirtual 25, 3) := by decide +kernel
theorem dX2_recordState_8 : decode cX2_recordState 8 = .ok (.astore_n 2, 1) := by decide +kernel
theorem dX2_recordState_9 : decode cX2_recordState 9 = .ok (.aload_n 2, 1) := by decide +kernel
theorem dX2_recordState_10 : decode cX2_recordState 10 = .ok (.ifnull 8, 3) := by decide +kernel
theorem dX2_recordState_13 : decode cX2_recordState 13 = .ok (.aload_n 2, 1) := by decide +kernel
theorem dX2_recordState_14 : decode cX2_recordState 14 = .ok (.aload_n 1, 1) := by decide +kernel
theorem dX2_recordState_15 : decode cX2_recordState 15 = .ok (.invokevirtual 29, 3) := by decide +kernel
theorem dX2_recordState_18 : decode cX2_recordState 18 = .ok (.return_, 1) := by decide +kernel
set_option maxRecDepth 20000 in
theorem ggX2_returnToRecord_X2_stateAt : GoodIn wsX2_returnToRecord wsX2_stateAt := goodIn_r _ [6, 7, 8, 31, 32, 33] (by decide +kernel) (by decide +kernel)
set_option maxRecDepth 20000 in
theorem gX2_returnToRecord_X2_stateAt : GoodIn wsX2_returnToRecord (wsV RX2 25 RX2 yX2_stateAt wsX2_stateAt) := goodIn_app (goodIn_of _ (by decide +kernel)) ggX2_returnToRecord_X2_stateAt
set_option maxRecDepth 20000 in
theorem ggX2_returnToRecord_X0_copyFrom : GoodIn wsX2_returnToRecord wsX0_copyFrom := goodIn_r _ [13, 14, 15, 16, 17, 18, 19, 20, 21, 22, 23, 24, 25, 26, 27, 28, 29, 30, 34, 35, 36, 37, 38, 39, 40, 41, 42, 43] (by decide +kernel) (by decide +kernel)
set_option maxRecDepth 20000 in
theorem gX2_returnToRecord_X0_copyFrom : GoodIn wsX2_returnToRecord (wsV RX2 29 RX0 yX0_copyFrom wsX0_copyFrom) := goodIn_app (goodIn_of _ (by decide +kernel)) ggX2_returnToRecord_X0_copyFrom
theorem dX2_returnToRecord_0 : decode cX2_returnToRecord 0 = .ok (.aload_n 0, 1) := by decide +kernel
theorem dX2_returnToRecord_1 : decode cX2_returnToRecord 1 = .ok (.aload_n 0, 1) := by decide +kernel
theorem dX2_returnToRecord_2 : decode cX2_returnToRecord 2 = .ok (.getfield 21, 3) := by decide +kernel
theorem dX2_returnToRecord_5 : decode cX2_returnToRecord 5 = .ok (.invokevirtual 25, 3) := by decide +kernel
theorem dX2_returnToRecord_8 : decode cX2_returnToRecord 8 = .ok (.astore_n 2, 1) := by decide +kernel
theorem dX2_returnToRecord_9 : decode cX2_returnToRecord 9 = .ok (.aload_n 2, 1) := by decide +kernel
theorem dX2_returnToRecord_10 : decode cX2_returnToRecord 10 = .ok (.ifnull 8, 3) := by decide +kernel
theorem dX2_returnToRecord_13 : decode cX2_returnToRecord 13 = .ok (.aload_n 1, 1) := by decide +kernel
theorem dX2_returnToRecord_14 : decode cX2_returnToRecord 14 = .ok (.aload_n 2, 1) := by decide +kernel
theorem dX2_returnToRecord_15 : decode cX2_returnToRecord 15 = .ok (.invokevirtual 29, 3) := by decide +kernel
theorem dX2_returnToRecord_18 : decode cX2_returnToRecord 18 = .ok (.return_, 1) := by decide +kernel
theorem dX2_keepRecord_0 : decode cX2_keepRecord 0 = .ok (.aload_n 0, 1) := by decide +kernel
theorem dX2_keepRecord_1 : decode cX2_keepRecord 1 = .ok (.getfield 21, 3) := by decide +kernel
theorem dX2_keepRecord_4 : decode cX2_keepRecord 4 = .ok (.iconst 4, 1) := by decide +kernel
theorem dX2_keepRecord_5 : decode cX2_keepRecord 5 = .ok (.if_icmp .ge 16, 3) := by decide +kernel
theorem dX2_keepRecord_8 : decode cX2_keepRecord 8 = .ok (.aload_n 0, 1) := by decide +kernel
theorem dX2_keepRecord_9 : decode cX2_keepRecord 9 = .ok (.dup, 1) := by decide +kernel
theorem dX2_keepRecord_10 : decode cX2_keepRecord 10 = .ok (.getfield 21, 3) := by decide +kernel
theorem dX2_keepRecord_13 : decode cX2_keepRecord 13 = .ok (.iconst 1, 1) := by decide +kernel
theorem dX2_keepRecord_14 : decode cX2_keepRecord 14 = .ok (.iadd, 1) := by decide +kernel
theorem dX2_keepRecord_15 : decode cX2_keepRecord 15 = .ok (.putfield 21, 3) := by decide +kernel
theorem dX2_keepRecord_18 : decode cX2_keepRecord 18 = .ok (.goto 15, 3) := by decide +kernel
theorem dX2_keepRecord_21 : decode cX2_keepRecord 21 = .ok (.aload_n 0, 1) := by decide +kernel
theorem dX2_keepRecord_22 : decode cX2_keepRecord 22 = .ok (.aload_n 0, 1) := by decide +kernel
theorem dX2_keepRecord_23 : decode cX2_keepRecord 23 = .ok (.getfield 17, 3) := by decide +kernel
theorem dX2_keepRecord_26 : decode cX2_keepRecord 26 = .ok (.iconst 1, 1) := by decide +kernel
theorem dX2_keepRecord_27 : decode cX2_keepRecord 27 = .ok (.iadd, 1) := by decide +kernel
theorem dX2_keepRecord_28 : decode cX2_keepRecord 28 = .ok (.iconst 5, 1) := by decide +kernel
theorem dX2_keepRecord_29 : decode cX2_keepRecord 29 = .ok (.irem, 1) := by decide +kernel
theorem dX2_keepRecord_30 : decode cX2_keepRecord 30 = .ok (.putfield 17, 3) := by decide +kernel
theorem dX2_keepRecord_33 : decode cX2_keepRecord 33 = .ok (.return_, 1) := by decide +kernel
theorem dX2_stateAt_0 : decode cX2_stateAt 0 = .ok (.aload_n 0, 1) := by decide +kernel
theorem dX2_stateAt_1 : decode cX2_stateAt 1 = .ok (.getfield 17, 3) := by decide +kernel
theorem dX2_stateAt_4 : decode cX2_stateAt 4 = .ok (.iload_n 1, 1) := by decide +kernel
theorem dX2_stateAt_5 : decode cX2_stateAt 5 = .ok (.iadd, 1) := by decide +kernel
theorem dX2_stateAt_6 : decode cX2_stateAt 6 = .ok (.iconst 5, 1) := by decide +kernel
theorem dX2_stateAt_7 : decode cX2_stateAt 7 = .ok (.irem, 1) := by decide +kernel
theorem dX2_stateAt_8 : decode cX2_stateAt 8 = .ok (.istore_n 2, 1) := by decide +kernel
theorem dX2_stateAt_9 : decode cX2_stateAt 9 = .ok (.iload_n 2, 1) := by decide +kernel
theorem dX2_stateAt_10 : decode cX2_stateAt 10 = .ok (.ifCond .lt 21, 3) := by decide +kernel
theorem dX2_stateAt_13 : decode cX2_stateAt 13 = .ok (.iload_n 2, 1) := by decide +kernel
theorem dX2_stateAt_14 : decode cX2_stateAt 14 = .ok (.aload_n 0, 1) := by decide +kernel
theorem dX2_stateAt_15 : decode cX2_stateAt 15 = .ok (.getfield 13, 3) := by decide +kernel
theorem dX2_stateAt_18 : decode cX2_stateAt 18 = .ok (.arraylength, 1) := by decide +kernel
theorem dX2_stateAt_19 : decode cX2_stateAt 19 = .ok (.if_icmp .ge 12, 3) := by decide +kernel
theorem dX2_stateAt_22 : decode cX2_stateAt 22 = .ok (.aload_n 0, 1) := by decide +kernel
theorem dX2_stateAt_23 : decode cX2_stateAt 23 = .ok (.getfield 13, 3) := by decide +kernel
theorem dX2_stateAt_26 : decode cX2_stateAt 26 = .ok (.iload_n 2, 1) := by decide +kernel
theorem dX2_stateAt_27 : decode cX2_stateAt 27 = .ok (.aaload, 1) := by decide +kernel
theorem dX2_stateAt_28 : decode cX2_stateAt 28 = .ok (.goto 4, 3) := by decide +kernel
theorem dX2_stateAt_31 : decode cX2_stateAt 31 = .ok (.aconst_null, 1) := by decide +kernel
theorem dX2_stateAt_32 : decode cX2_stateAt 32 = .ok (.areturn, 1) := by decide +kernel
theorem dX3_init_0 : decode cX3_init 0 = .ok (.aload_n 0, 1) := by decide +kernel
theorem dX3_init_1 : decode cX3_init 1 = .ok (.invokespecial 3, 3) := by decide +kernel
theorem dX3_init_4 : decode cX3_init 4 = .ok (.aload_n 0, 1) := by decide +kernel
theorem dX3_init_5 : decode cX3_init 5 = .ok (.bipush 100, 2) := by decide +kernel
theorem dX3_init_7 : decode cX3_init 7 = .ok (.newarray .char, 2) := by decide +kernel
theorem dX3_init_9 : decode cX3_init 9 = .ok (.putfield 9, 3) := by decide +kernel
theorem dX3_init_12 : decode cX3_init 12 = .ok (.aload_n 0, 1) := by decide +kernel
theorem dX3_init_13 : decode cX3_init 13 = .ok (.iconst 0, 1) := by decide +kernel
theorem dX3_init_14 : decode cX3_init 14 = .ok (.putfield 15, 3) := by decide +kernel
theorem dX3_init_17 : decode cX3_init 17 = .ok (.return_, 1) := by decide +kernel
theorem dX3_characterCount_0 : decode cX3_characterCount 0 = .ok (.aload_n 0, 1) := by decide +kernel
theorem dX3_characterCount_1 : decode cX3_characterCount 1 = .ok (.getfield 15, 3) := by decide +kernel
theorem dX3_characterCount_4 : decode cX3_characterCount 4 = .ok (.ireturn, 1) := by decide +kernel
theorem dJ9_max_7cf53_0 : decode cJ9_max_7cf53 0 = .ok (.iload_n 0, 1) := by decide +kernel
theorem dJ9_max_7cf53_1 : decode cJ9_max_7cf53 1 = .ok (.iload_n 1, 1) := by decide +kernel
theorem dJ9_max_7cf53_2 : decode cJ9_max_7cf53 2 = .ok (.if_icmp .lt 7, 3) := by decide +kernel
theorem dJ9_max_7cf53_5 : decode cJ9_max_7cf53 5 = .ok (.iload_n 0, 1) := by decide +kernel
theorem dJ9_max_7cf53_6 : decode cJ9_max_7cf53 6 = .ok (.goto 4, 3) := by decide +kernel
theorem dJ9_max_7cf53_9 : decode cJ9_max_7cf53 9 = .ok (.iload_n 1, 1) := by decide +kernel
theorem dJ9_max_7cf53_10 : decode cJ9_max_7cf53 10 = .ok (.ireturn, 1) := by decide +kernel
theorem dJ9_min_7cf53_0 : decode cJ9_min_7cf53 0 = .ok (.iload_n 0, 1) := by decide +kernel
theorem dJ9_min_7cf53_1 : decode cJ9_min_7cf53 1 = .ok (.iload_n 1, 1) := by decide +kernel
theorem dJ9_min_7cf53_2 : decode cJ9_min_7cf53 2 = .ok (.if_icmp .gt 7, 3) := by decide +kernel
theorem dJ9_min_7cf53_5 : decode cJ9_min_7cf53 5 = .ok (.iload_n 0, 1) := by decide +kernel
theorem dJ9_min_7cf53_6 : decode cJ9_min_7cf53 6 = .ok (.goto 4, 3) := by decide +kernel
theorem dJ9_min_7cf53_9 : decode cJ9_min_7cf53 9 = .ok (.iload_n 1, 1) := by decide +kernel
theorem dJ9_min_7cf53_10 : decode cJ9_min_7cf53 10 = .ok (.ireturn, 1) := by decide +kernel
theorem dJ7_fill_53178_0 : decode cJ7_fill_53178 0 = .ok (.iconst 0, 1) := by decide +kernel
theorem dJ7_fill_53178_1 : decode cJ7_fill_53178 1 = .ok (.istore_n 2, 1) := by decide +kernel
theorem dJ7_fill_53178_2 : decode cJ7_fill_53178 2 = .ok (.aload_n 0, 1) := by decide +kernel
theorem dJ7_fill_53178_3 : decode cJ7_fill_53178 3 = .ok (.arraylength, 1) := by decide +kernel
theorem dJ7_fill_53178_4 : decode cJ7_fill_53178 4 = .ok (.istore_n 3, 1) := by decide +kernel
theorem dJ7_fill_53178_5 : decode cJ7_fill_53178 5 = .ok (.iload_n 2, 1) := by decide +kernel
theorem dJ7_fill_53178_6 : decode cJ7_fill_53178 6 = .ok (.iload_n 3, 1) := by decide +kernel
theorem dJ7_fill_53178_7 : decode cJ7_fill_53178 7 = .ok (.if_icmp .ge 13, 3) := by decide +kernel
theorem dJ7_fill_53178_10 : decode cJ7_fill_53178 10 = .ok (.aload_n 0, 1) := by decide +kernel
theorem dJ7_fill_53178_11 : decode cJ7_fill_53178 11 = .ok (.iload_n 2, 1) := by decide +kernel
theorem dJ7_fill_53178_12 : decode cJ7_fill_53178 12 = .ok (.iload_n 1, 1) := by decide +kernel
theorem dJ7_fill_53178_13 : decode cJ7_fill_53178 13 = .ok (.iastore, 1) := by decide +kernel
theorem dJ7_fill_53178_14 : decode cJ7_fill_53178 14 = .ok (.iinc 2 1, 3) := by decide +kernel
theorem dJ7_fill_53178_17 : decode cJ7_fill_53178 17 = .ok (.goto (-12), 3) := by decide +kernel
theorem dJ7_fill_53178_20 : decode cJ7_fill_53178 20 = .ok (.return_, 1) := by decide +kernel
