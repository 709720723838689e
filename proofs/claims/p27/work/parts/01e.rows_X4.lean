theorem inlX4 : ∀ w ∈ wsX40, w ∈ wsL_law := fun _ h => List.mem_append_left _ (List.mem_append_left _ (List.mem_append_left _ (List.mem_append_left _ (List.mem_append_left _ (List.mem_append_right _ h)))))
theorem inX4 : ∀ w ∈ wsX40, w ∈ lw_tbl := fun w h => wsL_law_in w (inlX4 w h)
set_option maxRecDepth 20000 in
theorem ggX4_init_X0_init : GoodIn wsX4_init wsX0_init := goodIn_r _ [22, 23, 2, 3, 24, 25, 26, 27, 28, 29, 30, 31, 32, 33, 34, 35, 6, 36, 37, 38, 39, 40, 41, 42, 62, 63, 64, 65, 66, 67, 68, 69, 70, 71] (by decide +kernel) (by decide +kernel)
set_option maxRecDepth 20000 in
theorem gX4_init_X0_init : GoodIn wsX4_init (wsX0_init) := ggX4_init_X0_init
set_option maxRecDepth 20000 in
theorem ggX4_init_X2_init : GoodIn wsX4_init wsX2_init := goodIn_r _ [45, 46, 2, 3, 47, 48, 49, 50, 5, 6, 51, 21, 22, 23, 24, 25, 26, 27, 28, 29, 30, 31, 32, 33, 34, 35, 36, 37, 38, 39, 40, 41, 42, 76, 77, 78, 62, 63, 64, 65, 66, 67, 68, 69, 70, 71] (by decide +kernel) (by decide +kernel)
set_option maxRecDepth 20000 in
theorem gX4_init_X2_init : GoodIn wsX4_init (wsX2_init) := ggX4_init_X2_init
set_option maxRecDepth 20000 in
theorem ggX4_init_X1_init : GoodIn wsX4_init wsX1_init := goodIn_r _ [53, 54, 2, 3, 24, 55, 79] (by decide +kernel) (by decide +kernel)
set_option maxRecDepth 20000 in
theorem gX4_init_X1_init_n25 : GoodIn wsX4_init (wsX1_init) := ggX4_init_X1_init
set_option maxRecDepth 20000 in
theorem ggX4_init_X3_init : GoodIn wsX4_init wsX3_init := goodIn_r _ [57, 58, 2, 3, 59, 60, 61, 80, 81] (by decide +kernel) (by decide +kernel)
set_option maxRecDepth 20000 in
theorem gX4_init_X3_init_n32 : GoodIn wsX4_init (wsX3_init) := ggX4_init_X3_init
theorem dX4_init_0 : decode cX4_init 0 = .ok (.aload_n 0, 1) := by decide +kernel
theorem dX4_init_1 : decode cX4_init 1 = .ok (.invokespecial 1, 3) := by decide +kernel
theorem dX4_init_4 : decode cX4_init 4 = .ok (.aload_n 0, 1) := by decide +kernel
theorem dX4_init_5 : decode cX4_init 5 = .ok (.new 7, 3) := by decide +kernel
theorem dX4_init_8 : decode cX4_init 8 = .ok (.dup, 1) := by decide +kernel
theorem dX4_init_9 : decode cX4_init 9 = .ok (.invokespecial 9, 3) := by decide +kernel
theorem dX4_init_12 : decode cX4_init 12 = .ok (.putfield 10, 3) := by decide +kernel
theorem dX4_init_15 : decode cX4_init 15 = .ok (.aload_n 0, 1) := by decide +kernel
theorem dX4_init_16 : decode cX4_init 16 = .ok (.new 16, 3) := by decide +kernel
theorem dX4_init_19 : decode cX4_init 19 = .ok (.dup, 1) := by decide +kernel
theorem dX4_init_20 : decode cX4_init 20 = .ok (.invokespecial 18, 3) := by decide +kernel
theorem dX4_init_23 : decode cX4_init 23 = .ok (.putfield 19, 3) := by decide +kernel
theorem dX4_init_26 : decode cX4_init 26 = .ok (.aload_n 0, 1) := by decide +kernel
theorem dX4_init_27 : decode cX4_init 27 = .ok (.new 23, 3) := by decide +kernel
theorem dX4_init_30 : decode cX4_init 30 = .ok (.dup, 1) := by decide +kernel
theorem dX4_init_31 : decode cX4_init 31 = .ok (.invokespecial 25, 3) := by decide +kernel
theorem dX4_init_34 : decode cX4_init 34 = .ok (.putfield 26, 3) := by decide +kernel
theorem dX4_init_37 : decode cX4_init 37 = .ok (.aload_n 0, 1) := by decide +kernel
theorem dX4_init_38 : decode cX4_init 38 = .ok (.new 30, 3) := by decide +kernel
theorem dX4_init_41 : decode cX4_init 41 = .ok (.dup, 1) := by decide +kernel
theorem dX4_init_42 : decode cX4_init 42 = .ok (.invokespecial 32, 3) := by decide +kernel
theorem dX4_init_45 : decode cX4_init 45 = .ok (.putfield 33, 3) := by decide +kernel
theorem dX4_init_48 : decode cX4_init 48 = .ok (.return_, 1) := by decide +kernel
set_option maxRecDepth 20000 in
theorem ggX4_grid_X4_isWithin : GoodIn wsX4_grid wsX4_isWithin := goodIn_r _ [6] (by decide +kernel) (by decide +kernel)
set_option maxRecDepth 20000 in
theorem gX4_grid_X4_isWithin : GoodIn wsX4_grid (va_wsS RX4 37 yX4_isWithin wsX4_isWithin) := goodIn_app (goodIn_of _ (by decide +kernel)) ggX4_grid_X4_isWithin
set_option maxRecDepth 20000 in
theorem ggX4_grid_X2_recordState : GoodIn wsX4_grid wsX2_recordState := goodIn_r _ [11, 12, 13, 14, 15, 10, 16, 17, 18, 19, 20, 21, 22, 23, 24, 25, 26, 27, 28, 29, 30, 31, 32, 33, 34, 5, 35, 36, 37, 38, 39, 64, 65, 66, 67, 68, 69, 70, 71, 72, 73, 74, 75, 76] (by decide +kernel) (by decide +kernel)
set_option maxRecDepth 20000 in
theorem gX4_grid_X2_recordState : GoodIn wsX4_grid (wsV RX4 41 RX2 yX2_recordState wsX2_recordState) := goodIn_app (goodIn_of _ (by decide +kernel)) ggX4_grid_X2_recordState
set_option maxRecDepth 20000 in
theorem ggX4_grid_X0_begin : GoodIn wsX4_grid wsX0_begin := goodIn_r _ [43, 30, 31, 24, 25, 26, 27, 28, 29, 44, 45, 46, 47, 67, 68, 69, 70, 71, 72, 73, 74, 75, 76] (by decide +kernel) (by decide +kernel)
set_option maxRecDepth 20000 in
theorem gX4_grid_X0_begin : GoodIn wsX4_grid (wsV RX4 45 RX0 yX0_begin wsX0_begin) := goodIn_app (goodIn_of _ (by decide +kernel)) ggX4_grid_X0_begin
set_option maxRecDepth 20000 in
theorem ggX4_grid_X2_keepRecord : GoodIn wsX4_grid wsX2_keepRecord := goodIn_r _ [51, 12, 17, 64, 65, 66] (by decide +kernel) (by decide +kernel)
set_option maxRecDepth 20000 in
theorem gX4_grid_X2_keepRecord : GoodIn wsX4_grid (wsV RX4 49 RX2 yX2_keepRecord wsX2_keepRecord) := goodIn_app (goodIn_of _ (by decide +kernel)) ggX4_grid_X2_keepRecord
set_option maxRecDepth 20000 in
theorem ggX4_grid_X0_edgeCount : GoodIn wsX4_grid wsX0_edgeCount := goodIn_r _ [55, 30, 31, 56, 57, 58, 22, 59, 67, 68, 69, 70, 71, 72, 73, 74, 75, 76] (by decide +kernel) (by decide +kernel)
set_option maxRecDepth 20000 in
theorem gX4_grid_X0_edgeCount : GoodIn wsX4_grid (wsV RX4 52 RX0 yX0_edgeCount wsX0_edgeCount) := goodIn_app (goodIn_of _ (by decide +kernel)) ggX4_grid_X0_edgeCount
theorem dX4_grid_0 : decode cX4_grid 0 = .ok (.iload_n 1, 1) := by decide +kernel
theorem dX4_grid_1 : decode cX4_grid 1 = .ok (.iconst 1, 1) := by decide +kernel
theorem dX4_grid_2 : decode cX4_grid 2 = .ok (.bipush 6, 2) := by decide +kernel
theorem dX4_grid_4 : decode cX4_grid 4 = .ok (.invokestatic 37, 3) := by decide +kernel
theorem dX4_grid_7 : decode cX4_grid 7 = .ok (.ifCond .eq 13, 3) := by decide +kernel
theorem dX4_grid_10 : decode cX4_grid 10 = .ok (.iload_n 2, 1) := by decide +kernel
theorem dX4_grid_11 : decode cX4_grid 11 = .ok (.iconst 1, 1) := by decide +kernel
theorem dX4_grid_12 : decode cX4_grid 12 = .ok (.bipush 6, 2) := by decide +kernel
theorem dX4_grid_14 : decode cX4_grid 14 = .ok (.invokestatic 37, 3) := by decide +kernel
theorem dX4_grid_17 : decode cX4_grid 17 = .ok (.ifCond .ne 5, 3) := by decide +kernel
theorem dX4_grid_20 : decode cX4_grid 20 = .ok (.iconst (-1), 1) := by decide +kernel
theorem dX4_grid_21 : decode cX4_grid 21 = .ok (.ireturn, 1) := by decide +kernel
theorem dX4_grid_22 : decode cX4_grid 22 = .ok (.aload_n 0, 1) := by decide +kernel
theorem dX4_grid_23 : decode cX4_grid 23 = .ok (.getfield 19, 3) := by decide +kernel
theorem dX4_grid_26 : decode cX4_grid 26 = .ok (.aload_n 0, 1) := by decide +kernel
theorem dX4_grid_27 : decode cX4_grid 27 = .ok (.getfield 10, 3) := by decide +kernel
theorem dX4_grid_30 : decode cX4_grid 30 = .ok (.invokevirtual 41, 3) := by decide +kernel
theorem dX4_grid_33 : decode cX4_grid 33 = .ok (.aload_n 0, 1) := by decide +kernel
theorem dX4_grid_34 : decode cX4_grid 34 = .ok (.getfield 10, 3) := by decide +kernel
theorem dX4_grid_37 : decode cX4_grid 37 = .ok (.iload_n 1, 1) := by decide +kernel
theorem dX4_grid_38 : decode cX4_grid 38 = .ok (.iload_n 2, 1) := by decide +kernel
theorem dX4_grid_39 : decode cX4_grid 39 = .ok (.invokevirtual 45, 3) := by decide +kernel
theorem dX4_grid_42 : decode cX4_grid 42 = .ok (.aload_n 0, 1) := by decide +kernel
theorem dX4_grid_43 : decode cX4_grid 43 = .ok (.getfield 19, 3) := by decide +kernel
theorem dX4_grid_46 : decode cX4_grid 46 = .ok (.invokevirtual 49, 3) := by decide +kernel
theorem dX4_grid_49 : decode cX4_grid 49 = .ok (.aload_n 0, 1) := by decide +kernel
theorem dX4_grid_50 : decode cX4_grid 50 = .ok (.getfield 10, 3) := by decide +kernel
theorem dX4_grid_53 : decode cX4_grid 53 = .ok (.invokevirtual 52, 3) := by decide +kernel
theorem dX4_grid_56 : decode cX4_grid 56 = .ok (.ireturn, 1) := by decide +kernel
set_option maxRecDepth 20000 in
theorem ggX4_set_X4_isWithin : GoodIn wsX4_set wsX4_isWithin := goodIn_r _ [6] (by decide +kernel) (by decide +kernel)
set_option maxRecDepth 20000 in
theorem gX4_set_X4_isWithin : GoodIn wsX4_set (va_wsS RX4 37 yX4_isWithin wsX4_isWithin) := goodIn_app (goodIn_of _ (by decide +kernel)) ggX4_set_X4_isWithin
set_option maxRecDepth 20000 in
theorem ggX4_set_X2_recordState : GoodIn wsX4_set wsX2_recordState := goodIn_r _ [11, 12, 13, 14, 15, 10, 16, 17, 18, 19, 20, 21, 22, 23, 24, 25, 26, 27, 28, 29, 30, 31, 32, 33, 34, 5, 35, 36, 37, 38, 39, 56, 57, 58, 59, 60, 61, 62, 63, 64, 65, 66, 67, 68] (by decide +kernel) (by decide +kernel)
set_option maxRecDepth 20000 in
theorem gX4_set_X2_recordState : GoodIn wsX4_set (wsV RX4 41 RX2 yX2_recordState wsX2_recordState) := goodIn_app (goodIn_of _ (by decide +kernel)) ggX4_set_X2_recordState
set_option maxRecDepth 20000 in
theorem ggX4_set_X0_putGuard : GoodIn wsX4_set wsX0_putGuard := goodIn_r _ [43, 32, 59, 60, 61, 62, 63, 64, 65, 66, 67, 68] (by decide +kernel) (by decide +kernel)
set_option maxRecDepth 20000 in
theorem gX4_set_X0_putGuard : GoodIn wsX4_set (wsV RX4 56 RX0 yX0_putGuard wsX0_putGuard) := goodIn_app (goodIn_of _ (by decide +kernel)) ggX4_set_X0_putGuard
set_option maxRecDepth 20000 in
theorem ggX4_set_X0_putTolerance : GoodIn wsX4_set wsX0_putTolerance := goodIn_r _ [47, 33, 59, 60, 61, 62, 63, 64, 65, 66, 67, 68] (by decide +kernel) (by decide +kernel)
set_option maxRecDepth 20000 in
theorem gX4_set_X0_putTolerance : GoodIn wsX4_set (wsV RX4 60 RX0 yX0_putTolerance wsX0_putTolerance) := goodIn_app (goodIn_of _ (by decide +kernel)) ggX4_set_X0_putTolerance
set_option maxRecDepth 20000 in
theorem ggX4_set_X2_keepRecord : GoodIn wsX4_set wsX2_keepRecord := goodIn_r _ [51, 12, 17, 56, 57, 58] (by decide +kernel) (by decide +kernel)
set_option maxRecDepth 20000 in
theorem gX4_set_X2_keepRecord : GoodIn wsX4_set (wsV RX4 49 RX2 yX2_keepRecord wsX2_keepRecord) := goodIn_app (goodIn_of _ (by decide +kernel)) ggX4_set_X2_keepRecord
theorem dX4_set_0 : decode cX4_set 0 = .ok (.iload_n 1, 1) := by decide +kernel
theorem dX4_set_1 : decode cX4_set 1 = .ok (.iconst 0, 1) := by decide +kernel
theorem dX4_set_2 : decode cX4_set 2 = .ok (.iconst 1, 1) := by decide +kernel
theorem dX4_set_3 : decode cX4_set 3 = .ok (.invokestatic 37, 3) := by decide +kernel
theorem dX4_set_6 : decode cX4_set 6 = .ok (.ifCond .eq 22, 3) := by decide +kernel
theorem dX4_set_9 : decode cX4_set 9 = .ok (.iload_n 2, 1) := by decide +kernel
theorem dX4_set_10 : decode cX4_set 10 = .ok (.iconst 0, 1) := by decide +kernel
theorem dX4_set_11 : decode cX4_set 11 = .ok (.iload_n 1, 1) := by decide +kernel
theorem dX4_set_12 : decode cX4_set 12 = .ok (.ifCond .ne 7, 3) := by decide +kernel
theorem dX4_set_15 : decode cX4_set 15 = .ok (.iconst 1, 1) := by decide +kernel
theorem dX4_set_16 : decode cX4_set 16 = .ok (.goto 6, 3) := by decide +kernel
theorem dX4_set_19 : decode cX4_set 19 = .ok (.sipush 1000, 3) := by decide +kernel
theorem dX4_set_22 : decode cX4_set 22 = .ok (.invokestatic 37, 3) := by decide +kernel
theorem dX4_set_25 : decode cX4_set 25 = .ok (.ifCond .ne 5, 3) := by decide +kernel
theorem dX4_set_28 : decode cX4_set 28 = .ok (.iconst (-1), 1) := by decide +kernel
theorem dX4_set_29 : decode cX4_set 29 = .ok (.ireturn, 1) := by decide +kernel
theorem dX4_set_30 : decode cX4_set 30 = .ok (.aload_n 0, 1) := by decide +kernel
theorem dX4_set_31 : decode cX4_set 31 = .ok (.getfield 19, 3) := by decide +kernel
theorem dX4_set_34 : decode cX4_set 34 = .ok (.aload_n 0, 1) := by decide +kernel
theorem dX4_set_35 : decode cX4_set 35 = .ok (.getfield 10, 3) := by decide +kernel
theorem dX4_set_38 : decode cX4_set 38 = .ok (.invokevirtual 41, 3) := by decide +kernel
theorem dX4_set_41 : decode cX4_set 41 = .ok (.iload_n 1, 1) := by decide +kernel
theorem dX4_set_42 : decode cX4_set 42 = .ok (.ifCond .ne 14, 3) := by decide +kernel
theorem dX4_set_45 : decode cX4_set 45 = .ok (.aload_n 0, 1) := by decide +kernel
theorem dX4_set_46 : decode cX4_set 46 = .ok (.getfield 10, 3) := by decide +kernel
theorem dX4_set_49 : decode cX4_set 49 = .ok (.iload_n 2, 1) := by decide +kernel
theorem dX4_set_50 : decode cX4_set 50 = .ok (.invokevirtual 56, 3) := by decide +kernel
theorem dX4_set_53 : decode cX4_set 53 = .ok (.goto 11, 3) := by decide +kernel
theorem dX4_set_56 : decode cX4_set 56 = .ok (.aload_n 0, 1) := by decide +kernel
theorem dX4_set_57 : decode cX4_set 57 = .ok (.getfield 10, 3) := by decide +kernel
theorem dX4_set_60 : decode cX4_set 60 = .ok (.iload_n 2, 1) := by decide +kernel
theorem dX4_set_61 : decode cX4_set 61 = .ok (.invokevirtual 60, 3) := by decide +kernel
theorem dX4_set_64 : decode cX4_set 64 = .ok (.istore_n 3, 1) := by decide +kernel
theorem dX4_set_65 : decode cX4_set 65 = .ok (.aload_n 0, 1) := by decide +kernel
theorem dX4_set_66 : decode cX4_set 66 = .ok (.getfield 19, 3) := by decide +kernel
theorem dX4_set_69 : decode cX4_set 69 = .ok (.invokevirtual 49, 3) := by decide +kernel
theorem dX4_set_72 : decode cX4_set 72 = .ok (.iload_n 3, 1) := by decide +kernel
theorem dX4_set_73 : decode cX4_set 73 = .ok (.ireturn, 1) := by decide +kernel
set_option maxRecDepth 20000 in
theorem ggX4_show_X0_hasPlace : GoodIn wsX4_show wsX0_hasPlace := goodIn_r _ [7, 8, 9, 10, 6, 11, 12, 13, 14, 15, 16, 17, 18, 19, 20, 154, 155, 156, 157, 158, 159, 160, 161, 162, 163] (by decide +kernel) (by decide +kernel)
set_option maxRecDepth 20000 in
theorem gX4_show_X0_hasPlace : GoodIn wsX4_show (wsV RX4 63 RX0 yX0_hasPlace wsX0_hasPlace) := goodIn_app (goodIn_of _ (by decide +kernel)) ggX4_show_X0_hasPlace
set_option maxRecDepth 20000 in
theorem ggX4_show_X4_isDigit : GoodIn wsX4_show wsX4_isDigit := goodIn_r _ [23, 24, 18, 19, 20] (by decide +kernel) (by decide +kernel)
set_option maxRecDepth 20000 in
theorem gX4_show_X4_isDigit : GoodIn wsX4_show (va_wsS RX4 66 yX4_isDigit wsX4_isDigit) := goodIn_app (goodIn_of _ (by decide +kernel)) ggX4_show_X4_isDigit
set_option maxRecDepth 20000 in
theorem ggX4_show_X2_recordState : GoodIn wsX4_show wsX2_recordState := goodIn_r _ [29, 30, 31, 32, 33, 28, 34, 35, 36, 37, 38, 39, 6, 40, 41, 42, 43, 44, 45, 46, 16, 17, 47, 48, 49, 19, 50, 51, 52, 53, 54, 164, 165, 166, 154, 155, 156, 157, 158, 159, 160, 161, 162, 163] (by decide +kernel) (by decide +kernel)
set_option maxRecDepth 20000 in
theorem gX4_show_X2_recordState : GoodIn wsX4_show (wsV RX4 41 RX2 yX2_recordState wsX2_recordState) := goodIn_app (goodIn_of _ (by decide +kernel)) ggX4_show_X2_recordState
set_option maxRecDepth 20000 in
theorem ggX4_show_X0_putSign : GoodIn wsX4_show wsX0_putSign := goodIn_r _ [58, 41, 59, 60, 6, 61, 62, 19, 63, 154, 155, 156, 157, 158, 159, 160, 161, 162, 163] (by decide +kernel) (by decide +kernel)
set_option maxRecDepth 20000 in
theorem gX4_show_X0_putSign : GoodIn wsX4_show (wsV RX4 70 RX0 yX0_putSign wsX0_putSign) := goodIn_app (goodIn_of _ (by decide +kernel)) ggX4_show_X0_putSign
set_option maxRecDepth 20000 in
theorem ggX4_show_X4_endRevision : GoodIn wsX4_show wsX4_endRevision := goodIn_r _ [67, 1, 2, 68, 69, 70, 6, 71, 47, 72, 73, 74, 75, 76, 77, 78, 79, 16, 17, 80, 81, 82, 83, 84, 85, 86, 87, 88, 89, 90, 91, 92, 93, 94, 95, 46, 96, 19, 97, 98, 99, 100, 101, 102, 103, 104, 105, 106, 107, 108, 109, 110, 111, 112, 113, 114, 115, 116, 117, 41, 42, 59, 60, 61, 118, 119, 120, 121, 122, 123, 124, 125, 126, 127, 128, 28, 129, 30, 31, 32, 33, 34, 35, 36, 37, 38, 39, 40, 43, 44, 45, 48, 49, 50, 51, 52, 53, 54, 130, 131, 132, 133, 134, 135, 136, 137, 62, 63, 138, 139, 140, 141, 142, 143, 144, 145, 146, 147, 148, 149, 150, 151, 152, 153, 154, 155, 156, 157, 158, 159, 160, 161, 162, 163, 164, 165, 166] (by decide +kernel) (by decide +kernel)
set_option maxRecDepth 20000 in
theorem gX4_show_X4_endRevision : GoodIn wsX4_show (wsV RX4 74 RX4 yX4_endRevision wsX4_endRevision) := goodIn_app (goodIn_of _ (by decide +kernel)) ggX4_show_X4_endRevision
theorem dX4_show_0 : decode cX4_show 0 = .ok (.aload_n 0, 1) := by decide +kernel
theorem dX4_show_1 : decode cX4_show 1 = .ok (.getfield 10, 3) := by decide +kernel
theorem dX4_show_4 : decode cX4_show 4 = .ok (.iload_n 1, 1) := by decide +kernel
theorem dX4_show_5 : decode cX4_show 5 = .ok (.iload_n 2, 1) := by decide +kernel
theorem dX4_show_6 : decode cX4_show 6 = .ok (.iload_n 3, 1) := by decide +kernel
theorem dX4_show_7 : decode cX4_show 7 = .ok (.invokevirtual 63, 3) := by decide +kernel
theorem dX4_show_10 : decode cX4_show 10 = .ok (.ifCond .eq 11, 3) := by decide +kernel
theorem dX4_show_13 : decode cX4_show 13 = .ok (.iload 4, 2) := by decide +kernel
theorem dX4_show_15 : decode cX4_show 15 = .ok (.invokestatic 66, 3) := by decide +kernel
theorem dX4_show_18 : decode cX4_show 18 = .ok (.ifCond .ne 5, 3) := by decide +kernel
theorem dX4_show_21 : decode cX4_show 21 = .ok (.iconst (-1), 1) := by decide +kernel
theorem dX4_show_22 : decode cX4_show 22 = .ok (.ireturn, 1) := by decide +kernel
theorem dX4_show_23 : decode cX4_show 23 = .ok (.aload_n 0, 1) := by decide +kernel
theorem dX4_show_24 : decode cX4_show 24 = .ok (.getfield 19, 3) := by decide +kernel
theorem dX4_show_27 : decode cX4_show 27 = .ok (.aload_n 0, 1) := by decide +kernel
theorem dX4_show_28 : decode cX4_show 28 = .ok (.getfield 10, 3) := by decide +kernel
theorem dX4_show_31 : decode cX4_show 31 = .ok (.invokevirtual 41, 3) := by decide +kernel
theorem dX4_show_34 : decode cX4_show 34 = .ok (.aload_n 0, 1) := by decide +kernel
theorem dX4_show_35 : decode cX4_show 35 = .ok (.getfield 10, 3) := by decide +kernel
theorem dX4_show_38 : decode cX4_show 38 = .ok (.iload_n 1, 1) := by decide +kernel
theorem dX4_show_39 : decode cX4_show 39 = .ok (.iload_n 2, 1) := by decide +kernel
theorem dX4_show_40 : decode cX4_show 40 = .ok (.iload_n 3, 1) := by decide +kernel
theorem dX4_show_41 : decode cX4_show 41 = .ok (.iload 4, 2) := by decide +kernel
theorem dX4_show_43 : decode cX4_show 43 = .ok (.invokevirtual 70, 3) := by decide +kernel
theorem dX4_show_46 : decode cX4_show 46 = .ok (.istore 5, 2) := by decide +kernel
theorem dX4_show_48 : decode cX4_show 48 = .ok (.aload_n 0, 1) := by decide +kernel
theorem dX4_show_49 : decode cX4_show 49 = .ok (.iload_n 1, 1) := by decide +kernel
theorem dX4_show_50 : decode cX4_show 50 = .ok (.iload 5, 2) := by decide +kernel
theorem dX4_show_52 : decode cX4_show 52 = .ok (.invokevirtual 74, 3) := by decide +kernel
theorem dX4_show_55 : decode cX4_show 55 = .ok (.ireturn, 1) := by decide +kernel
set_option maxRecDepth 20000 in
theorem ggX4_erase_X0_hasPlace : GoodIn wsX4_erase wsX0_hasPlace := goodIn_r _ [7, 8, 9, 10, 6, 11, 12, 13, 14, 15, 16, 17, 18, 19, 20, 154, 155, 156, 157, 158, 159, 160, 161, 162, 163] (by decide +kernel) (by decide +kernel)
set_option maxRecDepth 20000 in
theorem gX4_erase_X0_hasPlace : GoodIn wsX4_erase (wsV RX4 63 RX0 yX0_hasPlace wsX0_hasPlace) := goodIn_app (goodIn_of _ (by decide +kernel)) ggX4_erase_X0_hasPlace
set_option maxRecDepth 20000 in
theorem ggX4_erase_X0_signAt : GoodIn wsX4_erase wsX0_signAt := goodIn_r _ [24, 25, 26, 27, 6, 28, 29, 19, 30, 154, 155, 156, 157, 158, 159, 160, 161, 162, 163] (by decide +kernel) (by decide +kernel)
set_option maxRecDepth 20000 in
theorem gX4_erase_X0_signAt : GoodIn wsX4_erase (wsV RX4 78 RX0 yX0_signAt wsX0_signAt) := goodIn_app (goodIn_of _ (by decide +kernel)) ggX4_erase_X0_signAt
set_option maxRecDepth 20000 in
theorem ggX4_erase_X2_recordState : GoodIn wsX4_erase wsX2_recordState := goodIn_r _ [35, 36, 37, 38, 39, 34, 40, 41, 42, 43, 44, 45, 6, 46, 25, 47, 48, 49, 50, 51, 16, 17, 52, 53, 54, 19, 55, 56, 57, 58, 59, 164, 165, 166, 154, 155, 156, 157, 158, 159, 160, 161, 162, 163] (by decide +kernel) (by decide +kernel)
set_option maxRecDepth 20000 in
theorem gX4_erase_X2_recordState : GoodIn wsX4_erase (wsV RX4 41 RX2 yX2_recordState wsX2_recordState) := goodIn_app (goodIn_of _ (by decide +kernel)) ggX4_erase_X2_recordState
set_option maxRecDepth 20000 in
theorem ggX4_erase_X0_putSign : GoodIn wsX4_erase wsX0_putSign := goodIn_r _ [63, 25, 26, 27, 6, 28, 64, 19, 65, 154, 155, 156, 157, 158, 159, 160, 161, 162, 163] (by decide +kernel) (by decide +kernel)
set_option maxRecDepth 20000 in
theorem gX4_erase_X0_putSign : GoodIn wsX4_erase (wsV RX4 70 RX0 yX0_putSign wsX0_putSign) := goodIn_app (goodIn_of _ (by decide +kernel)) ggX4_erase_X0_putSign
set_option maxRecDepth 20000 in
theorem ggX4_erase_X4_endRevision : GoodIn wsX4_erase wsX4_endRevision := goodIn_r _ [69, 1, 2, 70, 71, 72, 6, 73, 52, 74, 75, 76, 77, 78, 79, 80, 81, 16, 17, 82, 83, 84, 85, 86, 87, 88, 89, 90, 91, 92, 93, 94, 95, 96, 97, 51, 29, 19, 30, 98, 99, 100, 101, 102, 103, 104, 105, 106, 107, 108, 109, 110, 111, 112, 113, 114, 115, 116, 117, 25, 47, 26, 27, 28, 118, 119, 120, 121, 122, 123, 124, 125, 126, 127, 128, 34, 129, 36, 37, 38, 39, 40, 41, 42, 43, 44, 45, 46, 48, 49, 50, 53, 54, 55, 56, 57, 58, 59, 130, 131, 132, 133, 134, 135, 136, 137, 64, 65, 138, 139, 140, 141, 142, 143, 144, 145, 146, 147, 148, 149, 150, 151, 152, 153, 154, 155, 156, 157, 158, 159, 160, 161, 162, 163, 164, 165, 166] (by decide +kernel) (by decide +kernel)
set_option maxRecDepth 20000 in
theorem gX4_erase_X4_endRevision : GoodIn wsX4_erase (wsV RX4 74 RX4 yX4_endRevision wsX4_endRevision) := goodIn_app (goodIn_of _ (by decide +kernel)) ggX4_erase_X4_endRevision
theorem dX4_erase_0 : decode cX4_erase 0 = .ok (.aload_n 0, 1) := by decide +kernel
theorem dX4_erase_1 : decode cX4_erase 1 = .ok (.getfield 10, 3) := by decide +kernel
theorem dX4_erase_4 : decode cX4_erase 4 = .ok (.iload_n 1, 1) := by decide +kernel
theorem dX4_erase_5 : decode cX4_erase 5 = .ok (.iload_n 2, 1) := by decide +kernel
theorem dX4_erase_6 : decode cX4_erase 6 = .ok (.iload_n 3, 1) := by decide +kernel
theorem dX4_erase_7 : decode cX4_erase 7 = .ok (.invokevirtual 63, 3) := by decide +kernel
theorem dX4_erase_10 : decode cX4_erase 10 = .ok (.ifCond .ne 5, 3) := by decide +kernel
theorem dX4_erase_13 : decode cX4_erase 13 = .ok (.iconst (-1), 1) := by decide +kernel
theorem dX4_erase_14 : decode cX4_erase 14 = .ok (.ireturn, 1) := by decide +kernel
theorem dX4_erase_15 : decode cX4_erase 15 = .ok (.aload_n 0, 1) := by decide +kernel
theorem dX4_erase_16 : decode cX4_erase 16 = .ok (.getfield 10, 3) := by decide +kernel
theorem dX4_erase_19 : decode cX4_erase 19 = .ok (.iload_n 1, 1) := by decide +kernel
theorem dX4_erase_20 : decode cX4_erase 20 = .ok (.iload_n 2, 1) := by decide +kernel
theorem dX4_erase_21 : decode cX4_erase 21 = .ok (.iload_n 3, 1) := by decide +kernel
theorem dX4_erase_22 : decode cX4_erase 22 = .ok (.invokevirtual 78, 3) := by decide +kernel
theorem dX4_erase_25 : decode cX4_erase 25 = .ok (.bipush 10, 2) := by decide +kernel
theorem dX4_erase_27 : decode cX4_erase 27 = .ok (.if_icmp .ne 6, 3) := by decide +kernel
theorem dX4_erase_30 : decode cX4_erase 30 = .ok (.bipush (-2), 2) := by decide +kernel
theorem dX4_erase_32 : decode cX4_erase 32 = .ok (.ireturn, 1) := by decide +kernel
theorem dX4_erase_33 : decode cX4_erase 33 = .ok (.aload_n 0, 1) := by decide +kernel
theorem dX4_erase_34 : decode cX4_erase 34 = .ok (.getfield 19, 3) := by decide +kernel
theorem dX4_erase_37 : decode cX4_erase 37 = .ok (.aload_n 0, 1) := by decide +kernel
theorem dX4_erase_38 : decode cX4_erase 38 = .ok (.getfield 10, 3) := by decide +kernel
theorem dX4_erase_41 : decode cX4_erase 41 = .ok (.invokevirtual 41, 3) := by decide +kernel
theorem dX4_erase_44 : decode cX4_erase 44 = .ok (.aload_n 0, 1) := by decide +kernel
theorem dX4_erase_45 : decode cX4_erase 45 = .ok (.getfield 10, 3) := by decide +kernel
theorem dX4_erase_48 : decode cX4_erase 48 = .ok (.iload_n 1, 1) := by decide +kernel
theorem dX4_erase_49 : decode cX4_erase 49 = .ok (.iload_n 2, 1) := by decide +kernel
theorem dX4_erase_50 : decode cX4_erase 50 = .ok (.iload_n 3, 1) := by decide +kernel
theorem dX4_erase_51 : decode cX4_erase 51 = .ok (.bipush 10, 2) := by decide +kernel
theorem dX4_erase_53 : decode cX4_erase 53 = .ok (.invokevirtual 70, 3) := by decide +kernel
theorem dX4_erase_56 : decode cX4_erase 56 = .ok (.istore 4, 2) := by decide +kernel
theorem dX4_erase_58 : decode cX4_erase 58 = .ok (.aload_n 0, 1) := by decide +kernel
theorem dX4_erase_59 : decode cX4_erase 59 = .ok (.iload_n 1, 1) := by decide +kernel
theorem dX4_erase_60 : decode cX4_erase 60 = .ok (.iload 4, 2) := by decide +kernel
theorem dX4_erase_62 : decode cX4_erase 62 = .ok (.invokevirtual 74, 3) := by decide +kernel
theorem dX4_erase_65 : decode cX4_erase 65 = .ok (.ireturn, 1) := by decide +kernel
set_option maxRecDepth 20000 in
theorem ggX4_mean_X0_hasSheet : GoodIn wsX4_mean wsX0_hasSheet := goodIn_r _ [7, 8, 9, 10, 6, 11, 12, 13, 150, 151, 152, 153, 154, 155, 156, 157, 158, 159] (by decide +kernel) (by decide +kernel)
set_option maxRecDepth 20000 in
theorem gX4_mean_X0_hasSheet : GoodIn wsX4_mean (wsV RX4 82 RX0 yX0_hasSheet wsX0_hasSheet) := goodIn_app (goodIn_of _ (by decide +kernel)) ggX4_mean_X0_hasSheet
set_option maxRecDepth 20000 in
theorem ggX4_mean_X4_isDigit : GoodIn wsX4_mean wsX4_isDigit := goodIn_r _ [17, 18, 19, 16, 20] (by decide +kernel) (by decide +kernel)
set_option maxRecDepth 20000 in
theorem gX4_mean_X4_isDigit : GoodIn wsX4_mean (va_wsS RX4 66 yX4_isDigit wsX4_isDigit) := goodIn_app (goodIn_of _ (by decide +kernel)) ggX4_mean_X4_isDigit
set_option maxRecDepth 20000 in
theorem ggX4_mean_X2_recordState : GoodIn wsX4_mean wsX2_recordState := goodIn_r _ [25, 26, 27, 28, 29, 24, 30, 31, 32, 33, 34, 35, 6, 36, 37, 38, 39, 40, 41, 42, 12, 13, 43, 44, 45, 16, 46, 47, 48, 49, 50, 160, 161, 162, 150, 151, 152, 153, 154, 155, 156, 157, 158, 159] (by decide +kernel) (by decide +kernel)
set_option maxRecDepth 20000 in
theorem gX4_mean_X2_recordState : GoodIn wsX4_mean (wsV RX4 41 RX2 yX2_recordState wsX2_recordState) := goodIn_app (goodIn_of _ (by decide +kernel)) ggX4_mean_X2_recordState
set_option maxRecDepth 20000 in
theorem ggX4_mean_X0_putMeaning : GoodIn wsX4_mean wsX0_putMeaning := goodIn_r _ [54, 38, 55, 16, 56, 150, 151, 152, 153, 154, 155, 156, 157, 158, 159] (by decide +kernel) (by decide +kernel)
set_option maxRecDepth 20000 in
theorem gX4_mean_X0_putMeaning : GoodIn wsX4_mean (wsV RX4 85 RX0 yX0_putMeaning wsX0_putMeaning) := goodIn_app (goodIn_of _ (by decide +kernel)) ggX4_mean_X0_putMeaning
set_option maxRecDepth 20000 in
theorem ggX4_mean_X4_endRevision : GoodIn wsX4_mean wsX4_endRevision := goodIn_r _ [60, 1, 2, 61, 62, 63, 6, 64, 43, 65, 66, 67, 68, 69, 70, 71, 72, 12, 13, 73, 74, 75, 76, 77, 78, 79, 80, 81, 82, 83, 84, 85, 86, 87, 88, 42, 89, 16, 90, 91, 92, 93, 94, 95, 96, 97, 98, 99, 100, 101, 102, 103, 104, 105, 106, 107, 108, 109, 110, 37, 38, 111, 112, 113, 114, 115, 116, 117, 118, 119, 120, 121, 122, 123, 124, 24, 125, 26, 27, 28, 29, 30, 31, 32, 33, 34, 35, 36, 39, 40, 41, 44, 45, 46, 47, 48, 49, 50, 126, 127, 128, 129, 130, 131, 132, 133, 55, 56, 134, 135, 136, 137, 138, 139, 140, 141, 142, 143, 144, 145, 146, 147, 148, 149, 150, 151, 152, 153, 154, 155, 156, 157, 158, 159, 160, 161, 162] (by decide +kernel) (by decide +kernel)
set_option maxRecDepth 20000 in
theorem gX4_mean_X4_endRevision : GoodIn wsX4_mean (wsV RX4 74 RX4 yX4_endRevision wsX4_endRevision) := goodIn_app (goodIn_of _ (by decide +kernel)) ggX4_mean_X4_endRevision
theorem dX4_mean_0 : decode cX4_mean 0 = .ok (.aload_n 0, 1) := by decide +kernel
theorem dX4_mean_1 : decode cX4_mean 1 = .ok (.getfield 10, 3) := by decide +kernel
theorem dX4_mean_4 : decode cX4_mean 4 = .ok (.iload_n 1, 1) := by decide +kernel
theorem dX4_mean_5 : decode cX4_mean 5 = .ok (.invokevirtual 82, 3) := by decide +kernel
theorem dX4_mean_8 : decode cX4_mean 8 = .ok (.ifCond .eq 17, 3) := by decide +kernel
theorem dX4_mean_11 : decode cX4_mean 11 = .ok (.iload_n 2, 1) := by decide +kernel
theorem dX4_mean_12 : decode cX4_mean 12 = .ok (.invokestatic 66, 3) := by decide +kernel
theorem dX4_mean_15 : decode cX4_mean 15 = .ok (.ifCond .eq 10, 3) := by decide +kernel
theorem dX4_mean_18 : decode cX4_mean 18 = .ok (.iload_n 3, 1) := by decide +kernel
theorem dX4_mean_19 : decode cX4_mean 19 = .ok (.invokestatic 66, 3) := by decide +kernel
theorem dX4_mean_22 : decode cX4_mean 22 = .ok (.ifCond .ne 5, 3) := by decide +kernel
theorem dX4_mean_25 : decode cX4_mean 25 = .ok (.iconst (-1), 1) := by decide +kernel
theorem dX4_mean_26 : decode cX4_mean 26 = .ok (.ireturn, 1) := by decide +kernel
theorem dX4_mean_27 : decode cX4_mean 27 = .ok (.aload_n 0, 1) := by decide +kernel
theorem dX4_mean_28 : decode cX4_mean 28 = .ok (.getfield 19, 3) := by decide +kernel
theorem dX4_mean_31 : decode cX4_mean 31 = .ok (.aload_n 0, 1) := by decide +kernel
theorem dX4_mean_32 : decode cX4_mean 32 = .ok (.getfield 10, 3) := by decide +kernel
theorem dX4_mean_35 : decode cX4_mean 35 = .ok (.invokevirtual 41, 3) := by decide +kernel
theorem dX4_mean_38 : decode cX4_mean 38 = .ok (.aload_n 0, 1) := by decide +kernel
theorem dX4_mean_39 : decode cX4_mean 39 = .ok (.getfield 10, 3) := by decide +kernel
theorem dX4_mean_42 : decode cX4_mean 42 = .ok (.iload_n 1, 1) := by decide +kernel
theorem dX4_mean_43 : decode cX4_mean 43 = .ok (.iload_n 2, 1) := by decide +kernel
theorem dX4_mean_44 : decode cX4_mean 44 = .ok (.iload_n 3, 1) := by decide +kernel
theorem dX4_mean_45 : decode cX4_mean 45 = .ok (.invokevirtual 85, 3) := by decide +kernel
theorem dX4_mean_48 : decode cX4_mean 48 = .ok (.istore 4, 2) := by decide +kernel
theorem dX4_mean_50 : decode cX4_mean 50 = .ok (.aload_n 0, 1) := by decide +kernel
theorem dX4_mean_51 : decode cX4_mean 51 = .ok (.iload_n 1, 1) := by decide +kernel
theorem dX4_mean_52 : decode cX4_mean 52 = .ok (.iload 4, 2) := by decide +kernel
theorem dX4_mean_54 : decode cX4_mean 54 = .ok (.invokevirtual 74, 3) := by decide +kernel
theorem dX4_mean_57 : decode cX4_mean 57 = .ok (.ireturn, 1) := by decide +kernel
set_option maxRecDepth 20000 in
theorem ggX4_sign_X0_hasPlace : GoodIn wsX4_sign wsX0_hasPlace := goodIn_r _ [6, 7, 8, 9, 5, 10, 11, 12, 13, 14, 15, 16, 17, 18, 19, 34, 35, 36, 37, 38, 39, 40, 41, 42, 43] (by decide +kernel) (by decide +kernel)
set_option maxRecDepth 20000 in
theorem gX4_sign_X0_hasPlace : GoodIn wsX4_sign (wsV RX4 63 RX0 yX0_hasPlace wsX0_hasPlace) := goodIn_app (goodIn_of _ (by decide +kernel)) ggX4_sign_X0_hasPlace
set_option maxRecDepth 20000 in
theorem ggX4_sign_X0_signAt : GoodIn wsX4_sign wsX0_signAt := goodIn_r _ [23, 24, 25, 26, 5, 27, 28, 18, 29, 34, 35, 36, 37, 38, 39, 40, 41, 42, 43] (by decide +kernel) (by decide +kernel)
set_option maxRecDepth 20000 in
theorem gX4_sign_X0_signAt : GoodIn wsX4_sign (wsV RX4 78 RX0 yX0_signAt wsX0_signAt) := goodIn_app (goodIn_of _ (by decide +kernel)) ggX4_sign_X0_signAt
theorem dX4_sign_0 : decode cX4_sign 0 = .ok (.aload_n 0, 1) := by decide +kernel
theorem dX4_sign_1 : decode cX4_sign 1 = .ok (.getfield 10, 3) := by decide +kernel
theorem dX4_sign_4 : decode cX4_sign 4 = .ok (.iload_n 1, 1) := by decide +kernel
theorem dX4_sign_5 : decode cX4_sign 5 = .ok (.iload_n 2, 1) := by decide +kernel
theorem dX4_sign_6 : decode cX4_sign 6 = .ok (.iload_n 3, 1) := by decide +kernel
theorem dX4_sign_7 : decode cX4_sign 7 = .ok (.invokevirtual 63, 3) := by decide +kernel
theorem dX4_sign_10 : decode cX4_sign 10 = .ok (.ifCond .ne 5, 3) := by decide +kernel
theorem dX4_sign_13 : decode cX4_sign 13 = .ok (.iconst (-1), 1) := by decide +kernel
theorem dX4_sign_14 : decode cX4_sign 14 = .ok (.ireturn, 1) := by decide +kernel
theorem dX4_sign_15 : decode cX4_sign 15 = .ok (.aload_n 0, 1) := by decide +kernel
theorem dX4_sign_16 : decode cX4_sign 16 = .ok (.getfield 10, 3) := by decide +kernel
theorem dX4_sign_19 : decode cX4_sign 19 = .ok (.iload_n 1, 1) := by decide +kernel
theorem dX4_sign_20 : decode cX4_sign 20 = .ok (.iload_n 2, 1) := by decide +kernel
theorem dX4_sign_21 : decode cX4_sign 21 = .ok (.iload_n 3, 1) := by decide +kernel
theorem dX4_sign_22 : decode cX4_sign 22 = .ok (.invokevirtual 78, 3) := by decide +kernel
theorem dX4_sign_25 : decode cX4_sign 25 = .ok (.istore 4, 2) := by decide +kernel
theorem dX4_sign_27 : decode cX4_sign 27 = .ok (.iload 4, 2) := by decide +kernel
theorem dX4_sign_29 : decode cX4_sign 29 = .ok (.bipush 10, 2) := by decide +kernel
theorem dX4_sign_31 : decode cX4_sign 31 = .ok (.if_icmp .ne 8, 3) := by decide +kernel
theorem dX4_sign_34 : decode cX4_sign 34 = .ok (.bipush (-4), 2) := by decide +kernel
theorem dX4_sign_36 : decode cX4_sign 36 = .ok (.goto 5, 3) := by decide +kernel
theorem dX4_sign_39 : decode cX4_sign 39 = .ok (.iload 4, 2) := by decide +kernel
theorem dX4_sign_41 : decode cX4_sign 41 = .ok (.ireturn, 1) := by decide +kernel
set_option maxRecDepth 20000 in
theorem ggX4_meaning_X0_hasSheet : GoodIn wsX4_meaning wsX0_hasSheet := goodIn_r _ [6, 7, 8, 9, 5, 10, 11, 12, 31, 32, 33, 34, 35, 36, 37, 38, 39, 40] (by decide +kernel) (by decide +kernel)
set_option maxRecDepth 20000 in
theorem gX4_meaning_X0_hasSheet : GoodIn wsX4_meaning (wsV RX4 82 RX0 yX0_hasSheet wsX0_hasSheet) := goodIn_app (goodIn_of _ (by decide +kernel)) ggX4_meaning_X0_hasSheet
set_option maxRecDepth 20000 in
theorem ggX4_meaning_X4_isDigit : GoodIn wsX4_meaning wsX4_isDigit := goodIn_r _ [16, 17, 18, 15, 19] (by decide +kernel) (by decide +kernel)
set_option maxRecDepth 20000 in
theorem gX4_meaning_X4_isDigit : GoodIn wsX4_meaning (va_wsS RX4 66 yX4_isDigit wsX4_isDigit) := goodIn_app (goodIn_of _ (by decide +kernel)) ggX4_meaning_X4_isDigit
set_option maxRecDepth 20000 in
theorem ggX4_meaning_X0_meaningOf : GoodIn wsX4_meaning wsX0_meaningOf := goodIn_r _ [23, 24, 25, 15, 26, 31, 32, 33, 34, 35, 36, 37, 38, 39, 40] (by decide +kernel) (by decide +kernel)
set_option maxRecDepth 20000 in
theorem gX4_meaning_X0_meaningOf : GoodIn wsX4_meaning (wsV RX4 88 RX0 yX0_meaningOf wsX0_meaningOf) := goodIn_app (goodIn_of _ (by decide +kernel)) ggX4_meaning_X0_meaningOf
theorem dX4_meaning_0 : decode cX4_meaning 0 = .ok (.aload_n 0, 1) := by decide +kernel
theorem dX4_meaning_1 : decode cX4_meaning 1 = .ok (.getfield 10, 3) := by decide +kernel
theorem dX4_meaning_4 : decode cX4_meaning 4 = .ok (.iload_n 1, 1) := by decide +kernel
theorem dX4_meaning_5 : decode cX4_meaning 5 = .ok (.invokevirtual 82, 3) := by decide +kernel
theorem dX4_meaning_8 : decode cX4_meaning 8 = .ok (.ifCond .eq 10, 3) := by decide +kernel
theorem dX4_meaning_11 : decode cX4_meaning 11 = .ok (.iload_n 2, 1) := by decide +kernel
theorem dX4_meaning_12 : decode cX4_meaning 12 = .ok (.invokestatic 66, 3) := by decide +kernel
theorem dX4_meaning_15 : decode cX4_meaning 15 = .ok (.ifCond .ne 5, 3) := by decide +kernel
theorem dX4_meaning_18 : decode cX4_meaning 18 = .ok (.iconst (-1), 1) := by decide +kernel
theorem dX4_meaning_19 : decode cX4_meaning 19 = .ok (.ireturn, 1) := by decide +kernel
theorem dX4_meaning_20 : decode cX4_meaning 20 = .ok (.aload_n 0, 1) := by decide +kernel
theorem dX4_meaning_21 : decode cX4_meaning 21 = .ok (.getfield 10, 3) := by decide +kernel
theorem dX4_meaning_24 : decode cX4_meaning 24 = .ok (.iload_n 1, 1) := by decide +kernel
theorem dX4_meaning_25 : decode cX4_meaning 25 = .ok (.iload_n 2, 1) := by decide +kernel
theorem dX4_meaning_26 : decode cX4_meaning 26 = .ok (.invokevirtual 88, 3) := by decide +kernel
theorem dX4_meaning_29 : decode cX4_meaning 29 = .ok (.ireturn, 1) := by decide +kernel
set_option maxRecDepth 20000 in
theorem ggX4_sheet_X0_hasSheet : GoodIn wsX4_sheet wsX0_hasSheet := goodIn_r _ [7, 8, 9, 10, 6, 11, 12, 13, 127, 128, 129, 130, 131, 132, 133, 134, 135, 136] (by decide +kernel) (by decide +kernel)
set_option maxRecDepth 20000 in
theorem gX4_sheet_X0_hasSheet : GoodIn wsX4_sheet (wsV RX4 82 RX0 yX0_hasSheet wsX0_hasSheet) := goodIn_app (goodIn_of _ (by decide +kernel)) ggX4_sheet_X0_hasSheet
set_option maxRecDepth 20000 in
theorem ggX4_sheet_X0_columnOf : GoodIn wsX4_sheet wsX0_columnOf := goodIn_r _ [17, 12, 127, 128, 129, 130, 131, 132, 133, 134, 135, 136] (by decide +kernel) (by decide +kernel)
set_option maxRecDepth 20000 in
theorem gX4_sheet_X0_columnOf : GoodIn wsX4_sheet (wsV RX4 91 RX0 yX0_columnOf wsX0_columnOf) := goodIn_app (goodIn_of _ (by decide +kernel)) ggX4_sheet_X0_columnOf
set_option maxRecDepth 20000 in
theorem ggX4_sheet_X0_rowOf : GoodIn wsX4_sheet wsX0_rowOf := goodIn_r _ [21, 12, 127, 128, 129, 130, 131, 132, 133, 134, 135, 136] (by decide +kernel) (by decide +kernel)
set_option maxRecDepth 20000 in
theorem gX4_sheet_X0_rowOf : GoodIn wsX4_sheet (wsV RX4 94 RX0 yX0_rowOf wsX0_rowOf) := goodIn_app (goodIn_of _ (by decide +kernel)) ggX4_sheet_X0_rowOf
set_option maxRecDepth 20000 in
theorem ggX4_sheet_X0_edgesOf : GoodIn wsX4_sheet wsX0_edgesOf := goodIn_r _ [25, 26, 27, 28, 6, 29, 12, 13, 30, 15, 16, 17, 31, 19, 20, 21, 32, 33, 34, 35, 127, 128, 129, 130, 131, 132, 133, 134, 135, 136] (by decide +kernel) (by decide +kernel)
set_option maxRecDepth 20000 in
theorem gX4_sheet_X0_edgesOf : GoodIn wsX4_sheet (wsV RX4 97 RX0 yX0_edgesOf wsX0_edgesOf) := goodIn_app (goodIn_of _ (by decide +kernel)) ggX4_sheet_X0_edgesOf
set_option maxRecDepth 20000 in
theorem ggX4_sheet_X0_agreedEdgesOf : GoodIn wsX4_sheet wsX0_agreedEdgesOf := goodIn_r _ [39, 26, 27, 28, 6, 29, 12, 13, 30, 15, 16, 17, 31, 19, 20, 21, 32, 33, 34, 35, 40, 41, 42, 43, 44, 45, 46, 47, 127, 128, 129, 130, 131, 132, 133, 134, 135, 136] (by decide +kernel) (by decide +kernel)
set_option maxRecDepth 20000 in
theorem gX4_sheet_X0_agreedEdgesOf : GoodIn wsX4_sheet (wsV RX4 100 RX0 yX0_agreedEdgesOf wsX0_agreedEdgesOf) := goodIn_app (goodIn_of _ (by decide +kernel)) ggX4_sheet_X0_agreedEdgesOf
set_option maxRecDepth 20000 in
theorem ggX4_sheet_X0_revisionOf : GoodIn wsX4_sheet wsX0_revisionOf := goodIn_r _ [51, 52, 45, 46, 47, 127, 128, 129, 130, 131, 132, 133, 134, 135, 136] (by decide +kernel) (by decide +kernel)
set_option maxRecDepth 20000 in
theorem gX4_sheet_X0_revisionOf : GoodIn wsX4_sheet (wsV RX4 103 RX0 yX0_revisionOf wsX0_revisionOf) := goodIn_app (goodIn_of _ (by decide +kernel)) ggX4_sheet_X0_revisionOf
set_option maxRecDepth 20000 in
theorem ggX4_sheet_X0_isPublished : GoodIn wsX4_sheet wsX0_isPublished := goodIn_r _ [56, 57, 58, 59, 6, 60, 61, 45, 46, 47, 127, 128, 129, 130, 131, 132, 133, 134, 135, 136] (by decide +kernel) (by decide +kernel)
set_option maxRecDepth 20000 in
theorem gX4_sheet_X0_isPublished : GoodIn wsX4_sheet (wsV RX4 106 RX0 yX0_isPublished wsX0_isPublished) := goodIn_app (goodIn_of _ (by decide +kernel)) ggX4_sheet_X0_isPublished
set_option maxRecDepth 20000 in
theorem ggX4_sheet_X0_publishedOf : GoodIn wsX4_sheet wsX0_publishedOf := goodIn_r _ [60, 61, 45, 46, 47, 127, 128, 129, 130, 131, 132, 133, 134, 135, 136] (by decide +kernel) (by decide +kernel)
set_option maxRecDepth 20000 in
theorem gX4_sheet_X0_publishedOf : GoodIn wsX4_sheet (wsV RX4 109 RX0 yX0_publishedOf wsX0_publishedOf) := goodIn_app (goodIn_of _ (by decide +kernel)) ggX4_sheet_X0_publishedOf
set_option maxRecDepth 20000 in
theorem ggX4_sheet_X0_isUpToDate : GoodIn wsX4_sheet wsX0_isUpToDate := goodIn_r _ [66, 67, 54, 55, 6, 56, 57, 58, 59, 60, 61, 45, 46, 47, 68, 49, 50, 51, 52, 127, 128, 129, 130, 131, 132, 133, 134, 135, 136] (by decide +kernel) (by decide +kernel)
set_option maxRecDepth 20000 in
theorem gX4_sheet_X0_isUpToDate : GoodIn wsX4_sheet (wsV RX4 112 RX0 yX0_isUpToDate wsX0_isUpToDate) := goodIn_app (goodIn_of _ (by decide +kernel)) ggX4_sheet_X0_isUpToDate
set_option maxRecDepth 20000 in
theorem ggX4_sheet_X0_scaleOf : GoodIn wsX4_sheet wsX0_scaleOf := goodIn_r _ [72, 73, 45, 46, 47, 127, 128, 129, 130, 131, 132, 133, 134, 135, 136] (by decide +kernel) (by decide +kernel)
set_option maxRecDepth 20000 in
theorem gX4_sheet_X0_scaleOf : GoodIn wsX4_sheet (wsV RX4 115 RX0 yX0_scaleOf wsX0_scaleOf) := goodIn_app (goodIn_of _ (by decide +kernel)) ggX4_sheet_X0_scaleOf
set_option maxRecDepth 20000 in
theorem ggX4_sheet_X0_signsShownOn : GoodIn wsX4_sheet wsX0_signsShownOn := goodIn_r _ [77, 78, 79, 80, 6, 81, 82, 83, 84, 85, 45, 46, 47, 127, 128, 129, 130, 131, 132, 133, 134, 135, 136] (by decide +kernel) (by decide +kernel)
set_option maxRecDepth 20000 in
theorem gX4_sheet_X0_signsShownOn : GoodIn wsX4_sheet (wsV RX4 118 RX0 yX0_signsShownOn wsX0_signsShownOn) := goodIn_app (goodIn_of _ (by decide +kernel)) ggX4_sheet_X0_signsShownOn
set_option maxRecDepth 20000 in
theorem ggX4_sheet_X1_find : GoodIn wsX4_sheet wsX1_find := goodIn_r _ [90, 91, 92, 93, 94, 95, 96, 97, 98, 99, 100, 101, 6, 102, 12, 13, 32, 33, 34, 35, 103, 9, 10, 11, 104, 41, 42, 43, 44, 45, 46, 47, 105, 106, 107, 108, 109, 110, 111, 89, 112, 113, 114, 115, 116, 117, 118, 119, 120, 121, 137, 127, 128, 129, 130, 131, 132, 133, 134, 135, 136] (by decide +kernel) (by decide +kernel)
set_option maxRecDepth 20000 in
theorem gX4_sheet_X1_find : GoodIn wsX4_sheet (wsV RX4 121 RX1 yX1_find wsX1_find) := goodIn_app (goodIn_of _ (by decide +kernel)) ggX4_sheet_X1_find
set_option maxRecDepth 20000 in
theorem ggX4_sheet_X1_lowestOf : GoodIn wsX4_sheet wsX1_lowestOf := goodIn_r _ [112, 91, 45, 46, 47, 137] (by decide +kernel) (by decide +kernel)
set_option maxRecDepth 20000 in
theorem gX4_sheet_X1_lowestOf : GoodIn wsX4_sheet (wsV RX4 125 RX1 yX1_lowestOf wsX1_lowestOf) := goodIn_app (goodIn_of _ (by decide +kernel)) ggX4_sheet_X1_lowestOf
theorem dX4_sheet_0 : decode cX4_sheet 0 = .ok (.aload_n 0, 1) := by decide +kernel
theorem dX4_sheet_1 : decode cX4_sheet 1 = .ok (.getfield 10, 3) := by decide +kernel
theorem dX4_sheet_4 : decode cX4_sheet 4 = .ok (.iload_n 1, 1) := by decide +kernel
theorem dX4_sheet_5 : decode cX4_sheet 5 = .ok (.invokevirtual 82, 3) := by decide +kernel
theorem dX4_sheet_8 : decode cX4_sheet 8 = .ok (.ifCond .ne 5, 3) := by decide +kernel
theorem dX4_sheet_11 : decode cX4_sheet 11 = .ok (.iconst (-1), 1) := by decide +kernel
theorem dX4_sheet_12 : decode cX4_sheet 12 = .ok (.ireturn, 1) := by decide +kernel
theorem dX4_sheet_13 : decode cX4_sheet 13 = .ok (.iload_n 2, 1) := by decide +kernel
theorem dX4_sheet_14 : decode cX4_sheet 14 = .ok (.tableswitch 180 0 9 #[54, 63, 72, 81, 90, 99, 124, 141, 150, 159], 54) := by decide +kernel
theorem dX4_sheet_68 : decode cX4_sheet 68 = .ok (.aload_n 0, 1) := by decide +kernel
theorem dX4_sheet_69 : decode cX4_sheet 69 = .ok (.getfield 10, 3) := by decide +kernel
theorem dX4_sheet_72 : decode cX4_sheet 72 = .ok (.iload_n 1, 1) := by decide +kernel
theorem dX4_sheet_73 : decode cX4_sheet 73 = .ok (.invokevirtual 91, 3) := by decide +kernel
theorem dX4_sheet_76 : decode cX4_sheet 76 = .ok (.ireturn, 1) := by decide +kernel
theorem dX4_sheet_77 : decode cX4_sheet 77 = .ok (.aload_n 0, 1) := by decide +kernel
theorem dX4_sheet_78 : decode cX4_sheet 78 = .ok (.getfield 10, 3) := by decide +kernel
theorem dX4_sheet_81 : decode cX4_sheet 81 = .ok (.iload_n 1, 1) := by decide +kernel
theorem dX4_sheet_82 : decode cX4_sheet 82 = .ok (.invokevirtual 94, 3) := by decide +kernel
theorem dX4_sheet_85 : decode cX4_sheet 85 = .ok (.ireturn, 1) := by decide +kernel
theorem dX4_sheet_86 : decode cX4_sheet 86 = .ok (.aload_n 0, 1) := by decide +kernel
theorem dX4_sheet_87 : decode cX4_sheet 87 = .ok (.getfield 10, 3) := by decide +kernel
theorem dX4_sheet_90 : decode cX4_sheet 90 = .ok (.iload_n 1, 1) := by decide +kernel
theorem dX4_sheet_91 : decode cX4_sheet 91 = .ok (.invokevirtual 97, 3) := by decide +kernel
theorem dX4_sheet_94 : decode cX4_sheet 94 = .ok (.ireturn, 1) := by decide +kernel
theorem dX4_sheet_95 : decode cX4_sheet 95 = .ok (.aload_n 0, 1) := by decide +kernel
theorem dX4_sheet_96 : decode cX4_sheet 96 = .ok (.getfield 10, 3) := by decide +kernel
theorem dX4_sheet_99 : decode cX4_sheet 99 = .ok (.iload_n 1, 1) := by decide +kernel
theorem dX4_sheet_100 : decode cX4_sheet 100 = .ok (.invokevirtual 100, 3) := by decide +kernel
theorem dX4_sheet_103 : decode cX4_sheet 103 = .ok (.ireturn, 1) := by decide +kernel
theorem dX4_sheet_104 : decode cX4_sheet 104 = .ok (.aload_n 0, 1) := by decide +kernel
theorem dX4_sheet_105 : decode cX4_sheet 105 = .ok (.getfield 10, 3) := by decide +kernel
theorem dX4_sheet_108 : decode cX4_sheet 108 = .ok (.iload_n 1, 1) := by decide +kernel
theorem dX4_sheet_109 : decode cX4_sheet 109 = .ok (.invokevirtual 103, 3) := by decide +kernel
theorem dX4_sheet_112 : decode cX4_sheet 112 = .ok (.ireturn, 1) := by decide +kernel
theorem dX4_sheet_113 : decode cX4_sheet 113 = .ok (.aload_n 0, 1) := by decide +kernel
theorem dX4_sheet_114 : decode cX4_sheet 114 = .ok (.getfield 10, 3) := by decide +kernel
theorem dX4_sheet_117 : decode cX4_sheet 117 = .ok (.iload_n 1, 1) := by decide +kernel
theorem dX4_sheet_118 : decode cX4_sheet 118 = .ok (.invokevirtual 106, 3) := by decide +kernel
theorem dX4_sheet_121 : decode cX4_sheet 121 = .ok (.ifCond .eq 14, 3) := by decide +kernel
theorem dX4_sheet_124 : decode cX4_sheet 124 = .ok (.aload_n 0, 1) := by decide +kernel
theorem dX4_sheet_125 : decode cX4_sheet 125 = .ok (.getfield 10, 3) := by decide +kernel
theorem dX4_sheet_128 : decode cX4_sheet 128 = .ok (.iload_n 1, 1) := by decide +kernel
theorem dX4_sheet_129 : decode cX4_sheet 129 = .ok (.invokevirtual 109, 3) := by decide +kernel
theorem dX4_sheet_132 : decode cX4_sheet 132 = .ok (.goto 5, 3) := by decide +kernel
theorem dX4_sheet_135 : decode cX4_sheet 135 = .ok (.bipush (-4), 2) := by decide +kernel
theorem dX4_sheet_137 : decode cX4_sheet 137 = .ok (.ireturn, 1) := by decide +kernel
theorem dX4_sheet_138 : decode cX4_sheet 138 = .ok (.aload_n 0, 1) := by decide +kernel
theorem dX4_sheet_139 : decode cX4_sheet 139 = .ok (.getfield 10, 3) := by decide +kernel
theorem dX4_sheet_142 : decode cX4_sheet 142 = .ok (.iload_n 1, 1) := by decide +kernel
theorem dX4_sheet_143 : decode cX4_sheet 143 = .ok (.invokevirtual 112, 3) := by decide +kernel
theorem dX4_sheet_146 : decode cX4_sheet 146 = .ok (.ifCond .eq 7, 3) := by decide +kernel
theorem dX4_sheet_149 : decode cX4_sheet 149 = .ok (.iconst 1, 1) := by decide +kernel
theorem dX4_sheet_150 : decode cX4_sheet 150 = .ok (.goto 4, 3) := by decide +kernel
theorem dX4_sheet_153 : decode cX4_sheet 153 = .ok (.iconst 0, 1) := by decide +kernel
theorem dX4_sheet_154 : decode cX4_sheet 154 = .ok (.ireturn, 1) := by decide +kernel
theorem dX4_sheet_155 : decode cX4_sheet 155 = .ok (.aload_n 0, 1) := by decide +kernel
theorem dX4_sheet_156 : decode cX4_sheet 156 = .ok (.getfield 10, 3) := by decide +kernel
theorem dX4_sheet_159 : decode cX4_sheet 159 = .ok (.iload_n 1, 1) := by decide +kernel
theorem dX4_sheet_160 : decode cX4_sheet 160 = .ok (.invokevirtual 115, 3) := by decide +kernel
theorem dX4_sheet_163 : decode cX4_sheet 163 = .ok (.ireturn, 1) := by decide +kernel
theorem dX4_sheet_164 : decode cX4_sheet 164 = .ok (.aload_n 0, 1) := by decide +kernel
theorem dX4_sheet_165 : decode cX4_sheet 165 = .ok (.getfield 10, 3) := by decide +kernel
theorem dX4_sheet_168 : decode cX4_sheet 168 = .ok (.iload_n 1, 1) := by decide +kernel
theorem dX4_sheet_169 : decode cX4_sheet 169 = .ok (.invokevirtual 118, 3) := by decide +kernel
theorem dX4_sheet_172 : decode cX4_sheet 172 = .ok (.ireturn, 1) := by decide +kernel
theorem dX4_sheet_173 : decode cX4_sheet 173 = .ok (.aload_n 0, 1) := by decide +kernel
theorem dX4_sheet_174 : decode cX4_sheet 174 = .ok (.getfield 26, 3) := by decide +kernel
theorem dX4_sheet_177 : decode cX4_sheet 177 = .ok (.aload_n 0, 1) := by decide +kernel
theorem dX4_sheet_178 : decode cX4_sheet 178 = .ok (.getfield 10, 3) := by decide +kernel
theorem dX4_sheet_181 : decode cX4_sheet 181 = .ok (.invokevirtual 121, 3) := by decide +kernel
theorem dX4_sheet_184 : decode cX4_sheet 184 = .ok (.pop, 1) := by decide +kernel
theorem dX4_sheet_185 : decode cX4_sheet 185 = .ok (.aload_n 0, 1) := by decide +kernel
theorem dX4_sheet_186 : decode cX4_sheet 186 = .ok (.getfield 26, 3) := by decide +kernel
theorem dX4_sheet_189 : decode cX4_sheet 189 = .ok (.iload_n 1, 1) := by decide +kernel
theorem dX4_sheet_190 : decode cX4_sheet 190 = .ok (.invokevirtual 125, 3) := by decide +kernel
theorem dX4_sheet_193 : decode cX4_sheet 193 = .ok (.ireturn, 1) := by decide +kernel
theorem dX4_sheet_194 : decode cX4_sheet 194 = .ok (.iconst (-1), 1) := by decide +kernel
theorem dX4_sheet_195 : decode cX4_sheet 195 = .ok (.ireturn, 1) := by decide +kernel
set_option maxRecDepth 20000 in
theorem ggX4_count_X0_columnCount : GoodIn wsX4_count wsX0_columnCount := goodIn_r _ [9, 10, 184, 185, 186, 187, 188, 189, 190, 191, 192, 193] (by decide +kernel) (by decide +kernel)
set_option maxRecDepth 20000 in
theorem gX4_count_X0_columnCount : GoodIn wsX4_count (wsV RX4 128 RX0 yX0_columnCount wsX0_columnCount) := goodIn_app (goodIn_of _ (by decide +kernel)) ggX4_count_X0_columnCount
set_option maxRecDepth 20000 in
theorem ggX4_count_X0_rowCount : GoodIn wsX4_count wsX0_rowCount := goodIn_r _ [14, 15, 184, 185, 186, 187, 188, 189, 190, 191, 192, 193] (by decide +kernel) (by decide +kernel)
set_option maxRecDepth 20000 in
theorem gX4_count_X0_rowCount : GoodIn wsX4_count (wsV RX4 131 RX0 yX0_rowCount wsX0_rowCount) := goodIn_app (goodIn_of _ (by decide +kernel)) ggX4_count_X0_rowCount
set_option maxRecDepth 20000 in
theorem ggX4_count_X0_sheetCount : GoodIn wsX4_count wsX0_sheetCount := goodIn_r _ [19, 10, 15, 184, 185, 186, 187, 188, 189, 190, 191, 192, 193] (by decide +kernel) (by decide +kernel)
set_option maxRecDepth 20000 in
theorem gX4_count_X0_sheetCount : GoodIn wsX4_count (wsV RX4 134 RX0 yX0_sheetCount wsX0_sheetCount) := goodIn_app (goodIn_of _ (by decide +kernel)) ggX4_count_X0_sheetCount
set_option maxRecDepth 20000 in
theorem ggX4_count_X0_edgeCount : GoodIn wsX4_count wsX0_edgeCount := goodIn_r _ [23, 10, 15, 24, 25, 26, 8, 27, 184, 185, 186, 187, 188, 189, 190, 191, 192, 193] (by decide +kernel) (by decide +kernel)
set_option maxRecDepth 20000 in
theorem gX4_count_X0_edgeCount : GoodIn wsX4_count (wsV RX4 52 RX0 yX0_edgeCount wsX0_edgeCount) := goodIn_app (goodIn_of _ (by decide +kernel)) ggX4_count_X0_edgeCount
set_option maxRecDepth 20000 in
theorem ggX4_count_X0_agreedEdges : GoodIn wsX4_count wsX0_agreedEdges := goodIn_r _ [31, 32, 21, 22, 8, 23, 10, 15, 24, 25, 26, 27, 33, 34, 35, 36, 37, 38, 39, 40, 184, 185, 186, 187, 188, 189, 190, 191, 192, 193] (by decide +kernel) (by decide +kernel)
set_option maxRecDepth 20000 in
theorem gX4_count_X0_agreedEdges : GoodIn wsX4_count (wsV RX4 137 RX0 yX0_agreedEdges wsX0_agreedEdges) := goodIn_app (goodIn_of _ (by decide +kernel)) ggX4_count_X0_agreedEdges
set_option maxRecDepth 20000 in
theorem ggX4_count_X0_cleanEdges : GoodIn wsX4_count wsX0_cleanEdges := goodIn_r _ [44, 32, 21, 22, 8, 23, 10, 15, 24, 25, 26, 27, 45, 46, 47, 48, 49, 50, 51, 52, 53, 54, 55, 56, 57, 58, 59, 60, 61, 62, 63, 64, 65, 66, 67, 68, 69, 38, 39, 40, 70, 71, 72, 73, 74, 75, 76, 77, 184, 185, 186, 187, 188, 189, 190, 191, 192, 193] (by decide +kernel) (by decide +kernel)
set_option maxRecDepth 20000 in
theorem gX4_count_X0_cleanEdges : GoodIn wsX4_count (wsV RX4 140 RX0 yX0_cleanEdges wsX0_cleanEdges) := goodIn_app (goodIn_of _ (by decide +kernel)) ggX4_count_X0_cleanEdges
set_option maxRecDepth 20000 in
theorem ggX4_count_X0_quarrelsOfAll : GoodIn wsX4_count wsX0_quarrelsOfAll := goodIn_r _ [81, 32, 21, 22, 8, 23, 10, 15, 24, 25, 26, 27, 45, 46, 47, 48, 49, 50, 51, 52, 53, 54, 55, 56, 57, 58, 59, 60, 61, 62, 63, 64, 65, 66, 67, 68, 69, 38, 39, 40, 70, 71, 72, 73, 74, 75, 76, 77, 184, 185, 186, 187, 188, 189, 190, 191, 192, 193] (by decide +kernel) (by decide +kernel)
set_option maxRecDepth 20000 in
theorem gX4_count_X0_quarrelsOfAll : GoodIn wsX4_count (wsV RX4 143 RX0 yX0_quarrelsOfAll wsX0_quarrelsOfAll) := goodIn_app (goodIn_of _ (by decide +kernel)) ggX4_count_X0_quarrelsOfAll
set_option maxRecDepth 20000 in
theorem ggX4_count_X1_find : GoodIn wsX4_count wsX1_find := goodIn_r _ [86, 87, 88, 89, 90, 91, 92, 93, 94, 95, 21, 22, 8, 23, 10, 15, 24, 25, 26, 27, 96, 17, 18, 19, 97, 34, 35, 36, 37, 38, 39, 40, 98, 54, 55, 56, 99, 100, 101, 85, 102, 103, 71, 72, 73, 53, 104, 105, 106, 107, 194, 184, 185, 186, 187, 188, 189, 190, 191, 192, 193] (by decide +kernel) (by decide +kernel)
set_option maxRecDepth 20000 in
theorem gX4_count_X1_find : GoodIn wsX4_count (wsV RX4 121 RX1 yX1_find wsX1_find) := goodIn_app (goodIn_of _ (by decide +kernel)) ggX4_count_X1_find
set_option maxRecDepth 20000 in
theorem ggX4_count_X0_publishedSheets : GoodIn wsX4_count wsX0_publishedSheets := goodIn_r _ [111, 112, 17, 18, 8, 19, 10, 15, 113, 114, 115, 116, 117, 118, 119, 120, 121, 38, 39, 40, 184, 185, 186, 187, 188, 189, 190, 191, 192, 193] (by decide +kernel) (by decide +kernel)
set_option maxRecDepth 20000 in
theorem gX4_count_X0_publishedSheets : GoodIn wsX4_count (wsV RX4 146 RX0 yX0_publishedSheets wsX0_publishedSheets) := goodIn_app (goodIn_of _ (by decide +kernel)) ggX4_count_X0_publishedSheets
set_option maxRecDepth 20000 in
theorem ggX4_count_X0_sheetsUpToDate : GoodIn wsX4_count wsX0_sheetsUpToDate := goodIn_r _ [125, 112, 17, 18, 8, 19, 10, 15, 126, 127, 128, 129, 113, 114, 115, 116, 117, 118, 119, 120, 121, 38, 39, 40, 130, 131, 132, 133, 134, 184, 185, 186, 187, 188, 189, 190, 191, 192, 193] (by decide +kernel) (by decide +kernel)
set_option maxRecDepth 20000 in
theorem gX4_count_X0_sheetsUpToDate : GoodIn wsX4_count (wsV RX4 149 RX0 yX0_sheetsUpToDate wsX0_sheetsUpToDate) := goodIn_app (goodIn_of _ (by decide +kernel)) ggX4_count_X0_sheetsUpToDate
set_option maxRecDepth 20000 in
theorem ggX4_count_X0_fittingEdges : GoodIn wsX4_count wsX0_fittingEdges := goodIn_r _ [138, 32, 21, 22, 8, 23, 10, 15, 24, 25, 26, 27, 139, 140, 141, 142, 143, 144, 145, 146, 147, 148, 70, 71, 72, 73, 53, 54, 55, 56, 149, 150, 151, 152, 153, 154, 155, 156, 157, 158, 38, 39, 40, 184, 185, 186, 187, 188, 189, 190, 191, 192, 193] (by decide +kernel) (by decide +kernel)
set_option maxRecDepth 20000 in
theorem gX4_count_X0_fittingEdges : GoodIn wsX4_count (wsV RX4 152 RX0 yX0_fittingEdges wsX0_fittingEdges) := goodIn_app (goodIn_of _ (by decide +kernel)) ggX4_count_X0_fittingEdges
set_option maxRecDepth 20000 in
theorem ggX4_count_X2_stateCount : GoodIn wsX4_count wsX2_stateCount := goodIn_r _ [163, 164, 195, 196, 197] (by decide +kernel) (by decide +kernel)
set_option maxRecDepth 20000 in
theorem gX4_count_X2_stateCount : GoodIn wsX4_count (wsV RX4 155 RX2 yX2_stateCount wsX2_stateCount) := goodIn_app (goodIn_of _ (by decide +kernel)) ggX4_count_X2_stateCount
set_option maxRecDepth 20000 in
theorem ggX4_count_X3_characterCount : GoodIn wsX4_count wsX3_characterCount := goodIn_r _ [169, 170, 198, 199] (by decide +kernel) (by decide +kernel)
set_option maxRecDepth 20000 in
theorem gX4_count_X3_characterCount : GoodIn wsX4_count (wsV RX4 158 RX3 yX3_characterCount wsX3_characterCount) := goodIn_app (goodIn_of _ (by decide +kernel)) ggX4_count_X3_characterCount
set_option maxRecDepth 20000 in
theorem ggX4_count_X0_guardValue : GoodIn wsX4_count wsX0_guardValue := goodIn_r _ [174, 175, 184, 185, 186, 187, 188, 189, 190, 191, 192, 193] (by decide +kernel) (by decide +kernel)
set_option maxRecDepth 20000 in
theorem gX4_count_X0_guardValue : GoodIn wsX4_count (wsV RX4 161 RX0 yX0_guardValue wsX0_guardValue) := goodIn_app (goodIn_of _ (by decide +kernel)) ggX4_count_X0_guardValue
set_option maxRecDepth 20000 in
theorem ggX4_count_X0_toleranceValue : GoodIn wsX4_count wsX0_toleranceValue := goodIn_r _ [179, 143, 184, 185, 186, 187, 188, 189, 190, 191, 192, 193] (by decide +kernel) (by decide +kernel)
set_option maxRecDepth 20000 in
theorem gX4_count_X0_toleranceValue : GoodIn wsX4_count (wsV RX4 164 RX0 yX0_toleranceValue wsX0_toleranceValue) := goodIn_app (goodIn_of _ (by decide +kernel)) ggX4_count_X0_toleranceValue
theorem dX4_count_0 : decode cX4_count 0 = .ok (.iload_n 1, 1) := by decide +kernel
theorem dX4_count_1 : decode cX4_count 1 = .ok (.tableswitch 199 0 14 #[75, 83, 91, 99, 107, 115, 123, 131, 143, 151, 159, 167, 175, 183, 191], 75) := by decide +kernel
theorem dX4_count_76 : decode cX4_count 76 = .ok (.aload_n 0, 1) := by decide +kernel
theorem dX4_count_77 : decode cX4_count 77 = .ok (.getfield 10, 3) := by decide +kernel
theorem dX4_count_80 : decode cX4_count 80 = .ok (.invokevirtual 128, 3) := by decide +kernel
theorem dX4_count_83 : decode cX4_count 83 = .ok (.ireturn, 1) := by decide +kernel
theorem dX4_count_84 : decode cX4_count 84 = .ok (.aload_n 0, 1) := by decide +kernel
theorem dX4_count_85 : decode cX4_count 85 = .ok (.getfield 10, 3) := by decide +kernel
theorem dX4_count_88 : decode cX4_count 88 = .ok (.invokevirtual 131, 3) := by decide +kernel
theorem dX4_count_91 : decode cX4_count 91 = .ok (.ireturn, 1) := by decide +kernel
theorem dX4_count_92 : decode cX4_count 92 = .ok (.aload_n 0, 1) := by decide +kernel
theorem dX4_count_93 : decode cX4_count 93 = .ok (.getfield 10, 3) := by decide +kernel
theorem dX4_count_96 : decode cX4_count 96 = .ok (.invokevirtual 134, 3) := by decide +kernel
theorem dX4_count_99 : decode cX4_count 99 = .ok (.ireturn, 1) := by decide +kernel
theorem dX4_count_100 : decode cX4_count 100 = .ok (.aload_n 0, 1) := by decide +kernel
theorem dX4_count_101 : decode cX4_count 101 = .ok (.getfield 10, 3) := by decide +kernel
theorem dX4_count_104 : decode cX4_count 104 = .ok (.invokevirtual 52, 3) := by decide +kernel
theorem dX4_count_107 : decode cX4_count 107 = .ok (.ireturn, 1) := by decide +kernel
theorem dX4_count_108 : decode cX4_count 108 = .ok (.aload_n 0, 1) := by decide +kernel
theorem dX4_count_109 : decode cX4_count 109 = .ok (.getfield 10, 3) := by decide +kernel
theorem dX4_count_112 : decode cX4_count 112 = .ok (.invokevirtual 137, 3) := by decide +kernel
theorem dX4_count_115 : decode cX4_count 115 = .ok (.ireturn, 1) := by decide +kernel
theorem dX4_count_116 : decode cX4_count 116 = .ok (.aload_n 0, 1) := by decide +kernel
theorem dX4_count_117 : decode cX4_count 117 = .ok (.getfield 10, 3) := by decide +kernel
theorem dX4_count_120 : decode cX4_count 120 = .ok (.invokevirtual 140, 3) := by decide +kernel
theorem dX4_count_123 : decode cX4_count 123 = .ok (.ireturn, 1) := by decide +kernel
theorem dX4_count_124 : decode cX4_count 124 = .ok (.aload_n 0, 1) := by decide +kernel
theorem dX4_count_125 : decode cX4_count 125 = .ok (.getfield 10, 3) := by decide +kernel
theorem dX4_count_128 : decode cX4_count 128 = .ok (.invokevirtual 143, 3) := by decide +kernel
theorem dX4_count_131 : decode cX4_count 131 = .ok (.ireturn, 1) := by decide +kernel
theorem dX4_count_132 : decode cX4_count 132 = .ok (.aload_n 0, 1) := by decide +kernel
theorem dX4_count_133 : decode cX4_count 133 = .ok (.getfield 26, 3) := by decide +kernel
theorem dX4_count_136 : decode cX4_count 136 = .ok (.aload_n 0, 1) := by decide +kernel
theorem dX4_count_137 : decode cX4_count 137 = .ok (.getfield 10, 3) := by decide +kernel
theorem dX4_count_140 : decode cX4_count 140 = .ok (.invokevirtual 121, 3) := by decide +kernel
theorem dX4_count_143 : decode cX4_count 143 = .ok (.ireturn, 1) := by decide +kernel
theorem dX4_count_144 : decode cX4_count 144 = .ok (.aload_n 0, 1) := by decide +kernel
theorem dX4_count_145 : decode cX4_count 145 = .ok (.getfield 10, 3) := by decide +kernel
theorem dX4_count_148 : decode cX4_count 148 = .ok (.invokevirtual 146, 3) := by decide +kernel
theorem dX4_count_151 : decode cX4_count 151 = .ok (.ireturn, 1) := by decide +kernel
theorem dX4_count_152 : decode cX4_count 152 = .ok (.aload_n 0, 1) := by decide +kernel
theorem dX4_count_153 : decode cX4_count 153 = .ok (.getfield 10, 3) := by decide +kernel
theorem dX4_count_156 : decode cX4_count 156 = .ok (.invokevirtual 149, 3) := by decide +kernel
theorem dX4_count_159 : decode cX4_count 159 = .ok (.ireturn, 1) := by decide +kernel
theorem dX4_count_160 : decode cX4_count 160 = .ok (.aload_n 0, 1) := by decide +kernel
theorem dX4_count_161 : decode cX4_count 161 = .ok (.getfield 10, 3) := by decide +kernel
theorem dX4_count_164 : decode cX4_count 164 = .ok (.invokevirtual 152, 3) := by decide +kernel
theorem dX4_count_167 : decode cX4_count 167 = .ok (.ireturn, 1) := by decide +kernel
theorem dX4_count_168 : decode cX4_count 168 = .ok (.aload_n 0, 1) := by decide +kernel
theorem dX4_count_169 : decode cX4_count 169 = .ok (.getfield 19, 3) := by decide +kernel
theorem dX4_count_172 : decode cX4_count 172 = .ok (.invokevirtual 155, 3) := by decide +kernel
theorem dX4_count_175 : decode cX4_count 175 = .ok (.ireturn, 1) := by decide +kernel
theorem dX4_count_176 : decode cX4_count 176 = .ok (.aload_n 0, 1) := by decide +kernel
theorem dX4_count_177 : decode cX4_count 177 = .ok (.getfield 33, 3) := by decide +kernel
theorem dX4_count_180 : decode cX4_count 180 = .ok (.invokevirtual 158, 3) := by decide +kernel
theorem dX4_count_183 : decode cX4_count 183 = .ok (.ireturn, 1) := by decide +kernel
theorem dX4_count_184 : decode cX4_count 184 = .ok (.aload_n 0, 1) := by decide +kernel
theorem dX4_count_185 : decode cX4_count 185 = .ok (.getfield 10, 3) := by decide +kernel
theorem dX4_count_188 : decode cX4_count 188 = .ok (.invokevirtual 161, 3) := by decide +kernel
theorem dX4_count_191 : decode cX4_count 191 = .ok (.ireturn, 1) := by decide +kernel
theorem dX4_count_192 : decode cX4_count 192 = .ok (.aload_n 0, 1) := by decide +kernel
theorem dX4_count_193 : decode cX4_count 193 = .ok (.getfield 10, 3) := by decide +kernel
theorem dX4_count_196 : decode cX4_count 196 = .ok (.invokevirtual 164, 3) := by decide +kernel
theorem dX4_count_199 : decode cX4_count 199 = .ok (.ireturn, 1) := by decide +kernel
theorem dX4_count_200 : decode cX4_count 200 = .ok (.iconst (-1), 1) := by decide +kernel
theorem dX4_count_201 : decode cX4_count 201 = .ok (.ireturn, 1) := by decide +kernel
set_option maxRecDepth 20000 in
theorem ggX4_edge_X0_hasEdge : GoodIn wsX4_edge wsX0_hasEdge := goodIn_r _ [6, 7, 8, 9, 5, 10, 11, 12, 13, 14, 15, 16, 93, 94, 95, 96, 97, 98, 99, 100, 101, 102] (by decide +kernel) (by decide +kernel)
set_option maxRecDepth 20000 in
theorem gX4_edge_X0_hasEdge : GoodIn wsX4_edge (wsV RX4 170 RX0 yX0_hasEdge wsX0_hasEdge) := goodIn_app (goodIn_of _ (by decide +kernel)) ggX4_edge_X0_hasEdge
set_option maxRecDepth 20000 in
theorem ggX4_edge_X0_firstSheet : GoodIn wsX4_edge wsX0_firstSheet := goodIn_r _ [20, 11, 12, 93, 94, 95, 96, 97, 98, 99, 100, 101, 102] (by decide +kernel) (by decide +kernel)
set_option maxRecDepth 20000 in
theorem gX4_edge_X0_firstSheet : GoodIn wsX4_edge (wsV RX4 173 RX0 yX0_firstSheet wsX0_firstSheet) := goodIn_app (goodIn_of _ (by decide +kernel)) ggX4_edge_X0_firstSheet
set_option maxRecDepth 20000 in
theorem ggX4_edge_X0_secondSheet : GoodIn wsX4_edge wsX0_secondSheet := goodIn_r _ [24, 11, 25, 18, 19, 5, 20, 12, 13, 14, 15, 16, 93, 94, 95, 96, 97, 98, 99, 100, 101, 102] (by decide +kernel) (by decide +kernel)
set_option maxRecDepth 20000 in
theorem gX4_edge_X0_secondSheet : GoodIn wsX4_edge (wsV RX4 176 RX0 yX0_secondSheet wsX0_secondSheet) := goodIn_app (goodIn_of _ (by decide +kernel)) ggX4_edge_X0_secondSheet
set_option maxRecDepth 20000 in
theorem ggX4_edge_X0_firstSide : GoodIn wsX4_edge wsX0_firstSide := goodIn_r _ [29, 13, 14, 15, 5, 16, 11, 12, 93, 94, 95, 96, 97, 98, 99, 100, 101, 102] (by decide +kernel) (by decide +kernel)
set_option maxRecDepth 20000 in
theorem gX4_edge_X0_firstSide : GoodIn wsX4_edge (wsV RX4 179 RX0 yX0_firstSide wsX0_firstSide) := goodIn_app (goodIn_of _ (by decide +kernel)) ggX4_edge_X0_firstSide
set_option maxRecDepth 20000 in
theorem ggX4_edge_X0_isAgreed : GoodIn wsX4_edge wsX0_isAgreed := goodIn_r _ [33, 34, 35, 36, 37, 93, 94, 95, 96, 97, 98, 99, 100, 101, 102] (by decide +kernel) (by decide +kernel)
set_option maxRecDepth 20000 in
theorem gX4_edge_X0_isAgreed : GoodIn wsX4_edge (wsV RX4 182 RX0 yX0_isAgreed wsX0_isAgreed) := goodIn_app (goodIn_of _ (by decide +kernel)) ggX4_edge_X0_isAgreed
set_option maxRecDepth 20000 in
theorem ggX4_edge_X0_quarrelsOf : GoodIn wsX4_edge wsX0_quarrelsOf := goodIn_r _ [41, 42, 43, 44, 5, 45, 25, 18, 19, 20, 11, 12, 46, 27, 28, 29, 13, 14, 15, 16, 47, 48, 49, 50, 51, 52, 53, 54, 55, 35, 36, 37, 56, 22, 23, 24, 57, 58, 59, 60, 93, 94, 95, 96, 97, 98, 99, 100, 101, 102] (by decide +kernel) (by decide +kernel)
set_option maxRecDepth 20000 in
theorem gX4_edge_X0_quarrelsOf : GoodIn wsX4_edge (wsV RX4 185 RX0 yX0_quarrelsOf wsX0_quarrelsOf) := goodIn_app (goodIn_of _ (by decide +kernel)) ggX4_edge_X0_quarrelsOf
set_option maxRecDepth 20000 in
theorem ggX4_edge_X0_signsOnBothSides : GoodIn wsX4_edge wsX0_signsOnBothSides := goodIn_r _ [64, 25, 18, 19, 5, 20, 11, 12, 46, 27, 28, 29, 13, 14, 15, 16, 65, 66, 67, 68, 51, 53, 54, 55, 35, 36, 37, 56, 22, 23, 24, 57, 58, 59, 60, 93, 94, 95, 96, 97, 98, 99, 100, 101, 102] (by decide +kernel) (by decide +kernel)
set_option maxRecDepth 20000 in
theorem gX4_edge_X0_signsOnBothSides : GoodIn wsX4_edge (wsV RX4 188 RX0 yX0_signsOnBothSides wsX0_signsOnBothSides) := goodIn_app (goodIn_of _ (by decide +kernel)) ggX4_edge_X0_signsOnBothSides
set_option maxRecDepth 20000 in
theorem ggX4_edge_X0_isFitting : GoodIn wsX4_edge wsX0_isFitting := goodIn_r _ [72, 73, 74, 75, 76, 77, 5, 78, 56, 22, 23, 24, 11, 25, 18, 19, 20, 12, 13, 14, 15, 16, 79, 80, 81, 82, 83, 84, 85, 86, 87, 88, 35, 36, 37, 93, 94, 95, 96, 97, 98, 99, 100, 101, 102] (by decide +kernel) (by decide +kernel)
set_option maxRecDepth 20000 in
theorem gX4_edge_X0_isFitting : GoodIn wsX4_edge (wsV RX4 191 RX0 yX0_isFitting wsX0_isFitting) := goodIn_app (goodIn_of _ (by decide +kernel)) ggX4_edge_X0_isFitting
theorem dX4_edge_0 : decode cX4_edge 0 = .ok (.aload_n 0, 1) := by decide +kernel
theorem dX4_edge_1 : decode cX4_edge 1 = .ok (.getfield 10, 3) := by decide +kernel
theorem dX4_edge_4 : decode cX4_edge 4 = .ok (.iload_n 1, 1) := by decide +kernel
theorem dX4_edge_5 : decode cX4_edge 5 = .ok (.invokevirtual 170, 3) := by decide +kernel
theorem dX4_edge_8 : decode cX4_edge 8 = .ok (.ifCond .ne 5, 3) := by decide +kernel
theorem dX4_edge_11 : decode cX4_edge 11 = .ok (.iconst (-1), 1) := by decide +kernel
theorem dX4_edge_12 : decode cX4_edge 12 = .ok (.ireturn, 1) := by decide +kernel
theorem dX4_edge_13 : decode cX4_edge 13 = .ok (.iload_n 2, 1) := by decide +kernel
theorem dX4_edge_14 : decode cX4_edge 14 = .ok (.tableswitch 121 0 6 #[42, 51, 60, 69, 86, 95, 104], 42) := by decide +kernel
theorem dX4_edge_56 : decode cX4_edge 56 = .ok (.aload_n 0, 1) := by decide +kernel
theorem dX4_edge_57 : decode cX4_edge 57 = .ok (.getfield 10, 3) := by decide +kernel
theorem dX4_edge_60 : decode cX4_edge 60 = .ok (.iload_n 1, 1) := by decide +kernel
theorem dX4_edge_61 : decode cX4_edge 61 = .ok (.invokevirtual 173, 3) := by decide +kernel
theorem dX4_edge_64 : decode cX4_edge 64 = .ok (.ireturn, 1) := by decide +kernel
theorem dX4_edge_65 : decode cX4_edge 65 = .ok (.aload_n 0, 1) := by decide +kernel
theorem dX4_edge_66 : decode cX4_edge 66 = .ok (.getfield 10, 3) := by decide +kernel
theorem dX4_edge_69 : decode cX4_edge 69 = .ok (.iload_n 1, 1) := by decide +kernel
theorem dX4_edge_70 : decode cX4_edge 70 = .ok (.invokevirtual 176, 3) := by decide +kernel
theorem dX4_edge_73 : decode cX4_edge 73 = .ok (.ireturn, 1) := by decide +kernel
theorem dX4_edge_74 : decode cX4_edge 74 = .ok (.aload_n 0, 1) := by decide +kernel
theorem dX4_edge_75 : decode cX4_edge 75 = .ok (.getfield 10, 3) := by decide +kernel
theorem dX4_edge_78 : decode cX4_edge 78 = .ok (.iload_n 1, 1) := by decide +kernel
theorem dX4_edge_79 : decode cX4_edge 79 = .ok (.invokevirtual 179, 3) := by decide +kernel
theorem dX4_edge_82 : decode cX4_edge 82 = .ok (.ireturn, 1) := by decide +kernel
theorem dX4_edge_83 : decode cX4_edge 83 = .ok (.aload_n 0, 1) := by decide +kernel
theorem dX4_edge_84 : decode cX4_edge 84 = .ok (.getfield 10, 3) := by decide +kernel
theorem dX4_edge_87 : decode cX4_edge 87 = .ok (.iload_n 1, 1) := by decide +kernel
theorem dX4_edge_88 : decode cX4_edge 88 = .ok (.invokevirtual 182, 3) := by decide +kernel
theorem dX4_edge_91 : decode cX4_edge 91 = .ok (.ifCond .eq 7, 3) := by decide +kernel
theorem dX4_edge_94 : decode cX4_edge 94 = .ok (.iconst 1, 1) := by decide +kernel
theorem dX4_edge_95 : decode cX4_edge 95 = .ok (.goto 4, 3) := by decide +kernel
theorem dX4_edge_98 : decode cX4_edge 98 = .ok (.iconst 0, 1) := by decide +kernel
theorem dX4_edge_99 : decode cX4_edge 99 = .ok (.ireturn, 1) := by decide +kernel
theorem dX4_edge_100 : decode cX4_edge 100 = .ok (.aload_n 0, 1) := by decide +kernel
theorem dX4_edge_101 : decode cX4_edge 101 = .ok (.getfield 10, 3) := by decide +kernel
theorem dX4_edge_104 : decode cX4_edge 104 = .ok (.iload_n 1, 1) := by decide +kernel
theorem dX4_edge_105 : decode cX4_edge 105 = .ok (.invokevirtual 185, 3) := by decide +kernel
theorem dX4_edge_108 : decode cX4_edge 108 = .ok (.ireturn, 1) := by decide +kernel
theorem dX4_edge_109 : decode cX4_edge 109 = .ok (.aload_n 0, 1) := by decide +kernel
theorem dX4_edge_110 : decode cX4_edge 110 = .ok (.getfield 10, 3) := by decide +kernel
theorem dX4_edge_113 : decode cX4_edge 113 = .ok (.iload_n 1, 1) := by decide +kernel
theorem dX4_edge_114 : decode cX4_edge 114 = .ok (.invokevirtual 188, 3) := by decide +kernel
theorem dX4_edge_117 : decode cX4_edge 117 = .ok (.ireturn, 1) := by decide +kernel
theorem dX4_edge_118 : decode cX4_edge 118 = .ok (.aload_n 0, 1) := by decide +kernel
theorem dX4_edge_119 : decode cX4_edge 119 = .ok (.getfield 10, 3) := by decide +kernel
theorem dX4_edge_122 : decode cX4_edge 122 = .ok (.iload_n 1, 1) := by decide +kernel
theorem dX4_edge_123 : decode cX4_edge 123 = .ok (.invokevirtual 191, 3) := by decide +kernel
theorem dX4_edge_126 : decode cX4_edge 126 = .ok (.ifCond .eq 7, 3) := by decide +kernel
theorem dX4_edge_129 : decode cX4_edge 129 = .ok (.iconst 1, 1) := by decide +kernel
theorem dX4_edge_130 : decode cX4_edge 130 = .ok (.goto 4, 3) := by decide +kernel
theorem dX4_edge_133 : decode cX4_edge 133 = .ok (.iconst 0, 1) := by decide +kernel
theorem dX4_edge_134 : decode cX4_edge 134 = .ok (.ireturn, 1) := by decide +kernel
theorem dX4_edge_135 : decode cX4_edge 135 = .ok (.iconst (-1), 1) := by decide +kernel
theorem dX4_edge_136 : decode cX4_edge 136 = .ok (.ireturn, 1) := by decide +kernel
set_option maxRecDepth 20000 in
theorem ggX4_edgeAt_X0_hasSheet : GoodIn wsX4_edgeAt wsX0_hasSheet := goodIn_r _ [6, 7, 8, 9, 5, 10, 11, 12, 37, 38, 39, 40, 41, 42, 43, 44, 45, 46] (by decide +kernel) (by decide +kernel)
set_option maxRecDepth 20000 in
theorem gX4_edgeAt_X0_hasSheet : GoodIn wsX4_edgeAt (wsV RX4 82 RX0 yX0_hasSheet wsX0_hasSheet) := goodIn_app (goodIn_of _ (by decide +kernel)) ggX4_edgeAt_X0_hasSheet
set_option maxRecDepth 20000 in
theorem ggX4_edgeAt_X4_isWithin : GoodIn wsX4_edgeAt wsX4_isWithin := goodIn_r _ [16] (by decide +kernel) (by decide +kernel)
set_option maxRecDepth 20000 in
theorem gX4_edgeAt_X4_isWithin : GoodIn wsX4_edgeAt (va_wsS RX4 37 yX4_isWithin wsX4_isWithin) := goodIn_app (goodIn_of _ (by decide +kernel)) ggX4_edgeAt_X4_isWithin
set_option maxRecDepth 20000 in
theorem ggX4_edgeAt_X0_edgeOf : GoodIn wsX4_edgeAt wsX0_edgeOf := goodIn_r _ [20, 11, 12, 21, 22, 23, 5, 24, 25, 26, 27, 28, 29, 30, 31, 32, 37, 38, 39, 40, 41, 42, 43, 44, 45, 46] (by decide +kernel) (by decide +kernel)
set_option maxRecDepth 20000 in
theorem gX4_edgeAt_X0_edgeOf : GoodIn wsX4_edgeAt (wsV RX4 194 RX0 yX0_edgeOf wsX0_edgeOf) := goodIn_app (goodIn_of _ (by decide +kernel)) ggX4_edgeAt_X0_edgeOf
theorem dX4_edgeAt_0 : decode cX4_edgeAt 0 = .ok (.aload_n 0, 1) := by decide +kernel
theorem dX4_edgeAt_1 : decode cX4_edgeAt 1 = .ok (.getfield 10, 3) := by decide +kernel
theorem dX4_edgeAt_4 : decode cX4_edgeAt 4 = .ok (.iload_n 1, 1) := by decide +kernel
theorem dX4_edgeAt_5 : decode cX4_edgeAt 5 = .ok (.invokevirtual 82, 3) := by decide +kernel
theorem dX4_edgeAt_8 : decode cX4_edgeAt 8 = .ok (.ifCond .eq 12, 3) := by decide +kernel
theorem dX4_edgeAt_11 : decode cX4_edgeAt 11 = .ok (.iload_n 2, 1) := by decide +kernel
theorem dX4_edgeAt_12 : decode cX4_edgeAt 12 = .ok (.iconst 0, 1) := by decide +kernel
theorem dX4_edgeAt_13 : decode cX4_edgeAt 13 = .ok (.iconst 3, 1) := by decide +kernel
theorem dX4_edgeAt_14 : decode cX4_edgeAt 14 = .ok (.invokestatic 37, 3) := by decide +kernel
theorem dX4_edgeAt_17 : decode cX4_edgeAt 17 = .ok (.ifCond .ne 5, 3) := by decide +kernel
theorem dX4_edgeAt_20 : decode cX4_edgeAt 20 = .ok (.iconst (-1), 1) := by decide +kernel
theorem dX4_edgeAt_21 : decode cX4_edgeAt 21 = .ok (.ireturn, 1) := by decide +kernel
theorem dX4_edgeAt_22 : decode cX4_edgeAt 22 = .ok (.aload_n 0, 1) := by decide +kernel
theorem dX4_edgeAt_23 : decode cX4_edgeAt 23 = .ok (.getfield 10, 3) := by decide +kernel
theorem dX4_edgeAt_26 : decode cX4_edgeAt 26 = .ok (.iload_n 1, 1) := by decide +kernel
theorem dX4_edgeAt_27 : decode cX4_edgeAt 27 = .ok (.iload_n 2, 1) := by decide +kernel
theorem dX4_edgeAt_28 : decode cX4_edgeAt 28 = .ok (.invokevirtual 194, 3) := by decide +kernel
theorem dX4_edgeAt_31 : decode cX4_edgeAt 31 = .ok (.ireturn, 1) := by decide +kernel
set_option maxRecDepth 20000 in
theorem ggX4_quarrel_X0_hasEdge : GoodIn wsX4_quarrel wsX0_hasEdge := goodIn_r _ [6, 7, 8, 9, 5, 10, 11, 12, 13, 14, 15, 16, 66, 67, 68, 69, 70, 71, 72, 73, 74, 75] (by decide +kernel) (by decide +kernel)
set_option maxRecDepth 20000 in
theorem gX4_quarrel_X0_hasEdge : GoodIn wsX4_quarrel (wsV RX4 170 RX0 yX0_hasEdge wsX0_hasEdge) := goodIn_app (goodIn_of _ (by decide +kernel)) ggX4_quarrel_X0_hasEdge
set_option maxRecDepth 20000 in
theorem ggX4_quarrel_X4_isWithin : GoodIn wsX4_quarrel wsX4_isWithin := goodIn_r _ [20] (by decide +kernel) (by decide +kernel)
set_option maxRecDepth 20000 in
theorem gX4_quarrel_X4_isWithin : GoodIn wsX4_quarrel (va_wsS RX4 37 yX4_isWithin wsX4_isWithin) := goodIn_app (goodIn_of _ (by decide +kernel)) ggX4_quarrel_X4_isWithin
set_option maxRecDepth 20000 in
theorem ggX4_quarrel_X0_positionOfQuarrel : GoodIn wsX4_quarrel wsX0_positionOfQuarrel := goodIn_r _ [24, 25, 26, 27, 5, 28, 29, 30, 31, 32, 11, 12, 33, 34, 35, 36, 13, 14, 15, 16, 37, 38, 39, 40, 41, 42, 43, 44, 45, 46, 19, 47, 48, 49, 50, 51, 52, 53, 54, 55, 66, 67, 68, 69, 70, 71, 72, 73, 74, 75] (by decide +kernel) (by decide +kernel)
set_option maxRecDepth 20000 in
theorem gX4_quarrel_X0_positionOfQuarrel : GoodIn wsX4_quarrel (wsV RX4 197 RX0 yX0_positionOfQuarrel wsX0_positionOfQuarrel) := goodIn_app (goodIn_of _ (by decide +kernel)) ggX4_quarrel_X0_positionOfQuarrel
set_option maxRecDepth 20000 in
theorem ggX4_quarrel_X0_reasonAt : GoodIn wsX4_quarrel wsX0_reasonAt := goodIn_r _ [28, 29, 30, 31, 5, 32, 11, 12, 33, 34, 35, 36, 13, 14, 15, 16, 37, 38, 39, 40, 41, 42, 43, 44, 45, 46, 19, 47, 48, 49, 50, 51, 52, 53, 54, 55, 66, 67, 68, 69, 70, 71, 72, 73, 74, 75] (by decide +kernel) (by decide +kernel)
set_option maxRecDepth 20000 in
theorem gX4_quarrel_X0_reasonAt : GoodIn wsX4_quarrel (wsV RX4 200 RX0 yX0_reasonAt wsX0_reasonAt) := goodIn_app (goodIn_of _ (by decide +kernel)) ggX4_quarrel_X0_reasonAt
set_option maxRecDepth 20000 in
theorem ggX4_quarrel_X0_firstSheet : GoodIn wsX4_quarrel wsX0_firstSheet := goodIn_r _ [32, 11, 12, 66, 67, 68, 69, 70, 71, 72, 73, 74, 75] (by decide +kernel) (by decide +kernel)
set_option maxRecDepth 20000 in
theorem gX4_quarrel_X0_firstSheet : GoodIn wsX4_quarrel (wsV RX4 173 RX0 yX0_firstSheet wsX0_firstSheet) := goodIn_app (goodIn_of _ (by decide +kernel)) ggX4_quarrel_X0_firstSheet
set_option maxRecDepth 20000 in
theorem ggX4_quarrel_X0_firstSide : GoodIn wsX4_quarrel wsX0_firstSide := goodIn_r _ [36, 13, 14, 15, 5, 16, 11, 12, 66, 67, 68, 69, 70, 71, 72, 73, 74, 75] (by decide +kernel) (by decide +kernel)
set_option maxRecDepth 20000 in
theorem gX4_quarrel_X0_firstSide : GoodIn wsX4_quarrel (wsV RX4 179 RX0 yX0_firstSide wsX0_firstSide) := goodIn_app (goodIn_of _ (by decide +kernel)) ggX4_quarrel_X0_firstSide
set_option maxRecDepth 20000 in
theorem ggX4_quarrel_X0_meaningAt : GoodIn wsX4_quarrel wsX0_meaningAt := goodIn_r _ [40, 41, 42, 43, 44, 5, 45, 46, 19, 47, 66, 67, 68, 69, 70, 71, 72, 73, 74, 75] (by decide +kernel) (by decide +kernel)
set_option maxRecDepth 20000 in
theorem gX4_quarrel_X0_meaningAt : GoodIn wsX4_quarrel (wsV RX4 203 RX0 yX0_meaningAt wsX0_meaningAt) := goodIn_app (goodIn_of _ (by decide +kernel)) ggX4_quarrel_X0_meaningAt
set_option maxRecDepth 20000 in
theorem ggX4_quarrel_X0_secondSheet : GoodIn wsX4_quarrel wsX0_secondSheet := goodIn_r _ [51, 11, 29, 30, 31, 5, 32, 12, 13, 14, 15, 16, 66, 67, 68, 69, 70, 71, 72, 73, 74, 75] (by decide +kernel) (by decide +kernel)
set_option maxRecDepth 20000 in
theorem gX4_quarrel_X0_secondSheet : GoodIn wsX4_quarrel (wsV RX4 176 RX0 yX0_secondSheet wsX0_secondSheet) := goodIn_app (goodIn_of _ (by decide +kernel)) ggX4_quarrel_X0_secondSheet
set_option maxRecDepth 20000 in
theorem ggX4_quarrel_X0_secondSide : GoodIn wsX4_quarrel wsX0_secondSide := goodIn_r _ [55, 13, 14, 15, 5, 16, 11, 12, 66, 67, 68, 69, 70, 71, 72, 73, 74, 75] (by decide +kernel) (by decide +kernel)
set_option maxRecDepth 20000 in
theorem gX4_quarrel_X0_secondSide : GoodIn wsX4_quarrel (wsV RX4 206 RX0 yX0_secondSide wsX0_secondSide) := goodIn_app (goodIn_of _ (by decide +kernel)) ggX4_quarrel_X0_secondSide
theorem dX4_quarrel_0 : decode cX4_quarrel 0 = .ok (.aload_n 0, 1) := by decide +kernel
theorem dX4_quarrel_1 : decode cX4_quarrel 1 = .ok (.getfield 10, 3) := by decide +kernel
theorem dX4_quarrel_4 : decode cX4_quarrel 4 = .ok (.iload_n 1, 1) := by decide +kernel
theorem dX4_quarrel_5 : decode cX4_quarrel 5 = .ok (.invokevirtual 170, 3) := by decide +kernel
theorem dX4_quarrel_8 : decode cX4_quarrel 8 = .ok (.ifCond .eq 16, 3) := by decide +kernel
theorem dX4_quarrel_11 : decode cX4_quarrel 11 = .ok (.iload_n 2, 1) := by decide +kernel
theorem dX4_quarrel_12 : decode cX4_quarrel 12 = .ok (.ifCond .lt 12, 3) := by decide +kernel
theorem dX4_quarrel_15 : decode cX4_quarrel 15 = .ok (.iload_n 3, 1) := by decide +kernel
theorem dX4_quarrel_16 : decode cX4_quarrel 16 = .ok (.iconst 0, 1) := by decide +kernel
theorem dX4_quarrel_17 : decode cX4_quarrel 17 = .ok (.iconst 3, 1) := by decide +kernel
theorem dX4_quarrel_18 : decode cX4_quarrel 18 = .ok (.invokestatic 37, 3) := by decide +kernel
theorem dX4_quarrel_21 : decode cX4_quarrel 21 = .ok (.ifCond .ne 5, 3) := by decide +kernel
theorem dX4_quarrel_24 : decode cX4_quarrel 24 = .ok (.iconst (-1), 1) := by decide +kernel
theorem dX4_quarrel_25 : decode cX4_quarrel 25 = .ok (.ireturn, 1) := by decide +kernel
theorem dX4_quarrel_26 : decode cX4_quarrel 26 = .ok (.aload_n 0, 1) := by decide +kernel
theorem dX4_quarrel_27 : decode cX4_quarrel 27 = .ok (.getfield 10, 3) := by decide +kernel
theorem dX4_quarrel_30 : decode cX4_quarrel 30 = .ok (.iload_n 1, 1) := by decide +kernel
theorem dX4_quarrel_31 : decode cX4_quarrel 31 = .ok (.iload_n 2, 1) := by decide +kernel
theorem dX4_quarrel_32 : decode cX4_quarrel 32 = .ok (.invokevirtual 197, 3) := by decide +kernel
theorem dX4_quarrel_35 : decode cX4_quarrel 35 = .ok (.istore 4, 2) := by decide +kernel
theorem dX4_quarrel_37 : decode cX4_quarrel 37 = .ok (.iload 4, 2) := by decide +kernel
theorem dX4_quarrel_39 : decode cX4_quarrel 39 = .ok (.bipush (-4), 2) := by decide +kernel
theorem dX4_quarrel_41 : decode cX4_quarrel 41 = .ok (.if_icmp .ne 6, 3) := by decide +kernel
theorem dX4_quarrel_44 : decode cX4_quarrel 44 = .ok (.bipush (-4), 2) := by decide +kernel
theorem dX4_quarrel_46 : decode cX4_quarrel 46 = .ok (.ireturn, 1) := by decide +kernel
theorem dX4_quarrel_47 : decode cX4_quarrel 47 = .ok (.iload_n 3, 1) := by decide +kernel
theorem dX4_quarrel_48 : decode cX4_quarrel 48 = .ok (.tableswitch 68 0 2 #[28, 31, 42], 28) := by decide +kernel
theorem dX4_quarrel_76 : decode cX4_quarrel 76 = .ok (.iload 4, 2) := by decide +kernel
theorem dX4_quarrel_78 : decode cX4_quarrel 78 = .ok (.ireturn, 1) := by decide +kernel
theorem dX4_quarrel_79 : decode cX4_quarrel 79 = .ok (.aload_n 0, 1) := by decide +kernel
theorem dX4_quarrel_80 : decode cX4_quarrel 80 = .ok (.getfield 10, 3) := by decide +kernel
theorem dX4_quarrel_83 : decode cX4_quarrel 83 = .ok (.iload_n 1, 1) := by decide +kernel
theorem dX4_quarrel_84 : decode cX4_quarrel 84 = .ok (.iload 4, 2) := by decide +kernel
theorem dX4_quarrel_86 : decode cX4_quarrel 86 = .ok (.invokevirtual 200, 3) := by decide +kernel
theorem dX4_quarrel_89 : decode cX4_quarrel 89 = .ok (.ireturn, 1) := by decide +kernel
theorem dX4_quarrel_90 : decode cX4_quarrel 90 = .ok (.aload_n 0, 1) := by decide +kernel
theorem dX4_quarrel_91 : decode cX4_quarrel 91 = .ok (.getfield 10, 3) := by decide +kernel
theorem dX4_quarrel_94 : decode cX4_quarrel 94 = .ok (.aload_n 0, 1) := by decide +kernel
theorem dX4_quarrel_95 : decode cX4_quarrel 95 = .ok (.getfield 10, 3) := by decide +kernel
theorem dX4_quarrel_98 : decode cX4_quarrel 98 = .ok (.iload_n 1, 1) := by decide +kernel
theorem dX4_quarrel_99 : decode cX4_quarrel 99 = .ok (.invokevirtual 173, 3) := by decide +kernel
theorem dX4_quarrel_102 : decode cX4_quarrel 102 = .ok (.aload_n 0, 1) := by decide +kernel
theorem dX4_quarrel_103 : decode cX4_quarrel 103 = .ok (.getfield 10, 3) := by decide +kernel
theorem dX4_quarrel_106 : decode cX4_quarrel 106 = .ok (.iload_n 1, 1) := by decide +kernel
theorem dX4_quarrel_107 : decode cX4_quarrel 107 = .ok (.invokevirtual 179, 3) := by decide +kernel
theorem dX4_quarrel_110 : decode cX4_quarrel 110 = .ok (.iload 4, 2) := by decide +kernel
theorem dX4_quarrel_112 : decode cX4_quarrel 112 = .ok (.invokevirtual 203, 3) := by decide +kernel
theorem dX4_quarrel_115 : decode cX4_quarrel 115 = .ok (.ireturn, 1) := by decide +kernel
theorem dX4_quarrel_116 : decode cX4_quarrel 116 = .ok (.aload_n 0, 1) := by decide +kernel
theorem dX4_quarrel_117 : decode cX4_quarrel 117 = .ok (.getfield 10, 3) := by decide +kernel
theorem dX4_quarrel_120 : decode cX4_quarrel 120 = .ok (.aload_n 0, 1) := by decide +kernel
theorem dX4_quarrel_121 : decode cX4_quarrel 121 = .ok (.getfield 10, 3) := by decide +kernel
theorem dX4_quarrel_124 : decode cX4_quarrel 124 = .ok (.iload_n 1, 1) := by decide +kernel
theorem dX4_quarrel_125 : decode cX4_quarrel 125 = .ok (.invokevirtual 176, 3) := by decide +kernel
theorem dX4_quarrel_128 : decode cX4_quarrel 128 = .ok (.aload_n 0, 1) := by decide +kernel
theorem dX4_quarrel_129 : decode cX4_quarrel 129 = .ok (.getfield 10, 3) := by decide +kernel
theorem dX4_quarrel_132 : decode cX4_quarrel 132 = .ok (.iload_n 1, 1) := by decide +kernel
theorem dX4_quarrel_133 : decode cX4_quarrel 133 = .ok (.invokevirtual 206, 3) := by decide +kernel
theorem dX4_quarrel_136 : decode cX4_quarrel 136 = .ok (.iload 4, 2) := by decide +kernel
theorem dX4_quarrel_138 : decode cX4_quarrel 138 = .ok (.invokevirtual 203, 3) := by decide +kernel
theorem dX4_quarrel_141 : decode cX4_quarrel 141 = .ok (.ireturn, 1) := by decide +kernel
set_option maxRecDepth 20000 in
theorem ggX4_agree_X0_hasEdge : GoodIn wsX4_agree wsX0_hasEdge := goodIn_r _ [7, 8, 9, 10, 6, 11, 12, 13, 14, 15, 16, 17, 96, 97, 98, 99, 100, 101, 102, 103, 104, 105] (by decide +kernel) (by decide +kernel)
set_option maxRecDepth 20000 in
theorem gX4_agree_X0_hasEdge : GoodIn wsX4_agree (wsV RX4 170 RX0 yX0_hasEdge wsX0_hasEdge) := goodIn_app (goodIn_of _ (by decide +kernel)) ggX4_agree_X0_hasEdge
set_option maxRecDepth 20000 in
theorem ggX4_agree_X0_quarrelsOf : GoodIn wsX4_agree wsX0_quarrelsOf := goodIn_r _ [21, 22, 23, 24, 6, 25, 26, 27, 28, 29, 12, 13, 30, 31, 32, 33, 14, 15, 16, 17, 34, 35, 36, 37, 38, 39, 40, 41, 42, 43, 44, 45, 46, 47, 48, 49, 50, 51, 52, 53, 96, 97, 98, 99, 100, 101, 102, 103, 104, 105] (by decide +kernel) (by decide +kernel)
set_option maxRecDepth 20000 in
theorem gX4_agree_X0_quarrelsOf : GoodIn wsX4_agree (wsV RX4 185 RX0 yX0_quarrelsOf wsX0_quarrelsOf) := goodIn_app (goodIn_of _ (by decide +kernel)) ggX4_agree_X0_quarrelsOf
set_option maxRecDepth 20000 in
theorem ggX4_agree_X2_recordState : GoodIn wsX4_agree wsX2_recordState := goodIn_r _ [58, 59, 60, 61, 62, 57, 63, 64, 65, 66, 67, 68, 6, 69, 38, 39, 70, 71, 72, 73, 12, 13, 74, 75, 76, 44, 77, 78, 79, 80, 81, 106, 107, 108, 96, 97, 98, 99, 100, 101, 102, 103, 104, 105] (by decide +kernel) (by decide +kernel)
set_option maxRecDepth 20000 in
theorem gX4_agree_X2_recordState : GoodIn wsX4_agree (wsV RX4 41 RX2 yX2_recordState wsX2_recordState) := goodIn_app (goodIn_of _ (by decide +kernel)) ggX4_agree_X2_recordState
set_option maxRecDepth 20000 in
theorem ggX4_agree_X0_putAgreed : GoodIn wsX4_agree wsX0_putAgreed := goodIn_r _ [85, 73, 86, 44, 87, 96, 97, 98, 99, 100, 101, 102, 103, 104, 105] (by decide +kernel) (by decide +kernel)
set_option maxRecDepth 20000 in
theorem gX4_agree_X0_putAgreed : GoodIn wsX4_agree (wsV RX4 209 RX0 yX0_putAgreed wsX0_putAgreed) := goodIn_app (goodIn_of _ (by decide +kernel)) ggX4_agree_X0_putAgreed
set_option maxRecDepth 20000 in
theorem ggX4_agree_X2_keepRecord : GoodIn wsX4_agree wsX2_keepRecord := goodIn_r _ [91, 59, 64, 106, 107, 108] (by decide +kernel) (by decide +kernel)
set_option maxRecDepth 20000 in
theorem gX4_agree_X2_keepRecord : GoodIn wsX4_agree (wsV RX4 49 RX2 yX2_keepRecord wsX2_keepRecord) := goodIn_app (goodIn_of _ (by decide +kernel)) ggX4_agree_X2_keepRecord
theorem dX4_agree_0 : decode cX4_agree 0 = .ok (.aload_n 0, 1) := by decide +kernel
theorem dX4_agree_1 : decode cX4_agree 1 = .ok (.getfield 10, 3) := by decide +kernel
theorem dX4_agree_4 : decode cX4_agree 4 = .ok (.iload_n 1, 1) := by decide +kernel
theorem dX4_agree_5 : decode cX4_agree 5 = .ok (.invokevirtual 170, 3) := by decide +kernel
theorem dX4_agree_8 : decode cX4_agree 8 = .ok (.ifCond .ne 5, 3) := by decide +kernel
theorem dX4_agree_11 : decode cX4_agree 11 = .ok (.iconst (-1), 1) := by decide +kernel
theorem dX4_agree_12 : decode cX4_agree 12 = .ok (.ireturn, 1) := by decide +kernel
theorem dX4_agree_13 : decode cX4_agree 13 = .ok (.aload_n 0, 1) := by decide +kernel
theorem dX4_agree_14 : decode cX4_agree 14 = .ok (.getfield 10, 3) := by decide +kernel
theorem dX4_agree_17 : decode cX4_agree 17 = .ok (.iload_n 1, 1) := by decide +kernel
theorem dX4_agree_18 : decode cX4_agree 18 = .ok (.invokevirtual 185, 3) := by decide +kernel
theorem dX4_agree_21 : decode cX4_agree 21 = .ok (.ifCond .le 6, 3) := by decide +kernel
theorem dX4_agree_24 : decode cX4_agree 24 = .ok (.bipush (-2), 2) := by decide +kernel
theorem dX4_agree_26 : decode cX4_agree 26 = .ok (.ireturn, 1) := by decide +kernel
theorem dX4_agree_27 : decode cX4_agree 27 = .ok (.aload_n 0, 1) := by decide +kernel
theorem dX4_agree_28 : decode cX4_agree 28 = .ok (.getfield 19, 3) := by decide +kernel
theorem dX4_agree_31 : decode cX4_agree 31 = .ok (.aload_n 0, 1) := by decide +kernel
theorem dX4_agree_32 : decode cX4_agree 32 = .ok (.getfield 10, 3) := by decide +kernel
theorem dX4_agree_35 : decode cX4_agree 35 = .ok (.invokevirtual 41, 3) := by decide +kernel
theorem dX4_agree_38 : decode cX4_agree 38 = .ok (.aload_n 0, 1) := by decide +kernel
theorem dX4_agree_39 : decode cX4_agree 39 = .ok (.getfield 10, 3) := by decide +kernel
theorem dX4_agree_42 : decode cX4_agree 42 = .ok (.iload_n 1, 1) := by decide +kernel
theorem dX4_agree_43 : decode cX4_agree 43 = .ok (.iconst 1, 1) := by decide +kernel
theorem dX4_agree_44 : decode cX4_agree 44 = .ok (.invokevirtual 209, 3) := by decide +kernel
theorem dX4_agree_47 : decode cX4_agree 47 = .ok (.istore_n 2, 1) := by decide +kernel
theorem dX4_agree_48 : decode cX4_agree 48 = .ok (.aload_n 0, 1) := by decide +kernel
theorem dX4_agree_49 : decode cX4_agree 49 = .ok (.getfield 19, 3) := by decide +kernel
theorem dX4_agree_52 : decode cX4_agree 52 = .ok (.invokevirtual 49, 3) := by decide +kernel
theorem dX4_agree_55 : decode cX4_agree 55 = .ok (.iload_n 2, 1) := by decide +kernel
theorem dX4_agree_56 : decode cX4_agree 56 = .ok (.ireturn, 1) := by decide +kernel
set_option maxRecDepth 20000 in
theorem ggX4_release_X0_hasEdge : GoodIn wsX4_release wsX0_hasEdge := goodIn_r _ [8, 9, 10, 11, 7, 12, 13, 14, 15, 16, 17, 18, 106, 107, 108, 109, 110, 111, 112, 113, 114, 115] (by decide +kernel) (by decide +kernel)
set_option maxRecDepth 20000 in
theorem gX4_release_X0_hasEdge : GoodIn wsX4_release (wsV RX4 170 RX0 yX0_hasEdge wsX0_hasEdge) := goodIn_app (goodIn_of _ (by decide +kernel)) ggX4_release_X0_hasEdge
set_option maxRecDepth 20000 in
theorem ggX4_release_X0_isAgreed : GoodIn wsX4_release wsX0_isAgreed := goodIn_r _ [22, 23, 24, 25, 26, 106, 107, 108, 109, 110, 111, 112, 113, 114, 115] (by decide +kernel) (by decide +kernel)
set_option maxRecDepth 20000 in
theorem gX4_release_X0_isAgreed : GoodIn wsX4_release (wsV RX4 182 RX0 yX0_isAgreed wsX0_isAgreed) := goodIn_app (goodIn_of _ (by decide +kernel)) ggX4_release_X0_isAgreed
set_option maxRecDepth 20000 in
theorem ggX4_release_X2_recordState : GoodIn wsX4_release wsX2_recordState := goodIn_r _ [31, 32, 33, 34, 35, 30, 36, 37, 38, 39, 40, 41, 7, 42, 43, 44, 45, 46, 47, 23, 13, 14, 48, 49, 50, 25, 51, 52, 53, 54, 55, 116, 117, 118, 106, 107, 108, 109, 110, 111, 112, 113, 114, 115] (by decide +kernel) (by decide +kernel)
set_option maxRecDepth 20000 in
theorem gX4_release_X2_recordState : GoodIn wsX4_release (wsV RX4 41 RX2 yX2_recordState wsX2_recordState) := goodIn_app (goodIn_of _ (by decide +kernel)) ggX4_release_X2_recordState
set_option maxRecDepth 20000 in
theorem ggX4_release_X0_putAgreed : GoodIn wsX4_release wsX0_putAgreed := goodIn_r _ [59, 23, 60, 25, 61, 106, 107, 108, 109, 110, 111, 112, 113, 114, 115] (by decide +kernel) (by decide +kernel)
set_option maxRecDepth 20000 in
theorem gX4_release_X0_putAgreed : GoodIn wsX4_release (wsV RX4 209 RX0 yX0_putAgreed wsX0_putAgreed) := goodIn_app (goodIn_of _ (by decide +kernel)) ggX4_release_X0_putAgreed
set_option maxRecDepth 20000 in
theorem ggX4_release_X2_keepRecord : GoodIn wsX4_release wsX2_keepRecord := goodIn_r _ [65, 32, 37, 116, 117, 118] (by decide +kernel) (by decide +kernel)
set_option maxRecDepth 20000 in
theorem gX4_release_X2_keepRecord : GoodIn wsX4_release (wsV RX4 49 RX2 yX2_keepRecord wsX2_keepRecord) := goodIn_app (goodIn_of _ (by decide +kernel)) ggX4_release_X2_keepRecord
set_option maxRecDepth 20000 in
theorem ggX4_release_X1_find : GoodIn wsX4_release wsX1_find := goodIn_r _ [70, 71, 72, 73, 74, 75, 76, 77, 78, 79, 10, 11, 7, 12, 13, 14, 15, 16, 17, 18, 80, 81, 82, 83, 84, 20, 21, 22, 23, 24, 25, 26, 85, 86, 87, 88, 89, 90, 91, 69, 92, 93, 94, 95, 96, 97, 98, 99, 100, 101, 119, 106, 107, 108, 109, 110, 111, 112, 113, 114, 115] (by decide +kernel) (by decide +kernel)
set_option maxRecDepth 20000 in
theorem gX4_release_X1_find : GoodIn wsX4_release (wsV RX4 121 RX1 yX1_find wsX1_find) := goodIn_app (goodIn_of _ (by decide +kernel)) ggX4_release_X1_find
theorem dX4_release_0 : decode cX4_release 0 = .ok (.aload_n 0, 1) := by decide +kernel
theorem dX4_release_1 : decode cX4_release 1 = .ok (.getfield 10, 3) := by decide +kernel
theorem dX4_release_4 : decode cX4_release 4 = .ok (.iload_n 1, 1) := by decide +kernel
theorem dX4_release_5 : decode cX4_release 5 = .ok (.invokevirtual 170, 3) := by decide +kernel
theorem dX4_release_8 : decode cX4_release 8 = .ok (.ifCond .ne 5, 3) := by decide +kernel
theorem dX4_release_11 : decode cX4_release 11 = .ok (.iconst (-1), 1) := by decide +kernel
theorem dX4_release_12 : decode cX4_release 12 = .ok (.ireturn, 1) := by decide +kernel
theorem dX4_release_13 : decode cX4_release 13 = .ok (.aload_n 0, 1) := by decide +kernel
theorem dX4_release_14 : decode cX4_release 14 = .ok (.getfield 10, 3) := by decide +kernel
theorem dX4_release_17 : decode cX4_release 17 = .ok (.iload_n 1, 1) := by decide +kernel
theorem dX4_release_18 : decode cX4_release 18 = .ok (.invokevirtual 182, 3) := by decide +kernel
theorem dX4_release_21 : decode cX4_release 21 = .ok (.ifCond .ne 6, 3) := by decide +kernel
theorem dX4_release_24 : decode cX4_release 24 = .ok (.bipush (-2), 2) := by decide +kernel
theorem dX4_release_26 : decode cX4_release 26 = .ok (.ireturn, 1) := by decide +kernel
theorem dX4_release_27 : decode cX4_release 27 = .ok (.aload_n 0, 1) := by decide +kernel
theorem dX4_release_28 : decode cX4_release 28 = .ok (.getfield 19, 3) := by decide +kernel
theorem dX4_release_31 : decode cX4_release 31 = .ok (.aload_n 0, 1) := by decide +kernel
theorem dX4_release_32 : decode cX4_release 32 = .ok (.getfield 10, 3) := by decide +kernel
theorem dX4_release_35 : decode cX4_release 35 = .ok (.invokevirtual 41, 3) := by decide +kernel
theorem dX4_release_38 : decode cX4_release 38 = .ok (.aload_n 0, 1) := by decide +kernel
theorem dX4_release_39 : decode cX4_release 39 = .ok (.getfield 10, 3) := by decide +kernel
theorem dX4_release_42 : decode cX4_release 42 = .ok (.iload_n 1, 1) := by decide +kernel
theorem dX4_release_43 : decode cX4_release 43 = .ok (.iconst 0, 1) := by decide +kernel
theorem dX4_release_44 : decode cX4_release 44 = .ok (.invokevirtual 209, 3) := by decide +kernel
theorem dX4_release_47 : decode cX4_release 47 = .ok (.pop, 1) := by decide +kernel
theorem dX4_release_48 : decode cX4_release 48 = .ok (.aload_n 0, 1) := by decide +kernel
theorem dX4_release_49 : decode cX4_release 49 = .ok (.getfield 19, 3) := by decide +kernel
theorem dX4_release_52 : decode cX4_release 52 = .ok (.invokevirtual 49, 3) := by decide +kernel
theorem dX4_release_55 : decode cX4_release 55 = .ok (.aload_n 0, 1) := by decide +kernel
theorem dX4_release_56 : decode cX4_release 56 = .ok (.getfield 26, 3) := by decide +kernel
theorem dX4_release_59 : decode cX4_release 59 = .ok (.aload_n 0, 1) := by decide +kernel
theorem dX4_release_60 : decode cX4_release 60 = .ok (.getfield 10, 3) := by decide +kernel
theorem dX4_release_63 : decode cX4_release 63 = .ok (.invokevirtual 121, 3) := by decide +kernel
theorem dX4_release_66 : decode cX4_release 66 = .ok (.ireturn, 1) := by decide +kernel
set_option maxRecDepth 20000 in
theorem ggX4_settle_X0_hasEdge : GoodIn wsX4_settle wsX0_hasEdge := goodIn_r _ [7, 8, 9, 10, 6, 11, 12, 13, 14, 15, 16, 17, 114, 115, 116, 117, 118, 119, 120, 121, 122, 123] (by decide +kernel) (by decide +kernel)
set_option maxRecDepth 20000 in
theorem gX4_settle_X0_hasEdge : GoodIn wsX4_settle (wsV RX4 170 RX0 yX0_hasEdge wsX0_hasEdge) := goodIn_app (goodIn_of _ (by decide +kernel)) ggX4_settle_X0_hasEdge
set_option maxRecDepth 20000 in
theorem ggX4_settle_X0_firstSheet : GoodIn wsX4_settle wsX0_firstSheet := goodIn_r _ [21, 12, 13, 114, 115, 116, 117, 118, 119, 120, 121, 122, 123] (by decide +kernel) (by decide +kernel)
set_option maxRecDepth 20000 in
theorem gX4_settle_X0_firstSheet : GoodIn wsX4_settle (wsV RX4 173 RX0 yX0_firstSheet wsX0_firstSheet) := goodIn_app (goodIn_of _ (by decide +kernel)) ggX4_settle_X0_firstSheet
set_option maxRecDepth 20000 in
theorem ggX4_settle_X0_secondSheet : GoodIn wsX4_settle wsX0_secondSheet := goodIn_r _ [25, 12, 26, 19, 20, 6, 21, 13, 14, 15, 16, 17, 114, 115, 116, 117, 118, 119, 120, 121, 122, 123] (by decide +kernel) (by decide +kernel)
set_option maxRecDepth 20000 in
theorem gX4_settle_X0_secondSheet : GoodIn wsX4_settle (wsV RX4 176 RX0 yX0_secondSheet wsX0_secondSheet) := goodIn_app (goodIn_of _ (by decide +kernel)) ggX4_settle_X0_secondSheet
set_option maxRecDepth 20000 in
theorem ggX4_settle_X2_recordState : GoodIn wsX4_settle wsX2_recordState := goodIn_r _ [31, 32, 33, 34, 35, 30, 36, 37, 38, 39, 40, 41, 6, 42, 43, 44, 45, 46, 47, 48, 12, 13, 49, 50, 51, 52, 53, 54, 55, 56, 57, 124, 125, 126, 114, 115, 116, 117, 118, 119, 120, 121, 122, 123] (by decide +kernel) (by decide +kernel)
set_option maxRecDepth 20000 in
theorem gX4_settle_X2_recordState : GoodIn wsX4_settle (wsV RX4 41 RX2 yX2_recordState wsX2_recordState) := goodIn_app (goodIn_of _ (by decide +kernel)) ggX4_settle_X2_recordState
set_option maxRecDepth 20000 in
theorem ggX4_settle_X0_settleFrom : GoodIn wsX4_settle wsX0_settleFrom := goodIn_r _ [61, 26, 19, 20, 6, 21, 12, 13, 62, 63, 64, 65, 14, 15, 16, 17, 66, 67, 68, 69, 70, 23, 24, 25, 71, 72, 73, 74, 43, 44, 75, 76, 77, 78, 52, 79, 80, 81, 82, 83, 84, 85, 86, 87, 88, 89, 90, 91, 92, 93, 94, 95, 96, 97, 45, 98, 99, 100, 101, 114, 115, 116, 117, 118, 119, 120, 121, 122, 123] (by decide +kernel) (by decide +kernel)
set_option maxRecDepth 20000 in
theorem gX4_settle_X0_settleFrom : GoodIn wsX4_settle (wsV RX4 212 RX0 yX0_settleFrom wsX0_settleFrom) := goodIn_app (goodIn_of _ (by decide +kernel)) ggX4_settle_X0_settleFrom
set_option maxRecDepth 20000 in
theorem ggX4_settle_X2_returnToRecord : GoodIn wsX4_settle wsX2_returnToRecord := goodIn_r _ [105, 32, 33, 34, 35, 30, 36, 37, 38, 39, 40, 41, 6, 42, 43, 44, 45, 46, 47, 48, 12, 13, 49, 50, 51, 52, 53, 54, 55, 56, 57, 124, 125, 126, 114, 115, 116, 117, 118, 119, 120, 121, 122, 123] (by decide +kernel) (by decide +kernel)
set_option maxRecDepth 20000 in
theorem gX4_settle_X2_returnToRecord : GoodIn wsX4_settle (wsV RX4 215 RX2 yX2_returnToRecord wsX2_returnToRecord) := goodIn_app (goodIn_of _ (by decide +kernel)) ggX4_settle_X2_returnToRecord
set_option maxRecDepth 20000 in
theorem ggX4_settle_X2_keepRecord : GoodIn wsX4_settle wsX2_keepRecord := goodIn_r _ [109, 32, 37, 124, 125, 126] (by decide +kernel) (by decide +kernel)
set_option maxRecDepth 20000 in
theorem gX4_settle_X2_keepRecord : GoodIn wsX4_settle (wsV RX4 49 RX2 yX2_keepRecord wsX2_keepRecord) := goodIn_app (goodIn_of _ (by decide +kernel)) ggX4_settle_X2_keepRecord
theorem dX4_settle_0 : decode cX4_settle 0 = .ok (.aload_n 0, 1) := by decide +kernel
theorem dX4_settle_1 : decode cX4_settle 1 = .ok (.getfield 10, 3) := by decide +kernel
theorem dX4_settle_4 : decode cX4_settle 4 = .ok (.iload_n 1, 1) := by decide +kernel
theorem dX4_settle_5 : decode cX4_settle 5 = .ok (.invokevirtual 170, 3) := by decide +kernel
theorem dX4_settle_8 : decode cX4_settle 8 = .ok (.ifCond .ne 5, 3) := by decide +kernel
theorem dX4_settle_11 : decode cX4_settle 11 = .ok (.iconst (-1), 1) := by decide +kernel
theorem dX4_settle_12 : decode cX4_settle 12 = .ok (.ireturn, 1) := by decide +kernel
theorem dX4_settle_13 : decode cX4_settle 13 = .ok (.iload_n 2, 1) := by decide +kernel
theorem dX4_settle_14 : decode cX4_settle 14 = .ok (.aload_n 0, 1) := by decide +kernel
theorem dX4_settle_15 : decode cX4_settle 15 = .ok (.getfield 10, 3) := by decide +kernel
theorem dX4_settle_18 : decode cX4_settle 18 = .ok (.iload_n 1, 1) := by decide +kernel
theorem dX4_settle_19 : decode cX4_settle 19 = .ok (.invokevirtual 173, 3) := by decide +kernel
theorem dX4_settle_22 : decode cX4_settle 22 = .ok (.if_icmp .eq 17, 3) := by decide +kernel
theorem dX4_settle_25 : decode cX4_settle 25 = .ok (.iload_n 2, 1) := by decide +kernel
theorem dX4_settle_26 : decode cX4_settle 26 = .ok (.aload_n 0, 1) := by decide +kernel
theorem dX4_settle_27 : decode cX4_settle 27 = .ok (.getfield 10, 3) := by decide +kernel
theorem dX4_settle_30 : decode cX4_settle 30 = .ok (.iload_n 1, 1) := by decide +kernel
theorem dX4_settle_31 : decode cX4_settle 31 = .ok (.invokevirtual 176, 3) := by decide +kernel
theorem dX4_settle_34 : decode cX4_settle 34 = .ok (.if_icmp .eq 5, 3) := by decide +kernel
theorem dX4_settle_37 : decode cX4_settle 37 = .ok (.iconst (-1), 1) := by decide +kernel
theorem dX4_settle_38 : decode cX4_settle 38 = .ok (.ireturn, 1) := by decide +kernel
theorem dX4_settle_39 : decode cX4_settle 39 = .ok (.aload_n 0, 1) := by decide +kernel
theorem dX4_settle_40 : decode cX4_settle 40 = .ok (.getfield 19, 3) := by decide +kernel
theorem dX4_settle_43 : decode cX4_settle 43 = .ok (.aload_n 0, 1) := by decide +kernel
theorem dX4_settle_44 : decode cX4_settle 44 = .ok (.getfield 10, 3) := by decide +kernel
theorem dX4_settle_47 : decode cX4_settle 47 = .ok (.invokevirtual 41, 3) := by decide +kernel
theorem dX4_settle_50 : decode cX4_settle 50 = .ok (.aload_n 0, 1) := by decide +kernel
theorem dX4_settle_51 : decode cX4_settle 51 = .ok (.getfield 10, 3) := by decide +kernel
theorem dX4_settle_54 : decode cX4_settle 54 = .ok (.iload_n 1, 1) := by decide +kernel
theorem dX4_settle_55 : decode cX4_settle 55 = .ok (.iload_n 2, 1) := by decide +kernel
theorem dX4_settle_56 : decode cX4_settle 56 = .ok (.invokevirtual 212, 3) := by decide +kernel
theorem dX4_settle_59 : decode cX4_settle 59 = .ok (.istore_n 3, 1) := by decide +kernel
theorem dX4_settle_60 : decode cX4_settle 60 = .ok (.iload_n 3, 1) := by decide +kernel
theorem dX4_settle_61 : decode cX4_settle 61 = .ok (.bipush (-2), 2) := by decide +kernel
theorem dX4_settle_63 : decode cX4_settle 63 = .ok (.if_icmp .ne 17, 3) := by decide +kernel
theorem dX4_settle_66 : decode cX4_settle 66 = .ok (.aload_n 0, 1) := by decide +kernel
theorem dX4_settle_67 : decode cX4_settle 67 = .ok (.getfield 19, 3) := by decide +kernel
theorem dX4_settle_70 : decode cX4_settle 70 = .ok (.aload_n 0, 1) := by decide +kernel
theorem dX4_settle_71 : decode cX4_settle 71 = .ok (.getfield 10, 3) := by decide +kernel
theorem dX4_settle_74 : decode cX4_settle 74 = .ok (.invokevirtual 215, 3) := by decide +kernel
theorem dX4_settle_77 : decode cX4_settle 77 = .ok (.bipush (-2), 2) := by decide +kernel
theorem dX4_settle_79 : decode cX4_settle 79 = .ok (.ireturn, 1) := by decide +kernel
theorem dX4_settle_80 : decode cX4_settle 80 = .ok (.aload_n 0, 1) := by decide +kernel
theorem dX4_settle_81 : decode cX4_settle 81 = .ok (.getfield 19, 3) := by decide +kernel
theorem dX4_settle_84 : decode cX4_settle 84 = .ok (.invokevirtual 49, 3) := by decide +kernel
theorem dX4_settle_87 : decode cX4_settle 87 = .ok (.iload_n 3, 1) := by decide +kernel
theorem dX4_settle_88 : decode cX4_settle 88 = .ok (.ireturn, 1) := by decide +kernel
set_option maxRecDepth 20000 in
theorem ggX4_publish_X0_hasSheet : GoodIn wsX4_publish wsX0_hasSheet := goodIn_r _ [7, 8, 9, 10, 6, 11, 12, 13, 94, 95, 96, 97, 98, 99, 100, 101, 102, 103] (by decide +kernel) (by decide +kernel)
set_option maxRecDepth 20000 in
theorem gX4_publish_X0_hasSheet : GoodIn wsX4_publish (wsV RX4 82 RX0 yX0_hasSheet wsX0_hasSheet) := goodIn_app (goodIn_of _ (by decide +kernel)) ggX4_publish_X0_hasSheet
set_option maxRecDepth 20000 in
theorem ggX4_publish_X0_agreedEdgesOf : GoodIn wsX4_publish wsX0_agreedEdgesOf := goodIn_r _ [17, 18, 19, 20, 6, 21, 12, 13, 22, 23, 24, 25, 26, 27, 28, 29, 30, 31, 32, 33, 34, 35, 36, 37, 38, 39, 40, 41, 94, 95, 96, 97, 98, 99, 100, 101, 102, 103] (by decide +kernel) (by decide +kernel)
set_option maxRecDepth 20000 in
theorem gX4_publish_X0_agreedEdgesOf : GoodIn wsX4_publish (wsV RX4 100 RX0 yX0_agreedEdgesOf wsX0_agreedEdgesOf) := goodIn_app (goodIn_of _ (by decide +kernel)) ggX4_publish_X0_agreedEdgesOf
set_option maxRecDepth 20000 in
theorem ggX4_publish_X0_edgesOf : GoodIn wsX4_publish wsX0_edgesOf := goodIn_r _ [45, 18, 19, 20, 6, 21, 12, 13, 22, 23, 24, 25, 26, 27, 28, 29, 30, 31, 32, 33, 94, 95, 96, 97, 98, 99, 100, 101, 102, 103] (by decide +kernel) (by decide +kernel)
set_option maxRecDepth 20000 in
theorem gX4_publish_X0_edgesOf : GoodIn wsX4_publish (wsV RX4 97 RX0 yX0_edgesOf wsX0_edgesOf) := goodIn_app (goodIn_of _ (by decide +kernel)) ggX4_publish_X0_edgesOf
set_option maxRecDepth 20000 in
theorem ggX4_publish_X2_recordState : GoodIn wsX4_publish wsX2_recordState := goodIn_r _ [50, 51, 52, 53, 54, 49, 55, 56, 57, 58, 59, 60, 6, 61, 62, 63, 64, 65, 66, 38, 12, 13, 67, 68, 69, 40, 70, 71, 72, 73, 74, 104, 105, 106, 94, 95, 96, 97, 98, 99, 100, 101, 102, 103] (by decide +kernel) (by decide +kernel)
set_option maxRecDepth 20000 in
theorem gX4_publish_X2_recordState : GoodIn wsX4_publish (wsV RX4 41 RX2 yX2_recordState wsX2_recordState) := goodIn_app (goodIn_of _ (by decide +kernel)) ggX4_publish_X2_recordState
set_option maxRecDepth 20000 in
theorem ggX4_publish_X0_publishRevision : GoodIn wsX4_publish wsX0_publishRevision := goodIn_r _ [78, 65, 79, 80, 81, 6, 82, 64, 39, 40, 41, 83, 84, 94, 95, 96, 97, 98, 99, 100, 101, 102, 103] (by decide +kernel) (by decide +kernel)
set_option maxRecDepth 20000 in
theorem gX4_publish_X0_publishRevision : GoodIn wsX4_publish (wsV RX4 226 RX0 yX0_publishRevision wsX0_publishRevision) := goodIn_app (goodIn_of _ (by decide +kernel)) ggX4_publish_X0_publishRevision
set_option maxRecDepth 20000 in
theorem ggX4_publish_X2_keepRecord : GoodIn wsX4_publish wsX2_keepRecord := goodIn_r _ [88, 51, 56, 104, 105, 106] (by decide +kernel) (by decide +kernel)
set_option maxRecDepth 20000 in
theorem gX4_publish_X2_keepRecord : GoodIn wsX4_publish (wsV RX4 49 RX2 yX2_keepRecord wsX2_keepRecord) := goodIn_app (goodIn_of _ (by decide +kernel)) ggX4_publish_X2_keepRecord
set_option maxRecDepth 20000 in
theorem ggX4_publish_X0_revisionOf : GoodIn wsX4_publish wsX0_revisionOf := goodIn_r _ [82, 64, 39, 40, 41, 94, 95, 96, 97, 98, 99, 100, 101, 102, 103] (by decide +kernel) (by decide +kernel)
set_option maxRecDepth 20000 in
theorem gX4_publish_X0_revisionOf : GoodIn wsX4_publish (wsV RX4 103 RX0 yX0_revisionOf wsX0_revisionOf) := goodIn_app (goodIn_of _ (by decide +kernel)) ggX4_publish_X0_revisionOf
theorem dX4_publish_0 : decode cX4_publish 0 = .ok (.aload_n 0, 1) := by decide +kernel
theorem dX4_publish_1 : decode cX4_publish 1 = .ok (.getfield 10, 3) := by decide +kernel
theorem dX4_publish_4 : decode cX4_publish 4 = .ok (.iload_n 1, 1) := by decide +kernel
theorem dX4_publish_5 : decode cX4_publish 5 = .ok (.invokevirtual 82, 3) := by decide +kernel
theorem dX4_publish_8 : decode cX4_publish 8 = .ok (.ifCond .ne 5, 3) := by decide +kernel
theorem dX4_publish_11 : decode cX4_publish 11 = .ok (.iconst (-1), 1) := by decide +kernel
theorem dX4_publish_12 : decode cX4_publish 12 = .ok (.ireturn, 1) := by decide +kernel
theorem dX4_publish_13 : decode cX4_publish 13 = .ok (.aload_n 0, 1) := by decide +kernel
theorem dX4_publish_14 : decode cX4_publish 14 = .ok (.getfield 10, 3) := by decide +kernel
theorem dX4_publish_17 : decode cX4_publish 17 = .ok (.iload_n 1, 1) := by decide +kernel
theorem dX4_publish_18 : decode cX4_publish 18 = .ok (.invokevirtual 100, 3) := by decide +kernel
theorem dX4_publish_21 : decode cX4_publish 21 = .ok (.aload_n 0, 1) := by decide +kernel
theorem dX4_publish_22 : decode cX4_publish 22 = .ok (.getfield 10, 3) := by decide +kernel
theorem dX4_publish_25 : decode cX4_publish 25 = .ok (.iload_n 1, 1) := by decide +kernel
theorem dX4_publish_26 : decode cX4_publish 26 = .ok (.invokevirtual 97, 3) := by decide +kernel
theorem dX4_publish_29 : decode cX4_publish 29 = .ok (.if_icmp .ge 6, 3) := by decide +kernel
theorem dX4_publish_32 : decode cX4_publish 32 = .ok (.bipush (-2), 2) := by decide +kernel
theorem dX4_publish_34 : decode cX4_publish 34 = .ok (.ireturn, 1) := by decide +kernel
theorem dX4_publish_35 : decode cX4_publish 35 = .ok (.aload_n 0, 1) := by decide +kernel
theorem dX4_publish_36 : decode cX4_publish 36 = .ok (.getfield 19, 3) := by decide +kernel
theorem dX4_publish_39 : decode cX4_publish 39 = .ok (.aload_n 0, 1) := by decide +kernel
theorem dX4_publish_40 : decode cX4_publish 40 = .ok (.getfield 10, 3) := by decide +kernel
theorem dX4_publish_43 : decode cX4_publish 43 = .ok (.invokevirtual 41, 3) := by decide +kernel
theorem dX4_publish_46 : decode cX4_publish 46 = .ok (.aload_n 0, 1) := by decide +kernel
theorem dX4_publish_47 : decode cX4_publish 47 = .ok (.getfield 10, 3) := by decide +kernel
theorem dX4_publish_50 : decode cX4_publish 50 = .ok (.iload_n 1, 1) := by decide +kernel
theorem dX4_publish_51 : decode cX4_publish 51 = .ok (.invokevirtual 226, 3) := by decide +kernel
theorem dX4_publish_54 : decode cX4_publish 54 = .ok (.aload_n 0, 1) := by decide +kernel
theorem dX4_publish_55 : decode cX4_publish 55 = .ok (.getfield 19, 3) := by decide +kernel
theorem dX4_publish_58 : decode cX4_publish 58 = .ok (.invokevirtual 49, 3) := by decide +kernel
theorem dX4_publish_61 : decode cX4_publish 61 = .ok (.aload_n 0, 1) := by decide +kernel
theorem dX4_publish_62 : decode cX4_publish 62 = .ok (.getfield 10, 3) := by decide +kernel
theorem dX4_publish_65 : decode cX4_publish 65 = .ok (.iload_n 1, 1) := by decide +kernel
theorem dX4_publish_66 : decode cX4_publish 66 = .ok (.invokevirtual 103, 3) := by decide +kernel
theorem dX4_publish_69 : decode cX4_publish 69 = .ok (.ireturn, 1) := by decide +kernel
set_option maxRecDepth 20000 in
theorem ggX4_scale_X0_hasSheet : GoodIn wsX4_scale wsX0_hasSheet := goodIn_r _ [8, 9, 10, 11, 7, 12, 13, 14, 63, 64, 65, 66, 67, 68, 69, 70, 71, 72] (by decide +kernel) (by decide +kernel)
set_option maxRecDepth 20000 in
theorem gX4_scale_X0_hasSheet : GoodIn wsX4_scale (wsV RX4 82 RX0 yX0_hasSheet wsX0_hasSheet) := goodIn_app (goodIn_of _ (by decide +kernel)) ggX4_scale_X0_hasSheet
set_option maxRecDepth 20000 in
theorem ggX4_scale_X4_isWithin : GoodIn wsX4_scale wsX4_isWithin := goodIn_r _ [18] (by decide +kernel) (by decide +kernel)
set_option maxRecDepth 20000 in
theorem gX4_scale_X4_isWithin : GoodIn wsX4_scale (va_wsS RX4 37 yX4_isWithin wsX4_isWithin) := goodIn_app (goodIn_of _ (by decide +kernel)) ggX4_scale_X4_isWithin
set_option maxRecDepth 20000 in
theorem ggX4_scale_X2_recordState : GoodIn wsX4_scale wsX2_recordState := goodIn_r _ [23, 24, 25, 26, 27, 22, 28, 29, 30, 31, 32, 33, 7, 34, 35, 36, 37, 38, 39, 40, 13, 14, 41, 42, 43, 17, 44, 45, 46, 47, 48, 73, 74, 75, 63, 64, 65, 66, 67, 68, 69, 70, 71, 72] (by decide +kernel) (by decide +kernel)
set_option maxRecDepth 20000 in
theorem gX4_scale_X2_recordState : GoodIn wsX4_scale (wsV RX4 41 RX2 yX2_recordState wsX2_recordState) := goodIn_app (goodIn_of _ (by decide +kernel)) ggX4_scale_X2_recordState
set_option maxRecDepth 20000 in
theorem ggX4_scale_X0_putScale : GoodIn wsX4_scale wsX0_putScale := goodIn_r _ [52, 39, 53, 17, 54, 63, 64, 65, 66, 67, 68, 69, 70, 71, 72] (by decide +kernel) (by decide +kernel)
set_option maxRecDepth 20000 in
theorem gX4_scale_X0_putScale : GoodIn wsX4_scale (wsV RX4 231 RX0 yX0_putScale wsX0_putScale) := goodIn_app (goodIn_of _ (by decide +kernel)) ggX4_scale_X0_putScale
set_option maxRecDepth 20000 in
theorem ggX4_scale_X2_keepRecord : GoodIn wsX4_scale wsX2_keepRecord := goodIn_r _ [58, 24, 29, 73, 74, 75] (by decide +kernel) (by decide +kernel)
set_option maxRecDepth 20000 in
theorem gX4_scale_X2_keepRecord : GoodIn wsX4_scale (wsV RX4 49 RX2 yX2_keepRecord wsX2_keepRecord) := goodIn_app (goodIn_of _ (by decide +kernel)) ggX4_scale_X2_keepRecord
theorem dX4_scale_0 : decode cX4_scale 0 = .ok (.aload_n 0, 1) := by decide +kernel
theorem dX4_scale_1 : decode cX4_scale 1 = .ok (.getfield 10, 3) := by decide +kernel
theorem dX4_scale_4 : decode cX4_scale 4 = .ok (.iload_n 1, 1) := by decide +kernel
theorem dX4_scale_5 : decode cX4_scale 5 = .ok (.invokevirtual 82, 3) := by decide +kernel
theorem dX4_scale_8 : decode cX4_scale 8 = .ok (.ifCond .eq 13, 3) := by decide +kernel
theorem dX4_scale_11 : decode cX4_scale 11 = .ok (.iload_n 2, 1) := by decide +kernel
theorem dX4_scale_12 : decode cX4_scale 12 = .ok (.iconst 1, 1) := by decide +kernel
theorem dX4_scale_13 : decode cX4_scale 13 = .ok (.ldc 230, 2) := by decide +kernel
theorem dX4_scale_15 : decode cX4_scale 15 = .ok (.invokestatic 37, 3) := by decide +kernel
theorem dX4_scale_18 : decode cX4_scale 18 = .ok (.ifCond .ne 5, 3) := by decide +kernel
theorem dX4_scale_21 : decode cX4_scale 21 = .ok (.iconst (-1), 1) := by decide +kernel
theorem dX4_scale_22 : decode cX4_scale 22 = .ok (.ireturn, 1) := by decide +kernel
theorem dX4_scale_23 : decode cX4_scale 23 = .ok (.aload_n 0, 1) := by decide +kernel
theorem dX4_scale_24 : decode cX4_scale 24 = .ok (.getfield 19, 3) := by decide +kernel
theorem dX4_scale_27 : decode cX4_scale 27 = .ok (.aload_n 0, 1) := by decide +kernel
theorem dX4_scale_28 : decode cX4_scale 28 = .ok (.getfield 10, 3) := by decide +kernel
theorem dX4_scale_31 : decode cX4_scale 31 = .ok (.invokevirtual 41, 3) := by decide +kernel
theorem dX4_scale_34 : decode cX4_scale 34 = .ok (.aload_n 0, 1) := by decide +kernel
theorem dX4_scale_35 : decode cX4_scale 35 = .ok (.getfield 10, 3) := by decide +kernel
theorem dX4_scale_38 : decode cX4_scale 38 = .ok (.iload_n 1, 1) := by decide +kernel
theorem dX4_scale_39 : decode cX4_scale 39 = .ok (.iload_n 2, 1) := by decide +kernel
theorem dX4_scale_40 : decode cX4_scale 40 = .ok (.invokevirtual 231, 3) := by decide +kernel
theorem dX4_scale_43 : decode cX4_scale 43 = .ok (.istore_n 3, 1) := by decide +kernel
theorem dX4_scale_44 : decode cX4_scale 44 = .ok (.aload_n 0, 1) := by decide +kernel
theorem dX4_scale_45 : decode cX4_scale 45 = .ok (.getfield 19, 3) := by decide +kernel
theorem dX4_scale_48 : decode cX4_scale 48 = .ok (.invokevirtual 49, 3) := by decide +kernel
theorem dX4_scale_51 : decode cX4_scale 51 = .ok (.iload_n 3, 1) := by decide +kernel
theorem dX4_scale_52 : decode cX4_scale 52 = .ok (.ireturn, 1) := by decide +kernel
set_option maxRecDepth 20000 in
theorem ggX4_endRevision_X0_guardValue : GoodIn wsX4_endRevision wsX0_guardValue := goodIn_r _ [7, 8, 124, 125, 126, 127, 128, 129, 130, 131, 132, 133] (by decide +kernel) (by decide +kernel)
set_option maxRecDepth 20000 in
theorem gX4_endRevision_X0_guardValue : GoodIn wsX4_endRevision (wsV RX4 161 RX0 yX0_guardValue wsX0_guardValue) := goodIn_app (goodIn_of _ (by decide +kernel)) ggX4_endRevision_X0_guardValue
set_option maxRecDepth 20000 in
theorem ggX4_endRevision_X0_breaksAgreement : GoodIn wsX4_endRevision wsX0_breaksAgreement := goodIn_r _ [12, 13, 14, 15, 6, 16, 17, 18, 19, 20, 21, 22, 23, 24, 25, 26, 27, 28, 29, 30, 31, 32, 33, 34, 35, 36, 37, 38, 39, 40, 41, 42, 43, 44, 45, 46, 47, 48, 49, 50, 51, 52, 53, 54, 55, 56, 57, 58, 59, 60, 61, 62, 63, 64, 65, 66, 67, 68, 69, 70, 71, 124, 125, 126, 127, 128, 129, 130, 131, 132, 133] (by decide +kernel) (by decide +kernel)
set_option maxRecDepth 20000 in
theorem gX4_endRevision_X0_breaksAgreement : GoodIn wsX4_endRevision (wsV RX4 252 RX0 yX0_breaksAgreement wsX0_breaksAgreement) := goodIn_app (goodIn_of _ (by decide +kernel)) ggX4_endRevision_X0_breaksAgreement
set_option maxRecDepth 20000 in
theorem ggX4_endRevision_X2_returnToRecord : GoodIn wsX4_endRevision wsX2_returnToRecord := goodIn_r _ [76, 77, 78, 79, 80, 75, 81, 82, 83, 84, 85, 86, 6, 87, 59, 60, 88, 89, 90, 35, 17, 18, 8, 91, 92, 37, 93, 94, 95, 96, 97, 134, 135, 136, 124, 125, 126, 127, 128, 129, 130, 131, 132, 133] (by decide +kernel) (by decide +kernel)
set_option maxRecDepth 20000 in
theorem gX4_endRevision_X2_returnToRecord : GoodIn wsX4_endRevision (wsV RX4 215 RX2 yX2_returnToRecord wsX2_returnToRecord) := goodIn_app (goodIn_of _ (by decide +kernel)) ggX4_endRevision_X2_returnToRecord
set_option maxRecDepth 20000 in
theorem ggX4_endRevision_X0_dropBrokenAgreements : GoodIn wsX4_endRevision wsX0_dropBrokenAgreements := goodIn_r _ [101, 13, 14, 15, 6, 16, 17, 18, 19, 20, 21, 22, 23, 24, 25, 26, 27, 28, 29, 30, 31, 32, 33, 34, 35, 36, 37, 38, 39, 40, 41, 42, 43, 44, 45, 46, 47, 48, 49, 50, 51, 52, 53, 54, 55, 56, 57, 58, 59, 60, 61, 62, 63, 64, 65, 66, 67, 68, 69, 70, 71, 102, 103, 104, 105, 106, 107, 124, 125, 126, 127, 128, 129, 130, 131, 132, 133] (by decide +kernel) (by decide +kernel)
set_option maxRecDepth 20000 in
theorem gX4_endRevision_X0_dropBrokenAgreements : GoodIn wsX4_endRevision (wsV RX4 255 RX0 yX0_dropBrokenAgreements wsX0_dropBrokenAgreements) := goodIn_app (goodIn_of _ (by decide +kernel)) ggX4_endRevision_X0_dropBrokenAgreements
set_option maxRecDepth 20000 in
theorem ggX4_endRevision_X0_addRevision : GoodIn wsX4_endRevision wsX0_addRevision := goodIn_r _ [111, 88, 112, 113, 114, 6, 115, 36, 37, 38, 106, 107, 124, 125, 126, 127, 128, 129, 130, 131, 132, 133] (by decide +kernel) (by decide +kernel)
set_option maxRecDepth 20000 in
theorem gX4_endRevision_X0_addRevision : GoodIn wsX4_endRevision (wsV RX4 258 RX0 yX0_addRevision wsX0_addRevision) := goodIn_app (goodIn_of _ (by decide +kernel)) ggX4_endRevision_X0_addRevision
set_option maxRecDepth 20000 in
theorem ggX4_endRevision_X2_keepRecord : GoodIn wsX4_endRevision wsX2_keepRecord := goodIn_r _ [119, 77, 82, 134, 135, 136] (by decide +kernel) (by decide +kernel)
set_option maxRecDepth 20000 in
theorem gX4_endRevision_X2_keepRecord : GoodIn wsX4_endRevision (wsV RX4 49 RX2 yX2_keepRecord wsX2_keepRecord) := goodIn_app (goodIn_of _ (by decide +kernel)) ggX4_endRevision_X2_keepRecord
theorem dX4_endRevision_0 : decode cX4_endRevision 0 = .ok (.aload_n 0, 1) := by decide +kernel
theorem dX4_endRevision_1 : decode cX4_endRevision 1 = .ok (.getfield 10, 3) := by decide +kernel
theorem dX4_endRevision_4 : decode cX4_endRevision 4 = .ok (.invokevirtual 161, 3) := by decide +kernel
theorem dX4_endRevision_7 : decode cX4_endRevision 7 = .ok (.iconst 1, 1) := by decide +kernel
theorem dX4_endRevision_8 : decode cX4_endRevision 8 = .ok (.if_icmp .ne 28, 3) := by decide +kernel
theorem dX4_endRevision_11 : decode cX4_endRevision 11 = .ok (.aload_n 0, 1) := by decide +kernel
theorem dX4_endRevision_12 : decode cX4_endRevision 12 = .ok (.getfield 10, 3) := by decide +kernel
theorem dX4_endRevision_15 : decode cX4_endRevision 15 = .ok (.iload_n 1, 1) := by decide +kernel
theorem dX4_endRevision_16 : decode cX4_endRevision 16 = .ok (.invokevirtual 252, 3) := by decide +kernel
theorem dX4_endRevision_19 : decode cX4_endRevision 19 = .ok (.ifCond .eq 17, 3) := by decide +kernel
theorem dX4_endRevision_22 : decode cX4_endRevision 22 = .ok (.aload_n 0, 1) := by decide +kernel
theorem dX4_endRevision_23 : decode cX4_endRevision 23 = .ok (.getfield 19, 3) := by decide +kernel
theorem dX4_endRevision_26 : decode cX4_endRevision 26 = .ok (.aload_n 0, 1) := by decide +kernel
theorem dX4_endRevision_27 : decode cX4_endRevision 27 = .ok (.getfield 10, 3) := by decide +kernel
theorem dX4_endRevision_30 : decode cX4_endRevision 30 = .ok (.invokevirtual 215, 3) := by decide +kernel
theorem dX4_endRevision_33 : decode cX4_endRevision 33 = .ok (.bipush (-2), 2) := by decide +kernel
theorem dX4_endRevision_35 : decode cX4_endRevision 35 = .ok (.ireturn, 1) := by decide +kernel
theorem dX4_endRevision_36 : decode cX4_endRevision 36 = .ok (.aload_n 0, 1) := by decide +kernel
theorem dX4_endRevision_37 : decode cX4_endRevision 37 = .ok (.getfield 10, 3) := by decide +kernel
theorem dX4_endRevision_40 : decode cX4_endRevision 40 = .ok (.iload_n 1, 1) := by decide +kernel
theorem dX4_endRevision_41 : decode cX4_endRevision 41 = .ok (.invokevirtual 255, 3) := by decide +kernel
theorem dX4_endRevision_44 : decode cX4_endRevision 44 = .ok (.aload_n 0, 1) := by decide +kernel
theorem dX4_endRevision_45 : decode cX4_endRevision 45 = .ok (.getfield 10, 3) := by decide +kernel
theorem dX4_endRevision_48 : decode cX4_endRevision 48 = .ok (.iload_n 1, 1) := by decide +kernel
theorem dX4_endRevision_49 : decode cX4_endRevision 49 = .ok (.invokevirtual 258, 3) := by decide +kernel
theorem dX4_endRevision_52 : decode cX4_endRevision 52 = .ok (.aload_n 0, 1) := by decide +kernel
theorem dX4_endRevision_53 : decode cX4_endRevision 53 = .ok (.getfield 19, 3) := by decide +kernel
theorem dX4_endRevision_56 : decode cX4_endRevision 56 = .ok (.invokevirtual 49, 3) := by decide +kernel
theorem dX4_endRevision_59 : decode cX4_endRevision 59 = .ok (.iload_n 2, 1) := by decide +kernel
theorem dX4_endRevision_60 : decode cX4_endRevision 60 = .ok (.ireturn, 1) := by decide +kernel
theorem dX4_isWithin_0 : decode cX4_isWithin 0 = .ok (.iload_n 0, 1) := by decide +kernel
theorem dX4_isWithin_1 : decode cX4_isWithin 1 = .ok (.iload_n 1, 1) := by decide +kernel
theorem dX4_isWithin_2 : decode cX4_isWithin 2 = .ok (.if_icmp .lt 12, 3) := by decide +kernel
theorem dX4_isWithin_5 : decode cX4_isWithin 5 = .ok (.iload_n 0, 1) := by decide +kernel
theorem dX4_isWithin_6 : decode cX4_isWithin 6 = .ok (.iload_n 2, 1) := by decide +kernel
theorem dX4_isWithin_7 : decode cX4_isWithin 7 = .ok (.if_icmp .gt 7, 3) := by decide +kernel
theorem dX4_isWithin_10 : decode cX4_isWithin 10 = .ok (.iconst 1, 1) := by decide +kernel
theorem dX4_isWithin_11 : decode cX4_isWithin 11 = .ok (.goto 4, 3) := by decide +kernel
theorem dX4_isWithin_14 : decode cX4_isWithin 14 = .ok (.iconst 0, 1) := by decide +kernel
theorem dX4_isWithin_15 : decode cX4_isWithin 15 = .ok (.ireturn, 1) := by decide +kernel
set_option maxRecDepth 20000 in
theorem ggX4_isDigit_X4_isWithin : GoodIn wsX4_isDigit wsX4_isWithin := goodIn_r _ [4] (by decide +kernel) (by decide +kernel)
set_option maxRecDepth 20000 in
theorem gX4_isDigit_X4_isWithin : GoodIn wsX4_isDigit (va_wsS RX4 37 yX4_isWithin wsX4_isWithin) := goodIn_app (goodIn_of _ (by decide +kernel)) ggX4_isDigit_X4_isWithin
theorem dX4_isDigit_0 : decode cX4_isDigit 0 = .ok (.iload_n 0, 1) := by decide +kernel
theorem dX4_isDigit_1 : decode cX4_isDigit 1 = .ok (.iconst 0, 1) := by decide +kernel
theorem dX4_isDigit_2 : decode cX4_isDigit 2 = .ok (.bipush 9, 2) := by decide +kernel
theorem dX4_isDigit_4 : decode cX4_isDigit 4 = .ok (.invokestatic 37, 3) := by decide +kernel
theorem dX4_isDigit_7 : decode cX4_isDigit 7 = .ok (.ireturn, 1) := by decide +kernel
theorem dX4_valueAt_0 : decode cX4_valueAt 0 = .ok (.iload_n 1, 1) := by decide +kernel
theorem dX4_valueAt_1 : decode cX4_valueAt 1 = .ok (.ifCond .lt 15, 3) := by decide +kernel
theorem dX4_valueAt_4 : decode cX4_valueAt 4 = .ok (.iload_n 1, 1) := by decide +kernel
theorem dX4_valueAt_5 : decode cX4_valueAt 5 = .ok (.aload_n 0, 1) := by decide +kernel
theorem dX4_valueAt_6 : decode cX4_valueAt 6 = .ok (.arraylength, 1) := by decide +kernel
theorem dX4_valueAt_7 : decode cX4_valueAt 7 = .ok (.if_icmp .ge 9, 3) := by decide +kernel
theorem dX4_valueAt_10 : decode cX4_valueAt 10 = .ok (.aload_n 0, 1) := by decide +kernel
theorem dX4_valueAt_11 : decode cX4_valueAt 11 = .ok (.iload_n 1, 1) := by decide +kernel
theorem dX4_valueAt_12 : decode cX4_valueAt 12 = .ok (.iaload, 1) := by decide +kernel
theorem dX4_valueAt_13 : decode cX4_valueAt 13 = .ok (.goto 4, 3) := by decide +kernel
theorem dX4_valueAt_16 : decode cX4_valueAt 16 = .ok (.iload_n 2, 1) := by decide +kernel
theorem dX4_valueAt_17 : decode cX4_valueAt 17 = .ok (.ireturn, 1) := by decide +kernel
theorem dX4_exchange_0 : decode cX4_exchange 0 = .ok (.iload_n 1, 1) := by decide +kernel
theorem dX4_exchange_1 : decode cX4_exchange 1 = .ok (.ifCond .lt 9, 3) := by decide +kernel
theorem dX4_exchange_4 : decode cX4_exchange 4 = .ok (.iload_n 1, 1) := by decide +kernel
theorem dX4_exchange_5 : decode cX4_exchange 5 = .ok (.aload_n 0, 1) := by decide +kernel
theorem dX4_exchange_6 : decode cX4_exchange 6 = .ok (.arraylength, 1) := by decide +kernel
theorem dX4_exchange_7 : decode cX4_exchange 7 = .ok (.if_icmp .lt 5, 3) := by decide +kernel
theorem dX4_exchange_10 : decode cX4_exchange 10 = .ok (.iload_n 2, 1) := by decide +kernel
theorem dX4_exchange_11 : decode cX4_exchange 11 = .ok (.ireturn, 1) := by decide +kernel
theorem dX4_exchange_12 : decode cX4_exchange 12 = .ok (.aload_n 0, 1) := by decide +kernel
theorem dX4_exchange_13 : decode cX4_exchange 13 = .ok (.iload_n 1, 1) := by decide +kernel
theorem dX4_exchange_14 : decode cX4_exchange 14 = .ok (.iaload, 1) := by decide +kernel
theorem dX4_exchange_15 : decode cX4_exchange 15 = .ok (.istore_n 3, 1) := by decide +kernel
theorem dX4_exchange_16 : decode cX4_exchange 16 = .ok (.aload_n 0, 1) := by decide +kernel
theorem dX4_exchange_17 : decode cX4_exchange 17 = .ok (.iload_n 1, 1) := by decide +kernel
theorem dX4_exchange_18 : decode cX4_exchange 18 = .ok (.iload_n 2, 1) := by decide +kernel
theorem dX4_exchange_19 : decode cX4_exchange 19 = .ok (.iastore, 1) := by decide +kernel
theorem dX4_exchange_20 : decode cX4_exchange 20 = .ok (.iload_n 3, 1) := by decide +kernel
theorem dX4_exchange_21 : decode cX4_exchange 21 = .ok (.ireturn, 1) := by decide +kernel
theorem dX4_copyRow_0 : decode cX4_copyRow 0 = .ok (.aload_n 0, 1) := by decide +kernel
theorem dX4_copyRow_1 : decode cX4_copyRow 1 = .ok (.arraylength, 1) := by decide +kernel
theorem dX4_copyRow_2 : decode cX4_copyRow 2 = .ok (.aload_n 1, 1) := by decide +kernel
theorem dX4_copyRow_3 : decode cX4_copyRow 3 = .ok (.arraylength, 1) := by decide +kernel
theorem dX4_copyRow_4 : decode cX4_copyRow 4 = .ok (.if_icmp .ne 12, 3) := by decide +kernel
theorem dX4_copyRow_7 : decode cX4_copyRow 7 = .ok (.aload_n 0, 1) := by decide +kernel
theorem dX4_copyRow_8 : decode cX4_copyRow 8 = .ok (.iconst 0, 1) := by decide +kernel
theorem dX4_copyRow_9 : decode cX4_copyRow 9 = .ok (.aload_n 1, 1) := by decide +kernel
theorem dX4_copyRow_10 : decode cX4_copyRow 10 = .ok (.iconst 0, 1) := by decide +kernel
theorem dX4_copyRow_11 : decode cX4_copyRow 11 = .ok (.aload_n 0, 1) := by decide +kernel
theorem dX4_copyRow_12 : decode cX4_copyRow 12 = .ok (.arraylength, 1) := by decide +kernel
theorem dX4_copyRow_13 : decode cX4_copyRow 13 = .ok (.invokestatic 261, 3) := by decide +kernel
theorem dX4_copyRow_16 : decode cX4_copyRow 16 = .ok (.return_, 1) := by decide +kernel
