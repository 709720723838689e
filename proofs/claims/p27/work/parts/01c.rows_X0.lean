theorem inlX0 : ∀ w ∈ wsX00, w ∈ wsL_law := fun _ h => List.mem_append_left _ (List.mem_append_left _ (List.mem_append_left _ (List.mem_append_left _ (List.mem_append_right _ h))))
theorem inX0 : ∀ w ∈ wsX00, w ∈ lw_tbl := fun w h => wsL_law_in w (inlX0 w h)
set_option maxRecDepth 20000 in
theorem ggX0_init_X0_begin : GoodIn wsX0_init wsX0_begin := goodIn_r _ [17, 18, 19, 5, 6, 7, 8, 9, 10, 20, 21, 22, 23, 24, 25, 26, 27, 28, 29, 30, 31, 32, 33] (by decide +kernel) (by decide +kernel)
set_option maxRecDepth 20000 in
theorem gX0_init_X0_begin : GoodIn wsX0_init (wsV RX0 37 RX0 yX0_begin wsX0_begin) := goodIn_app (goodIn_of _ (by decide +kernel)) ggX0_init_X0_begin
theorem dX0_init_0 : decode cX0_init 0 = .ok (.aload_n 0, 1) := by decide +kernel
theorem dX0_init_1 : decode cX0_init 1 = .ok (.invokespecial 3, 3) := by decide +kernel
theorem dX0_init_4 : decode cX0_init 4 = .ok (.aload_n 0, 1) := by decide +kernel
theorem dX0_init_5 : decode cX0_init 5 = .ok (.sipush 1440, 3) := by decide +kernel
theorem dX0_init_8 : decode cX0_init 8 = .ok (.newarray .int, 2) := by decide +kernel
theorem dX0_init_10 : decode cX0_init 10 = .ok (.putfield 9, 3) := by decide +kernel
theorem dX0_init_13 : decode cX0_init 13 = .ok (.aload_n 0, 1) := by decide +kernel
theorem dX0_init_14 : decode cX0_init 14 = .ok (.sipush 360, 3) := by decide +kernel
theorem dX0_init_17 : decode cX0_init 17 = .ok (.newarray .int, 2) := by decide +kernel
theorem dX0_init_19 : decode cX0_init 19 = .ok (.putfield 15, 3) := by decide +kernel
theorem dX0_init_22 : decode cX0_init 22 = .ok (.aload_n 0, 1) := by decide +kernel
theorem dX0_init_23 : decode cX0_init 23 = .ok (.bipush 36, 2) := by decide +kernel
theorem dX0_init_25 : decode cX0_init 25 = .ok (.newarray .int, 2) := by decide +kernel
theorem dX0_init_27 : decode cX0_init 27 = .ok (.putfield 18, 3) := by decide +kernel
theorem dX0_init_30 : decode cX0_init 30 = .ok (.aload_n 0, 1) := by decide +kernel
theorem dX0_init_31 : decode cX0_init 31 = .ok (.bipush 36, 2) := by decide +kernel
theorem dX0_init_33 : decode cX0_init 33 = .ok (.newarray .int, 2) := by decide +kernel
theorem dX0_init_35 : decode cX0_init 35 = .ok (.putfield 21, 3) := by decide +kernel
theorem dX0_init_38 : decode cX0_init 38 = .ok (.aload_n 0, 1) := by decide +kernel
theorem dX0_init_39 : decode cX0_init 39 = .ok (.bipush 36, 2) := by decide +kernel
theorem dX0_init_41 : decode cX0_init 41 = .ok (.newarray .int, 2) := by decide +kernel
theorem dX0_init_43 : decode cX0_init 43 = .ok (.putfield 24, 3) := by decide +kernel
theorem dX0_init_46 : decode cX0_init 46 = .ok (.aload_n 0, 1) := by decide +kernel
theorem dX0_init_47 : decode cX0_init 47 = .ok (.bipush 60, 2) := by decide +kernel
theorem dX0_init_49 : decode cX0_init 49 = .ok (.newarray .int, 2) := by decide +kernel
theorem dX0_init_51 : decode cX0_init 51 = .ok (.putfield 27, 3) := by decide +kernel
theorem dX0_init_54 : decode cX0_init 54 = .ok (.aload_n 0, 1) := by decide +kernel
theorem dX0_init_55 : decode cX0_init 55 = .ok (.iconst 1, 1) := by decide +kernel
theorem dX0_init_56 : decode cX0_init 56 = .ok (.putfield 30, 3) := by decide +kernel
theorem dX0_init_59 : decode cX0_init 59 = .ok (.aload_n 0, 1) := by decide +kernel
theorem dX0_init_60 : decode cX0_init 60 = .ok (.bipush 20, 2) := by decide +kernel
theorem dX0_init_62 : decode cX0_init 62 = .ok (.putfield 34, 3) := by decide +kernel
theorem dX0_init_65 : decode cX0_init 65 = .ok (.aload_n 0, 1) := by decide +kernel
theorem dX0_init_66 : decode cX0_init 66 = .ok (.iconst 3, 1) := by decide +kernel
theorem dX0_init_67 : decode cX0_init 67 = .ok (.iconst 2, 1) := by decide +kernel
theorem dX0_init_68 : decode cX0_init 68 = .ok (.invokevirtual 37, 3) := by decide +kernel
theorem dX0_init_71 : decode cX0_init 71 = .ok (.return_, 1) := by decide +kernel
set_option maxRecDepth 20000 in
theorem ggX0_begin_J7_fill_53178 : GoodIn wsX0_begin wsJ7_fill_53178 := goodIn_r _ [12] (by decide +kernel) (by decide +kernel)
set_option maxRecDepth 20000 in
theorem gX0_begin_J7_fill_53178 : GoodIn wsX0_begin (va_wsS RX0 47 yJ7_fill_53178 wsJ7_fill_53178) := goodIn_app (goodIn_of _ (by decide +kernel)) ggX0_begin_J7_fill_53178
theorem dX0_begin_0 : decode cX0_begin 0 = .ok (.aload_n 0, 1) := by decide +kernel
theorem dX0_begin_1 : decode cX0_begin 1 = .ok (.iload_n 1, 1) := by decide +kernel
theorem dX0_begin_2 : decode cX0_begin 2 = .ok (.putfield 41, 3) := by decide +kernel
theorem dX0_begin_5 : decode cX0_begin 5 = .ok (.aload_n 0, 1) := by decide +kernel
theorem dX0_begin_6 : decode cX0_begin 6 = .ok (.iload_n 2, 1) := by decide +kernel
theorem dX0_begin_7 : decode cX0_begin 7 = .ok (.putfield 44, 3) := by decide +kernel
theorem dX0_begin_10 : decode cX0_begin 10 = .ok (.aload_n 0, 1) := by decide +kernel
theorem dX0_begin_11 : decode cX0_begin 11 = .ok (.getfield 9, 3) := by decide +kernel
theorem dX0_begin_14 : decode cX0_begin 14 = .ok (.bipush 10, 2) := by decide +kernel
theorem dX0_begin_16 : decode cX0_begin 16 = .ok (.invokestatic 47, 3) := by decide +kernel
theorem dX0_begin_19 : decode cX0_begin 19 = .ok (.iconst 0, 1) := by decide +kernel
theorem dX0_begin_20 : decode cX0_begin 20 = .ok (.istore_n 3, 1) := by decide +kernel
theorem dX0_begin_21 : decode cX0_begin 21 = .ok (.iload_n 3, 1) := by decide +kernel
theorem dX0_begin_22 : decode cX0_begin 22 = .ok (.aload_n 0, 1) := by decide +kernel
theorem dX0_begin_23 : decode cX0_begin 23 = .ok (.getfield 15, 3) := by decide +kernel
theorem dX0_begin_26 : decode cX0_begin 26 = .ok (.arraylength, 1) := by decide +kernel
theorem dX0_begin_27 : decode cX0_begin 27 = .ok (.if_icmp .ge 19, 3) := by decide +kernel
theorem dX0_begin_30 : decode cX0_begin 30 = .ok (.aload_n 0, 1) := by decide +kernel
theorem dX0_begin_31 : decode cX0_begin 31 = .ok (.getfield 15, 3) := by decide +kernel
theorem dX0_begin_34 : decode cX0_begin 34 = .ok (.iload_n 3, 1) := by decide +kernel
theorem dX0_begin_35 : decode cX0_begin 35 = .ok (.iload_n 3, 1) := by decide +kernel
theorem dX0_begin_36 : decode cX0_begin 36 = .ok (.bipush 10, 2) := by decide +kernel
theorem dX0_begin_38 : decode cX0_begin 38 = .ok (.irem, 1) := by decide +kernel
theorem dX0_begin_39 : decode cX0_begin 39 = .ok (.iastore, 1) := by decide +kernel
theorem dX0_begin_40 : decode cX0_begin 40 = .ok (.iinc 3 1, 3) := by decide +kernel
theorem dX0_begin_43 : decode cX0_begin 43 = .ok (.goto (-22), 3) := by decide +kernel
theorem dX0_begin_46 : decode cX0_begin 46 = .ok (.aload_n 0, 1) := by decide +kernel
theorem dX0_begin_47 : decode cX0_begin 47 = .ok (.getfield 18, 3) := by decide +kernel
theorem dX0_begin_50 : decode cX0_begin 50 = .ok (.iconst 0, 1) := by decide +kernel
theorem dX0_begin_51 : decode cX0_begin 51 = .ok (.invokestatic 47, 3) := by decide +kernel
theorem dX0_begin_54 : decode cX0_begin 54 = .ok (.aload_n 0, 1) := by decide +kernel
theorem dX0_begin_55 : decode cX0_begin 55 = .ok (.getfield 21, 3) := by decide +kernel
theorem dX0_begin_58 : decode cX0_begin 58 = .ok (.iconst (-1), 1) := by decide +kernel
theorem dX0_begin_59 : decode cX0_begin 59 = .ok (.invokestatic 47, 3) := by decide +kernel
theorem dX0_begin_62 : decode cX0_begin 62 = .ok (.aload_n 0, 1) := by decide +kernel
theorem dX0_begin_63 : decode cX0_begin 63 = .ok (.getfield 24, 3) := by decide +kernel
theorem dX0_begin_66 : decode cX0_begin 66 = .ok (.sipush 1000, 3) := by decide +kernel
theorem dX0_begin_69 : decode cX0_begin 69 = .ok (.invokestatic 47, 3) := by decide +kernel
theorem dX0_begin_72 : decode cX0_begin 72 = .ok (.aload_n 0, 1) := by decide +kernel
theorem dX0_begin_73 : decode cX0_begin 73 = .ok (.getfield 27, 3) := by decide +kernel
theorem dX0_begin_76 : decode cX0_begin 76 = .ok (.iconst 0, 1) := by decide +kernel
theorem dX0_begin_77 : decode cX0_begin 77 = .ok (.invokestatic 47, 3) := by decide +kernel
theorem dX0_begin_80 : decode cX0_begin 80 = .ok (.return_, 1) := by decide +kernel
set_option maxRecDepth 20000 in
theorem ggX0_copyFrom_X4_copyRow : GoodIn wsX0_copyFrom wsX4_copyRow := goodIn_r _ [13, 14, 15, 16, 17] (by decide +kernel) (by decide +kernel)
set_option maxRecDepth 20000 in
theorem gX0_copyFrom_X4_copyRow_n53 : GoodIn wsX0_copyFrom (wsX4_copyRow) := ggX0_copyFrom_X4_copyRow
theorem dX0_copyFrom_0 : decode cX0_copyFrom 0 = .ok (.aload_n 1, 1) := by decide +kernel
theorem dX0_copyFrom_1 : decode cX0_copyFrom 1 = .ok (.getfield 9, 3) := by decide +kernel
theorem dX0_copyFrom_4 : decode cX0_copyFrom 4 = .ok (.aload_n 0, 1) := by decide +kernel
theorem dX0_copyFrom_5 : decode cX0_copyFrom 5 = .ok (.getfield 9, 3) := by decide +kernel
theorem dX0_copyFrom_8 : decode cX0_copyFrom 8 = .ok (.invokestatic 53, 3) := by decide +kernel
theorem dX0_copyFrom_11 : decode cX0_copyFrom 11 = .ok (.aload_n 1, 1) := by decide +kernel
theorem dX0_copyFrom_12 : decode cX0_copyFrom 12 = .ok (.getfield 15, 3) := by decide +kernel
theorem dX0_copyFrom_15 : decode cX0_copyFrom 15 = .ok (.aload_n 0, 1) := by decide +kernel
theorem dX0_copyFrom_16 : decode cX0_copyFrom 16 = .ok (.getfield 15, 3) := by decide +kernel
theorem dX0_copyFrom_19 : decode cX0_copyFrom 19 = .ok (.invokestatic 53, 3) := by decide +kernel
theorem dX0_copyFrom_22 : decode cX0_copyFrom 22 = .ok (.aload_n 1, 1) := by decide +kernel
theorem dX0_copyFrom_23 : decode cX0_copyFrom 23 = .ok (.getfield 18, 3) := by decide +kernel
theorem dX0_copyFrom_26 : decode cX0_copyFrom 26 = .ok (.aload_n 0, 1) := by decide +kernel
theorem dX0_copyFrom_27 : decode cX0_copyFrom 27 = .ok (.getfield 18, 3) := by decide +kernel
theorem dX0_copyFrom_30 : decode cX0_copyFrom 30 = .ok (.invokestatic 53, 3) := by decide +kernel
theorem dX0_copyFrom_33 : decode cX0_copyFrom 33 = .ok (.aload_n 1, 1) := by decide +kernel
theorem dX0_copyFrom_34 : decode cX0_copyFrom 34 = .ok (.getfield 21, 3) := by decide +kernel
theorem dX0_copyFrom_37 : decode cX0_copyFrom 37 = .ok (.aload_n 0, 1) := by decide +kernel
theorem dX0_copyFrom_38 : decode cX0_copyFrom 38 = .ok (.getfield 21, 3) := by decide +kernel
theorem dX0_copyFrom_41 : decode cX0_copyFrom 41 = .ok (.invokestatic 53, 3) := by decide +kernel
theorem dX0_copyFrom_44 : decode cX0_copyFrom 44 = .ok (.aload_n 1, 1) := by decide +kernel
theorem dX0_copyFrom_45 : decode cX0_copyFrom 45 = .ok (.getfield 24, 3) := by decide +kernel
theorem dX0_copyFrom_48 : decode cX0_copyFrom 48 = .ok (.aload_n 0, 1) := by decide +kernel
theorem dX0_copyFrom_49 : decode cX0_copyFrom 49 = .ok (.getfield 24, 3) := by decide +kernel
theorem dX0_copyFrom_52 : decode cX0_copyFrom 52 = .ok (.invokestatic 53, 3) := by decide +kernel
theorem dX0_copyFrom_55 : decode cX0_copyFrom 55 = .ok (.aload_n 1, 1) := by decide +kernel
theorem dX0_copyFrom_56 : decode cX0_copyFrom 56 = .ok (.getfield 27, 3) := by decide +kernel
theorem dX0_copyFrom_59 : decode cX0_copyFrom 59 = .ok (.aload_n 0, 1) := by decide +kernel
theorem dX0_copyFrom_60 : decode cX0_copyFrom 60 = .ok (.getfield 27, 3) := by decide +kernel
theorem dX0_copyFrom_63 : decode cX0_copyFrom 63 = .ok (.invokestatic 53, 3) := by decide +kernel
theorem dX0_copyFrom_66 : decode cX0_copyFrom 66 = .ok (.aload_n 0, 1) := by decide +kernel
theorem dX0_copyFrom_67 : decode cX0_copyFrom 67 = .ok (.aload_n 1, 1) := by decide +kernel
theorem dX0_copyFrom_68 : decode cX0_copyFrom 68 = .ok (.getfield 41, 3) := by decide +kernel
theorem dX0_copyFrom_71 : decode cX0_copyFrom 71 = .ok (.putfield 41, 3) := by decide +kernel
theorem dX0_copyFrom_74 : decode cX0_copyFrom 74 = .ok (.aload_n 0, 1) := by decide +kernel
theorem dX0_copyFrom_75 : decode cX0_copyFrom 75 = .ok (.aload_n 1, 1) := by decide +kernel
theorem dX0_copyFrom_76 : decode cX0_copyFrom 76 = .ok (.getfield 44, 3) := by decide +kernel
theorem dX0_copyFrom_79 : decode cX0_copyFrom 79 = .ok (.putfield 44, 3) := by decide +kernel
theorem dX0_copyFrom_82 : decode cX0_copyFrom 82 = .ok (.aload_n 0, 1) := by decide +kernel
theorem dX0_copyFrom_83 : decode cX0_copyFrom 83 = .ok (.aload_n 1, 1) := by decide +kernel
theorem dX0_copyFrom_84 : decode cX0_copyFrom 84 = .ok (.getfield 30, 3) := by decide +kernel
theorem dX0_copyFrom_87 : decode cX0_copyFrom 87 = .ok (.putfield 30, 3) := by decide +kernel
theorem dX0_copyFrom_90 : decode cX0_copyFrom 90 = .ok (.aload_n 0, 1) := by decide +kernel
theorem dX0_copyFrom_91 : decode cX0_copyFrom 91 = .ok (.aload_n 1, 1) := by decide +kernel
theorem dX0_copyFrom_92 : decode cX0_copyFrom 92 = .ok (.getfield 34, 3) := by decide +kernel
theorem dX0_copyFrom_95 : decode cX0_copyFrom 95 = .ok (.putfield 34, 3) := by decide +kernel
theorem dX0_copyFrom_98 : decode cX0_copyFrom 98 = .ok (.return_, 1) := by decide +kernel
theorem dX0_guardValue_0 : decode cX0_guardValue 0 = .ok (.aload_n 0, 1) := by decide +kernel
theorem dX0_guardValue_1 : decode cX0_guardValue 1 = .ok (.getfield 30, 3) := by decide +kernel
theorem dX0_guardValue_4 : decode cX0_guardValue 4 = .ok (.ireturn, 1) := by decide +kernel
theorem dX0_toleranceValue_0 : decode cX0_toleranceValue 0 = .ok (.aload_n 0, 1) := by decide +kernel
theorem dX0_toleranceValue_1 : decode cX0_toleranceValue 1 = .ok (.getfield 34, 3) := by decide +kernel
theorem dX0_toleranceValue_4 : decode cX0_toleranceValue 4 = .ok (.ireturn, 1) := by decide +kernel
theorem dX0_putGuard_0 : decode cX0_putGuard 0 = .ok (.aload_n 0, 1) := by decide +kernel
theorem dX0_putGuard_1 : decode cX0_putGuard 1 = .ok (.getfield 30, 3) := by decide +kernel
theorem dX0_putGuard_4 : decode cX0_putGuard 4 = .ok (.istore_n 2, 1) := by decide +kernel
theorem dX0_putGuard_5 : decode cX0_putGuard 5 = .ok (.aload_n 0, 1) := by decide +kernel
theorem dX0_putGuard_6 : decode cX0_putGuard 6 = .ok (.iload_n 1, 1) := by decide +kernel
theorem dX0_putGuard_7 : decode cX0_putGuard 7 = .ok (.putfield 30, 3) := by decide +kernel
theorem dX0_putGuard_10 : decode cX0_putGuard 10 = .ok (.iload_n 2, 1) := by decide +kernel
theorem dX0_putGuard_11 : decode cX0_putGuard 11 = .ok (.ireturn, 1) := by decide +kernel
theorem dX0_putTolerance_0 : decode cX0_putTolerance 0 = .ok (.aload_n 0, 1) := by decide +kernel
theorem dX0_putTolerance_1 : decode cX0_putTolerance 1 = .ok (.getfield 34, 3) := by decide +kernel
theorem dX0_putTolerance_4 : decode cX0_putTolerance 4 = .ok (.istore_n 2, 1) := by decide +kernel
theorem dX0_putTolerance_5 : decode cX0_putTolerance 5 = .ok (.aload_n 0, 1) := by decide +kernel
theorem dX0_putTolerance_6 : decode cX0_putTolerance 6 = .ok (.iload_n 1, 1) := by decide +kernel
theorem dX0_putTolerance_7 : decode cX0_putTolerance 7 = .ok (.putfield 34, 3) := by decide +kernel
theorem dX0_putTolerance_10 : decode cX0_putTolerance 10 = .ok (.iload_n 2, 1) := by decide +kernel
theorem dX0_putTolerance_11 : decode cX0_putTolerance 11 = .ok (.ireturn, 1) := by decide +kernel
theorem dX0_columnCount_0 : decode cX0_columnCount 0 = .ok (.aload_n 0, 1) := by decide +kernel
theorem dX0_columnCount_1 : decode cX0_columnCount 1 = .ok (.getfield 41, 3) := by decide +kernel
theorem dX0_columnCount_4 : decode cX0_columnCount 4 = .ok (.ireturn, 1) := by decide +kernel
theorem dX0_rowCount_0 : decode cX0_rowCount 0 = .ok (.aload_n 0, 1) := by decide +kernel
theorem dX0_rowCount_1 : decode cX0_rowCount 1 = .ok (.getfield 44, 3) := by decide +kernel
theorem dX0_rowCount_4 : decode cX0_rowCount 4 = .ok (.ireturn, 1) := by decide +kernel
theorem dX0_sheetCount_0 : decode cX0_sheetCount 0 = .ok (.aload_n 0, 1) := by decide +kernel
theorem dX0_sheetCount_1 : decode cX0_sheetCount 1 = .ok (.getfield 41, 3) := by decide +kernel
theorem dX0_sheetCount_4 : decode cX0_sheetCount 4 = .ok (.aload_n 0, 1) := by decide +kernel
theorem dX0_sheetCount_5 : decode cX0_sheetCount 5 = .ok (.getfield 44, 3) := by decide +kernel
theorem dX0_sheetCount_8 : decode cX0_sheetCount 8 = .ok (.imul, 1) := by decide +kernel
theorem dX0_sheetCount_9 : decode cX0_sheetCount 9 = .ok (.ireturn, 1) := by decide +kernel
set_option maxRecDepth 20000 in
theorem ggX0_hasSheet_X0_sheetCount : GoodIn wsX0_hasSheet wsX0_sheetCount := goodIn_r _ [5, 6, 7, 8, 9, 10, 11, 12, 13, 14, 15, 16, 17] (by decide +kernel) (by decide +kernel)
set_option maxRecDepth 20000 in
theorem gX0_hasSheet_X0_sheetCount : GoodIn wsX0_hasSheet (wsV RX0 57 RX0 yX0_sheetCount wsX0_sheetCount) := goodIn_app (goodIn_of _ (by decide +kernel)) ggX0_hasSheet_X0_sheetCount
theorem dX0_hasSheet_0 : decode cX0_hasSheet 0 = .ok (.iload_n 1, 1) := by decide +kernel
theorem dX0_hasSheet_1 : decode cX0_hasSheet 1 = .ok (.ifCond .lt 15, 3) := by decide +kernel
theorem dX0_hasSheet_4 : decode cX0_hasSheet 4 = .ok (.iload_n 1, 1) := by decide +kernel
theorem dX0_hasSheet_5 : decode cX0_hasSheet 5 = .ok (.aload_n 0, 1) := by decide +kernel
theorem dX0_hasSheet_6 : decode cX0_hasSheet 6 = .ok (.invokevirtual 57, 3) := by decide +kernel
theorem dX0_hasSheet_9 : decode cX0_hasSheet 9 = .ok (.if_icmp .ge 7, 3) := by decide +kernel
theorem dX0_hasSheet_12 : decode cX0_hasSheet 12 = .ok (.iconst 1, 1) := by decide +kernel
theorem dX0_hasSheet_13 : decode cX0_hasSheet 13 = .ok (.goto 4, 3) := by decide +kernel
theorem dX0_hasSheet_16 : decode cX0_hasSheet 16 = .ok (.iconst 0, 1) := by decide +kernel
theorem dX0_hasSheet_17 : decode cX0_hasSheet 17 = .ok (.ireturn, 1) := by decide +kernel
set_option maxRecDepth 20000 in
theorem ggX0_hasPlace_X0_hasSheet : GoodIn wsX0_hasPlace wsX0_hasSheet := goodIn_r _ [5, 6, 7, 8, 4, 9, 10, 11, 15, 16, 17, 18, 19, 20, 21, 22, 23, 24] (by decide +kernel) (by decide +kernel)
set_option maxRecDepth 20000 in
theorem gX0_hasPlace_X0_hasSheet : GoodIn wsX0_hasPlace (wsV RX0 61 RX0 yX0_hasSheet wsX0_hasSheet) := goodIn_app (goodIn_of _ (by decide +kernel)) ggX0_hasPlace_X0_hasSheet
set_option maxRecDepth 20000 in
theorem ggX0_hasPlace_X4_isWithin : GoodIn wsX0_hasPlace wsX4_isWithin := goodIn_r _ [14] (by decide +kernel) (by decide +kernel)
set_option maxRecDepth 20000 in
theorem gX0_hasPlace_X4_isWithin_n65 : GoodIn wsX0_hasPlace (wsX4_isWithin) := ggX0_hasPlace_X4_isWithin
theorem dX0_hasPlace_0 : decode cX0_hasPlace 0 = .ok (.aload_n 0, 1) := by decide +kernel
theorem dX0_hasPlace_1 : decode cX0_hasPlace 1 = .ok (.iload_n 1, 1) := by decide +kernel
theorem dX0_hasPlace_2 : decode cX0_hasPlace 2 = .ok (.invokevirtual 61, 3) := by decide +kernel
theorem dX0_hasPlace_5 : decode cX0_hasPlace 5 = .ok (.ifCond .eq 26, 3) := by decide +kernel
theorem dX0_hasPlace_8 : decode cX0_hasPlace 8 = .ok (.iload_n 2, 1) := by decide +kernel
theorem dX0_hasPlace_9 : decode cX0_hasPlace 9 = .ok (.iconst 0, 1) := by decide +kernel
theorem dX0_hasPlace_10 : decode cX0_hasPlace 10 = .ok (.iconst 3, 1) := by decide +kernel
theorem dX0_hasPlace_11 : decode cX0_hasPlace 11 = .ok (.invokestatic 65, 3) := by decide +kernel
theorem dX0_hasPlace_14 : decode cX0_hasPlace 14 = .ok (.ifCond .eq 17, 3) := by decide +kernel
theorem dX0_hasPlace_17 : decode cX0_hasPlace 17 = .ok (.iload_n 3, 1) := by decide +kernel
theorem dX0_hasPlace_18 : decode cX0_hasPlace 18 = .ok (.iconst 0, 1) := by decide +kernel
theorem dX0_hasPlace_19 : decode cX0_hasPlace 19 = .ok (.bipush 9, 2) := by decide +kernel
theorem dX0_hasPlace_21 : decode cX0_hasPlace 21 = .ok (.invokestatic 65, 3) := by decide +kernel
theorem dX0_hasPlace_24 : decode cX0_hasPlace 24 = .ok (.ifCond .eq 7, 3) := by decide +kernel
theorem dX0_hasPlace_27 : decode cX0_hasPlace 27 = .ok (.iconst 1, 1) := by decide +kernel
theorem dX0_hasPlace_28 : decode cX0_hasPlace 28 = .ok (.goto 4, 3) := by decide +kernel
theorem dX0_hasPlace_31 : decode cX0_hasPlace 31 = .ok (.iconst 0, 1) := by decide +kernel
theorem dX0_hasPlace_32 : decode cX0_hasPlace 32 = .ok (.ireturn, 1) := by decide +kernel
theorem dX0_columnOf_0 : decode cX0_columnOf 0 = .ok (.aload_n 0, 1) := by decide +kernel
theorem dX0_columnOf_1 : decode cX0_columnOf 1 = .ok (.getfield 41, 3) := by decide +kernel
theorem dX0_columnOf_4 : decode cX0_columnOf 4 = .ok (.ifCond .le 12, 3) := by decide +kernel
theorem dX0_columnOf_7 : decode cX0_columnOf 7 = .ok (.iload_n 1, 1) := by decide +kernel
theorem dX0_columnOf_8 : decode cX0_columnOf 8 = .ok (.aload_n 0, 1) := by decide +kernel
theorem dX0_columnOf_9 : decode cX0_columnOf 9 = .ok (.getfield 41, 3) := by decide +kernel
theorem dX0_columnOf_12 : decode cX0_columnOf 12 = .ok (.irem, 1) := by decide +kernel
theorem dX0_columnOf_13 : decode cX0_columnOf 13 = .ok (.goto 4, 3) := by decide +kernel
theorem dX0_columnOf_16 : decode cX0_columnOf 16 = .ok (.iconst 0, 1) := by decide +kernel
theorem dX0_columnOf_17 : decode cX0_columnOf 17 = .ok (.ireturn, 1) := by decide +kernel
theorem dX0_rowOf_0 : decode cX0_rowOf 0 = .ok (.aload_n 0, 1) := by decide +kernel
theorem dX0_rowOf_1 : decode cX0_rowOf 1 = .ok (.getfield 41, 3) := by decide +kernel
theorem dX0_rowOf_4 : decode cX0_rowOf 4 = .ok (.ifCond .le 12, 3) := by decide +kernel
theorem dX0_rowOf_7 : decode cX0_rowOf 7 = .ok (.iload_n 1, 1) := by decide +kernel
theorem dX0_rowOf_8 : decode cX0_rowOf 8 = .ok (.aload_n 0, 1) := by decide +kernel
theorem dX0_rowOf_9 : decode cX0_rowOf 9 = .ok (.getfield 41, 3) := by decide +kernel
theorem dX0_rowOf_12 : decode cX0_rowOf 12 = .ok (.idiv, 1) := by decide +kernel
theorem dX0_rowOf_13 : decode cX0_rowOf 13 = .ok (.goto 4, 3) := by decide +kernel
theorem dX0_rowOf_16 : decode cX0_rowOf 16 = .ok (.iconst 0, 1) := by decide +kernel
theorem dX0_rowOf_17 : decode cX0_rowOf 17 = .ok (.ireturn, 1) := by decide +kernel
theorem dX0_rowEdgeCount_0 : decode cX0_rowEdgeCount 0 = .ok (.aload_n 0, 1) := by decide +kernel
theorem dX0_rowEdgeCount_1 : decode cX0_rowEdgeCount 1 = .ok (.getfield 41, 3) := by decide +kernel
theorem dX0_rowEdgeCount_4 : decode cX0_rowEdgeCount 4 = .ok (.iconst 1, 1) := by decide +kernel
theorem dX0_rowEdgeCount_5 : decode cX0_rowEdgeCount 5 = .ok (.isub, 1) := by decide +kernel
theorem dX0_rowEdgeCount_6 : decode cX0_rowEdgeCount 6 = .ok (.aload_n 0, 1) := by decide +kernel
theorem dX0_rowEdgeCount_7 : decode cX0_rowEdgeCount 7 = .ok (.getfield 44, 3) := by decide +kernel
theorem dX0_rowEdgeCount_10 : decode cX0_rowEdgeCount 10 = .ok (.imul, 1) := by decide +kernel
theorem dX0_rowEdgeCount_11 : decode cX0_rowEdgeCount 11 = .ok (.ireturn, 1) := by decide +kernel
set_option maxRecDepth 20000 in
theorem ggX0_edgeCount_X0_rowEdgeCount : GoodIn wsX0_edgeCount wsX0_rowEdgeCount := goodIn_r _ [7, 1, 2, 8, 9, 10, 11, 12, 13, 14, 15, 16, 17] (by decide +kernel) (by decide +kernel)
set_option maxRecDepth 20000 in
theorem gX0_edgeCount_X0_rowEdgeCount : GoodIn wsX0_edgeCount (wsV RX0 69 RX0 yX0_rowEdgeCount wsX0_rowEdgeCount) := goodIn_app (goodIn_of _ (by decide +kernel)) ggX0_edgeCount_X0_rowEdgeCount
theorem dX0_edgeCount_0 : decode cX0_edgeCount 0 = .ok (.aload_n 0, 1) := by decide +kernel
theorem dX0_edgeCount_1 : decode cX0_edgeCount 1 = .ok (.invokevirtual 69, 3) := by decide +kernel
theorem dX0_edgeCount_4 : decode cX0_edgeCount 4 = .ok (.aload_n 0, 1) := by decide +kernel
theorem dX0_edgeCount_5 : decode cX0_edgeCount 5 = .ok (.getfield 41, 3) := by decide +kernel
theorem dX0_edgeCount_8 : decode cX0_edgeCount 8 = .ok (.aload_n 0, 1) := by decide +kernel
theorem dX0_edgeCount_9 : decode cX0_edgeCount 9 = .ok (.getfield 44, 3) := by decide +kernel
theorem dX0_edgeCount_12 : decode cX0_edgeCount 12 = .ok (.iconst 1, 1) := by decide +kernel
theorem dX0_edgeCount_13 : decode cX0_edgeCount 13 = .ok (.isub, 1) := by decide +kernel
theorem dX0_edgeCount_14 : decode cX0_edgeCount 14 = .ok (.imul, 1) := by decide +kernel
theorem dX0_edgeCount_15 : decode cX0_edgeCount 15 = .ok (.iadd, 1) := by decide +kernel
theorem dX0_edgeCount_16 : decode cX0_edgeCount 16 = .ok (.ireturn, 1) := by decide +kernel
set_option maxRecDepth 20000 in
theorem ggX0_hasEdge_X0_edgeCount : GoodIn wsX0_hasEdge wsX0_edgeCount := goodIn_r _ [5, 6, 7, 8, 9, 10, 4, 11, 12, 13, 14, 15, 16, 17, 18, 19, 20, 21] (by decide +kernel) (by decide +kernel)
set_option maxRecDepth 20000 in
theorem gX0_hasEdge_X0_edgeCount : GoodIn wsX0_hasEdge (wsV RX0 72 RX0 yX0_edgeCount wsX0_edgeCount) := goodIn_app (goodIn_of _ (by decide +kernel)) ggX0_hasEdge_X0_edgeCount
theorem dX0_hasEdge_0 : decode cX0_hasEdge 0 = .ok (.iload_n 1, 1) := by decide +kernel
theorem dX0_hasEdge_1 : decode cX0_hasEdge 1 = .ok (.ifCond .lt 15, 3) := by decide +kernel
theorem dX0_hasEdge_4 : decode cX0_hasEdge 4 = .ok (.iload_n 1, 1) := by decide +kernel
theorem dX0_hasEdge_5 : decode cX0_hasEdge 5 = .ok (.aload_n 0, 1) := by decide +kernel
theorem dX0_hasEdge_6 : decode cX0_hasEdge 6 = .ok (.invokevirtual 72, 3) := by decide +kernel
theorem dX0_hasEdge_9 : decode cX0_hasEdge 9 = .ok (.if_icmp .ge 7, 3) := by decide +kernel
theorem dX0_hasEdge_12 : decode cX0_hasEdge 12 = .ok (.iconst 1, 1) := by decide +kernel
theorem dX0_hasEdge_13 : decode cX0_hasEdge 13 = .ok (.goto 4, 3) := by decide +kernel
theorem dX0_hasEdge_16 : decode cX0_hasEdge 16 = .ok (.iconst 0, 1) := by decide +kernel
theorem dX0_hasEdge_17 : decode cX0_hasEdge 17 = .ok (.ireturn, 1) := by decide +kernel
theorem dX0_firstSheet_0 : decode cX0_firstSheet 0 = .ok (.aload_n 0, 1) := by decide +kernel
theorem dX0_firstSheet_1 : decode cX0_firstSheet 1 = .ok (.getfield 41, 3) := by decide +kernel
theorem dX0_firstSheet_4 : decode cX0_firstSheet 4 = .ok (.iconst 1, 1) := by decide +kernel
theorem dX0_firstSheet_5 : decode cX0_firstSheet 5 = .ok (.isub, 1) := by decide +kernel
theorem dX0_firstSheet_6 : decode cX0_firstSheet 6 = .ok (.istore_n 2, 1) := by decide +kernel
theorem dX0_firstSheet_7 : decode cX0_firstSheet 7 = .ok (.iload_n 2, 1) := by decide +kernel
theorem dX0_firstSheet_8 : decode cX0_firstSheet 8 = .ok (.aload_n 0, 1) := by decide +kernel
theorem dX0_firstSheet_9 : decode cX0_firstSheet 9 = .ok (.getfield 44, 3) := by decide +kernel
theorem dX0_firstSheet_12 : decode cX0_firstSheet 12 = .ok (.imul, 1) := by decide +kernel
theorem dX0_firstSheet_13 : decode cX0_firstSheet 13 = .ok (.istore_n 3, 1) := by decide +kernel
theorem dX0_firstSheet_14 : decode cX0_firstSheet 14 = .ok (.iload_n 2, 1) := by decide +kernel
theorem dX0_firstSheet_15 : decode cX0_firstSheet 15 = .ok (.ifCond .le 14, 3) := by decide +kernel
theorem dX0_firstSheet_18 : decode cX0_firstSheet 18 = .ok (.iload_n 1, 1) := by decide +kernel
theorem dX0_firstSheet_19 : decode cX0_firstSheet 19 = .ok (.iload_n 3, 1) := by decide +kernel
theorem dX0_firstSheet_20 : decode cX0_firstSheet 20 = .ok (.if_icmp .ge 9, 3) := by decide +kernel
theorem dX0_firstSheet_23 : decode cX0_firstSheet 23 = .ok (.iload_n 1, 1) := by decide +kernel
theorem dX0_firstSheet_24 : decode cX0_firstSheet 24 = .ok (.iload_n 1, 1) := by decide +kernel
theorem dX0_firstSheet_25 : decode cX0_firstSheet 25 = .ok (.iload_n 2, 1) := by decide +kernel
theorem dX0_firstSheet_26 : decode cX0_firstSheet 26 = .ok (.idiv, 1) := by decide +kernel
theorem dX0_firstSheet_27 : decode cX0_firstSheet 27 = .ok (.iadd, 1) := by decide +kernel
theorem dX0_firstSheet_28 : decode cX0_firstSheet 28 = .ok (.ireturn, 1) := by decide +kernel
theorem dX0_firstSheet_29 : decode cX0_firstSheet 29 = .ok (.iload_n 1, 1) := by decide +kernel
theorem dX0_firstSheet_30 : decode cX0_firstSheet 30 = .ok (.iload_n 3, 1) := by decide +kernel
theorem dX0_firstSheet_31 : decode cX0_firstSheet 31 = .ok (.isub, 1) := by decide +kernel
theorem dX0_firstSheet_32 : decode cX0_firstSheet 32 = .ok (.ireturn, 1) := by decide +kernel
set_option maxRecDepth 20000 in
theorem ggX0_secondSheet_X0_firstSheet : GoodIn wsX0_secondSheet wsX0_firstSheet := goodIn_r _ [6, 1, 7, 12, 13, 14, 15, 16, 17, 18, 19, 20, 21] (by decide +kernel) (by decide +kernel)
set_option maxRecDepth 20000 in
theorem gX0_secondSheet_X0_firstSheet : GoodIn wsX0_secondSheet (wsV RX0 75 RX0 yX0_firstSheet wsX0_firstSheet) := goodIn_app (goodIn_of _ (by decide +kernel)) ggX0_secondSheet_X0_firstSheet
set_option maxRecDepth 20000 in
theorem ggX0_secondSheet_X0_rowEdgeCount : GoodIn wsX0_secondSheet wsX0_rowEdgeCount := goodIn_r _ [11, 1, 7, 12, 13, 14, 15, 16, 17, 18, 19, 20, 21] (by decide +kernel) (by decide +kernel)
set_option maxRecDepth 20000 in
theorem gX0_secondSheet_X0_rowEdgeCount : GoodIn wsX0_secondSheet (wsV RX0 69 RX0 yX0_rowEdgeCount wsX0_rowEdgeCount) := goodIn_app (goodIn_of _ (by decide +kernel)) ggX0_secondSheet_X0_rowEdgeCount
theorem dX0_secondSheet_0 : decode cX0_secondSheet 0 = .ok (.aload_n 0, 1) := by decide +kernel
theorem dX0_secondSheet_1 : decode cX0_secondSheet 1 = .ok (.iload_n 1, 1) := by decide +kernel
theorem dX0_secondSheet_2 : decode cX0_secondSheet 2 = .ok (.invokevirtual 75, 3) := by decide +kernel
theorem dX0_secondSheet_5 : decode cX0_secondSheet 5 = .ok (.iload_n 1, 1) := by decide +kernel
theorem dX0_secondSheet_6 : decode cX0_secondSheet 6 = .ok (.aload_n 0, 1) := by decide +kernel
theorem dX0_secondSheet_7 : decode cX0_secondSheet 7 = .ok (.invokevirtual 69, 3) := by decide +kernel
theorem dX0_secondSheet_10 : decode cX0_secondSheet 10 = .ok (.if_icmp .ge 7, 3) := by decide +kernel
theorem dX0_secondSheet_13 : decode cX0_secondSheet 13 = .ok (.iconst 1, 1) := by decide +kernel
theorem dX0_secondSheet_14 : decode cX0_secondSheet 14 = .ok (.goto 7, 3) := by decide +kernel
theorem dX0_secondSheet_17 : decode cX0_secondSheet 17 = .ok (.aload_n 0, 1) := by decide +kernel
theorem dX0_secondSheet_18 : decode cX0_secondSheet 18 = .ok (.getfield 41, 3) := by decide +kernel
theorem dX0_secondSheet_21 : decode cX0_secondSheet 21 = .ok (.iadd, 1) := by decide +kernel
theorem dX0_secondSheet_22 : decode cX0_secondSheet 22 = .ok (.ireturn, 1) := by decide +kernel
set_option maxRecDepth 20000 in
theorem ggX0_firstSide_X0_rowEdgeCount : GoodIn wsX0_firstSide wsX0_rowEdgeCount := goodIn_r _ [5, 6, 7, 8, 9, 10, 11, 12, 13, 14, 15, 16, 17] (by decide +kernel) (by decide +kernel)
set_option maxRecDepth 20000 in
theorem gX0_firstSide_X0_rowEdgeCount : GoodIn wsX0_firstSide (wsV RX0 69 RX0 yX0_rowEdgeCount wsX0_rowEdgeCount) := goodIn_app (goodIn_of _ (by decide +kernel)) ggX0_firstSide_X0_rowEdgeCount
theorem dX0_firstSide_0 : decode cX0_firstSide 0 = .ok (.iload_n 1, 1) := by decide +kernel
theorem dX0_firstSide_1 : decode cX0_firstSide 1 = .ok (.aload_n 0, 1) := by decide +kernel
theorem dX0_firstSide_2 : decode cX0_firstSide 2 = .ok (.invokevirtual 69, 3) := by decide +kernel
theorem dX0_firstSide_5 : decode cX0_firstSide 5 = .ok (.if_icmp .ge 7, 3) := by decide +kernel
theorem dX0_firstSide_8 : decode cX0_firstSide 8 = .ok (.iconst 1, 1) := by decide +kernel
theorem dX0_firstSide_9 : decode cX0_firstSide 9 = .ok (.goto 4, 3) := by decide +kernel
theorem dX0_firstSide_12 : decode cX0_firstSide 12 = .ok (.iconst 2, 1) := by decide +kernel
theorem dX0_firstSide_13 : decode cX0_firstSide 13 = .ok (.ireturn, 1) := by decide +kernel
set_option maxRecDepth 20000 in
theorem ggX0_secondSide_X0_rowEdgeCount : GoodIn wsX0_secondSide wsX0_rowEdgeCount := goodIn_r _ [5, 6, 7, 8, 9, 10, 11, 12, 13, 14, 15, 16, 17] (by decide +kernel) (by decide +kernel)
set_option maxRecDepth 20000 in
theorem gX0_secondSide_X0_rowEdgeCount : GoodIn wsX0_secondSide (wsV RX0 69 RX0 yX0_rowEdgeCount wsX0_rowEdgeCount) := goodIn_app (goodIn_of _ (by decide +kernel)) ggX0_secondSide_X0_rowEdgeCount
theorem dX0_secondSide_0 : decode cX0_secondSide 0 = .ok (.iload_n 1, 1) := by decide +kernel
theorem dX0_secondSide_1 : decode cX0_secondSide 1 = .ok (.aload_n 0, 1) := by decide +kernel
theorem dX0_secondSide_2 : decode cX0_secondSide 2 = .ok (.invokevirtual 69, 3) := by decide +kernel
theorem dX0_secondSide_5 : decode cX0_secondSide 5 = .ok (.if_icmp .ge 7, 3) := by decide +kernel
theorem dX0_secondSide_8 : decode cX0_secondSide 8 = .ok (.iconst 3, 1) := by decide +kernel
theorem dX0_secondSide_9 : decode cX0_secondSide 9 = .ok (.goto 4, 3) := by decide +kernel
theorem dX0_secondSide_12 : decode cX0_secondSide 12 = .ok (.iconst 0, 1) := by decide +kernel
theorem dX0_secondSide_13 : decode cX0_secondSide 13 = .ok (.ireturn, 1) := by decide +kernel
set_option maxRecDepth 20000 in
theorem ggX0_edgeOf_X0_columnOf : GoodIn wsX0_edgeOf wsX0_columnOf := goodIn_r _ [7, 1, 16, 17, 18, 19, 20, 21, 22, 23, 24, 25] (by decide +kernel) (by decide +kernel)
set_option maxRecDepth 20000 in
theorem gX0_edgeOf_X0_columnOf : GoodIn wsX0_edgeOf (wsV RX0 79 RX0 yX0_columnOf wsX0_columnOf) := goodIn_app (goodIn_of _ (by decide +kernel)) ggX0_edgeOf_X0_columnOf
set_option maxRecDepth 20000 in
theorem ggX0_edgeOf_X0_rowOf : GoodIn wsX0_edgeOf wsX0_rowOf := goodIn_r _ [11, 1, 16, 17, 18, 19, 20, 21, 22, 23, 24, 25] (by decide +kernel) (by decide +kernel)
set_option maxRecDepth 20000 in
theorem gX0_edgeOf_X0_rowOf : GoodIn wsX0_edgeOf (wsV RX0 82 RX0 yX0_rowOf wsX0_rowOf) := goodIn_app (goodIn_of _ (by decide +kernel)) ggX0_edgeOf_X0_rowOf
set_option maxRecDepth 20000 in
theorem ggX0_edgeOf_X0_rowEdgeCount : GoodIn wsX0_edgeOf wsX0_rowEdgeCount := goodIn_r _ [15, 1, 2, 16, 17, 18, 19, 20, 21, 22, 23, 24, 25] (by decide +kernel) (by decide +kernel)
set_option maxRecDepth 20000 in
theorem gX0_edgeOf_X0_rowEdgeCount : GoodIn wsX0_edgeOf (wsV RX0 69 RX0 yX0_rowEdgeCount wsX0_rowEdgeCount) := goodIn_app (goodIn_of _ (by decide +kernel)) ggX0_edgeOf_X0_rowEdgeCount
theorem dX0_edgeOf_0 : decode cX0_edgeOf 0 = .ok (.aload_n 0, 1) := by decide +kernel
theorem dX0_edgeOf_1 : decode cX0_edgeOf 1 = .ok (.iload_n 1, 1) := by decide +kernel
theorem dX0_edgeOf_2 : decode cX0_edgeOf 2 = .ok (.invokevirtual 79, 3) := by decide +kernel
theorem dX0_edgeOf_5 : decode cX0_edgeOf 5 = .ok (.istore_n 3, 1) := by decide +kernel
theorem dX0_edgeOf_6 : decode cX0_edgeOf 6 = .ok (.aload_n 0, 1) := by decide +kernel
theorem dX0_edgeOf_7 : decode cX0_edgeOf 7 = .ok (.iload_n 1, 1) := by decide +kernel
theorem dX0_edgeOf_8 : decode cX0_edgeOf 8 = .ok (.invokevirtual 82, 3) := by decide +kernel
theorem dX0_edgeOf_11 : decode cX0_edgeOf 11 = .ok (.istore 4, 2) := by decide +kernel
theorem dX0_edgeOf_13 : decode cX0_edgeOf 13 = .ok (.iload 4, 2) := by decide +kernel
theorem dX0_edgeOf_15 : decode cX0_edgeOf 15 = .ok (.aload_n 0, 1) := by decide +kernel
theorem dX0_edgeOf_16 : decode cX0_edgeOf 16 = .ok (.getfield 41, 3) := by decide +kernel
theorem dX0_edgeOf_19 : decode cX0_edgeOf 19 = .ok (.iconst 1, 1) := by decide +kernel
theorem dX0_edgeOf_20 : decode cX0_edgeOf 20 = .ok (.isub, 1) := by decide +kernel
theorem dX0_edgeOf_21 : decode cX0_edgeOf 21 = .ok (.imul, 1) := by decide +kernel
theorem dX0_edgeOf_22 : decode cX0_edgeOf 22 = .ok (.iload_n 3, 1) := by decide +kernel
theorem dX0_edgeOf_23 : decode cX0_edgeOf 23 = .ok (.iadd, 1) := by decide +kernel
theorem dX0_edgeOf_24 : decode cX0_edgeOf 24 = .ok (.istore 5, 2) := by decide +kernel
theorem dX0_edgeOf_26 : decode cX0_edgeOf 26 = .ok (.aload_n 0, 1) := by decide +kernel
theorem dX0_edgeOf_27 : decode cX0_edgeOf 27 = .ok (.invokevirtual 69, 3) := by decide +kernel
theorem dX0_edgeOf_30 : decode cX0_edgeOf 30 = .ok (.iload_n 1, 1) := by decide +kernel
theorem dX0_edgeOf_31 : decode cX0_edgeOf 31 = .ok (.iadd, 1) := by decide +kernel
theorem dX0_edgeOf_32 : decode cX0_edgeOf 32 = .ok (.istore 6, 2) := by decide +kernel
theorem dX0_edgeOf_34 : decode cX0_edgeOf 34 = .ok (.iload_n 2, 1) := by decide +kernel
theorem dX0_edgeOf_35 : decode cX0_edgeOf 35 = .ok (.tableswitch 80 0 2 #[25, 43, 61], 25) := by decide +kernel
theorem dX0_edgeOf_60 : decode cX0_edgeOf 60 = .ok (.iload 4, 2) := by decide +kernel
theorem dX0_edgeOf_62 : decode cX0_edgeOf 62 = .ok (.ifCond .le 13, 3) := by decide +kernel
theorem dX0_edgeOf_65 : decode cX0_edgeOf 65 = .ok (.iload 6, 2) := by decide +kernel
theorem dX0_edgeOf_67 : decode cX0_edgeOf 67 = .ok (.aload_n 0, 1) := by decide +kernel
theorem dX0_edgeOf_68 : decode cX0_edgeOf 68 = .ok (.getfield 41, 3) := by decide +kernel
theorem dX0_edgeOf_71 : decode cX0_edgeOf 71 = .ok (.isub, 1) := by decide +kernel
theorem dX0_edgeOf_72 : decode cX0_edgeOf 72 = .ok (.goto 5, 3) := by decide +kernel
theorem dX0_edgeOf_75 : decode cX0_edgeOf 75 = .ok (.bipush (-4), 2) := by decide +kernel
theorem dX0_edgeOf_77 : decode cX0_edgeOf 77 = .ok (.ireturn, 1) := by decide +kernel
theorem dX0_edgeOf_78 : decode cX0_edgeOf 78 = .ok (.iload_n 3, 1) := by decide +kernel
theorem dX0_edgeOf_79 : decode cX0_edgeOf 79 = .ok (.aload_n 0, 1) := by decide +kernel
theorem dX0_edgeOf_80 : decode cX0_edgeOf 80 = .ok (.getfield 41, 3) := by decide +kernel
theorem dX0_edgeOf_83 : decode cX0_edgeOf 83 = .ok (.iconst 1, 1) := by decide +kernel
theorem dX0_edgeOf_84 : decode cX0_edgeOf 84 = .ok (.isub, 1) := by decide +kernel
theorem dX0_edgeOf_85 : decode cX0_edgeOf 85 = .ok (.if_icmp .ge 8, 3) := by decide +kernel
theorem dX0_edgeOf_88 : decode cX0_edgeOf 88 = .ok (.iload 5, 2) := by decide +kernel
theorem dX0_edgeOf_90 : decode cX0_edgeOf 90 = .ok (.goto 5, 3) := by decide +kernel
theorem dX0_edgeOf_93 : decode cX0_edgeOf 93 = .ok (.bipush (-4), 2) := by decide +kernel
theorem dX0_edgeOf_95 : decode cX0_edgeOf 95 = .ok (.ireturn, 1) := by decide +kernel
theorem dX0_edgeOf_96 : decode cX0_edgeOf 96 = .ok (.iload 4, 2) := by decide +kernel
theorem dX0_edgeOf_98 : decode cX0_edgeOf 98 = .ok (.aload_n 0, 1) := by decide +kernel
theorem dX0_edgeOf_99 : decode cX0_edgeOf 99 = .ok (.getfield 44, 3) := by decide +kernel
theorem dX0_edgeOf_102 : decode cX0_edgeOf 102 = .ok (.iconst 1, 1) := by decide +kernel
theorem dX0_edgeOf_103 : decode cX0_edgeOf 103 = .ok (.isub, 1) := by decide +kernel
theorem dX0_edgeOf_104 : decode cX0_edgeOf 104 = .ok (.if_icmp .ge 8, 3) := by decide +kernel
theorem dX0_edgeOf_107 : decode cX0_edgeOf 107 = .ok (.iload 6, 2) := by decide +kernel
theorem dX0_edgeOf_109 : decode cX0_edgeOf 109 = .ok (.goto 5, 3) := by decide +kernel
theorem dX0_edgeOf_112 : decode cX0_edgeOf 112 = .ok (.bipush (-4), 2) := by decide +kernel
theorem dX0_edgeOf_114 : decode cX0_edgeOf 114 = .ok (.ireturn, 1) := by decide +kernel
theorem dX0_edgeOf_115 : decode cX0_edgeOf 115 = .ok (.iload_n 3, 1) := by decide +kernel
theorem dX0_edgeOf_116 : decode cX0_edgeOf 116 = .ok (.ifCond .le 10, 3) := by decide +kernel
theorem dX0_edgeOf_119 : decode cX0_edgeOf 119 = .ok (.iload 5, 2) := by decide +kernel
theorem dX0_edgeOf_121 : decode cX0_edgeOf 121 = .ok (.iconst 1, 1) := by decide +kernel
theorem dX0_edgeOf_122 : decode cX0_edgeOf 122 = .ok (.isub, 1) := by decide +kernel
theorem dX0_edgeOf_123 : decode cX0_edgeOf 123 = .ok (.goto 5, 3) := by decide +kernel
theorem dX0_edgeOf_126 : decode cX0_edgeOf 126 = .ok (.bipush (-4), 2) := by decide +kernel
theorem dX0_edgeOf_128 : decode cX0_edgeOf 128 = .ok (.ireturn, 1) := by decide +kernel
set_option maxRecDepth 20000 in
theorem ggX0_edgesOf_X0_edgeOf : GoodIn wsX0_edgesOf wsX0_edgeOf := goodIn_r _ [5, 6, 7, 8, 9, 10, 4, 11, 12, 13, 14, 15, 16, 17, 18, 19, 20, 21, 22, 23, 24, 25, 26, 27, 28, 29] (by decide +kernel) (by decide +kernel)
set_option maxRecDepth 20000 in
theorem gX0_edgesOf_X0_edgeOf : GoodIn wsX0_edgesOf (wsV RX0 85 RX0 yX0_edgeOf wsX0_edgeOf) := goodIn_app (goodIn_of _ (by decide +kernel)) ggX0_edgesOf_X0_edgeOf
theorem dX0_edgesOf_0 : decode cX0_edgesOf 0 = .ok (.iconst 0, 1) := by decide +kernel
theorem dX0_edgesOf_1 : decode cX0_edgesOf 1 = .ok (.istore_n 2, 1) := by decide +kernel
theorem dX0_edgesOf_2 : decode cX0_edgesOf 2 = .ok (.iconst 0, 1) := by decide +kernel
theorem dX0_edgesOf_3 : decode cX0_edgesOf 3 = .ok (.istore_n 3, 1) := by decide +kernel
theorem dX0_edgesOf_4 : decode cX0_edgesOf 4 = .ok (.iload_n 3, 1) := by decide +kernel
theorem dX0_edgesOf_5 : decode cX0_edgesOf 5 = .ok (.iconst 4, 1) := by decide +kernel
theorem dX0_edgesOf_6 : decode cX0_edgesOf 6 = .ok (.if_icmp .ge 23, 3) := by decide +kernel
theorem dX0_edgesOf_9 : decode cX0_edgesOf 9 = .ok (.aload_n 0, 1) := by decide +kernel
theorem dX0_edgesOf_10 : decode cX0_edgesOf 10 = .ok (.iload_n 1, 1) := by decide +kernel
theorem dX0_edgesOf_11 : decode cX0_edgesOf 11 = .ok (.iload_n 3, 1) := by decide +kernel
theorem dX0_edgesOf_12 : decode cX0_edgesOf 12 = .ok (.invokevirtual 85, 3) := by decide +kernel
theorem dX0_edgesOf_15 : decode cX0_edgesOf 15 = .ok (.bipush (-4), 2) := by decide +kernel
theorem dX0_edgesOf_17 : decode cX0_edgesOf 17 = .ok (.if_icmp .eq 6, 3) := by decide +kernel
theorem dX0_edgesOf_20 : decode cX0_edgesOf 20 = .ok (.iinc 2 1, 3) := by decide +kernel
theorem dX0_edgesOf_23 : decode cX0_edgesOf 23 = .ok (.iinc 3 1, 3) := by decide +kernel
theorem dX0_edgesOf_26 : decode cX0_edgesOf 26 = .ok (.goto (-22), 3) := by decide +kernel
theorem dX0_edgesOf_29 : decode cX0_edgesOf 29 = .ok (.iload_n 2, 1) := by decide +kernel
theorem dX0_edgesOf_30 : decode cX0_edgesOf 30 = .ok (.ireturn, 1) := by decide +kernel
theorem dX0_placeOf_0 : decode cX0_placeOf 0 = .ok (.iload_n 0, 1) := by decide +kernel
theorem dX0_placeOf_1 : decode cX0_placeOf 1 = .ok (.iconst 4, 1) := by decide +kernel
theorem dX0_placeOf_2 : decode cX0_placeOf 2 = .ok (.imul, 1) := by decide +kernel
theorem dX0_placeOf_3 : decode cX0_placeOf 3 = .ok (.iload_n 1, 1) := by decide +kernel
theorem dX0_placeOf_4 : decode cX0_placeOf 4 = .ok (.iadd, 1) := by decide +kernel
theorem dX0_placeOf_5 : decode cX0_placeOf 5 = .ok (.bipush 10, 2) := by decide +kernel
theorem dX0_placeOf_7 : decode cX0_placeOf 7 = .ok (.imul, 1) := by decide +kernel
theorem dX0_placeOf_8 : decode cX0_placeOf 8 = .ok (.iload_n 2, 1) := by decide +kernel
theorem dX0_placeOf_9 : decode cX0_placeOf 9 = .ok (.iadd, 1) := by decide +kernel
theorem dX0_placeOf_10 : decode cX0_placeOf 10 = .ok (.ireturn, 1) := by decide +kernel
set_option maxRecDepth 20000 in
theorem ggX0_signAt_X0_placeOf : GoodIn wsX0_signAt wsX0_placeOf := goodIn_r _ [5] (by decide +kernel) (by decide +kernel)
set_option maxRecDepth 20000 in
theorem gX0_signAt_X0_placeOf : GoodIn wsX0_signAt (va_wsS RX0 89 yX0_placeOf wsX0_placeOf) := goodIn_app (goodIn_of _ (by decide +kernel)) ggX0_signAt_X0_placeOf
set_option maxRecDepth 20000 in
theorem ggX0_signAt_X4_valueAt : GoodIn wsX0_signAt wsX4_valueAt := goodIn_r _ [8] (by decide +kernel) (by decide +kernel)
set_option maxRecDepth 20000 in
theorem gX0_signAt_X4_valueAt_n93 : GoodIn wsX0_signAt (wsX4_valueAt) := ggX0_signAt_X4_valueAt
theorem dX0_signAt_0 : decode cX0_signAt 0 = .ok (.aload_n 0, 1) := by decide +kernel
theorem dX0_signAt_1 : decode cX0_signAt 1 = .ok (.getfield 9, 3) := by decide +kernel
theorem dX0_signAt_4 : decode cX0_signAt 4 = .ok (.iload_n 1, 1) := by decide +kernel
theorem dX0_signAt_5 : decode cX0_signAt 5 = .ok (.iload_n 2, 1) := by decide +kernel
theorem dX0_signAt_6 : decode cX0_signAt 6 = .ok (.iload_n 3, 1) := by decide +kernel
theorem dX0_signAt_7 : decode cX0_signAt 7 = .ok (.invokestatic 89, 3) := by decide +kernel
theorem dX0_signAt_10 : decode cX0_signAt 10 = .ok (.bipush 10, 2) := by decide +kernel
theorem dX0_signAt_12 : decode cX0_signAt 12 = .ok (.invokestatic 93, 3) := by decide +kernel
theorem dX0_signAt_15 : decode cX0_signAt 15 = .ok (.ireturn, 1) := by decide +kernel
set_option maxRecDepth 20000 in
theorem ggX0_putSign_X0_placeOf : GoodIn wsX0_putSign wsX0_placeOf := goodIn_r _ [5] (by decide +kernel) (by decide +kernel)
set_option maxRecDepth 20000 in
theorem gX0_putSign_X0_placeOf : GoodIn wsX0_putSign (va_wsS RX0 89 yX0_placeOf wsX0_placeOf) := goodIn_app (goodIn_of _ (by decide +kernel)) ggX0_putSign_X0_placeOf
set_option maxRecDepth 20000 in
theorem ggX0_putSign_X4_exchange : GoodIn wsX0_putSign wsX4_exchange := goodIn_r _ [8] (by decide +kernel) (by decide +kernel)
set_option maxRecDepth 20000 in
theorem gX0_putSign_X4_exchange_n97 : GoodIn wsX0_putSign (wsX4_exchange) := ggX0_putSign_X4_exchange
theorem dX0_putSign_0 : decode cX0_putSign 0 = .ok (.aload_n 0, 1) := by decide +kernel
theorem dX0_putSign_1 : decode cX0_putSign 1 = .ok (.getfield 9, 3) := by decide +kernel
theorem dX0_putSign_4 : decode cX0_putSign 4 = .ok (.iload_n 1, 1) := by decide +kernel
theorem dX0_putSign_5 : decode cX0_putSign 5 = .ok (.iload_n 2, 1) := by decide +kernel
theorem dX0_putSign_6 : decode cX0_putSign 6 = .ok (.iload_n 3, 1) := by decide +kernel
theorem dX0_putSign_7 : decode cX0_putSign 7 = .ok (.invokestatic 89, 3) := by decide +kernel
theorem dX0_putSign_10 : decode cX0_putSign 10 = .ok (.iload 4, 2) := by decide +kernel
theorem dX0_putSign_12 : decode cX0_putSign 12 = .ok (.invokestatic 97, 3) := by decide +kernel
theorem dX0_putSign_15 : decode cX0_putSign 15 = .ok (.ireturn, 1) := by decide +kernel
set_option maxRecDepth 20000 in
theorem ggX0_signsShownOn_X0_signAt : GoodIn wsX0_signsShownOn wsX0_signAt := goodIn_r _ [5, 6, 7, 8, 4, 9, 10, 11, 12, 13, 14, 15, 16, 17, 18, 19, 20, 21, 22] (by decide +kernel) (by decide +kernel)
set_option maxRecDepth 20000 in
theorem gX0_signsShownOn_X0_signAt : GoodIn wsX0_signsShownOn (wsV RX0 100 RX0 yX0_signAt wsX0_signAt) := goodIn_app (goodIn_of _ (by decide +kernel)) ggX0_signsShownOn_X0_signAt
theorem dX0_signsShownOn_0 : decode cX0_signsShownOn 0 = .ok (.iconst 0, 1) := by decide +kernel
theorem dX0_signsShownOn_1 : decode cX0_signsShownOn 1 = .ok (.istore_n 2, 1) := by decide +kernel
theorem dX0_signsShownOn_2 : decode cX0_signsShownOn 2 = .ok (.iconst 0, 1) := by decide +kernel
theorem dX0_signsShownOn_3 : decode cX0_signsShownOn 3 = .ok (.istore_n 3, 1) := by decide +kernel
theorem dX0_signsShownOn_4 : decode cX0_signsShownOn 4 = .ok (.iload_n 3, 1) := by decide +kernel
theorem dX0_signsShownOn_5 : decode cX0_signsShownOn 5 = .ok (.iconst 4, 1) := by decide +kernel
theorem dX0_signsShownOn_6 : decode cX0_signsShownOn 6 = .ok (.if_icmp .ge 41, 3) := by decide +kernel
theorem dX0_signsShownOn_9 : decode cX0_signsShownOn 9 = .ok (.iconst 0, 1) := by decide +kernel
theorem dX0_signsShownOn_10 : decode cX0_signsShownOn 10 = .ok (.istore 4, 2) := by decide +kernel
theorem dX0_signsShownOn_12 : decode cX0_signsShownOn 12 = .ok (.iload 4, 2) := by decide +kernel
theorem dX0_signsShownOn_14 : decode cX0_signsShownOn 14 = .ok (.bipush 10, 2) := by decide +kernel
theorem dX0_signsShownOn_16 : decode cX0_signsShownOn 16 = .ok (.if_icmp .ge 25, 3) := by decide +kernel
theorem dX0_signsShownOn_19 : decode cX0_signsShownOn 19 = .ok (.aload_n 0, 1) := by decide +kernel
theorem dX0_signsShownOn_20 : decode cX0_signsShownOn 20 = .ok (.iload_n 1, 1) := by decide +kernel
theorem dX0_signsShownOn_21 : decode cX0_signsShownOn 21 = .ok (.iload_n 3, 1) := by decide +kernel
theorem dX0_signsShownOn_22 : decode cX0_signsShownOn 22 = .ok (.iload 4, 2) := by decide +kernel
theorem dX0_signsShownOn_24 : decode cX0_signsShownOn 24 = .ok (.invokevirtual 100, 3) := by decide +kernel
theorem dX0_signsShownOn_27 : decode cX0_signsShownOn 27 = .ok (.bipush 10, 2) := by decide +kernel
theorem dX0_signsShownOn_29 : decode cX0_signsShownOn 29 = .ok (.if_icmp .eq 6, 3) := by decide +kernel
theorem dX0_signsShownOn_32 : decode cX0_signsShownOn 32 = .ok (.iinc 2 1, 3) := by decide +kernel
theorem dX0_signsShownOn_35 : decode cX0_signsShownOn 35 = .ok (.iinc 4 1, 3) := by decide +kernel
theorem dX0_signsShownOn_38 : decode cX0_signsShownOn 38 = .ok (.goto (-26), 3) := by decide +kernel
theorem dX0_signsShownOn_41 : decode cX0_signsShownOn 41 = .ok (.iinc 3 1, 3) := by decide +kernel
theorem dX0_signsShownOn_44 : decode cX0_signsShownOn 44 = .ok (.goto (-40), 3) := by decide +kernel
theorem dX0_signsShownOn_47 : decode cX0_signsShownOn 47 = .ok (.iload_n 2, 1) := by decide +kernel
theorem dX0_signsShownOn_48 : decode cX0_signsShownOn 48 = .ok (.ireturn, 1) := by decide +kernel
set_option maxRecDepth 20000 in
theorem ggX0_meaningOf_X4_valueAt : GoodIn wsX0_meaningOf wsX4_valueAt := goodIn_r _ [4] (by decide +kernel) (by decide +kernel)
set_option maxRecDepth 20000 in
theorem gX0_meaningOf_X4_valueAt_n93 : GoodIn wsX0_meaningOf (wsX4_valueAt) := ggX0_meaningOf_X4_valueAt
theorem dX0_meaningOf_0 : decode cX0_meaningOf 0 = .ok (.aload_n 0, 1) := by decide +kernel
theorem dX0_meaningOf_1 : decode cX0_meaningOf 1 = .ok (.getfield 15, 3) := by decide +kernel
theorem dX0_meaningOf_4 : decode cX0_meaningOf 4 = .ok (.iload_n 1, 1) := by decide +kernel
theorem dX0_meaningOf_5 : decode cX0_meaningOf 5 = .ok (.bipush 10, 2) := by decide +kernel
theorem dX0_meaningOf_7 : decode cX0_meaningOf 7 = .ok (.imul, 1) := by decide +kernel
theorem dX0_meaningOf_8 : decode cX0_meaningOf 8 = .ok (.iload_n 2, 1) := by decide +kernel
theorem dX0_meaningOf_9 : decode cX0_meaningOf 9 = .ok (.iadd, 1) := by decide +kernel
theorem dX0_meaningOf_10 : decode cX0_meaningOf 10 = .ok (.iconst 0, 1) := by decide +kernel
theorem dX0_meaningOf_11 : decode cX0_meaningOf 11 = .ok (.invokestatic 93, 3) := by decide +kernel
theorem dX0_meaningOf_14 : decode cX0_meaningOf 14 = .ok (.ireturn, 1) := by decide +kernel
set_option maxRecDepth 20000 in
theorem ggX0_putMeaning_X4_exchange : GoodIn wsX0_putMeaning wsX4_exchange := goodIn_r _ [4] (by decide +kernel) (by decide +kernel)
set_option maxRecDepth 20000 in
theorem gX0_putMeaning_X4_exchange_n97 : GoodIn wsX0_putMeaning (wsX4_exchange) := ggX0_putMeaning_X4_exchange
theorem dX0_putMeaning_0 : decode cX0_putMeaning 0 = .ok (.aload_n 0, 1) := by decide +kernel
theorem dX0_putMeaning_1 : decode cX0_putMeaning 1 = .ok (.getfield 15, 3) := by decide +kernel
theorem dX0_putMeaning_4 : decode cX0_putMeaning 4 = .ok (.iload_n 1, 1) := by decide +kernel
theorem dX0_putMeaning_5 : decode cX0_putMeaning 5 = .ok (.bipush 10, 2) := by decide +kernel
theorem dX0_putMeaning_7 : decode cX0_putMeaning 7 = .ok (.imul, 1) := by decide +kernel
theorem dX0_putMeaning_8 : decode cX0_putMeaning 8 = .ok (.iload_n 2, 1) := by decide +kernel
theorem dX0_putMeaning_9 : decode cX0_putMeaning 9 = .ok (.iadd, 1) := by decide +kernel
theorem dX0_putMeaning_10 : decode cX0_putMeaning 10 = .ok (.iload_n 3, 1) := by decide +kernel
theorem dX0_putMeaning_11 : decode cX0_putMeaning 11 = .ok (.invokestatic 97, 3) := by decide +kernel
theorem dX0_putMeaning_14 : decode cX0_putMeaning 14 = .ok (.ireturn, 1) := by decide +kernel
set_option maxRecDepth 20000 in
theorem ggX0_lowestSign_X0_meaningOf : GoodIn wsX0_lowestSign wsX0_meaningOf := goodIn_r _ [5, 6, 7, 8, 9, 10, 11, 12, 13, 14, 15, 16, 17, 18, 19] (by decide +kernel) (by decide +kernel)
set_option maxRecDepth 20000 in
theorem gX0_lowestSign_X0_meaningOf : GoodIn wsX0_lowestSign (wsV RX0 103 RX0 yX0_meaningOf wsX0_meaningOf) := goodIn_app (goodIn_of _ (by decide +kernel)) ggX0_lowestSign_X0_meaningOf
theorem dX0_lowestSign_0 : decode cX0_lowestSign 0 = .ok (.iconst 0, 1) := by decide +kernel
theorem dX0_lowestSign_1 : decode cX0_lowestSign 1 = .ok (.istore_n 3, 1) := by decide +kernel
theorem dX0_lowestSign_2 : decode cX0_lowestSign 2 = .ok (.iload_n 3, 1) := by decide +kernel
theorem dX0_lowestSign_3 : decode cX0_lowestSign 3 = .ok (.bipush 10, 2) := by decide +kernel
theorem dX0_lowestSign_5 : decode cX0_lowestSign 5 = .ok (.if_icmp .ge 21, 3) := by decide +kernel
theorem dX0_lowestSign_8 : decode cX0_lowestSign 8 = .ok (.aload_n 0, 1) := by decide +kernel
theorem dX0_lowestSign_9 : decode cX0_lowestSign 9 = .ok (.iload_n 1, 1) := by decide +kernel
theorem dX0_lowestSign_10 : decode cX0_lowestSign 10 = .ok (.iload_n 3, 1) := by decide +kernel
theorem dX0_lowestSign_11 : decode cX0_lowestSign 11 = .ok (.invokevirtual 103, 3) := by decide +kernel
theorem dX0_lowestSign_14 : decode cX0_lowestSign 14 = .ok (.iload_n 2, 1) := by decide +kernel
theorem dX0_lowestSign_15 : decode cX0_lowestSign 15 = .ok (.if_icmp .ne 5, 3) := by decide +kernel
theorem dX0_lowestSign_18 : decode cX0_lowestSign 18 = .ok (.iload_n 3, 1) := by decide +kernel
theorem dX0_lowestSign_19 : decode cX0_lowestSign 19 = .ok (.ireturn, 1) := by decide +kernel
theorem dX0_lowestSign_20 : decode cX0_lowestSign 20 = .ok (.iinc 3 1, 3) := by decide +kernel
theorem dX0_lowestSign_23 : decode cX0_lowestSign 23 = .ok (.goto (-21), 3) := by decide +kernel
theorem dX0_lowestSign_26 : decode cX0_lowestSign 26 = .ok (.bipush (-4), 2) := by decide +kernel
theorem dX0_lowestSign_28 : decode cX0_lowestSign 28 = .ok (.ireturn, 1) := by decide +kernel
set_option maxRecDepth 20000 in
theorem ggX0_meaningAt_X0_placeOf : GoodIn wsX0_meaningAt wsX0_placeOf := goodIn_r _ [6] (by decide +kernel) (by decide +kernel)
set_option maxRecDepth 20000 in
theorem gX0_meaningAt_X0_placeOf : GoodIn wsX0_meaningAt (va_wsS RX0 89 yX0_placeOf wsX0_placeOf) := goodIn_app (goodIn_of _ (by decide +kernel)) ggX0_meaningAt_X0_placeOf
set_option maxRecDepth 20000 in
theorem ggX0_meaningAt_X4_valueAt : GoodIn wsX0_meaningAt wsX4_valueAt := goodIn_r _ [9] (by decide +kernel) (by decide +kernel)
set_option maxRecDepth 20000 in
theorem gX0_meaningAt_X4_valueAt_n93 : GoodIn wsX0_meaningAt (wsX4_valueAt) := ggX0_meaningAt_X4_valueAt
theorem dX0_meaningAt_0 : decode cX0_meaningAt 0 = .ok (.aload_n 0, 1) := by decide +kernel
theorem dX0_meaningAt_1 : decode cX0_meaningAt 1 = .ok (.getfield 9, 3) := by decide +kernel
theorem dX0_meaningAt_4 : decode cX0_meaningAt 4 = .ok (.iload_n 1, 1) := by decide +kernel
theorem dX0_meaningAt_5 : decode cX0_meaningAt 5 = .ok (.iload_n 2, 1) := by decide +kernel
theorem dX0_meaningAt_6 : decode cX0_meaningAt 6 = .ok (.iload_n 3, 1) := by decide +kernel
theorem dX0_meaningAt_7 : decode cX0_meaningAt 7 = .ok (.invokestatic 89, 3) := by decide +kernel
theorem dX0_meaningAt_10 : decode cX0_meaningAt 10 = .ok (.bipush 10, 2) := by decide +kernel
theorem dX0_meaningAt_12 : decode cX0_meaningAt 12 = .ok (.invokestatic 93, 3) := by decide +kernel
theorem dX0_meaningAt_15 : decode cX0_meaningAt 15 = .ok (.istore 4, 2) := by decide +kernel
theorem dX0_meaningAt_17 : decode cX0_meaningAt 17 = .ok (.iload 4, 2) := by decide +kernel
theorem dX0_meaningAt_19 : decode cX0_meaningAt 19 = .ok (.bipush 10, 2) := by decide +kernel
theorem dX0_meaningAt_21 : decode cX0_meaningAt 21 = .ok (.if_icmp .ne 8, 3) := by decide +kernel
theorem dX0_meaningAt_24 : decode cX0_meaningAt 24 = .ok (.bipush (-4), 2) := by decide +kernel
theorem dX0_meaningAt_26 : decode cX0_meaningAt 26 = .ok (.goto 19, 3) := by decide +kernel
theorem dX0_meaningAt_29 : decode cX0_meaningAt 29 = .ok (.aload_n 0, 1) := by decide +kernel
theorem dX0_meaningAt_30 : decode cX0_meaningAt 30 = .ok (.getfield 15, 3) := by decide +kernel
theorem dX0_meaningAt_33 : decode cX0_meaningAt 33 = .ok (.iload_n 1, 1) := by decide +kernel
theorem dX0_meaningAt_34 : decode cX0_meaningAt 34 = .ok (.bipush 10, 2) := by decide +kernel
theorem dX0_meaningAt_36 : decode cX0_meaningAt 36 = .ok (.imul, 1) := by decide +kernel
theorem dX0_meaningAt_37 : decode cX0_meaningAt 37 = .ok (.iload 4, 2) := by decide +kernel
theorem dX0_meaningAt_39 : decode cX0_meaningAt 39 = .ok (.iadd, 1) := by decide +kernel
theorem dX0_meaningAt_40 : decode cX0_meaningAt 40 = .ok (.bipush (-4), 2) := by decide +kernel
theorem dX0_meaningAt_42 : decode cX0_meaningAt 42 = .ok (.invokestatic 93, 3) := by decide +kernel
theorem dX0_meaningAt_45 : decode cX0_meaningAt 45 = .ok (.ireturn, 1) := by decide +kernel
set_option maxRecDepth 20000 in
theorem ggX0_reasonAt_X0_firstSheet : GoodIn wsX0_reasonAt wsX0_firstSheet := goodIn_r _ [5, 6, 7, 36, 37, 38, 39, 40, 41, 42, 43, 44, 45] (by decide +kernel) (by decide +kernel)
set_option maxRecDepth 20000 in
theorem gX0_reasonAt_X0_firstSheet : GoodIn wsX0_reasonAt (wsV RX0 75 RX0 yX0_firstSheet wsX0_firstSheet) := goodIn_app (goodIn_of _ (by decide +kernel)) ggX0_reasonAt_X0_firstSheet
set_option maxRecDepth 20000 in
theorem ggX0_reasonAt_X0_firstSide : GoodIn wsX0_reasonAt wsX0_firstSide := goodIn_r _ [11, 12, 13, 14, 4, 15, 6, 7, 36, 37, 38, 39, 40, 41, 42, 43, 44, 45] (by decide +kernel) (by decide +kernel)
set_option maxRecDepth 20000 in
theorem gX0_reasonAt_X0_firstSide : GoodIn wsX0_reasonAt (wsV RX0 106 RX0 yX0_firstSide wsX0_firstSide) := goodIn_app (goodIn_of _ (by decide +kernel)) ggX0_reasonAt_X0_firstSide
set_option maxRecDepth 20000 in
theorem ggX0_reasonAt_X0_meaningAt : GoodIn wsX0_reasonAt wsX0_meaningAt := goodIn_r _ [19, 20, 21, 22, 23, 4, 24, 25, 26, 27, 36, 37, 38, 39, 40, 41, 42, 43, 44, 45] (by decide +kernel) (by decide +kernel)
set_option maxRecDepth 20000 in
theorem gX0_reasonAt_X0_meaningAt : GoodIn wsX0_reasonAt (wsV RX0 109 RX0 yX0_meaningAt wsX0_meaningAt) := goodIn_app (goodIn_of _ (by decide +kernel)) ggX0_reasonAt_X0_meaningAt
set_option maxRecDepth 20000 in
theorem ggX0_reasonAt_X0_secondSheet : GoodIn wsX0_reasonAt wsX0_secondSheet := goodIn_r _ [31, 6, 1, 2, 3, 4, 5, 7, 12, 13, 14, 15, 36, 37, 38, 39, 40, 41, 42, 43, 44, 45] (by decide +kernel) (by decide +kernel)
set_option maxRecDepth 20000 in
theorem gX0_reasonAt_X0_secondSheet : GoodIn wsX0_reasonAt (wsV RX0 112 RX0 yX0_secondSheet wsX0_secondSheet) := goodIn_app (goodIn_of _ (by decide +kernel)) ggX0_reasonAt_X0_secondSheet
set_option maxRecDepth 20000 in
theorem ggX0_reasonAt_X0_secondSide : GoodIn wsX0_reasonAt wsX0_secondSide := goodIn_r _ [35, 12, 13, 14, 4, 15, 6, 7, 36, 37, 38, 39, 40, 41, 42, 43, 44, 45] (by decide +kernel) (by decide +kernel)
set_option maxRecDepth 20000 in
theorem gX0_reasonAt_X0_secondSide : GoodIn wsX0_reasonAt (wsV RX0 115 RX0 yX0_secondSide wsX0_secondSide) := goodIn_app (goodIn_of _ (by decide +kernel)) ggX0_reasonAt_X0_secondSide
theorem dX0_reasonAt_0 : decode cX0_reasonAt 0 = .ok (.aload_n 0, 1) := by decide +kernel
theorem dX0_reasonAt_1 : decode cX0_reasonAt 1 = .ok (.aload_n 0, 1) := by decide +kernel
theorem dX0_reasonAt_2 : decode cX0_reasonAt 2 = .ok (.iload_n 1, 1) := by decide +kernel
theorem dX0_reasonAt_3 : decode cX0_reasonAt 3 = .ok (.invokevirtual 75, 3) := by decide +kernel
theorem dX0_reasonAt_6 : decode cX0_reasonAt 6 = .ok (.aload_n 0, 1) := by decide +kernel
theorem dX0_reasonAt_7 : decode cX0_reasonAt 7 = .ok (.iload_n 1, 1) := by decide +kernel
theorem dX0_reasonAt_8 : decode cX0_reasonAt 8 = .ok (.invokevirtual 106, 3) := by decide +kernel
theorem dX0_reasonAt_11 : decode cX0_reasonAt 11 = .ok (.iload_n 2, 1) := by decide +kernel
theorem dX0_reasonAt_12 : decode cX0_reasonAt 12 = .ok (.invokevirtual 109, 3) := by decide +kernel
theorem dX0_reasonAt_15 : decode cX0_reasonAt 15 = .ok (.istore_n 3, 1) := by decide +kernel
theorem dX0_reasonAt_16 : decode cX0_reasonAt 16 = .ok (.aload_n 0, 1) := by decide +kernel
theorem dX0_reasonAt_17 : decode cX0_reasonAt 17 = .ok (.aload_n 0, 1) := by decide +kernel
theorem dX0_reasonAt_18 : decode cX0_reasonAt 18 = .ok (.iload_n 1, 1) := by decide +kernel
theorem dX0_reasonAt_19 : decode cX0_reasonAt 19 = .ok (.invokevirtual 112, 3) := by decide +kernel
theorem dX0_reasonAt_22 : decode cX0_reasonAt 22 = .ok (.aload_n 0, 1) := by decide +kernel
theorem dX0_reasonAt_23 : decode cX0_reasonAt 23 = .ok (.iload_n 1, 1) := by decide +kernel
theorem dX0_reasonAt_24 : decode cX0_reasonAt 24 = .ok (.invokevirtual 115, 3) := by decide +kernel
theorem dX0_reasonAt_27 : decode cX0_reasonAt 27 = .ok (.iload_n 2, 1) := by decide +kernel
theorem dX0_reasonAt_28 : decode cX0_reasonAt 28 = .ok (.invokevirtual 109, 3) := by decide +kernel
theorem dX0_reasonAt_31 : decode cX0_reasonAt 31 = .ok (.istore 4, 2) := by decide +kernel
theorem dX0_reasonAt_33 : decode cX0_reasonAt 33 = .ok (.iload_n 3, 1) := by decide +kernel
theorem dX0_reasonAt_34 : decode cX0_reasonAt 34 = .ok (.iload 4, 2) := by decide +kernel
theorem dX0_reasonAt_36 : decode cX0_reasonAt 36 = .ok (.if_icmp .ne 5, 3) := by decide +kernel
theorem dX0_reasonAt_39 : decode cX0_reasonAt 39 = .ok (.iconst 0, 1) := by decide +kernel
theorem dX0_reasonAt_40 : decode cX0_reasonAt 40 = .ok (.ireturn, 1) := by decide +kernel
theorem dX0_reasonAt_41 : decode cX0_reasonAt 41 = .ok (.iload_n 3, 1) := by decide +kernel
theorem dX0_reasonAt_42 : decode cX0_reasonAt 42 = .ok (.bipush (-4), 2) := by decide +kernel
theorem dX0_reasonAt_44 : decode cX0_reasonAt 44 = .ok (.if_icmp .eq 10, 3) := by decide +kernel
theorem dX0_reasonAt_47 : decode cX0_reasonAt 47 = .ok (.iload 4, 2) := by decide +kernel
theorem dX0_reasonAt_49 : decode cX0_reasonAt 49 = .ok (.bipush (-4), 2) := by decide +kernel
theorem dX0_reasonAt_51 : decode cX0_reasonAt 51 = .ok (.if_icmp .ne 7, 3) := by decide +kernel
theorem dX0_reasonAt_54 : decode cX0_reasonAt 54 = .ok (.iconst 1, 1) := by decide +kernel
theorem dX0_reasonAt_55 : decode cX0_reasonAt 55 = .ok (.goto 4, 3) := by decide +kernel
theorem dX0_reasonAt_58 : decode cX0_reasonAt 58 = .ok (.iconst 2, 1) := by decide +kernel
theorem dX0_reasonAt_59 : decode cX0_reasonAt 59 = .ok (.ireturn, 1) := by decide +kernel
set_option maxRecDepth 20000 in
theorem ggX0_quarrelsOf_X0_reasonAt : GoodIn wsX0_quarrelsOf wsX0_reasonAt := goodIn_r _ [5, 6, 7, 8, 4, 9, 10, 11, 12, 13, 14, 15, 16, 17, 18, 19, 20, 21, 22, 23, 24, 25, 26, 27, 28, 29, 30, 31, 32, 33, 34, 35, 36, 37, 38, 39, 40, 41, 42, 43, 44, 45, 46, 47, 48, 49] (by decide +kernel) (by decide +kernel)
set_option maxRecDepth 20000 in
theorem gX0_quarrelsOf_X0_reasonAt : GoodIn wsX0_quarrelsOf (wsV RX0 118 RX0 yX0_reasonAt wsX0_reasonAt) := goodIn_app (goodIn_of _ (by decide +kernel)) ggX0_quarrelsOf_X0_reasonAt
theorem dX0_quarrelsOf_0 : decode cX0_quarrelsOf 0 = .ok (.iconst 0, 1) := by decide +kernel
theorem dX0_quarrelsOf_1 : decode cX0_quarrelsOf 1 = .ok (.istore_n 2, 1) := by decide +kernel
theorem dX0_quarrelsOf_2 : decode cX0_quarrelsOf 2 = .ok (.iconst 0, 1) := by decide +kernel
theorem dX0_quarrelsOf_3 : decode cX0_quarrelsOf 3 = .ok (.istore_n 3, 1) := by decide +kernel
theorem dX0_quarrelsOf_4 : decode cX0_quarrelsOf 4 = .ok (.iload_n 3, 1) := by decide +kernel
theorem dX0_quarrelsOf_5 : decode cX0_quarrelsOf 5 = .ok (.bipush 10, 2) := by decide +kernel
theorem dX0_quarrelsOf_7 : decode cX0_quarrelsOf 7 = .ok (.if_icmp .ge 21, 3) := by decide +kernel
theorem dX0_quarrelsOf_10 : decode cX0_quarrelsOf 10 = .ok (.aload_n 0, 1) := by decide +kernel
theorem dX0_quarrelsOf_11 : decode cX0_quarrelsOf 11 = .ok (.iload_n 1, 1) := by decide +kernel
theorem dX0_quarrelsOf_12 : decode cX0_quarrelsOf 12 = .ok (.iload_n 3, 1) := by decide +kernel
theorem dX0_quarrelsOf_13 : decode cX0_quarrelsOf 13 = .ok (.invokevirtual 118, 3) := by decide +kernel
theorem dX0_quarrelsOf_16 : decode cX0_quarrelsOf 16 = .ok (.ifCond .eq 6, 3) := by decide +kernel
theorem dX0_quarrelsOf_19 : decode cX0_quarrelsOf 19 = .ok (.iinc 2 1, 3) := by decide +kernel
theorem dX0_quarrelsOf_22 : decode cX0_quarrelsOf 22 = .ok (.iinc 3 1, 3) := by decide +kernel
theorem dX0_quarrelsOf_25 : decode cX0_quarrelsOf 25 = .ok (.goto (-21), 3) := by decide +kernel
theorem dX0_quarrelsOf_28 : decode cX0_quarrelsOf 28 = .ok (.iload_n 2, 1) := by decide +kernel
theorem dX0_quarrelsOf_29 : decode cX0_quarrelsOf 29 = .ok (.ireturn, 1) := by decide +kernel
set_option maxRecDepth 20000 in
theorem ggX0_positionOfQuarrel_X0_reasonAt : GoodIn wsX0_positionOfQuarrel wsX0_reasonAt := goodIn_r _ [5, 6, 7, 8, 4, 9, 10, 11, 12, 13, 14, 15, 16, 17, 18, 19, 20, 21, 22, 23, 24, 25, 26, 27, 28, 29, 30, 31, 32, 33, 34, 35, 36, 37, 38, 39, 40, 41, 42, 43, 44, 45, 46, 47, 48, 49] (by decide +kernel) (by decide +kernel)
set_option maxRecDepth 20000 in
theorem gX0_positionOfQuarrel_X0_reasonAt : GoodIn wsX0_positionOfQuarrel (wsV RX0 118 RX0 yX0_reasonAt wsX0_reasonAt) := goodIn_app (goodIn_of _ (by decide +kernel)) ggX0_positionOfQuarrel_X0_reasonAt
theorem dX0_positionOfQuarrel_0 : decode cX0_positionOfQuarrel 0 = .ok (.iconst 0, 1) := by decide +kernel
theorem dX0_positionOfQuarrel_1 : decode cX0_positionOfQuarrel 1 = .ok (.istore_n 3, 1) := by decide +kernel
theorem dX0_positionOfQuarrel_2 : decode cX0_positionOfQuarrel 2 = .ok (.iconst 0, 1) := by decide +kernel
theorem dX0_positionOfQuarrel_3 : decode cX0_positionOfQuarrel 3 = .ok (.istore 4, 2) := by decide +kernel
theorem dX0_positionOfQuarrel_5 : decode cX0_positionOfQuarrel 5 = .ok (.iload 4, 2) := by decide +kernel
theorem dX0_positionOfQuarrel_7 : decode cX0_positionOfQuarrel 7 = .ok (.bipush 10, 2) := by decide +kernel
theorem dX0_positionOfQuarrel_9 : decode cX0_positionOfQuarrel 9 = .ok (.if_icmp .ge 30, 3) := by decide +kernel
theorem dX0_positionOfQuarrel_12 : decode cX0_positionOfQuarrel 12 = .ok (.aload_n 0, 1) := by decide +kernel
theorem dX0_positionOfQuarrel_13 : decode cX0_positionOfQuarrel 13 = .ok (.iload_n 1, 1) := by decide +kernel
theorem dX0_positionOfQuarrel_14 : decode cX0_positionOfQuarrel 14 = .ok (.iload 4, 2) := by decide +kernel
theorem dX0_positionOfQuarrel_16 : decode cX0_positionOfQuarrel 16 = .ok (.invokevirtual 118, 3) := by decide +kernel
theorem dX0_positionOfQuarrel_19 : decode cX0_positionOfQuarrel 19 = .ok (.ifCond .eq 14, 3) := by decide +kernel
theorem dX0_positionOfQuarrel_22 : decode cX0_positionOfQuarrel 22 = .ok (.iload_n 3, 1) := by decide +kernel
theorem dX0_positionOfQuarrel_23 : decode cX0_positionOfQuarrel 23 = .ok (.iload_n 2, 1) := by decide +kernel
theorem dX0_positionOfQuarrel_24 : decode cX0_positionOfQuarrel 24 = .ok (.if_icmp .ne 6, 3) := by decide +kernel
theorem dX0_positionOfQuarrel_27 : decode cX0_positionOfQuarrel 27 = .ok (.iload 4, 2) := by decide +kernel
theorem dX0_positionOfQuarrel_29 : decode cX0_positionOfQuarrel 29 = .ok (.ireturn, 1) := by decide +kernel
theorem dX0_positionOfQuarrel_30 : decode cX0_positionOfQuarrel 30 = .ok (.iinc 3 1, 3) := by decide +kernel
theorem dX0_positionOfQuarrel_33 : decode cX0_positionOfQuarrel 33 = .ok (.iinc 4 1, 3) := by decide +kernel
theorem dX0_positionOfQuarrel_36 : decode cX0_positionOfQuarrel 36 = .ok (.goto (-31), 3) := by decide +kernel
theorem dX0_positionOfQuarrel_39 : decode cX0_positionOfQuarrel 39 = .ok (.bipush (-4), 2) := by decide +kernel
theorem dX0_positionOfQuarrel_41 : decode cX0_positionOfQuarrel 41 = .ok (.ireturn, 1) := by decide +kernel
set_option maxRecDepth 20000 in
theorem ggX0_signsOnBothSides_X0_firstSheet : GoodIn wsX0_signsOnBothSides wsX0_firstSheet := goodIn_r _ [5, 6, 7, 35, 36, 37, 38, 39, 40, 41, 42, 43, 44] (by decide +kernel) (by decide +kernel)
set_option maxRecDepth 20000 in
theorem gX0_signsOnBothSides_X0_firstSheet : GoodIn wsX0_signsOnBothSides (wsV RX0 75 RX0 yX0_firstSheet wsX0_firstSheet) := goodIn_app (goodIn_of _ (by decide +kernel)) ggX0_signsOnBothSides_X0_firstSheet
set_option maxRecDepth 20000 in
theorem ggX0_signsOnBothSides_X0_firstSide : GoodIn wsX0_signsOnBothSides wsX0_firstSide := goodIn_r _ [11, 12, 13, 14, 4, 15, 6, 7, 35, 36, 37, 38, 39, 40, 41, 42, 43, 44] (by decide +kernel) (by decide +kernel)
set_option maxRecDepth 20000 in
theorem gX0_signsOnBothSides_X0_firstSide : GoodIn wsX0_signsOnBothSides (wsV RX0 106 RX0 yX0_firstSide wsX0_firstSide) := goodIn_app (goodIn_of _ (by decide +kernel)) ggX0_signsOnBothSides_X0_firstSide
set_option maxRecDepth 20000 in
theorem ggX0_signsOnBothSides_X0_signAt : GoodIn wsX0_signsOnBothSides wsX0_signAt := goodIn_r _ [19, 20, 21, 22, 4, 23, 24, 25, 26, 35, 36, 37, 38, 39, 40, 41, 42, 43, 44] (by decide +kernel) (by decide +kernel)
set_option maxRecDepth 20000 in
theorem gX0_signsOnBothSides_X0_signAt : GoodIn wsX0_signsOnBothSides (wsV RX0 100 RX0 yX0_signAt wsX0_signAt) := goodIn_app (goodIn_of _ (by decide +kernel)) ggX0_signsOnBothSides_X0_signAt
set_option maxRecDepth 20000 in
theorem ggX0_signsOnBothSides_X0_secondSheet : GoodIn wsX0_signsOnBothSides wsX0_secondSheet := goodIn_r _ [30, 6, 1, 2, 3, 4, 5, 7, 12, 13, 14, 15, 35, 36, 37, 38, 39, 40, 41, 42, 43, 44] (by decide +kernel) (by decide +kernel)
set_option maxRecDepth 20000 in
theorem gX0_signsOnBothSides_X0_secondSheet : GoodIn wsX0_signsOnBothSides (wsV RX0 112 RX0 yX0_secondSheet wsX0_secondSheet) := goodIn_app (goodIn_of _ (by decide +kernel)) ggX0_signsOnBothSides_X0_secondSheet
set_option maxRecDepth 20000 in
theorem ggX0_signsOnBothSides_X0_secondSide : GoodIn wsX0_signsOnBothSides wsX0_secondSide := goodIn_r _ [34, 12, 13, 14, 4, 15, 6, 7, 35, 36, 37, 38, 39, 40, 41, 42, 43, 44] (by decide +kernel) (by decide +kernel)
set_option maxRecDepth 20000 in
theorem gX0_signsOnBothSides_X0_secondSide : GoodIn wsX0_signsOnBothSides (wsV RX0 115 RX0 yX0_secondSide wsX0_secondSide) := goodIn_app (goodIn_of _ (by decide +kernel)) ggX0_signsOnBothSides_X0_secondSide
theorem dX0_signsOnBothSides_0 : decode cX0_signsOnBothSides 0 = .ok (.iconst 0, 1) := by decide +kernel
theorem dX0_signsOnBothSides_1 : decode cX0_signsOnBothSides 1 = .ok (.istore_n 2, 1) := by decide +kernel
theorem dX0_signsOnBothSides_2 : decode cX0_signsOnBothSides 2 = .ok (.iconst 0, 1) := by decide +kernel
theorem dX0_signsOnBothSides_3 : decode cX0_signsOnBothSides 3 = .ok (.istore_n 3, 1) := by decide +kernel
theorem dX0_signsOnBothSides_4 : decode cX0_signsOnBothSides 4 = .ok (.iload_n 3, 1) := by decide +kernel
theorem dX0_signsOnBothSides_5 : decode cX0_signsOnBothSides 5 = .ok (.bipush 10, 2) := by decide +kernel
theorem dX0_signsOnBothSides_7 : decode cX0_signsOnBothSides 7 = .ok (.if_icmp .ge 60, 3) := by decide +kernel
theorem dX0_signsOnBothSides_10 : decode cX0_signsOnBothSides 10 = .ok (.aload_n 0, 1) := by decide +kernel
theorem dX0_signsOnBothSides_11 : decode cX0_signsOnBothSides 11 = .ok (.aload_n 0, 1) := by decide +kernel
theorem dX0_signsOnBothSides_12 : decode cX0_signsOnBothSides 12 = .ok (.iload_n 1, 1) := by decide +kernel
theorem dX0_signsOnBothSides_13 : decode cX0_signsOnBothSides 13 = .ok (.invokevirtual 75, 3) := by decide +kernel
theorem dX0_signsOnBothSides_16 : decode cX0_signsOnBothSides 16 = .ok (.aload_n 0, 1) := by decide +kernel
theorem dX0_signsOnBothSides_17 : decode cX0_signsOnBothSides 17 = .ok (.iload_n 1, 1) := by decide +kernel
theorem dX0_signsOnBothSides_18 : decode cX0_signsOnBothSides 18 = .ok (.invokevirtual 106, 3) := by decide +kernel
theorem dX0_signsOnBothSides_21 : decode cX0_signsOnBothSides 21 = .ok (.iload_n 3, 1) := by decide +kernel
theorem dX0_signsOnBothSides_22 : decode cX0_signsOnBothSides 22 = .ok (.invokevirtual 100, 3) := by decide +kernel
theorem dX0_signsOnBothSides_25 : decode cX0_signsOnBothSides 25 = .ok (.istore 4, 2) := by decide +kernel
theorem dX0_signsOnBothSides_27 : decode cX0_signsOnBothSides 27 = .ok (.aload_n 0, 1) := by decide +kernel
theorem dX0_signsOnBothSides_28 : decode cX0_signsOnBothSides 28 = .ok (.aload_n 0, 1) := by decide +kernel
theorem dX0_signsOnBothSides_29 : decode cX0_signsOnBothSides 29 = .ok (.iload_n 1, 1) := by decide +kernel
theorem dX0_signsOnBothSides_30 : decode cX0_signsOnBothSides 30 = .ok (.invokevirtual 112, 3) := by decide +kernel
theorem dX0_signsOnBothSides_33 : decode cX0_signsOnBothSides 33 = .ok (.aload_n 0, 1) := by decide +kernel
theorem dX0_signsOnBothSides_34 : decode cX0_signsOnBothSides 34 = .ok (.iload_n 1, 1) := by decide +kernel
theorem dX0_signsOnBothSides_35 : decode cX0_signsOnBothSides 35 = .ok (.invokevirtual 115, 3) := by decide +kernel
theorem dX0_signsOnBothSides_38 : decode cX0_signsOnBothSides 38 = .ok (.iload_n 3, 1) := by decide +kernel
theorem dX0_signsOnBothSides_39 : decode cX0_signsOnBothSides 39 = .ok (.invokevirtual 100, 3) := by decide +kernel
theorem dX0_signsOnBothSides_42 : decode cX0_signsOnBothSides 42 = .ok (.istore 5, 2) := by decide +kernel
theorem dX0_signsOnBothSides_44 : decode cX0_signsOnBothSides 44 = .ok (.iload 4, 2) := by decide +kernel
theorem dX0_signsOnBothSides_46 : decode cX0_signsOnBothSides 46 = .ok (.bipush 10, 2) := by decide +kernel
theorem dX0_signsOnBothSides_48 : decode cX0_signsOnBothSides 48 = .ok (.if_icmp .eq 13, 3) := by decide +kernel
theorem dX0_signsOnBothSides_51 : decode cX0_signsOnBothSides 51 = .ok (.iload 5, 2) := by decide +kernel
theorem dX0_signsOnBothSides_53 : decode cX0_signsOnBothSides 53 = .ok (.bipush 10, 2) := by decide +kernel
theorem dX0_signsOnBothSides_55 : decode cX0_signsOnBothSides 55 = .ok (.if_icmp .eq 6, 3) := by decide +kernel
theorem dX0_signsOnBothSides_58 : decode cX0_signsOnBothSides 58 = .ok (.iinc 2 1, 3) := by decide +kernel
theorem dX0_signsOnBothSides_61 : decode cX0_signsOnBothSides 61 = .ok (.iinc 3 1, 3) := by decide +kernel
theorem dX0_signsOnBothSides_64 : decode cX0_signsOnBothSides 64 = .ok (.goto (-60), 3) := by decide +kernel
theorem dX0_signsOnBothSides_67 : decode cX0_signsOnBothSides 67 = .ok (.iload_n 2, 1) := by decide +kernel
theorem dX0_signsOnBothSides_68 : decode cX0_signsOnBothSides 68 = .ok (.ireturn, 1) := by decide +kernel
set_option maxRecDepth 20000 in
theorem ggX0_quarrelsOfAll_X0_edgeCount : GoodIn wsX0_quarrelsOfAll wsX0_edgeCount := goodIn_r _ [5, 6, 7, 8, 9, 10, 4, 11, 48, 49, 50, 51, 52, 53, 54, 55, 56, 57] (by decide +kernel) (by decide +kernel)
set_option maxRecDepth 20000 in
theorem gX0_quarrelsOfAll_X0_edgeCount : GoodIn wsX0_quarrelsOfAll (wsV RX0 72 RX0 yX0_edgeCount wsX0_edgeCount) := goodIn_app (goodIn_of _ (by decide +kernel)) ggX0_quarrelsOfAll_X0_edgeCount
set_option maxRecDepth 20000 in
theorem ggX0_quarrelsOfAll_X0_quarrelsOf : GoodIn wsX0_quarrelsOfAll wsX0_quarrelsOf := goodIn_r _ [15, 16, 17, 18, 4, 19, 20, 21, 22, 23, 6, 7, 24, 25, 26, 27, 8, 9, 10, 11, 28, 29, 30, 31, 32, 33, 34, 35, 36, 37, 38, 39, 40, 41, 42, 43, 44, 45, 46, 47, 48, 49, 50, 51, 52, 53, 54, 55, 56, 57] (by decide +kernel) (by decide +kernel)
set_option maxRecDepth 20000 in
theorem gX0_quarrelsOfAll_X0_quarrelsOf : GoodIn wsX0_quarrelsOfAll (wsV RX0 121 RX0 yX0_quarrelsOf wsX0_quarrelsOf) := goodIn_app (goodIn_of _ (by decide +kernel)) ggX0_quarrelsOfAll_X0_quarrelsOf
theorem dX0_quarrelsOfAll_0 : decode cX0_quarrelsOfAll 0 = .ok (.aload_n 0, 1) := by decide +kernel
theorem dX0_quarrelsOfAll_1 : decode cX0_quarrelsOfAll 1 = .ok (.invokevirtual 72, 3) := by decide +kernel
theorem dX0_quarrelsOfAll_4 : decode cX0_quarrelsOfAll 4 = .ok (.istore_n 1, 1) := by decide +kernel
theorem dX0_quarrelsOfAll_5 : decode cX0_quarrelsOfAll 5 = .ok (.iconst 0, 1) := by decide +kernel
theorem dX0_quarrelsOfAll_6 : decode cX0_quarrelsOfAll 6 = .ok (.istore_n 2, 1) := by decide +kernel
theorem dX0_quarrelsOfAll_7 : decode cX0_quarrelsOfAll 7 = .ok (.iconst 0, 1) := by decide +kernel
theorem dX0_quarrelsOfAll_8 : decode cX0_quarrelsOfAll 8 = .ok (.istore_n 3, 1) := by decide +kernel
theorem dX0_quarrelsOfAll_9 : decode cX0_quarrelsOfAll 9 = .ok (.iload_n 3, 1) := by decide +kernel
theorem dX0_quarrelsOfAll_10 : decode cX0_quarrelsOfAll 10 = .ok (.iload_n 1, 1) := by decide +kernel
theorem dX0_quarrelsOfAll_11 : decode cX0_quarrelsOfAll 11 = .ok (.if_icmp .ge 17, 3) := by decide +kernel
theorem dX0_quarrelsOfAll_14 : decode cX0_quarrelsOfAll 14 = .ok (.iload_n 2, 1) := by decide +kernel
theorem dX0_quarrelsOfAll_15 : decode cX0_quarrelsOfAll 15 = .ok (.aload_n 0, 1) := by decide +kernel
theorem dX0_quarrelsOfAll_16 : decode cX0_quarrelsOfAll 16 = .ok (.iload_n 3, 1) := by decide +kernel
theorem dX0_quarrelsOfAll_17 : decode cX0_quarrelsOfAll 17 = .ok (.invokevirtual 121, 3) := by decide +kernel
theorem dX0_quarrelsOfAll_20 : decode cX0_quarrelsOfAll 20 = .ok (.iadd, 1) := by decide +kernel
theorem dX0_quarrelsOfAll_21 : decode cX0_quarrelsOfAll 21 = .ok (.istore_n 2, 1) := by decide +kernel
theorem dX0_quarrelsOfAll_22 : decode cX0_quarrelsOfAll 22 = .ok (.iinc 3 1, 3) := by decide +kernel
theorem dX0_quarrelsOfAll_25 : decode cX0_quarrelsOfAll 25 = .ok (.goto (-16), 3) := by decide +kernel
theorem dX0_quarrelsOfAll_28 : decode cX0_quarrelsOfAll 28 = .ok (.iload_n 2, 1) := by decide +kernel
theorem dX0_quarrelsOfAll_29 : decode cX0_quarrelsOfAll 29 = .ok (.ireturn, 1) := by decide +kernel
set_option maxRecDepth 20000 in
theorem ggX0_cleanEdges_X0_edgeCount : GoodIn wsX0_cleanEdges wsX0_edgeCount := goodIn_r _ [5, 6, 7, 8, 9, 10, 4, 11, 48, 49, 50, 51, 52, 53, 54, 55, 56, 57] (by decide +kernel) (by decide +kernel)
set_option maxRecDepth 20000 in
theorem gX0_cleanEdges_X0_edgeCount : GoodIn wsX0_cleanEdges (wsV RX0 72 RX0 yX0_edgeCount wsX0_edgeCount) := goodIn_app (goodIn_of _ (by decide +kernel)) ggX0_cleanEdges_X0_edgeCount
set_option maxRecDepth 20000 in
theorem ggX0_cleanEdges_X0_quarrelsOf : GoodIn wsX0_cleanEdges wsX0_quarrelsOf := goodIn_r _ [15, 16, 17, 18, 4, 19, 20, 21, 22, 23, 6, 7, 24, 25, 26, 27, 8, 9, 10, 11, 28, 29, 30, 31, 32, 33, 34, 35, 36, 37, 38, 39, 40, 41, 42, 43, 44, 45, 46, 47, 48, 49, 50, 51, 52, 53, 54, 55, 56, 57] (by decide +kernel) (by decide +kernel)
set_option maxRecDepth 20000 in
theorem gX0_cleanEdges_X0_quarrelsOf : GoodIn wsX0_cleanEdges (wsV RX0 121 RX0 yX0_quarrelsOf wsX0_quarrelsOf) := goodIn_app (goodIn_of _ (by decide +kernel)) ggX0_cleanEdges_X0_quarrelsOf
theorem dX0_cleanEdges_0 : decode cX0_cleanEdges 0 = .ok (.aload_n 0, 1) := by decide +kernel
theorem dX0_cleanEdges_1 : decode cX0_cleanEdges 1 = .ok (.invokevirtual 72, 3) := by decide +kernel
theorem dX0_cleanEdges_4 : decode cX0_cleanEdges 4 = .ok (.istore_n 1, 1) := by decide +kernel
theorem dX0_cleanEdges_5 : decode cX0_cleanEdges 5 = .ok (.iconst 0, 1) := by decide +kernel
theorem dX0_cleanEdges_6 : decode cX0_cleanEdges 6 = .ok (.istore_n 2, 1) := by decide +kernel
theorem dX0_cleanEdges_7 : decode cX0_cleanEdges 7 = .ok (.iconst 0, 1) := by decide +kernel
theorem dX0_cleanEdges_8 : decode cX0_cleanEdges 8 = .ok (.istore_n 3, 1) := by decide +kernel
theorem dX0_cleanEdges_9 : decode cX0_cleanEdges 9 = .ok (.iload_n 3, 1) := by decide +kernel
theorem dX0_cleanEdges_10 : decode cX0_cleanEdges 10 = .ok (.iload_n 1, 1) := by decide +kernel
theorem dX0_cleanEdges_11 : decode cX0_cleanEdges 11 = .ok (.if_icmp .ge 20, 3) := by decide +kernel
theorem dX0_cleanEdges_14 : decode cX0_cleanEdges 14 = .ok (.aload_n 0, 1) := by decide +kernel
theorem dX0_cleanEdges_15 : decode cX0_cleanEdges 15 = .ok (.iload_n 3, 1) := by decide +kernel
theorem dX0_cleanEdges_16 : decode cX0_cleanEdges 16 = .ok (.invokevirtual 121, 3) := by decide +kernel
theorem dX0_cleanEdges_19 : decode cX0_cleanEdges 19 = .ok (.ifCond .ne 6, 3) := by decide +kernel
theorem dX0_cleanEdges_22 : decode cX0_cleanEdges 22 = .ok (.iinc 2 1, 3) := by decide +kernel
theorem dX0_cleanEdges_25 : decode cX0_cleanEdges 25 = .ok (.iinc 3 1, 3) := by decide +kernel
theorem dX0_cleanEdges_28 : decode cX0_cleanEdges 28 = .ok (.goto (-19), 3) := by decide +kernel
theorem dX0_cleanEdges_31 : decode cX0_cleanEdges 31 = .ok (.iload_n 2, 1) := by decide +kernel
theorem dX0_cleanEdges_32 : decode cX0_cleanEdges 32 = .ok (.ireturn, 1) := by decide +kernel
set_option maxRecDepth 20000 in
theorem ggX0_isAgreed_X4_valueAt : GoodIn wsX0_isAgreed wsX4_valueAt := goodIn_r _ [4] (by decide +kernel) (by decide +kernel)
set_option maxRecDepth 20000 in
theorem gX0_isAgreed_X4_valueAt_n93 : GoodIn wsX0_isAgreed (wsX4_valueAt) := ggX0_isAgreed_X4_valueAt
theorem dX0_isAgreed_0 : decode cX0_isAgreed 0 = .ok (.aload_n 0, 1) := by decide +kernel
theorem dX0_isAgreed_1 : decode cX0_isAgreed 1 = .ok (.getfield 27, 3) := by decide +kernel
theorem dX0_isAgreed_4 : decode cX0_isAgreed 4 = .ok (.iload_n 1, 1) := by decide +kernel
theorem dX0_isAgreed_5 : decode cX0_isAgreed 5 = .ok (.iconst 0, 1) := by decide +kernel
theorem dX0_isAgreed_6 : decode cX0_isAgreed 6 = .ok (.invokestatic 93, 3) := by decide +kernel
theorem dX0_isAgreed_9 : decode cX0_isAgreed 9 = .ok (.iconst 1, 1) := by decide +kernel
theorem dX0_isAgreed_10 : decode cX0_isAgreed 10 = .ok (.if_icmp .ne 7, 3) := by decide +kernel
theorem dX0_isAgreed_13 : decode cX0_isAgreed 13 = .ok (.iconst 1, 1) := by decide +kernel
theorem dX0_isAgreed_14 : decode cX0_isAgreed 14 = .ok (.goto 4, 3) := by decide +kernel
theorem dX0_isAgreed_17 : decode cX0_isAgreed 17 = .ok (.iconst 0, 1) := by decide +kernel
theorem dX0_isAgreed_18 : decode cX0_isAgreed 18 = .ok (.ireturn, 1) := by decide +kernel
set_option maxRecDepth 20000 in
theorem ggX0_putAgreed_X4_exchange : GoodIn wsX0_putAgreed wsX4_exchange := goodIn_r _ [4] (by decide +kernel) (by decide +kernel)
set_option maxRecDepth 20000 in
theorem gX0_putAgreed_X4_exchange_n97 : GoodIn wsX0_putAgreed (wsX4_exchange) := ggX0_putAgreed_X4_exchange
theorem dX0_putAgreed_0 : decode cX0_putAgreed 0 = .ok (.aload_n 0, 1) := by decide +kernel
theorem dX0_putAgreed_1 : decode cX0_putAgreed 1 = .ok (.getfield 27, 3) := by decide +kernel
theorem dX0_putAgreed_4 : decode cX0_putAgreed 4 = .ok (.iload_n 1, 1) := by decide +kernel
theorem dX0_putAgreed_5 : decode cX0_putAgreed 5 = .ok (.iload_n 2, 1) := by decide +kernel
theorem dX0_putAgreed_6 : decode cX0_putAgreed 6 = .ok (.invokestatic 97, 3) := by decide +kernel
theorem dX0_putAgreed_9 : decode cX0_putAgreed 9 = .ok (.ireturn, 1) := by decide +kernel
set_option maxRecDepth 20000 in
theorem ggX0_agreedEdges_X0_edgeCount : GoodIn wsX0_agreedEdges wsX0_edgeCount := goodIn_r _ [5, 6, 7, 8, 9, 10, 4, 11, 20, 21, 22, 23, 24, 25, 26, 27, 28, 29] (by decide +kernel) (by decide +kernel)
set_option maxRecDepth 20000 in
theorem gX0_agreedEdges_X0_edgeCount : GoodIn wsX0_agreedEdges (wsV RX0 72 RX0 yX0_edgeCount wsX0_edgeCount) := goodIn_app (goodIn_of _ (by decide +kernel)) ggX0_agreedEdges_X0_edgeCount
set_option maxRecDepth 20000 in
theorem ggX0_agreedEdges_X0_isAgreed : GoodIn wsX0_agreedEdges wsX0_isAgreed := goodIn_r _ [15, 16, 17, 18, 19, 20, 21, 22, 23, 24, 25, 26, 27, 28, 29] (by decide +kernel) (by decide +kernel)
set_option maxRecDepth 20000 in
theorem gX0_agreedEdges_X0_isAgreed : GoodIn wsX0_agreedEdges (wsV RX0 124 RX0 yX0_isAgreed wsX0_isAgreed) := goodIn_app (goodIn_of _ (by decide +kernel)) ggX0_agreedEdges_X0_isAgreed
theorem dX0_agreedEdges_0 : decode cX0_agreedEdges 0 = .ok (.aload_n 0, 1) := by decide +kernel
theorem dX0_agreedEdges_1 : decode cX0_agreedEdges 1 = .ok (.invokevirtual 72, 3) := by decide +kernel
theorem dX0_agreedEdges_4 : decode cX0_agreedEdges 4 = .ok (.istore_n 1, 1) := by decide +kernel
theorem dX0_agreedEdges_5 : decode cX0_agreedEdges 5 = .ok (.iconst 0, 1) := by decide +kernel
theorem dX0_agreedEdges_6 : decode cX0_agreedEdges 6 = .ok (.istore_n 2, 1) := by decide +kernel
theorem dX0_agreedEdges_7 : decode cX0_agreedEdges 7 = .ok (.iconst 0, 1) := by decide +kernel
theorem dX0_agreedEdges_8 : decode cX0_agreedEdges 8 = .ok (.istore_n 3, 1) := by decide +kernel
theorem dX0_agreedEdges_9 : decode cX0_agreedEdges 9 = .ok (.iload_n 3, 1) := by decide +kernel
theorem dX0_agreedEdges_10 : decode cX0_agreedEdges 10 = .ok (.iload_n 1, 1) := by decide +kernel
theorem dX0_agreedEdges_11 : decode cX0_agreedEdges 11 = .ok (.if_icmp .ge 20, 3) := by decide +kernel
theorem dX0_agreedEdges_14 : decode cX0_agreedEdges 14 = .ok (.aload_n 0, 1) := by decide +kernel
theorem dX0_agreedEdges_15 : decode cX0_agreedEdges 15 = .ok (.iload_n 3, 1) := by decide +kernel
theorem dX0_agreedEdges_16 : decode cX0_agreedEdges 16 = .ok (.invokevirtual 124, 3) := by decide +kernel
theorem dX0_agreedEdges_19 : decode cX0_agreedEdges 19 = .ok (.ifCond .eq 6, 3) := by decide +kernel
theorem dX0_agreedEdges_22 : decode cX0_agreedEdges 22 = .ok (.iinc 2 1, 3) := by decide +kernel
theorem dX0_agreedEdges_25 : decode cX0_agreedEdges 25 = .ok (.iinc 3 1, 3) := by decide +kernel
theorem dX0_agreedEdges_28 : decode cX0_agreedEdges 28 = .ok (.goto (-19), 3) := by decide +kernel
theorem dX0_agreedEdges_31 : decode cX0_agreedEdges 31 = .ok (.iload_n 2, 1) := by decide +kernel
theorem dX0_agreedEdges_32 : decode cX0_agreedEdges 32 = .ok (.ireturn, 1) := by decide +kernel
set_option maxRecDepth 20000 in
theorem ggX0_agreedEdgesOf_X0_edgeOf : GoodIn wsX0_agreedEdgesOf wsX0_edgeOf := goodIn_r _ [5, 6, 7, 8, 9, 10, 4, 11, 12, 13, 14, 15, 16, 17, 18, 19, 28, 29, 30, 31, 32, 33, 34, 35, 36, 37] (by decide +kernel) (by decide +kernel)
set_option maxRecDepth 20000 in
theorem gX0_agreedEdgesOf_X0_edgeOf : GoodIn wsX0_agreedEdgesOf (wsV RX0 85 RX0 yX0_edgeOf wsX0_edgeOf) := goodIn_app (goodIn_of _ (by decide +kernel)) ggX0_agreedEdgesOf_X0_edgeOf
set_option maxRecDepth 20000 in
theorem ggX0_agreedEdgesOf_X0_isAgreed : GoodIn wsX0_agreedEdgesOf wsX0_isAgreed := goodIn_r _ [23, 24, 25, 26, 27, 28, 29, 30, 31, 32, 33, 34, 35, 36, 37] (by decide +kernel) (by decide +kernel)
set_option maxRecDepth 20000 in
theorem gX0_agreedEdgesOf_X0_isAgreed : GoodIn wsX0_agreedEdgesOf (wsV RX0 124 RX0 yX0_isAgreed wsX0_isAgreed) := goodIn_app (goodIn_of _ (by decide +kernel)) ggX0_agreedEdgesOf_X0_isAgreed
theorem dX0_agreedEdgesOf_0 : decode cX0_agreedEdgesOf 0 = .ok (.iconst 0, 1) := by decide +kernel
theorem dX0_agreedEdgesOf_1 : decode cX0_agreedEdgesOf 1 = .ok (.istore_n 2, 1) := by decide +kernel
theorem dX0_agreedEdgesOf_2 : decode cX0_agreedEdgesOf 2 = .ok (.iconst 0, 1) := by decide +kernel
theorem dX0_agreedEdgesOf_3 : decode cX0_agreedEdgesOf 3 = .ok (.istore_n 3, 1) := by decide +kernel
theorem dX0_agreedEdgesOf_4 : decode cX0_agreedEdgesOf 4 = .ok (.iload_n 3, 1) := by decide +kernel
theorem dX0_agreedEdgesOf_5 : decode cX0_agreedEdgesOf 5 = .ok (.iconst 4, 1) := by decide +kernel
theorem dX0_agreedEdgesOf_6 : decode cX0_agreedEdgesOf 6 = .ok (.if_icmp .ge 25, 3) := by decide +kernel
theorem dX0_agreedEdgesOf_9 : decode cX0_agreedEdgesOf 9 = .ok (.aload_n 0, 1) := by decide +kernel
theorem dX0_agreedEdgesOf_10 : decode cX0_agreedEdgesOf 10 = .ok (.aload_n 0, 1) := by decide +kernel
theorem dX0_agreedEdgesOf_11 : decode cX0_agreedEdgesOf 11 = .ok (.iload_n 1, 1) := by decide +kernel
theorem dX0_agreedEdgesOf_12 : decode cX0_agreedEdgesOf 12 = .ok (.iload_n 3, 1) := by decide +kernel
theorem dX0_agreedEdgesOf_13 : decode cX0_agreedEdgesOf 13 = .ok (.invokevirtual 85, 3) := by decide +kernel
theorem dX0_agreedEdgesOf_16 : decode cX0_agreedEdgesOf 16 = .ok (.invokevirtual 124, 3) := by decide +kernel
theorem dX0_agreedEdgesOf_19 : decode cX0_agreedEdgesOf 19 = .ok (.ifCond .eq 6, 3) := by decide +kernel
theorem dX0_agreedEdgesOf_22 : decode cX0_agreedEdgesOf 22 = .ok (.iinc 2 1, 3) := by decide +kernel
theorem dX0_agreedEdgesOf_25 : decode cX0_agreedEdgesOf 25 = .ok (.iinc 3 1, 3) := by decide +kernel
theorem dX0_agreedEdgesOf_28 : decode cX0_agreedEdgesOf 28 = .ok (.goto (-24), 3) := by decide +kernel
theorem dX0_agreedEdgesOf_31 : decode cX0_agreedEdgesOf 31 = .ok (.iload_n 2, 1) := by decide +kernel
theorem dX0_agreedEdgesOf_32 : decode cX0_agreedEdgesOf 32 = .ok (.ireturn, 1) := by decide +kernel
set_option maxRecDepth 20000 in
theorem ggX0_breaksAgreement_X0_edgeOf : GoodIn wsX0_breaksAgreement wsX0_edgeOf := goodIn_r _ [5, 6, 7, 8, 9, 10, 4, 11, 12, 13, 14, 15, 16, 17, 18, 19, 61, 62, 63, 64, 65, 66, 67, 68, 69, 70] (by decide +kernel) (by decide +kernel)
set_option maxRecDepth 20000 in
theorem gX0_breaksAgreement_X0_edgeOf : GoodIn wsX0_breaksAgreement (wsV RX0 85 RX0 yX0_edgeOf wsX0_edgeOf) := goodIn_app (goodIn_of _ (by decide +kernel)) ggX0_breaksAgreement_X0_edgeOf
set_option maxRecDepth 20000 in
theorem ggX0_breaksAgreement_X0_isAgreed : GoodIn wsX0_breaksAgreement wsX0_isAgreed := goodIn_r _ [23, 24, 25, 26, 27, 61, 62, 63, 64, 65, 66, 67, 68, 69, 70] (by decide +kernel) (by decide +kernel)
set_option maxRecDepth 20000 in
theorem gX0_breaksAgreement_X0_isAgreed : GoodIn wsX0_breaksAgreement (wsV RX0 124 RX0 yX0_isAgreed wsX0_isAgreed) := goodIn_app (goodIn_of _ (by decide +kernel)) ggX0_breaksAgreement_X0_isAgreed
set_option maxRecDepth 20000 in
theorem ggX0_breaksAgreement_X0_quarrelsOf : GoodIn wsX0_breaksAgreement wsX0_quarrelsOf := goodIn_r _ [31, 32, 33, 34, 4, 35, 36, 37, 38, 39, 6, 7, 40, 41, 42, 43, 16, 17, 18, 19, 44, 45, 46, 47, 48, 49, 50, 51, 52, 25, 26, 27, 53, 54, 55, 56, 57, 58, 59, 60, 61, 62, 63, 64, 65, 66, 67, 68, 69, 70] (by decide +kernel) (by decide +kernel)
set_option maxRecDepth 20000 in
theorem gX0_breaksAgreement_X0_quarrelsOf : GoodIn wsX0_breaksAgreement (wsV RX0 121 RX0 yX0_quarrelsOf wsX0_quarrelsOf) := goodIn_app (goodIn_of _ (by decide +kernel)) ggX0_breaksAgreement_X0_quarrelsOf
theorem dX0_breaksAgreement_0 : decode cX0_breaksAgreement 0 = .ok (.iconst 0, 1) := by decide +kernel
theorem dX0_breaksAgreement_1 : decode cX0_breaksAgreement 1 = .ok (.istore_n 2, 1) := by decide +kernel
theorem dX0_breaksAgreement_2 : decode cX0_breaksAgreement 2 = .ok (.iload_n 2, 1) := by decide +kernel
theorem dX0_breaksAgreement_3 : decode cX0_breaksAgreement 3 = .ok (.iconst 4, 1) := by decide +kernel
theorem dX0_breaksAgreement_4 : decode cX0_breaksAgreement 4 = .ok (.if_icmp .ge 34, 3) := by decide +kernel
theorem dX0_breaksAgreement_7 : decode cX0_breaksAgreement 7 = .ok (.aload_n 0, 1) := by decide +kernel
theorem dX0_breaksAgreement_8 : decode cX0_breaksAgreement 8 = .ok (.iload_n 1, 1) := by decide +kernel
theorem dX0_breaksAgreement_9 : decode cX0_breaksAgreement 9 = .ok (.iload_n 2, 1) := by decide +kernel
theorem dX0_breaksAgreement_10 : decode cX0_breaksAgreement 10 = .ok (.invokevirtual 85, 3) := by decide +kernel
theorem dX0_breaksAgreement_13 : decode cX0_breaksAgreement 13 = .ok (.istore_n 3, 1) := by decide +kernel
theorem dX0_breaksAgreement_14 : decode cX0_breaksAgreement 14 = .ok (.aload_n 0, 1) := by decide +kernel
theorem dX0_breaksAgreement_15 : decode cX0_breaksAgreement 15 = .ok (.iload_n 3, 1) := by decide +kernel
theorem dX0_breaksAgreement_16 : decode cX0_breaksAgreement 16 = .ok (.invokevirtual 124, 3) := by decide +kernel
theorem dX0_breaksAgreement_19 : decode cX0_breaksAgreement 19 = .ok (.ifCond .eq 13, 3) := by decide +kernel
theorem dX0_breaksAgreement_22 : decode cX0_breaksAgreement 22 = .ok (.aload_n 0, 1) := by decide +kernel
theorem dX0_breaksAgreement_23 : decode cX0_breaksAgreement 23 = .ok (.iload_n 3, 1) := by decide +kernel
theorem dX0_breaksAgreement_24 : decode cX0_breaksAgreement 24 = .ok (.invokevirtual 121, 3) := by decide +kernel
theorem dX0_breaksAgreement_27 : decode cX0_breaksAgreement 27 = .ok (.ifCond .le 5, 3) := by decide +kernel
theorem dX0_breaksAgreement_30 : decode cX0_breaksAgreement 30 = .ok (.iconst 1, 1) := by decide +kernel
theorem dX0_breaksAgreement_31 : decode cX0_breaksAgreement 31 = .ok (.ireturn, 1) := by decide +kernel
theorem dX0_breaksAgreement_32 : decode cX0_breaksAgreement 32 = .ok (.iinc 2 1, 3) := by decide +kernel
theorem dX0_breaksAgreement_35 : decode cX0_breaksAgreement 35 = .ok (.goto (-33), 3) := by decide +kernel
theorem dX0_breaksAgreement_38 : decode cX0_breaksAgreement 38 = .ok (.iconst 0, 1) := by decide +kernel
theorem dX0_breaksAgreement_39 : decode cX0_breaksAgreement 39 = .ok (.ireturn, 1) := by decide +kernel
set_option maxRecDepth 20000 in
theorem ggX0_dropBrokenAgreements_X0_edgeOf : GoodIn wsX0_dropBrokenAgreements wsX0_edgeOf := goodIn_r _ [5, 6, 7, 8, 9, 10, 4, 11, 12, 13, 14, 15, 16, 17, 18, 19, 67, 68, 69, 70, 71, 72, 73, 74, 75, 76] (by decide +kernel) (by decide +kernel)
set_option maxRecDepth 20000 in
theorem gX0_dropBrokenAgreements_X0_edgeOf : GoodIn wsX0_dropBrokenAgreements (wsV RX0 85 RX0 yX0_edgeOf wsX0_edgeOf) := goodIn_app (goodIn_of _ (by decide +kernel)) ggX0_dropBrokenAgreements_X0_edgeOf
set_option maxRecDepth 20000 in
theorem ggX0_dropBrokenAgreements_X0_isAgreed : GoodIn wsX0_dropBrokenAgreements wsX0_isAgreed := goodIn_r _ [23, 24, 25, 26, 27, 67, 68, 69, 70, 71, 72, 73, 74, 75, 76] (by decide +kernel) (by decide +kernel)
set_option maxRecDepth 20000 in
theorem gX0_dropBrokenAgreements_X0_isAgreed : GoodIn wsX0_dropBrokenAgreements (wsV RX0 124 RX0 yX0_isAgreed wsX0_isAgreed) := goodIn_app (goodIn_of _ (by decide +kernel)) ggX0_dropBrokenAgreements_X0_isAgreed
set_option maxRecDepth 20000 in
theorem ggX0_dropBrokenAgreements_X0_quarrelsOf : GoodIn wsX0_dropBrokenAgreements wsX0_quarrelsOf := goodIn_r _ [31, 32, 33, 34, 4, 35, 36, 37, 38, 39, 6, 7, 40, 41, 42, 43, 16, 17, 18, 19, 44, 45, 46, 47, 48, 49, 50, 51, 52, 25, 26, 27, 53, 54, 55, 56, 57, 58, 59, 60, 67, 68, 69, 70, 71, 72, 73, 74, 75, 76] (by decide +kernel) (by decide +kernel)
set_option maxRecDepth 20000 in
theorem gX0_dropBrokenAgreements_X0_quarrelsOf : GoodIn wsX0_dropBrokenAgreements (wsV RX0 121 RX0 yX0_quarrelsOf wsX0_quarrelsOf) := goodIn_app (goodIn_of _ (by decide +kernel)) ggX0_dropBrokenAgreements_X0_quarrelsOf
set_option maxRecDepth 20000 in
theorem ggX0_dropBrokenAgreements_X0_putAgreed : GoodIn wsX0_dropBrokenAgreements wsX0_putAgreed := goodIn_r _ [64, 24, 65, 26, 66, 67, 68, 69, 70, 71, 72, 73, 74, 75, 76] (by decide +kernel) (by decide +kernel)
set_option maxRecDepth 20000 in
theorem gX0_dropBrokenAgreements_X0_putAgreed : GoodIn wsX0_dropBrokenAgreements (wsV RX0 127 RX0 yX0_putAgreed wsX0_putAgreed) := goodIn_app (goodIn_of _ (by decide +kernel)) ggX0_dropBrokenAgreements_X0_putAgreed
theorem dX0_dropBrokenAgreements_0 : decode cX0_dropBrokenAgreements 0 = .ok (.iconst 0, 1) := by decide +kernel
theorem dX0_dropBrokenAgreements_1 : decode cX0_dropBrokenAgreements 1 = .ok (.istore_n 2, 1) := by decide +kernel
theorem dX0_dropBrokenAgreements_2 : decode cX0_dropBrokenAgreements 2 = .ok (.iload_n 2, 1) := by decide +kernel
theorem dX0_dropBrokenAgreements_3 : decode cX0_dropBrokenAgreements 3 = .ok (.iconst 4, 1) := by decide +kernel
theorem dX0_dropBrokenAgreements_4 : decode cX0_dropBrokenAgreements 4 = .ok (.if_icmp .ge 39, 3) := by decide +kernel
theorem dX0_dropBrokenAgreements_7 : decode cX0_dropBrokenAgreements 7 = .ok (.aload_n 0, 1) := by decide +kernel
theorem dX0_dropBrokenAgreements_8 : decode cX0_dropBrokenAgreements 8 = .ok (.iload_n 1, 1) := by decide +kernel
theorem dX0_dropBrokenAgreements_9 : decode cX0_dropBrokenAgreements 9 = .ok (.iload_n 2, 1) := by decide +kernel
theorem dX0_dropBrokenAgreements_10 : decode cX0_dropBrokenAgreements 10 = .ok (.invokevirtual 85, 3) := by decide +kernel
theorem dX0_dropBrokenAgreements_13 : decode cX0_dropBrokenAgreements 13 = .ok (.istore_n 3, 1) := by decide +kernel
theorem dX0_dropBrokenAgreements_14 : decode cX0_dropBrokenAgreements 14 = .ok (.aload_n 0, 1) := by decide +kernel
theorem dX0_dropBrokenAgreements_15 : decode cX0_dropBrokenAgreements 15 = .ok (.iload_n 3, 1) := by decide +kernel
theorem dX0_dropBrokenAgreements_16 : decode cX0_dropBrokenAgreements 16 = .ok (.invokevirtual 124, 3) := by decide +kernel
theorem dX0_dropBrokenAgreements_19 : decode cX0_dropBrokenAgreements 19 = .ok (.ifCond .eq 18, 3) := by decide +kernel
theorem dX0_dropBrokenAgreements_22 : decode cX0_dropBrokenAgreements 22 = .ok (.aload_n 0, 1) := by decide +kernel
theorem dX0_dropBrokenAgreements_23 : decode cX0_dropBrokenAgreements 23 = .ok (.iload_n 3, 1) := by decide +kernel
theorem dX0_dropBrokenAgreements_24 : decode cX0_dropBrokenAgreements 24 = .ok (.invokevirtual 121, 3) := by decide +kernel
theorem dX0_dropBrokenAgreements_27 : decode cX0_dropBrokenAgreements 27 = .ok (.ifCond .le 10, 3) := by decide +kernel
theorem dX0_dropBrokenAgreements_30 : decode cX0_dropBrokenAgreements 30 = .ok (.aload_n 0, 1) := by decide +kernel
theorem dX0_dropBrokenAgreements_31 : decode cX0_dropBrokenAgreements 31 = .ok (.iload_n 3, 1) := by decide +kernel
theorem dX0_dropBrokenAgreements_32 : decode cX0_dropBrokenAgreements 32 = .ok (.iconst 0, 1) := by decide +kernel
theorem dX0_dropBrokenAgreements_33 : decode cX0_dropBrokenAgreements 33 = .ok (.invokevirtual 127, 3) := by decide +kernel
theorem dX0_dropBrokenAgreements_36 : decode cX0_dropBrokenAgreements 36 = .ok (.pop, 1) := by decide +kernel
theorem dX0_dropBrokenAgreements_37 : decode cX0_dropBrokenAgreements 37 = .ok (.iinc 2 1, 3) := by decide +kernel
theorem dX0_dropBrokenAgreements_40 : decode cX0_dropBrokenAgreements 40 = .ok (.goto (-38), 3) := by decide +kernel
theorem dX0_dropBrokenAgreements_43 : decode cX0_dropBrokenAgreements 43 = .ok (.return_, 1) := by decide +kernel
set_option maxRecDepth 20000 in
theorem ggX0_settleFrom_X0_firstSheet : GoodIn wsX0_settleFrom wsX0_firstSheet := goodIn_r _ [5, 6, 7, 59, 60, 61, 62, 63, 64, 65, 66, 67, 68] (by decide +kernel) (by decide +kernel)
set_option maxRecDepth 20000 in
theorem gX0_settleFrom_X0_firstSheet : GoodIn wsX0_settleFrom (wsV RX0 75 RX0 yX0_firstSheet wsX0_firstSheet) := goodIn_app (goodIn_of _ (by decide +kernel)) ggX0_settleFrom_X0_firstSheet
set_option maxRecDepth 20000 in
theorem ggX0_settleFrom_X0_firstSide : GoodIn wsX0_settleFrom wsX0_firstSide := goodIn_r _ [11, 12, 13, 14, 4, 15, 6, 7, 59, 60, 61, 62, 63, 64, 65, 66, 67, 68] (by decide +kernel) (by decide +kernel)
set_option maxRecDepth 20000 in
theorem gX0_settleFrom_X0_firstSide : GoodIn wsX0_settleFrom (wsV RX0 106 RX0 yX0_firstSide wsX0_firstSide) := goodIn_app (goodIn_of _ (by decide +kernel)) ggX0_settleFrom_X0_firstSide
set_option maxRecDepth 20000 in
theorem ggX0_settleFrom_X0_secondSide : GoodIn wsX0_settleFrom wsX0_secondSide := goodIn_r _ [19, 12, 13, 14, 4, 15, 6, 7, 59, 60, 61, 62, 63, 64, 65, 66, 67, 68] (by decide +kernel) (by decide +kernel)
set_option maxRecDepth 20000 in
theorem gX0_settleFrom_X0_secondSide : GoodIn wsX0_settleFrom (wsV RX0 115 RX0 yX0_secondSide wsX0_secondSide) := goodIn_app (goodIn_of _ (by decide +kernel)) ggX0_settleFrom_X0_secondSide
set_option maxRecDepth 20000 in
theorem ggX0_settleFrom_X0_secondSheet : GoodIn wsX0_settleFrom wsX0_secondSheet := goodIn_r _ [23, 6, 1, 2, 3, 4, 5, 7, 12, 13, 14, 15, 59, 60, 61, 62, 63, 64, 65, 66, 67, 68] (by decide +kernel) (by decide +kernel)
set_option maxRecDepth 20000 in
theorem gX0_settleFrom_X0_secondSheet : GoodIn wsX0_settleFrom (wsV RX0 112 RX0 yX0_secondSheet wsX0_secondSheet) := goodIn_app (goodIn_of _ (by decide +kernel)) ggX0_settleFrom_X0_secondSheet
set_option maxRecDepth 20000 in
theorem ggX0_settleFrom_X0_meaningAt : GoodIn wsX0_settleFrom wsX0_meaningAt := goodIn_r _ [27, 28, 29, 30, 31, 4, 32, 33, 34, 35, 59, 60, 61, 62, 63, 64, 65, 66, 67, 68] (by decide +kernel) (by decide +kernel)
set_option maxRecDepth 20000 in
theorem gX0_settleFrom_X0_meaningAt : GoodIn wsX0_settleFrom (wsV RX0 109 RX0 yX0_meaningAt wsX0_meaningAt) := goodIn_app (goodIn_of _ (by decide +kernel)) ggX0_settleFrom_X0_meaningAt
set_option maxRecDepth 20000 in
theorem ggX0_settleFrom_X0_lowestSign : GoodIn wsX0_settleFrom wsX0_lowestSign := goodIn_r _ [39, 40, 41, 42, 4, 43, 29, 33, 34, 35, 59, 60, 61, 62, 63, 64, 65, 66, 67, 68] (by decide +kernel) (by decide +kernel)
set_option maxRecDepth 20000 in
theorem gX0_settleFrom_X0_lowestSign : GoodIn wsX0_settleFrom (wsV RX0 130 RX0 yX0_lowestSign wsX0_lowestSign) := goodIn_app (goodIn_of _ (by decide +kernel)) ggX0_settleFrom_X0_lowestSign
set_option maxRecDepth 20000 in
theorem ggX0_settleFrom_X0_putSign : GoodIn wsX0_settleFrom wsX0_putSign := goodIn_r _ [47, 28, 30, 31, 4, 32, 48, 34, 49, 59, 60, 61, 62, 63, 64, 65, 66, 67, 68] (by decide +kernel) (by decide +kernel)
set_option maxRecDepth 20000 in
theorem gX0_settleFrom_X0_putSign : GoodIn wsX0_settleFrom (wsV RX0 133 RX0 yX0_putSign wsX0_putSign) := goodIn_app (goodIn_of _ (by decide +kernel)) ggX0_settleFrom_X0_putSign
set_option maxRecDepth 20000 in
theorem ggX0_settleFrom_X0_addRevision : GoodIn wsX0_settleFrom wsX0_addRevision := goodIn_r _ [53, 54, 55, 56, 57, 4, 58, 33, 34, 35, 48, 49, 59, 60, 61, 62, 63, 64, 65, 66, 67, 68] (by decide +kernel) (by decide +kernel)
set_option maxRecDepth 20000 in
theorem gX0_settleFrom_X0_addRevision : GoodIn wsX0_settleFrom (wsV RX0 137 RX0 yX0_addRevision wsX0_addRevision) := goodIn_app (goodIn_of _ (by decide +kernel)) ggX0_settleFrom_X0_addRevision
theorem dX0_settleFrom_0 : decode cX0_settleFrom 0 = .ok (.iload_n 2, 1) := by decide +kernel
theorem dX0_settleFrom_1 : decode cX0_settleFrom 1 = .ok (.aload_n 0, 1) := by decide +kernel
theorem dX0_settleFrom_2 : decode cX0_settleFrom 2 = .ok (.iload_n 1, 1) := by decide +kernel
theorem dX0_settleFrom_3 : decode cX0_settleFrom 3 = .ok (.invokevirtual 75, 3) := by decide +kernel
theorem dX0_settleFrom_6 : decode cX0_settleFrom 6 = .ok (.if_icmp .ne 7, 3) := by decide +kernel
theorem dX0_settleFrom_9 : decode cX0_settleFrom 9 = .ok (.iconst 1, 1) := by decide +kernel
theorem dX0_settleFrom_10 : decode cX0_settleFrom 10 = .ok (.goto 4, 3) := by decide +kernel
theorem dX0_settleFrom_13 : decode cX0_settleFrom 13 = .ok (.iconst 0, 1) := by decide +kernel
theorem dX0_settleFrom_14 : decode cX0_settleFrom 14 = .ok (.istore_n 3, 1) := by decide +kernel
theorem dX0_settleFrom_15 : decode cX0_settleFrom 15 = .ok (.iload_n 3, 1) := by decide +kernel
theorem dX0_settleFrom_16 : decode cX0_settleFrom 16 = .ok (.ifCond .eq 11, 3) := by decide +kernel
theorem dX0_settleFrom_19 : decode cX0_settleFrom 19 = .ok (.aload_n 0, 1) := by decide +kernel
theorem dX0_settleFrom_20 : decode cX0_settleFrom 20 = .ok (.iload_n 1, 1) := by decide +kernel
theorem dX0_settleFrom_21 : decode cX0_settleFrom 21 = .ok (.invokevirtual 106, 3) := by decide +kernel
theorem dX0_settleFrom_24 : decode cX0_settleFrom 24 = .ok (.goto 8, 3) := by decide +kernel
theorem dX0_settleFrom_27 : decode cX0_settleFrom 27 = .ok (.aload_n 0, 1) := by decide +kernel
theorem dX0_settleFrom_28 : decode cX0_settleFrom 28 = .ok (.iload_n 1, 1) := by decide +kernel
theorem dX0_settleFrom_29 : decode cX0_settleFrom 29 = .ok (.invokevirtual 115, 3) := by decide +kernel
theorem dX0_settleFrom_32 : decode cX0_settleFrom 32 = .ok (.istore 4, 2) := by decide +kernel
theorem dX0_settleFrom_34 : decode cX0_settleFrom 34 = .ok (.iload_n 3, 1) := by decide +kernel
theorem dX0_settleFrom_35 : decode cX0_settleFrom 35 = .ok (.ifCond .eq 11, 3) := by decide +kernel
theorem dX0_settleFrom_38 : decode cX0_settleFrom 38 = .ok (.aload_n 0, 1) := by decide +kernel
theorem dX0_settleFrom_39 : decode cX0_settleFrom 39 = .ok (.iload_n 1, 1) := by decide +kernel
theorem dX0_settleFrom_40 : decode cX0_settleFrom 40 = .ok (.invokevirtual 112, 3) := by decide +kernel
theorem dX0_settleFrom_43 : decode cX0_settleFrom 43 = .ok (.goto 8, 3) := by decide +kernel
theorem dX0_settleFrom_46 : decode cX0_settleFrom 46 = .ok (.aload_n 0, 1) := by decide +kernel
theorem dX0_settleFrom_47 : decode cX0_settleFrom 47 = .ok (.iload_n 1, 1) := by decide +kernel
theorem dX0_settleFrom_48 : decode cX0_settleFrom 48 = .ok (.invokevirtual 75, 3) := by decide +kernel
theorem dX0_settleFrom_51 : decode cX0_settleFrom 51 = .ok (.istore 5, 2) := by decide +kernel
theorem dX0_settleFrom_53 : decode cX0_settleFrom 53 = .ok (.iload_n 3, 1) := by decide +kernel
theorem dX0_settleFrom_54 : decode cX0_settleFrom 54 = .ok (.ifCond .eq 11, 3) := by decide +kernel
theorem dX0_settleFrom_57 : decode cX0_settleFrom 57 = .ok (.aload_n 0, 1) := by decide +kernel
theorem dX0_settleFrom_58 : decode cX0_settleFrom 58 = .ok (.iload_n 1, 1) := by decide +kernel
theorem dX0_settleFrom_59 : decode cX0_settleFrom 59 = .ok (.invokevirtual 115, 3) := by decide +kernel
theorem dX0_settleFrom_62 : decode cX0_settleFrom 62 = .ok (.goto 8, 3) := by decide +kernel
theorem dX0_settleFrom_65 : decode cX0_settleFrom 65 = .ok (.aload_n 0, 1) := by decide +kernel
theorem dX0_settleFrom_66 : decode cX0_settleFrom 66 = .ok (.iload_n 1, 1) := by decide +kernel
theorem dX0_settleFrom_67 : decode cX0_settleFrom 67 = .ok (.invokevirtual 106, 3) := by decide +kernel
theorem dX0_settleFrom_70 : decode cX0_settleFrom 70 = .ok (.istore 6, 2) := by decide +kernel
theorem dX0_settleFrom_72 : decode cX0_settleFrom 72 = .ok (.iconst 0, 1) := by decide +kernel
theorem dX0_settleFrom_73 : decode cX0_settleFrom 73 = .ok (.istore 7, 2) := by decide +kernel
theorem dX0_settleFrom_75 : decode cX0_settleFrom 75 = .ok (.iconst 0, 1) := by decide +kernel
theorem dX0_settleFrom_76 : decode cX0_settleFrom 76 = .ok (.istore 8, 2) := by decide +kernel
theorem dX0_settleFrom_78 : decode cX0_settleFrom 78 = .ok (.iload 8, 2) := by decide +kernel
theorem dX0_settleFrom_80 : decode cX0_settleFrom 80 = .ok (.bipush 10, 2) := by decide +kernel
theorem dX0_settleFrom_82 : decode cX0_settleFrom 82 = .ok (.if_icmp .ge 86, 3) := by decide +kernel
theorem dX0_settleFrom_85 : decode cX0_settleFrom 85 = .ok (.aload_n 0, 1) := by decide +kernel
theorem dX0_settleFrom_86 : decode cX0_settleFrom 86 = .ok (.iload_n 2, 1) := by decide +kernel
theorem dX0_settleFrom_87 : decode cX0_settleFrom 87 = .ok (.iload 4, 2) := by decide +kernel
theorem dX0_settleFrom_89 : decode cX0_settleFrom 89 = .ok (.iload 8, 2) := by decide +kernel
theorem dX0_settleFrom_91 : decode cX0_settleFrom 91 = .ok (.invokevirtual 109, 3) := by decide +kernel
theorem dX0_settleFrom_94 : decode cX0_settleFrom 94 = .ok (.istore 9, 2) := by decide +kernel
theorem dX0_settleFrom_96 : decode cX0_settleFrom 96 = .ok (.iload 9, 2) := by decide +kernel
theorem dX0_settleFrom_98 : decode cX0_settleFrom 98 = .ok (.aload_n 0, 1) := by decide +kernel
theorem dX0_settleFrom_99 : decode cX0_settleFrom 99 = .ok (.iload 5, 2) := by decide +kernel
theorem dX0_settleFrom_101 : decode cX0_settleFrom 101 = .ok (.iload 6, 2) := by decide +kernel
theorem dX0_settleFrom_103 : decode cX0_settleFrom 103 = .ok (.iload 8, 2) := by decide +kernel
theorem dX0_settleFrom_105 : decode cX0_settleFrom 105 = .ok (.invokevirtual 109, 3) := by decide +kernel
theorem dX0_settleFrom_108 : decode cX0_settleFrom 108 = .ok (.if_icmp .ne 6, 3) := by decide +kernel
theorem dX0_settleFrom_111 : decode cX0_settleFrom 111 = .ok (.goto 51, 3) := by decide +kernel
theorem dX0_settleFrom_114 : decode cX0_settleFrom 114 = .ok (.iload 9, 2) := by decide +kernel
theorem dX0_settleFrom_116 : decode cX0_settleFrom 116 = .ok (.bipush (-4), 2) := by decide +kernel
theorem dX0_settleFrom_118 : decode cX0_settleFrom 118 = .ok (.if_icmp .ne 8, 3) := by decide +kernel
theorem dX0_settleFrom_121 : decode cX0_settleFrom 121 = .ok (.bipush 10, 2) := by decide +kernel
theorem dX0_settleFrom_123 : decode cX0_settleFrom 123 = .ok (.goto 11, 3) := by decide +kernel
theorem dX0_settleFrom_126 : decode cX0_settleFrom 126 = .ok (.aload_n 0, 1) := by decide +kernel
theorem dX0_settleFrom_127 : decode cX0_settleFrom 127 = .ok (.iload 5, 2) := by decide +kernel
theorem dX0_settleFrom_129 : decode cX0_settleFrom 129 = .ok (.iload 9, 2) := by decide +kernel
theorem dX0_settleFrom_131 : decode cX0_settleFrom 131 = .ok (.invokevirtual 130, 3) := by decide +kernel
theorem dX0_settleFrom_134 : decode cX0_settleFrom 134 = .ok (.istore 10, 2) := by decide +kernel
theorem dX0_settleFrom_136 : decode cX0_settleFrom 136 = .ok (.iload 10, 2) := by decide +kernel
theorem dX0_settleFrom_138 : decode cX0_settleFrom 138 = .ok (.bipush (-4), 2) := by decide +kernel
theorem dX0_settleFrom_140 : decode cX0_settleFrom 140 = .ok (.if_icmp .ne 6, 3) := by decide +kernel
theorem dX0_settleFrom_143 : decode cX0_settleFrom 143 = .ok (.bipush (-2), 2) := by decide +kernel
theorem dX0_settleFrom_145 : decode cX0_settleFrom 145 = .ok (.ireturn, 1) := by decide +kernel
theorem dX0_settleFrom_146 : decode cX0_settleFrom 146 = .ok (.aload_n 0, 1) := by decide +kernel
theorem dX0_settleFrom_147 : decode cX0_settleFrom 147 = .ok (.iload 5, 2) := by decide +kernel
theorem dX0_settleFrom_149 : decode cX0_settleFrom 149 = .ok (.iload 6, 2) := by decide +kernel
theorem dX0_settleFrom_151 : decode cX0_settleFrom 151 = .ok (.iload 8, 2) := by decide +kernel
theorem dX0_settleFrom_153 : decode cX0_settleFrom 153 = .ok (.iload 10, 2) := by decide +kernel
theorem dX0_settleFrom_155 : decode cX0_settleFrom 155 = .ok (.invokevirtual 133, 3) := by decide +kernel
theorem dX0_settleFrom_158 : decode cX0_settleFrom 158 = .ok (.pop, 1) := by decide +kernel
theorem dX0_settleFrom_159 : decode cX0_settleFrom 159 = .ok (.iinc 7 1, 3) := by decide +kernel
theorem dX0_settleFrom_162 : decode cX0_settleFrom 162 = .ok (.iinc 8 1, 3) := by decide +kernel
theorem dX0_settleFrom_165 : decode cX0_settleFrom 165 = .ok (.goto (-87), 3) := by decide +kernel
theorem dX0_settleFrom_168 : decode cX0_settleFrom 168 = .ok (.iload 7, 2) := by decide +kernel
theorem dX0_settleFrom_170 : decode cX0_settleFrom 170 = .ok (.ifCond .le 9, 3) := by decide +kernel
theorem dX0_settleFrom_173 : decode cX0_settleFrom 173 = .ok (.aload_n 0, 1) := by decide +kernel
theorem dX0_settleFrom_174 : decode cX0_settleFrom 174 = .ok (.iload 5, 2) := by decide +kernel
theorem dX0_settleFrom_176 : decode cX0_settleFrom 176 = .ok (.invokevirtual 137, 3) := by decide +kernel
theorem dX0_settleFrom_179 : decode cX0_settleFrom 179 = .ok (.iload 7, 2) := by decide +kernel
theorem dX0_settleFrom_181 : decode cX0_settleFrom 181 = .ok (.ireturn, 1) := by decide +kernel
set_option maxRecDepth 20000 in
theorem ggX0_revisionOf_X4_valueAt : GoodIn wsX0_revisionOf wsX4_valueAt := goodIn_r _ [4] (by decide +kernel) (by decide +kernel)
set_option maxRecDepth 20000 in
theorem gX0_revisionOf_X4_valueAt_n93 : GoodIn wsX0_revisionOf (wsX4_valueAt) := ggX0_revisionOf_X4_valueAt
theorem dX0_revisionOf_0 : decode cX0_revisionOf 0 = .ok (.aload_n 0, 1) := by decide +kernel
theorem dX0_revisionOf_1 : decode cX0_revisionOf 1 = .ok (.getfield 18, 3) := by decide +kernel
theorem dX0_revisionOf_4 : decode cX0_revisionOf 4 = .ok (.iload_n 1, 1) := by decide +kernel
theorem dX0_revisionOf_5 : decode cX0_revisionOf 5 = .ok (.iconst 0, 1) := by decide +kernel
theorem dX0_revisionOf_6 : decode cX0_revisionOf 6 = .ok (.invokestatic 93, 3) := by decide +kernel
theorem dX0_revisionOf_9 : decode cX0_revisionOf 9 = .ok (.ireturn, 1) := by decide +kernel
set_option maxRecDepth 20000 in
theorem ggX0_addRevision_X0_revisionOf : GoodIn wsX0_addRevision wsX0_revisionOf := goodIn_r _ [6, 1, 7, 8, 9, 12, 13, 14, 15, 16, 17, 18, 19, 20, 21] (by decide +kernel) (by decide +kernel)
set_option maxRecDepth 20000 in
theorem gX0_addRevision_X0_revisionOf : GoodIn wsX0_addRevision (wsV RX0 141 RX0 yX0_revisionOf wsX0_revisionOf) := goodIn_app (goodIn_of _ (by decide +kernel)) ggX0_addRevision_X0_revisionOf
set_option maxRecDepth 20000 in
theorem ggX0_addRevision_X4_exchange : GoodIn wsX0_addRevision wsX4_exchange := goodIn_r _ [11] (by decide +kernel) (by decide +kernel)
set_option maxRecDepth 20000 in
theorem gX0_addRevision_X4_exchange_n97 : GoodIn wsX0_addRevision (wsX4_exchange) := ggX0_addRevision_X4_exchange
theorem dX0_addRevision_0 : decode cX0_addRevision 0 = .ok (.aload_n 0, 1) := by decide +kernel
theorem dX0_addRevision_1 : decode cX0_addRevision 1 = .ok (.getfield 18, 3) := by decide +kernel
theorem dX0_addRevision_4 : decode cX0_addRevision 4 = .ok (.iload_n 1, 1) := by decide +kernel
theorem dX0_addRevision_5 : decode cX0_addRevision 5 = .ok (.aload_n 0, 1) := by decide +kernel
theorem dX0_addRevision_6 : decode cX0_addRevision 6 = .ok (.iload_n 1, 1) := by decide +kernel
theorem dX0_addRevision_7 : decode cX0_addRevision 7 = .ok (.invokevirtual 141, 3) := by decide +kernel
theorem dX0_addRevision_10 : decode cX0_addRevision 10 = .ok (.iconst 1, 1) := by decide +kernel
theorem dX0_addRevision_11 : decode cX0_addRevision 11 = .ok (.iadd, 1) := by decide +kernel
theorem dX0_addRevision_12 : decode cX0_addRevision 12 = .ok (.invokestatic 97, 3) := by decide +kernel
theorem dX0_addRevision_15 : decode cX0_addRevision 15 = .ok (.pop, 1) := by decide +kernel
theorem dX0_addRevision_16 : decode cX0_addRevision 16 = .ok (.return_, 1) := by decide +kernel
set_option maxRecDepth 20000 in
theorem ggX0_publishedOf_X4_valueAt : GoodIn wsX0_publishedOf wsX4_valueAt := goodIn_r _ [4] (by decide +kernel) (by decide +kernel)
set_option maxRecDepth 20000 in
theorem gX0_publishedOf_X4_valueAt_n93 : GoodIn wsX0_publishedOf (wsX4_valueAt) := ggX0_publishedOf_X4_valueAt
theorem dX0_publishedOf_0 : decode cX0_publishedOf 0 = .ok (.aload_n 0, 1) := by decide +kernel
theorem dX0_publishedOf_1 : decode cX0_publishedOf 1 = .ok (.getfield 21, 3) := by decide +kernel
theorem dX0_publishedOf_4 : decode cX0_publishedOf 4 = .ok (.iload_n 1, 1) := by decide +kernel
theorem dX0_publishedOf_5 : decode cX0_publishedOf 5 = .ok (.iconst (-1), 1) := by decide +kernel
theorem dX0_publishedOf_6 : decode cX0_publishedOf 6 = .ok (.invokestatic 93, 3) := by decide +kernel
theorem dX0_publishedOf_9 : decode cX0_publishedOf 9 = .ok (.ireturn, 1) := by decide +kernel
set_option maxRecDepth 20000 in
theorem ggX0_publishRevision_X0_revisionOf : GoodIn wsX0_publishRevision wsX0_revisionOf := goodIn_r _ [6, 7, 8, 9, 10, 13, 14, 15, 16, 17, 18, 19, 20, 21, 22] (by decide +kernel) (by decide +kernel)
set_option maxRecDepth 20000 in
theorem gX0_publishRevision_X0_revisionOf : GoodIn wsX0_publishRevision (wsV RX0 141 RX0 yX0_revisionOf wsX0_revisionOf) := goodIn_app (goodIn_of _ (by decide +kernel)) ggX0_publishRevision_X0_revisionOf
set_option maxRecDepth 20000 in
theorem ggX0_publishRevision_X4_exchange : GoodIn wsX0_publishRevision wsX4_exchange := goodIn_r _ [12] (by decide +kernel) (by decide +kernel)
set_option maxRecDepth 20000 in
theorem gX0_publishRevision_X4_exchange_n97 : GoodIn wsX0_publishRevision (wsX4_exchange) := ggX0_publishRevision_X4_exchange
theorem dX0_publishRevision_0 : decode cX0_publishRevision 0 = .ok (.aload_n 0, 1) := by decide +kernel
theorem dX0_publishRevision_1 : decode cX0_publishRevision 1 = .ok (.getfield 21, 3) := by decide +kernel
theorem dX0_publishRevision_4 : decode cX0_publishRevision 4 = .ok (.iload_n 1, 1) := by decide +kernel
theorem dX0_publishRevision_5 : decode cX0_publishRevision 5 = .ok (.aload_n 0, 1) := by decide +kernel
theorem dX0_publishRevision_6 : decode cX0_publishRevision 6 = .ok (.iload_n 1, 1) := by decide +kernel
theorem dX0_publishRevision_7 : decode cX0_publishRevision 7 = .ok (.invokevirtual 141, 3) := by decide +kernel
theorem dX0_publishRevision_10 : decode cX0_publishRevision 10 = .ok (.invokestatic 97, 3) := by decide +kernel
theorem dX0_publishRevision_13 : decode cX0_publishRevision 13 = .ok (.pop, 1) := by decide +kernel
theorem dX0_publishRevision_14 : decode cX0_publishRevision 14 = .ok (.return_, 1) := by decide +kernel
set_option maxRecDepth 20000 in
theorem ggX0_isPublished_X0_publishedOf : GoodIn wsX0_isPublished wsX0_publishedOf := goodIn_r _ [5, 6, 7, 8, 9, 10, 11, 12, 13, 14, 15, 16, 17, 18, 19] (by decide +kernel) (by decide +kernel)
set_option maxRecDepth 20000 in
theorem gX0_isPublished_X0_publishedOf : GoodIn wsX0_isPublished (wsV RX0 144 RX0 yX0_publishedOf wsX0_publishedOf) := goodIn_app (goodIn_of _ (by decide +kernel)) ggX0_isPublished_X0_publishedOf
theorem dX0_isPublished_0 : decode cX0_isPublished 0 = .ok (.aload_n 0, 1) := by decide +kernel
theorem dX0_isPublished_1 : decode cX0_isPublished 1 = .ok (.iload_n 1, 1) := by decide +kernel
theorem dX0_isPublished_2 : decode cX0_isPublished 2 = .ok (.invokevirtual 144, 3) := by decide +kernel
theorem dX0_isPublished_5 : decode cX0_isPublished 5 = .ok (.iconst (-1), 1) := by decide +kernel
theorem dX0_isPublished_6 : decode cX0_isPublished 6 = .ok (.if_icmp .eq 7, 3) := by decide +kernel
theorem dX0_isPublished_9 : decode cX0_isPublished 9 = .ok (.iconst 1, 1) := by decide +kernel
theorem dX0_isPublished_10 : decode cX0_isPublished 10 = .ok (.goto 4, 3) := by decide +kernel
theorem dX0_isPublished_13 : decode cX0_isPublished 13 = .ok (.iconst 0, 1) := by decide +kernel
theorem dX0_isPublished_14 : decode cX0_isPublished 14 = .ok (.ireturn, 1) := by decide +kernel
set_option maxRecDepth 20000 in
theorem ggX0_isUpToDate_X0_isPublished : GoodIn wsX0_isUpToDate wsX0_isPublished := goodIn_r _ [5, 6, 7, 8, 4, 9, 10, 11, 12, 13, 19, 20, 21, 22, 23, 24, 25, 26, 27, 28] (by decide +kernel) (by decide +kernel)
set_option maxRecDepth 20000 in
theorem gX0_isUpToDate_X0_isPublished : GoodIn wsX0_isUpToDate (wsV RX0 147 RX0 yX0_isPublished wsX0_isPublished) := goodIn_app (goodIn_of _ (by decide +kernel)) ggX0_isUpToDate_X0_isPublished
set_option maxRecDepth 20000 in
theorem ggX0_isUpToDate_X0_publishedOf : GoodIn wsX0_isUpToDate wsX0_publishedOf := goodIn_r _ [9, 10, 11, 12, 13, 19, 20, 21, 22, 23, 24, 25, 26, 27, 28] (by decide +kernel) (by decide +kernel)
set_option maxRecDepth 20000 in
theorem gX0_isUpToDate_X0_publishedOf : GoodIn wsX0_isUpToDate (wsV RX0 144 RX0 yX0_publishedOf wsX0_publishedOf) := goodIn_app (goodIn_of _ (by decide +kernel)) ggX0_isUpToDate_X0_publishedOf
set_option maxRecDepth 20000 in
theorem ggX0_isUpToDate_X0_revisionOf : GoodIn wsX0_isUpToDate wsX0_revisionOf := goodIn_r _ [17, 18, 11, 12, 13, 19, 20, 21, 22, 23, 24, 25, 26, 27, 28] (by decide +kernel) (by decide +kernel)
set_option maxRecDepth 20000 in
theorem gX0_isUpToDate_X0_revisionOf : GoodIn wsX0_isUpToDate (wsV RX0 141 RX0 yX0_revisionOf wsX0_revisionOf) := goodIn_app (goodIn_of _ (by decide +kernel)) ggX0_isUpToDate_X0_revisionOf
theorem dX0_isUpToDate_0 : decode cX0_isUpToDate 0 = .ok (.aload_n 0, 1) := by decide +kernel
theorem dX0_isUpToDate_1 : decode cX0_isUpToDate 1 = .ok (.iload_n 1, 1) := by decide +kernel
theorem dX0_isUpToDate_2 : decode cX0_isUpToDate 2 = .ok (.invokevirtual 147, 3) := by decide +kernel
theorem dX0_isUpToDate_5 : decode cX0_isUpToDate 5 = .ok (.ifCond .eq 20, 3) := by decide +kernel
theorem dX0_isUpToDate_8 : decode cX0_isUpToDate 8 = .ok (.aload_n 0, 1) := by decide +kernel
theorem dX0_isUpToDate_9 : decode cX0_isUpToDate 9 = .ok (.iload_n 1, 1) := by decide +kernel
theorem dX0_isUpToDate_10 : decode cX0_isUpToDate 10 = .ok (.invokevirtual 144, 3) := by decide +kernel
theorem dX0_isUpToDate_13 : decode cX0_isUpToDate 13 = .ok (.aload_n 0, 1) := by decide +kernel
theorem dX0_isUpToDate_14 : decode cX0_isUpToDate 14 = .ok (.iload_n 1, 1) := by decide +kernel
theorem dX0_isUpToDate_15 : decode cX0_isUpToDate 15 = .ok (.invokevirtual 141, 3) := by decide +kernel
theorem dX0_isUpToDate_18 : decode cX0_isUpToDate 18 = .ok (.if_icmp .ne 7, 3) := by decide +kernel
theorem dX0_isUpToDate_21 : decode cX0_isUpToDate 21 = .ok (.iconst 1, 1) := by decide +kernel
theorem dX0_isUpToDate_22 : decode cX0_isUpToDate 22 = .ok (.goto 4, 3) := by decide +kernel
theorem dX0_isUpToDate_25 : decode cX0_isUpToDate 25 = .ok (.iconst 0, 1) := by decide +kernel
theorem dX0_isUpToDate_26 : decode cX0_isUpToDate 26 = .ok (.ireturn, 1) := by decide +kernel
set_option maxRecDepth 20000 in
theorem ggX0_publishedSheets_X0_sheetCount : GoodIn wsX0_publishedSheets wsX0_sheetCount := goodIn_r _ [5, 6, 7, 20, 21, 22, 23, 24, 25, 26, 27, 28, 29] (by decide +kernel) (by decide +kernel)
set_option maxRecDepth 20000 in
theorem gX0_publishedSheets_X0_sheetCount : GoodIn wsX0_publishedSheets (wsV RX0 57 RX0 yX0_sheetCount wsX0_sheetCount) := goodIn_app (goodIn_of _ (by decide +kernel)) ggX0_publishedSheets_X0_sheetCount
set_option maxRecDepth 20000 in
theorem ggX0_publishedSheets_X0_isPublished : GoodIn wsX0_publishedSheets wsX0_isPublished := goodIn_r _ [11, 12, 13, 14, 4, 15, 16, 17, 18, 19, 20, 21, 22, 23, 24, 25, 26, 27, 28, 29] (by decide +kernel) (by decide +kernel)
set_option maxRecDepth 20000 in
theorem gX0_publishedSheets_X0_isPublished : GoodIn wsX0_publishedSheets (wsV RX0 147 RX0 yX0_isPublished wsX0_isPublished) := goodIn_app (goodIn_of _ (by decide +kernel)) ggX0_publishedSheets_X0_isPublished
theorem dX0_publishedSheets_0 : decode cX0_publishedSheets 0 = .ok (.aload_n 0, 1) := by decide +kernel
theorem dX0_publishedSheets_1 : decode cX0_publishedSheets 1 = .ok (.invokevirtual 57, 3) := by decide +kernel
theorem dX0_publishedSheets_4 : decode cX0_publishedSheets 4 = .ok (.istore_n 1, 1) := by decide +kernel
theorem dX0_publishedSheets_5 : decode cX0_publishedSheets 5 = .ok (.iconst 0, 1) := by decide +kernel
theorem dX0_publishedSheets_6 : decode cX0_publishedSheets 6 = .ok (.istore_n 2, 1) := by decide +kernel
theorem dX0_publishedSheets_7 : decode cX0_publishedSheets 7 = .ok (.iconst 0, 1) := by decide +kernel
theorem dX0_publishedSheets_8 : decode cX0_publishedSheets 8 = .ok (.istore_n 3, 1) := by decide +kernel
theorem dX0_publishedSheets_9 : decode cX0_publishedSheets 9 = .ok (.iload_n 3, 1) := by decide +kernel
theorem dX0_publishedSheets_10 : decode cX0_publishedSheets 10 = .ok (.iload_n 1, 1) := by decide +kernel
theorem dX0_publishedSheets_11 : decode cX0_publishedSheets 11 = .ok (.if_icmp .ge 20, 3) := by decide +kernel
theorem dX0_publishedSheets_14 : decode cX0_publishedSheets 14 = .ok (.aload_n 0, 1) := by decide +kernel
theorem dX0_publishedSheets_15 : decode cX0_publishedSheets 15 = .ok (.iload_n 3, 1) := by decide +kernel
theorem dX0_publishedSheets_16 : decode cX0_publishedSheets 16 = .ok (.invokevirtual 147, 3) := by decide +kernel
theorem dX0_publishedSheets_19 : decode cX0_publishedSheets 19 = .ok (.ifCond .eq 6, 3) := by decide +kernel
theorem dX0_publishedSheets_22 : decode cX0_publishedSheets 22 = .ok (.iinc 2 1, 3) := by decide +kernel
theorem dX0_publishedSheets_25 : decode cX0_publishedSheets 25 = .ok (.iinc 3 1, 3) := by decide +kernel
theorem dX0_publishedSheets_28 : decode cX0_publishedSheets 28 = .ok (.goto (-19), 3) := by decide +kernel
theorem dX0_publishedSheets_31 : decode cX0_publishedSheets 31 = .ok (.iload_n 2, 1) := by decide +kernel
theorem dX0_publishedSheets_32 : decode cX0_publishedSheets 32 = .ok (.ireturn, 1) := by decide +kernel
set_option maxRecDepth 20000 in
theorem ggX0_sheetsUpToDate_X0_sheetCount : GoodIn wsX0_sheetsUpToDate wsX0_sheetCount := goodIn_r _ [5, 6, 7, 29, 30, 31, 32, 33, 34, 35, 36, 37, 38] (by decide +kernel) (by decide +kernel)
set_option maxRecDepth 20000 in
theorem gX0_sheetsUpToDate_X0_sheetCount : GoodIn wsX0_sheetsUpToDate (wsV RX0 57 RX0 yX0_sheetCount wsX0_sheetCount) := goodIn_app (goodIn_of _ (by decide +kernel)) ggX0_sheetsUpToDate_X0_sheetCount
set_option maxRecDepth 20000 in
theorem ggX0_sheetsUpToDate_X0_isUpToDate : GoodIn wsX0_sheetsUpToDate wsX0_isUpToDate := goodIn_r _ [11, 12, 13, 14, 4, 15, 16, 17, 18, 19, 20, 21, 22, 23, 24, 25, 26, 27, 28, 29, 30, 31, 32, 33, 34, 35, 36, 37, 38] (by decide +kernel) (by decide +kernel)
set_option maxRecDepth 20000 in
theorem gX0_sheetsUpToDate_X0_isUpToDate : GoodIn wsX0_sheetsUpToDate (wsV RX0 150 RX0 yX0_isUpToDate wsX0_isUpToDate) := goodIn_app (goodIn_of _ (by decide +kernel)) ggX0_sheetsUpToDate_X0_isUpToDate
theorem dX0_sheetsUpToDate_0 : decode cX0_sheetsUpToDate 0 = .ok (.aload_n 0, 1) := by decide +kernel
theorem dX0_sheetsUpToDate_1 : decode cX0_sheetsUpToDate 1 = .ok (.invokevirtual 57, 3) := by decide +kernel
theorem dX0_sheetsUpToDate_4 : decode cX0_sheetsUpToDate 4 = .ok (.istore_n 1, 1) := by decide +kernel
theorem dX0_sheetsUpToDate_5 : decode cX0_sheetsUpToDate 5 = .ok (.iconst 0, 1) := by decide +kernel
theorem dX0_sheetsUpToDate_6 : decode cX0_sheetsUpToDate 6 = .ok (.istore_n 2, 1) := by decide +kernel
theorem dX0_sheetsUpToDate_7 : decode cX0_sheetsUpToDate 7 = .ok (.iconst 0, 1) := by decide +kernel
theorem dX0_sheetsUpToDate_8 : decode cX0_sheetsUpToDate 8 = .ok (.istore_n 3, 1) := by decide +kernel
theorem dX0_sheetsUpToDate_9 : decode cX0_sheetsUpToDate 9 = .ok (.iload_n 3, 1) := by decide +kernel
theorem dX0_sheetsUpToDate_10 : decode cX0_sheetsUpToDate 10 = .ok (.iload_n 1, 1) := by decide +kernel
theorem dX0_sheetsUpToDate_11 : decode cX0_sheetsUpToDate 11 = .ok (.if_icmp .ge 20, 3) := by decide +kernel
theorem dX0_sheetsUpToDate_14 : decode cX0_sheetsUpToDate 14 = .ok (.aload_n 0, 1) := by decide +kernel
theorem dX0_sheetsUpToDate_15 : decode cX0_sheetsUpToDate 15 = .ok (.iload_n 3, 1) := by decide +kernel
theorem dX0_sheetsUpToDate_16 : decode cX0_sheetsUpToDate 16 = .ok (.invokevirtual 150, 3) := by decide +kernel
theorem dX0_sheetsUpToDate_19 : decode cX0_sheetsUpToDate 19 = .ok (.ifCond .eq 6, 3) := by decide +kernel
theorem dX0_sheetsUpToDate_22 : decode cX0_sheetsUpToDate 22 = .ok (.iinc 2 1, 3) := by decide +kernel
theorem dX0_sheetsUpToDate_25 : decode cX0_sheetsUpToDate 25 = .ok (.iinc 3 1, 3) := by decide +kernel
theorem dX0_sheetsUpToDate_28 : decode cX0_sheetsUpToDate 28 = .ok (.goto (-19), 3) := by decide +kernel
theorem dX0_sheetsUpToDate_31 : decode cX0_sheetsUpToDate 31 = .ok (.iload_n 2, 1) := by decide +kernel
theorem dX0_sheetsUpToDate_32 : decode cX0_sheetsUpToDate 32 = .ok (.ireturn, 1) := by decide +kernel
set_option maxRecDepth 20000 in
theorem ggX0_scaleOf_X4_valueAt : GoodIn wsX0_scaleOf wsX4_valueAt := goodIn_r _ [4] (by decide +kernel) (by decide +kernel)
set_option maxRecDepth 20000 in
theorem gX0_scaleOf_X4_valueAt_n93 : GoodIn wsX0_scaleOf (wsX4_valueAt) := ggX0_scaleOf_X4_valueAt
theorem dX0_scaleOf_0 : decode cX0_scaleOf 0 = .ok (.aload_n 0, 1) := by decide +kernel
theorem dX0_scaleOf_1 : decode cX0_scaleOf 1 = .ok (.getfield 24, 3) := by decide +kernel
theorem dX0_scaleOf_4 : decode cX0_scaleOf 4 = .ok (.iload_n 1, 1) := by decide +kernel
theorem dX0_scaleOf_5 : decode cX0_scaleOf 5 = .ok (.sipush 1000, 3) := by decide +kernel
theorem dX0_scaleOf_8 : decode cX0_scaleOf 8 = .ok (.invokestatic 93, 3) := by decide +kernel
theorem dX0_scaleOf_11 : decode cX0_scaleOf 11 = .ok (.ireturn, 1) := by decide +kernel
set_option maxRecDepth 20000 in
theorem ggX0_putScale_X4_exchange : GoodIn wsX0_putScale wsX4_exchange := goodIn_r _ [4] (by decide +kernel) (by decide +kernel)
set_option maxRecDepth 20000 in
theorem gX0_putScale_X4_exchange_n97 : GoodIn wsX0_putScale (wsX4_exchange) := ggX0_putScale_X4_exchange
theorem dX0_putScale_0 : decode cX0_putScale 0 = .ok (.aload_n 0, 1) := by decide +kernel
theorem dX0_putScale_1 : decode cX0_putScale 1 = .ok (.getfield 24, 3) := by decide +kernel
theorem dX0_putScale_4 : decode cX0_putScale 4 = .ok (.iload_n 1, 1) := by decide +kernel
theorem dX0_putScale_5 : decode cX0_putScale 5 = .ok (.iload_n 2, 1) := by decide +kernel
theorem dX0_putScale_6 : decode cX0_putScale 6 = .ok (.invokestatic 97, 3) := by decide +kernel
theorem dX0_putScale_9 : decode cX0_putScale 9 = .ok (.ireturn, 1) := by decide +kernel
set_option maxRecDepth 20000 in
theorem ggX0_floatScale_X0_scaleOf : GoodIn wsX0_floatScale wsX0_scaleOf := goodIn_r _ [6, 7, 8, 9, 10, 11, 12, 13, 14, 15, 16, 17, 18, 19, 20] (by decide +kernel) (by decide +kernel)
set_option maxRecDepth 20000 in
theorem gX0_floatScale_X0_scaleOf : GoodIn wsX0_floatScale (wsV RX0 153 RX0 yX0_scaleOf wsX0_scaleOf) := goodIn_app (goodIn_of _ (by decide +kernel)) ggX0_floatScale_X0_scaleOf
theorem dX0_floatScale_0 : decode cX0_floatScale 0 = .ok (.aload_n 0, 1) := by decide +kernel
theorem dX0_floatScale_1 : decode cX0_floatScale 1 = .ok (.iload_n 1, 1) := by decide +kernel
theorem dX0_floatScale_2 : decode cX0_floatScale 2 = .ok (.invokevirtual 153, 3) := by decide +kernel
theorem dX0_floatScale_5 : decode cX0_floatScale 5 = .ok (.i2f, 1) := by decide +kernel
theorem dX0_floatScale_6 : decode cX0_floatScale 6 = .ok (.ldc 156, 2) := by decide +kernel
theorem dX0_floatScale_8 : decode cX0_floatScale 8 = .ok (.fdiv, 1) := by decide +kernel
theorem dX0_floatScale_9 : decode cX0_floatScale 9 = .ok (.freturn, 1) := by decide +kernel
set_option maxRecDepth 20000 in
theorem ggX0_ratioOf_X0_secondSheet : GoodIn wsX0_ratioOf wsX0_secondSheet := goodIn_r _ [5, 6, 7, 8, 9, 4, 10, 11, 12, 13, 14, 15, 29, 30, 31, 32, 33, 34, 35, 36, 37, 38] (by decide +kernel) (by decide +kernel)
set_option maxRecDepth 20000 in
theorem gX0_ratioOf_X0_secondSheet : GoodIn wsX0_ratioOf (wsV RX0 112 RX0 yX0_secondSheet wsX0_secondSheet) := goodIn_app (goodIn_of _ (by decide +kernel)) ggX0_ratioOf_X0_secondSheet
set_option maxRecDepth 20000 in
theorem ggX0_ratioOf_X0_floatScale : GoodIn wsX0_ratioOf wsX0_floatScale := goodIn_r _ [19, 20, 21, 22, 23, 4, 24, 25, 26, 27, 28, 29, 30, 31, 32, 33, 34, 35, 36, 37, 38] (by decide +kernel) (by decide +kernel)
set_option maxRecDepth 20000 in
theorem gX0_ratioOf_X0_floatScale : GoodIn wsX0_ratioOf (wsV RX0 157 RX0 yX0_floatScale wsX0_floatScale) := goodIn_app (goodIn_of _ (by decide +kernel)) ggX0_ratioOf_X0_floatScale
set_option maxRecDepth 20000 in
theorem ggX0_ratioOf_X0_firstSheet : GoodIn wsX0_ratioOf wsX0_firstSheet := goodIn_r _ [10, 6, 11, 29, 30, 31, 32, 33, 34, 35, 36, 37, 38] (by decide +kernel) (by decide +kernel)
set_option maxRecDepth 20000 in
theorem gX0_ratioOf_X0_firstSheet : GoodIn wsX0_ratioOf (wsV RX0 75 RX0 yX0_firstSheet wsX0_firstSheet) := goodIn_app (goodIn_of _ (by decide +kernel)) ggX0_ratioOf_X0_firstSheet
theorem dX0_ratioOf_0 : decode cX0_ratioOf 0 = .ok (.aload_n 0, 1) := by decide +kernel
theorem dX0_ratioOf_1 : decode cX0_ratioOf 1 = .ok (.aload_n 0, 1) := by decide +kernel
theorem dX0_ratioOf_2 : decode cX0_ratioOf 2 = .ok (.iload_n 1, 1) := by decide +kernel
theorem dX0_ratioOf_3 : decode cX0_ratioOf 3 = .ok (.invokevirtual 112, 3) := by decide +kernel
theorem dX0_ratioOf_6 : decode cX0_ratioOf 6 = .ok (.invokevirtual 157, 3) := by decide +kernel
theorem dX0_ratioOf_9 : decode cX0_ratioOf 9 = .ok (.fstore_n 2, 1) := by decide +kernel
theorem dX0_ratioOf_10 : decode cX0_ratioOf 10 = .ok (.fload_n 2, 1) := by decide +kernel
theorem dX0_ratioOf_11 : decode cX0_ratioOf 11 = .ok (.fconst 0, 1) := by decide +kernel
theorem dX0_ratioOf_12 : decode cX0_ratioOf 12 = .ok (.fcmp .l, 1) := by decide +kernel
theorem dX0_ratioOf_13 : decode cX0_ratioOf 13 = .ok (.ifCond .le 17, 3) := by decide +kernel
theorem dX0_ratioOf_16 : decode cX0_ratioOf 16 = .ok (.aload_n 0, 1) := by decide +kernel
theorem dX0_ratioOf_17 : decode cX0_ratioOf 17 = .ok (.aload_n 0, 1) := by decide +kernel
theorem dX0_ratioOf_18 : decode cX0_ratioOf 18 = .ok (.iload_n 1, 1) := by decide +kernel
theorem dX0_ratioOf_19 : decode cX0_ratioOf 19 = .ok (.invokevirtual 75, 3) := by decide +kernel
theorem dX0_ratioOf_22 : decode cX0_ratioOf 22 = .ok (.invokevirtual 157, 3) := by decide +kernel
theorem dX0_ratioOf_25 : decode cX0_ratioOf 25 = .ok (.fload_n 2, 1) := by decide +kernel
theorem dX0_ratioOf_26 : decode cX0_ratioOf 26 = .ok (.fdiv, 1) := by decide +kernel
theorem dX0_ratioOf_27 : decode cX0_ratioOf 27 = .ok (.goto 4, 3) := by decide +kernel
theorem dX0_ratioOf_30 : decode cX0_ratioOf 30 = .ok (.fconst 1, 1) := by decide +kernel
theorem dX0_ratioOf_31 : decode cX0_ratioOf 31 = .ok (.freturn, 1) := by decide +kernel
set_option maxRecDepth 20000 in
theorem ggX0_isFitting_X0_ratioOf : GoodIn wsX0_isFitting wsX0_ratioOf := goodIn_r _ [7, 8, 9, 10, 6, 11, 12, 13, 14, 15, 16, 17, 18, 19, 20, 21, 22, 23, 24, 25, 26, 27, 28, 29, 30, 31, 32, 33, 34, 35, 36, 37, 38, 39, 40, 41, 42, 43, 44] (by decide +kernel) (by decide +kernel)
set_option maxRecDepth 20000 in
theorem gX0_isFitting_X0_ratioOf : GoodIn wsX0_isFitting (wsV RX0 161 RX0 yX0_ratioOf wsX0_ratioOf) := goodIn_app (goodIn_of _ (by decide +kernel)) ggX0_isFitting_X0_ratioOf
theorem dX0_isFitting_0 : decode cX0_isFitting 0 = .ok (.aload_n 0, 1) := by decide +kernel
theorem dX0_isFitting_1 : decode cX0_isFitting 1 = .ok (.iload_n 1, 1) := by decide +kernel
theorem dX0_isFitting_2 : decode cX0_isFitting 2 = .ok (.invokevirtual 161, 3) := by decide +kernel
theorem dX0_isFitting_5 : decode cX0_isFitting 5 = .ok (.f2d, 1) := by decide +kernel
theorem dX0_isFitting_6 : decode cX0_isFitting 6 = .ok (.dconst 1, 1) := by decide +kernel
theorem dX0_isFitting_7 : decode cX0_isFitting 7 = .ok (.dsub, 1) := by decide +kernel
theorem dX0_isFitting_8 : decode cX0_isFitting 8 = .ok (.dstore_n 2, 1) := by decide +kernel
theorem dX0_isFitting_9 : decode cX0_isFitting 9 = .ok (.dload_n 2, 1) := by decide +kernel
theorem dX0_isFitting_10 : decode cX0_isFitting 10 = .ok (.dconst 0, 1) := by decide +kernel
theorem dX0_isFitting_11 : decode cX0_isFitting 11 = .ok (.dcmp .g, 1) := by decide +kernel
theorem dX0_isFitting_12 : decode cX0_isFitting 12 = .ok (.ifCond .ge 8, 3) := by decide +kernel
theorem dX0_isFitting_15 : decode cX0_isFitting 15 = .ok (.dload_n 2, 1) := by decide +kernel
theorem dX0_isFitting_16 : decode cX0_isFitting 16 = .ok (.dneg, 1) := by decide +kernel
theorem dX0_isFitting_17 : decode cX0_isFitting 17 = .ok (.goto 4, 3) := by decide +kernel
theorem dX0_isFitting_20 : decode cX0_isFitting 20 = .ok (.dload_n 2, 1) := by decide +kernel
theorem dX0_isFitting_21 : decode cX0_isFitting 21 = .ok (.dstore 4, 2) := by decide +kernel
theorem dX0_isFitting_23 : decode cX0_isFitting 23 = .ok (.dload 4, 2) := by decide +kernel
theorem dX0_isFitting_25 : decode cX0_isFitting 25 = .ok (.aload_n 0, 1) := by decide +kernel
theorem dX0_isFitting_26 : decode cX0_isFitting 26 = .ok (.getfield 34, 3) := by decide +kernel
theorem dX0_isFitting_29 : decode cX0_isFitting 29 = .ok (.i2d, 1) := by decide +kernel
theorem dX0_isFitting_30 : decode cX0_isFitting 30 = .ok (.ldc2_w 164, 3) := by decide +kernel
theorem dX0_isFitting_33 : decode cX0_isFitting 33 = .ok (.ddiv, 1) := by decide +kernel
theorem dX0_isFitting_34 : decode cX0_isFitting 34 = .ok (.dcmp .g, 1) := by decide +kernel
theorem dX0_isFitting_35 : decode cX0_isFitting 35 = .ok (.ifCond .gt 7, 3) := by decide +kernel
theorem dX0_isFitting_38 : decode cX0_isFitting 38 = .ok (.iconst 1, 1) := by decide +kernel
theorem dX0_isFitting_39 : decode cX0_isFitting 39 = .ok (.goto 4, 3) := by decide +kernel
theorem dX0_isFitting_42 : decode cX0_isFitting 42 = .ok (.iconst 0, 1) := by decide +kernel
theorem dX0_isFitting_43 : decode cX0_isFitting 43 = .ok (.ireturn, 1) := by decide +kernel
set_option maxRecDepth 20000 in
theorem ggX0_fittingEdges_X0_edgeCount : GoodIn wsX0_fittingEdges wsX0_edgeCount := goodIn_r _ [5, 6, 7, 8, 9, 10, 4, 11, 43, 44, 45, 46, 47, 48, 49, 50, 51, 52] (by decide +kernel) (by decide +kernel)
set_option maxRecDepth 20000 in
theorem gX0_fittingEdges_X0_edgeCount : GoodIn wsX0_fittingEdges (wsV RX0 72 RX0 yX0_edgeCount wsX0_edgeCount) := goodIn_app (goodIn_of _ (by decide +kernel)) ggX0_fittingEdges_X0_edgeCount
set_option maxRecDepth 20000 in
theorem ggX0_fittingEdges_X0_isFitting : GoodIn wsX0_fittingEdges wsX0_isFitting := goodIn_r _ [15, 16, 17, 18, 19, 20, 4, 21, 22, 23, 24, 25, 6, 26, 27, 28, 29, 7, 8, 9, 10, 11, 30, 31, 32, 33, 34, 35, 36, 37, 38, 39, 40, 41, 42, 43, 44, 45, 46, 47, 48, 49, 50, 51, 52] (by decide +kernel) (by decide +kernel)
set_option maxRecDepth 20000 in
theorem gX0_fittingEdges_X0_isFitting : GoodIn wsX0_fittingEdges (wsV RX0 166 RX0 yX0_isFitting wsX0_isFitting) := goodIn_app (goodIn_of _ (by decide +kernel)) ggX0_fittingEdges_X0_isFitting
theorem dX0_fittingEdges_0 : decode cX0_fittingEdges 0 = .ok (.aload_n 0, 1) := by decide +kernel
theorem dX0_fittingEdges_1 : decode cX0_fittingEdges 1 = .ok (.invokevirtual 72, 3) := by decide +kernel
theorem dX0_fittingEdges_4 : decode cX0_fittingEdges 4 = .ok (.istore_n 1, 1) := by decide +kernel
theorem dX0_fittingEdges_5 : decode cX0_fittingEdges 5 = .ok (.iconst 0, 1) := by decide +kernel
theorem dX0_fittingEdges_6 : decode cX0_fittingEdges 6 = .ok (.istore_n 2, 1) := by decide +kernel
theorem dX0_fittingEdges_7 : decode cX0_fittingEdges 7 = .ok (.iconst 0, 1) := by decide +kernel
theorem dX0_fittingEdges_8 : decode cX0_fittingEdges 8 = .ok (.istore_n 3, 1) := by decide +kernel
theorem dX0_fittingEdges_9 : decode cX0_fittingEdges 9 = .ok (.iload_n 3, 1) := by decide +kernel
theorem dX0_fittingEdges_10 : decode cX0_fittingEdges 10 = .ok (.iload_n 1, 1) := by decide +kernel
theorem dX0_fittingEdges_11 : decode cX0_fittingEdges 11 = .ok (.if_icmp .ge 20, 3) := by decide +kernel
theorem dX0_fittingEdges_14 : decode cX0_fittingEdges 14 = .ok (.aload_n 0, 1) := by decide +kernel
theorem dX0_fittingEdges_15 : decode cX0_fittingEdges 15 = .ok (.iload_n 3, 1) := by decide +kernel
theorem dX0_fittingEdges_16 : decode cX0_fittingEdges 16 = .ok (.invokevirtual 166, 3) := by decide +kernel
theorem dX0_fittingEdges_19 : decode cX0_fittingEdges 19 = .ok (.ifCond .eq 6, 3) := by decide +kernel
theorem dX0_fittingEdges_22 : decode cX0_fittingEdges 22 = .ok (.iinc 2 1, 3) := by decide +kernel
theorem dX0_fittingEdges_25 : decode cX0_fittingEdges 25 = .ok (.iinc 3 1, 3) := by decide +kernel
theorem dX0_fittingEdges_28 : decode cX0_fittingEdges 28 = .ok (.goto (-19), 3) := by decide +kernel
theorem dX0_fittingEdges_31 : decode cX0_fittingEdges 31 = .ok (.iload_n 2, 1) := by decide +kernel
theorem dX0_fittingEdges_32 : decode cX0_fittingEdges 32 = .ok (.ireturn, 1) := by decide +kernel
