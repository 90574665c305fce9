set_option maxRecDepth 20000 in
theorem ggX0_init_X2_init : GoodIn wsX0_init wsX2_init := goodIn_r _ [18, 19, 2, 3, 14, 20, 21, 22, 23, 24, 29, 30, 31, 32, 33] (by decide +kernel) (by decide +kernel)
set_option maxRecDepth 20000 in
theorem gX0_init_X2_init_n11 : GoodIn wsX0_init (wsX2_init) := ggX0_init_X2_init
set_option maxRecDepth 20000 in
theorem ggX0_init_X1_init : GoodIn wsX0_init wsX1_init := goodIn_r _ [26, 27, 2, 3, 14, 28, 40] (by decide +kernel) (by decide +kernel)
set_option maxRecDepth 20000 in
theorem gX0_init_X1_init_n20 : GoodIn wsX0_init (wsX1_init) := ggX0_init_X1_init
theorem dX0_init_0 : decode cX0_init 0 = .ok (.aload_n 0, 1) := by decide +kernel
theorem dX0_init_1 : decode cX0_init 1 = .ok (.invokespecial 3, 3) := by decide +kernel
theorem dX0_init_4 : decode cX0_init 4 = .ok (.aload_n 0, 1) := by decide +kernel
theorem dX0_init_5 : decode cX0_init 5 = .ok (.new 9, 3) := by decide +kernel
theorem dX0_init_8 : decode cX0_init 8 = .ok (.dup, 1) := by decide +kernel
theorem dX0_init_9 : decode cX0_init 9 = .ok (.invokespecial 11, 3) := by decide +kernel
theorem dX0_init_12 : decode cX0_init 12 = .ok (.putfield 12, 3) := by decide +kernel
theorem dX0_init_15 : decode cX0_init 15 = .ok (.aload_n 0, 1) := by decide +kernel
theorem dX0_init_16 : decode cX0_init 16 = .ok (.new 18, 3) := by decide +kernel
theorem dX0_init_19 : decode cX0_init 19 = .ok (.dup, 1) := by decide +kernel
theorem dX0_init_20 : decode cX0_init 20 = .ok (.invokespecial 20, 3) := by decide +kernel
theorem dX0_init_23 : decode cX0_init 23 = .ok (.putfield 21, 3) := by decide +kernel
theorem dX0_init_26 : decode cX0_init 26 = .ok (.aload_n 0, 1) := by decide +kernel
theorem dX0_init_27 : decode cX0_init 27 = .ok (.new 18, 3) := by decide +kernel
theorem dX0_init_30 : decode cX0_init 30 = .ok (.dup, 1) := by decide +kernel
theorem dX0_init_31 : decode cX0_init 31 = .ok (.invokespecial 20, 3) := by decide +kernel
theorem dX0_init_34 : decode cX0_init 34 = .ok (.putfield 25, 3) := by decide +kernel
theorem dX0_init_37 : decode cX0_init 37 = .ok (.aload_n 0, 1) := by decide +kernel
theorem dX0_init_38 : decode cX0_init 38 = .ok (.new 18, 3) := by decide +kernel
theorem dX0_init_41 : decode cX0_init 41 = .ok (.dup, 1) := by decide +kernel
theorem dX0_init_42 : decode cX0_init 42 = .ok (.invokespecial 20, 3) := by decide +kernel
theorem dX0_init_45 : decode cX0_init 45 = .ok (.putfield 28, 3) := by decide +kernel
theorem dX0_init_48 : decode cX0_init 48 = .ok (.aload_n 0, 1) := by decide +kernel
theorem dX0_init_49 : decode cX0_init 49 = .ok (.bipush 6, 2) := by decide +kernel
theorem dX0_init_51 : decode cX0_init 51 = .ok (.newarray .int, 2) := by decide +kernel
theorem dX0_init_53 : decode cX0_init 53 = .ok (.putfield 31, 3) := by decide +kernel
theorem dX0_init_56 : decode cX0_init 56 = .ok (.aload_n 0, 1) := by decide +kernel
theorem dX0_init_57 : decode cX0_init 57 = .ok (.iconst 0, 1) := by decide +kernel
theorem dX0_init_58 : decode cX0_init 58 = .ok (.putfield 35, 3) := by decide +kernel
theorem dX0_init_61 : decode cX0_init 61 = .ok (.return_, 1) := by decide +kernel
set_option maxRecDepth 20000 in
theorem ggX0_make_X2_fit : GoodIn wsX0_make wsX2_fit := goodIn_r _ [9, 10, 11, 12, 13, 14, 15, 8, 16, 17, 18, 19, 20, 21, 22, 23, 24, 25, 26, 27, 28, 29, 30, 31, 32, 33, 34, 35, 36, 37, 38, 39, 40, 41, 42, 43, 44, 45, 46, 47, 48, 49, 50, 51, 52, 53, 54, 55, 56, 57, 58, 59, 60, 61, 116, 117, 118, 119, 120, 121] (by decide +kernel) (by decide +kernel)
set_option maxRecDepth 20000 in
theorem gX0_make_X2_fit : GoodIn wsX0_make (wsV RX0 39 RX2 yX2_fit wsX2_fit) := goodIn_app (goodIn_of _ (by decide +kernel)) ggX0_make_X2_fit
set_option maxRecDepth 20000 in
theorem ggX0_make_X1_fill : GoodIn wsX0_make wsX1_fill := goodIn_r _ [65, 26, 18, 19, 20, 121] (by decide +kernel) (by decide +kernel)
set_option maxRecDepth 20000 in
theorem gX0_make_X1_fill : GoodIn wsX0_make (wsV RX0 43 RX1 yX1_fill wsX1_fill) := goodIn_app (goodIn_of _ (by decide +kernel)) ggX0_make_X1_fill
set_option maxRecDepth 20000 in
theorem ggX0_make_X4_fillNumbers : GoodIn wsX0_make wsX4_fillNumbers := goodIn_r _ [20] (by decide +kernel) (by decide +kernel)
set_option maxRecDepth 20000 in
theorem gX0_make_X4_fillNumbers_n47 : GoodIn wsX0_make (wsX4_fillNumbers) := ggX0_make_X4_fillNumbers
set_option maxRecDepth 20000 in
theorem ggX0_make_X0_makeRow : GoodIn wsX0_make wsX0_makeRow := goodIn_r _ [70, 2, 1, 71, 3, 4, 72, 73, 74, 75, 76, 22, 23, 24, 25, 26, 27, 19, 28, 29, 30, 77, 78, 79, 8, 80, 10, 81, 82, 83, 84, 85, 86, 87, 88, 89, 12, 90, 91, 92, 93, 94, 31, 32, 95, 96, 97, 69, 98, 99, 100, 101, 102, 103, 104, 110, 111, 112, 113, 114, 115, 121, 116, 117, 118, 119, 120] (by decide +kernel) (by decide +kernel)
set_option maxRecDepth 20000 in
theorem gX0_make_X0_makeRow : GoodIn wsX0_make (wsV RX0 51 RX0 yX0_makeRow wsX0_makeRow) := goodIn_app (goodIn_of _ (by decide +kernel)) ggX0_make_X0_makeRow
set_option maxRecDepth 20000 in
theorem ggX0_make_X0_numberRuns : GoodIn wsX0_make wsX0_numberRuns := goodIn_r _ [108, 109, 71, 91, 92, 93, 24, 94, 26, 27, 19, 28, 31, 32, 76, 22, 23, 25, 29, 30, 110, 111, 112, 113, 114, 115, 121] (by decide +kernel) (by decide +kernel)
set_option maxRecDepth 20000 in
theorem gX0_make_X0_numberRuns : GoodIn wsX0_make (wsV RX0 55 RX0 yX0_numberRuns wsX0_numberRuns) := goodIn_app (goodIn_of _ (by decide +kernel)) ggX0_make_X0_numberRuns
theorem dX0_make_0 : decode cX0_make 0 = .ok (.aload_n 0, 1) := by decide +kernel
theorem dX0_make_1 : decode cX0_make 1 = .ok (.getfield 12, 3) := by decide +kernel
theorem dX0_make_4 : decode cX0_make 4 = .ok (.aload_n 1, 1) := by decide +kernel
theorem dX0_make_5 : decode cX0_make 5 = .ok (.iload_n 2, 1) := by decide +kernel
theorem dX0_make_6 : decode cX0_make 6 = .ok (.invokevirtual 39, 3) := by decide +kernel
theorem dX0_make_9 : decode cX0_make 9 = .ok (.aload_n 0, 1) := by decide +kernel
theorem dX0_make_10 : decode cX0_make 10 = .ok (.getfield 25, 3) := by decide +kernel
theorem dX0_make_13 : decode cX0_make 13 = .ok (.iconst 0, 1) := by decide +kernel
theorem dX0_make_14 : decode cX0_make 14 = .ok (.invokevirtual 43, 3) := by decide +kernel
theorem dX0_make_17 : decode cX0_make 17 = .ok (.aload_n 0, 1) := by decide +kernel
theorem dX0_make_18 : decode cX0_make 18 = .ok (.getfield 31, 3) := by decide +kernel
theorem dX0_make_21 : decode cX0_make 21 = .ok (.iconst 0, 1) := by decide +kernel
theorem dX0_make_22 : decode cX0_make 22 = .ok (.invokestatic 47, 3) := by decide +kernel
theorem dX0_make_25 : decode cX0_make 25 = .ok (.aload_n 0, 1) := by decide +kernel
theorem dX0_make_26 : decode cX0_make 26 = .ok (.iconst 0, 1) := by decide +kernel
theorem dX0_make_27 : decode cX0_make 27 = .ok (.putfield 35, 3) := by decide +kernel
theorem dX0_make_30 : decode cX0_make 30 = .ok (.iconst 0, 1) := by decide +kernel
theorem dX0_make_31 : decode cX0_make 31 = .ok (.istore 5, 2) := by decide +kernel
theorem dX0_make_33 : decode cX0_make 33 = .ok (.iload 5, 2) := by decide +kernel
theorem dX0_make_35 : decode cX0_make 35 = .ok (.bipush 8, 2) := by decide +kernel
theorem dX0_make_37 : decode cX0_make 37 = .ok (.if_icmp .ge 45, 3) := by decide +kernel
theorem dX0_make_40 : decode cX0_make 40 = .ok (.iload 4, 2) := by decide +kernel
theorem dX0_make_42 : decode cX0_make 42 = .ok (.ifCond .eq 15, 3) := by decide +kernel
theorem dX0_make_45 : decode cX0_make 45 = .ok (.iload 5, 2) := by decide +kernel
theorem dX0_make_47 : decode cX0_make 47 = .ok (.iconst 2, 1) := by decide +kernel
theorem dX0_make_48 : decode cX0_make 48 = .ok (.irem, 1) := by decide +kernel
theorem dX0_make_49 : decode cX0_make 49 = .ok (.iconst 1, 1) := by decide +kernel
theorem dX0_make_50 : decode cX0_make 50 = .ok (.if_icmp .ne 7, 3) := by decide +kernel
theorem dX0_make_53 : decode cX0_make 53 = .ok (.iconst 1, 1) := by decide +kernel
theorem dX0_make_54 : decode cX0_make 54 = .ok (.goto 4, 3) := by decide +kernel
theorem dX0_make_57 : decode cX0_make 57 = .ok (.iconst 0, 1) := by decide +kernel
theorem dX0_make_58 : decode cX0_make 58 = .ok (.istore 6, 2) := by decide +kernel
theorem dX0_make_60 : decode cX0_make 60 = .ok (.aload_n 0, 1) := by decide +kernel
theorem dX0_make_61 : decode cX0_make 61 = .ok (.aload_n 1, 1) := by decide +kernel
theorem dX0_make_62 : decode cX0_make 62 = .ok (.iload 5, 2) := by decide +kernel
theorem dX0_make_64 : decode cX0_make 64 = .ok (.iload_n 3, 1) := by decide +kernel
theorem dX0_make_65 : decode cX0_make 65 = .ok (.iload 6, 2) := by decide +kernel
theorem dX0_make_67 : decode cX0_make 67 = .ok (.invokevirtual 51, 3) := by decide +kernel
theorem dX0_make_70 : decode cX0_make 70 = .ok (.aload_n 0, 1) := by decide +kernel
theorem dX0_make_71 : decode cX0_make 71 = .ok (.iload 5, 2) := by decide +kernel
theorem dX0_make_73 : decode cX0_make 73 = .ok (.invokevirtual 55, 3) := by decide +kernel
theorem dX0_make_76 : decode cX0_make 76 = .ok (.iinc 5 1, 3) := by decide +kernel
theorem dX0_make_79 : decode cX0_make 79 = .ok (.goto (-46), 3) := by decide +kernel
theorem dX0_make_82 : decode cX0_make 82 = .ok (.return_, 1) := by decide +kernel
set_option maxRecDepth 20000 in
theorem ggX0_colourCount_X2_size : GoodIn wsX0_colourCount wsX2_size := goodIn_r _ [6, 7, 14, 15, 16, 17, 18] (by decide +kernel) (by decide +kernel)
set_option maxRecDepth 20000 in
theorem gX0_colourCount_X2_size : GoodIn wsX0_colourCount (wsV RX0 58 RX2 yX2_size wsX2_size) := goodIn_app (goodIn_of _ (by decide +kernel)) ggX0_colourCount_X2_size
theorem dX0_colourCount_0 : decode cX0_colourCount 0 = .ok (.aload_n 0, 1) := by decide +kernel
theorem dX0_colourCount_1 : decode cX0_colourCount 1 = .ok (.getfield 12, 3) := by decide +kernel
theorem dX0_colourCount_4 : decode cX0_colourCount 4 = .ok (.invokevirtual 58, 3) := by decide +kernel
theorem dX0_colourCount_7 : decode cX0_colourCount 7 = .ok (.ireturn, 1) := by decide +kernel
set_option maxRecDepth 20000 in
theorem ggX0_shadeOf_X2_shadeOf : GoodIn wsX0_shadeOf wsX2_shadeOf := goodIn_r _ [6, 7, 8, 9, 10, 11, 18, 19, 20, 21, 22] (by decide +kernel) (by decide +kernel)
set_option maxRecDepth 20000 in
theorem gX0_shadeOf_X2_shadeOf : GoodIn wsX0_shadeOf (wsV RX0 62 RX2 yX2_shadeOf wsX2_shadeOf) := goodIn_app (goodIn_of _ (by decide +kernel)) ggX0_shadeOf_X2_shadeOf
theorem dX0_shadeOf_0 : decode cX0_shadeOf 0 = .ok (.aload_n 0, 1) := by decide +kernel
theorem dX0_shadeOf_1 : decode cX0_shadeOf 1 = .ok (.getfield 12, 3) := by decide +kernel
theorem dX0_shadeOf_4 : decode cX0_shadeOf 4 = .ok (.iload_n 1, 1) := by decide +kernel
theorem dX0_shadeOf_5 : decode cX0_shadeOf 5 = .ok (.invokevirtual 62, 3) := by decide +kernel
theorem dX0_shadeOf_8 : decode cX0_shadeOf 8 = .ok (.ireturn, 1) := by decide +kernel
set_option maxRecDepth 20000 in
theorem ggX0_colourAt_X1_at : GoodIn wsX0_colourAt wsX1_at := goodIn_r _ [6, 7, 8, 9, 10, 11, 12, 19] (by decide +kernel) (by decide +kernel)
set_option maxRecDepth 20000 in
theorem gX0_colourAt_X1_at : GoodIn wsX0_colourAt (wsV RX0 66 RX1 yX1_at wsX1_at) := goodIn_app (goodIn_of _ (by decide +kernel)) ggX0_colourAt_X1_at
theorem dX0_colourAt_0 : decode cX0_colourAt 0 = .ok (.aload_n 0, 1) := by decide +kernel
theorem dX0_colourAt_1 : decode cX0_colourAt 1 = .ok (.getfield 21, 3) := by decide +kernel
theorem dX0_colourAt_4 : decode cX0_colourAt 4 = .ok (.iload_n 1, 1) := by decide +kernel
theorem dX0_colourAt_5 : decode cX0_colourAt 5 = .ok (.iload_n 2, 1) := by decide +kernel
theorem dX0_colourAt_6 : decode cX0_colourAt 6 = .ok (.invokevirtual 66, 3) := by decide +kernel
theorem dX0_colourAt_9 : decode cX0_colourAt 9 = .ok (.ireturn, 1) := by decide +kernel
set_option maxRecDepth 20000 in
theorem ggX0_cellsIn_X4_numberAt : GoodIn wsX0_cellsIn wsX4_numberAt := goodIn_r _ [4] (by decide +kernel) (by decide +kernel)
set_option maxRecDepth 20000 in
theorem gX0_cellsIn_X4_numberAt_n70 : GoodIn wsX0_cellsIn (wsX4_numberAt) := ggX0_cellsIn_X4_numberAt
theorem dX0_cellsIn_0 : decode cX0_cellsIn 0 = .ok (.aload_n 0, 1) := by decide +kernel
theorem dX0_cellsIn_1 : decode cX0_cellsIn 1 = .ok (.getfield 31, 3) := by decide +kernel
theorem dX0_cellsIn_4 : decode cX0_cellsIn 4 = .ok (.iload_n 1, 1) := by decide +kernel
theorem dX0_cellsIn_5 : decode cX0_cellsIn 5 = .ok (.invokestatic 70, 3) := by decide +kernel
theorem dX0_cellsIn_8 : decode cX0_cellsIn 8 = .ok (.ireturn, 1) := by decide +kernel
theorem dX0_offInAll_0 : decode cX0_offInAll 0 = .ok (.aload_n 0, 1) := by decide +kernel
theorem dX0_offInAll_1 : decode cX0_offInAll 1 = .ok (.getfield 35, 3) := by decide +kernel
theorem dX0_offInAll_4 : decode cX0_offInAll 4 = .ok (.ireturn, 1) := by decide +kernel
set_option maxRecDepth 20000 in
theorem ggX0_runsOf_X1_at : GoodIn wsX0_runsOf wsX1_at := goodIn_r _ [6, 7, 8, 9, 10, 11, 12, 19] (by decide +kernel) (by decide +kernel)
set_option maxRecDepth 20000 in
theorem gX0_runsOf_X1_at : GoodIn wsX0_runsOf (wsV RX0 66 RX1 yX1_at wsX1_at) := goodIn_app (goodIn_of _ (by decide +kernel)) ggX0_runsOf_X1_at
theorem dX0_runsOf_0 : decode cX0_runsOf 0 = .ok (.aload_n 0, 1) := by decide +kernel
theorem dX0_runsOf_1 : decode cX0_runsOf 1 = .ok (.getfield 28, 3) := by decide +kernel
theorem dX0_runsOf_4 : decode cX0_runsOf 4 = .ok (.bipush 11, 2) := by decide +kernel
theorem dX0_runsOf_6 : decode cX0_runsOf 6 = .ok (.iload_n 1, 1) := by decide +kernel
theorem dX0_runsOf_7 : decode cX0_runsOf 7 = .ok (.invokevirtual 66, 3) := by decide +kernel
theorem dX0_runsOf_10 : decode cX0_runsOf 10 = .ok (.iconst 1, 1) := by decide +kernel
theorem dX0_runsOf_11 : decode cX0_runsOf 11 = .ok (.iadd, 1) := by decide +kernel
theorem dX0_runsOf_12 : decode cX0_runsOf 12 = .ok (.ireturn, 1) := by decide +kernel
set_option maxRecDepth 20000 in
theorem ggX0_colourOfRun_X1_at : GoodIn wsX0_colourOfRun wsX1_at := goodIn_r _ [7, 8, 9, 10, 11, 12, 13, 20] (by decide +kernel) (by decide +kernel)
set_option maxRecDepth 20000 in
theorem gX0_colourOfRun_X1_at : GoodIn wsX0_colourOfRun (wsV RX0 66 RX1 yX1_at wsX1_at) := goodIn_app (goodIn_of _ (by decide +kernel)) ggX0_colourOfRun_X1_at
theorem dX0_colourOfRun_0 : decode cX0_colourOfRun 0 = .ok (.iconst 0, 1) := by decide +kernel
theorem dX0_colourOfRun_1 : decode cX0_colourOfRun 1 = .ok (.istore_n 3, 1) := by decide +kernel
theorem dX0_colourOfRun_2 : decode cX0_colourOfRun 2 = .ok (.iload_n 3, 1) := by decide +kernel
theorem dX0_colourOfRun_3 : decode cX0_colourOfRun 3 = .ok (.bipush 12, 2) := by decide +kernel
theorem dX0_colourOfRun_5 : decode cX0_colourOfRun 5 = .ok (.if_icmp .ge 32, 3) := by decide +kernel
theorem dX0_colourOfRun_8 : decode cX0_colourOfRun 8 = .ok (.aload_n 0, 1) := by decide +kernel
theorem dX0_colourOfRun_9 : decode cX0_colourOfRun 9 = .ok (.getfield 28, 3) := by decide +kernel
theorem dX0_colourOfRun_12 : decode cX0_colourOfRun 12 = .ok (.iload_n 3, 1) := by decide +kernel
theorem dX0_colourOfRun_13 : decode cX0_colourOfRun 13 = .ok (.iload_n 1, 1) := by decide +kernel
theorem dX0_colourOfRun_14 : decode cX0_colourOfRun 14 = .ok (.invokevirtual 66, 3) := by decide +kernel
theorem dX0_colourOfRun_17 : decode cX0_colourOfRun 17 = .ok (.iload_n 2, 1) := by decide +kernel
theorem dX0_colourOfRun_18 : decode cX0_colourOfRun 18 = .ok (.if_icmp .ne 13, 3) := by decide +kernel
theorem dX0_colourOfRun_21 : decode cX0_colourOfRun 21 = .ok (.aload_n 0, 1) := by decide +kernel
theorem dX0_colourOfRun_22 : decode cX0_colourOfRun 22 = .ok (.getfield 21, 3) := by decide +kernel
theorem dX0_colourOfRun_25 : decode cX0_colourOfRun 25 = .ok (.iload_n 3, 1) := by decide +kernel
theorem dX0_colourOfRun_26 : decode cX0_colourOfRun 26 = .ok (.iload_n 1, 1) := by decide +kernel
theorem dX0_colourOfRun_27 : decode cX0_colourOfRun 27 = .ok (.invokevirtual 66, 3) := by decide +kernel
theorem dX0_colourOfRun_30 : decode cX0_colourOfRun 30 = .ok (.ireturn, 1) := by decide +kernel
theorem dX0_colourOfRun_31 : decode cX0_colourOfRun 31 = .ok (.iinc 3 1, 3) := by decide +kernel
theorem dX0_colourOfRun_34 : decode cX0_colourOfRun 34 = .ok (.goto (-32), 3) := by decide +kernel
theorem dX0_colourOfRun_37 : decode cX0_colourOfRun 37 = .ok (.iconst (-1), 1) := by decide +kernel
theorem dX0_colourOfRun_38 : decode cX0_colourOfRun 38 = .ok (.ireturn, 1) := by decide +kernel
set_option maxRecDepth 20000 in
theorem ggX0_lengthOfRun_X1_at : GoodIn wsX0_lengthOfRun wsX1_at := goodIn_r _ [6, 7, 8, 9, 10, 11, 12, 19] (by decide +kernel) (by decide +kernel)
set_option maxRecDepth 20000 in
theorem gX0_lengthOfRun_X1_at : GoodIn wsX0_lengthOfRun (wsV RX0 66 RX1 yX1_at wsX1_at) := goodIn_app (goodIn_of _ (by decide +kernel)) ggX0_lengthOfRun_X1_at
theorem dX0_lengthOfRun_0 : decode cX0_lengthOfRun 0 = .ok (.iconst 0, 1) := by decide +kernel
theorem dX0_lengthOfRun_1 : decode cX0_lengthOfRun 1 = .ok (.istore_n 3, 1) := by decide +kernel
theorem dX0_lengthOfRun_2 : decode cX0_lengthOfRun 2 = .ok (.iconst 0, 1) := by decide +kernel
theorem dX0_lengthOfRun_3 : decode cX0_lengthOfRun 3 = .ok (.istore 4, 2) := by decide +kernel
theorem dX0_lengthOfRun_5 : decode cX0_lengthOfRun 5 = .ok (.iload 4, 2) := by decide +kernel
theorem dX0_lengthOfRun_7 : decode cX0_lengthOfRun 7 = .ok (.bipush 12, 2) := by decide +kernel
theorem dX0_lengthOfRun_9 : decode cX0_lengthOfRun 9 = .ok (.if_icmp .ge 26, 3) := by decide +kernel
theorem dX0_lengthOfRun_12 : decode cX0_lengthOfRun 12 = .ok (.aload_n 0, 1) := by decide +kernel
theorem dX0_lengthOfRun_13 : decode cX0_lengthOfRun 13 = .ok (.getfield 28, 3) := by decide +kernel
theorem dX0_lengthOfRun_16 : decode cX0_lengthOfRun 16 = .ok (.iload 4, 2) := by decide +kernel
theorem dX0_lengthOfRun_18 : decode cX0_lengthOfRun 18 = .ok (.iload_n 1, 1) := by decide +kernel
theorem dX0_lengthOfRun_19 : decode cX0_lengthOfRun 19 = .ok (.invokevirtual 66, 3) := by decide +kernel
theorem dX0_lengthOfRun_22 : decode cX0_lengthOfRun 22 = .ok (.iload_n 2, 1) := by decide +kernel
theorem dX0_lengthOfRun_23 : decode cX0_lengthOfRun 23 = .ok (.if_icmp .ne 6, 3) := by decide +kernel
theorem dX0_lengthOfRun_26 : decode cX0_lengthOfRun 26 = .ok (.iinc 3 1, 3) := by decide +kernel
theorem dX0_lengthOfRun_29 : decode cX0_lengthOfRun 29 = .ok (.iinc 4 1, 3) := by decide +kernel
theorem dX0_lengthOfRun_32 : decode cX0_lengthOfRun 32 = .ok (.goto (-27), 3) := by decide +kernel
theorem dX0_lengthOfRun_35 : decode cX0_lengthOfRun 35 = .ok (.iload_n 3, 1) := by decide +kernel
theorem dX0_lengthOfRun_36 : decode cX0_lengthOfRun 36 = .ok (.ireturn, 1) := by decide +kernel
set_option maxRecDepth 20000 in
theorem ggX0_knotsOf_X0_isAsAbove : GoodIn wsX0_knotsOf wsX0_isAsAbove := goodIn_r _ [5, 6, 7, 8, 9, 10, 11, 12, 13, 14, 15, 16, 17, 23, 24, 25, 26, 27, 28, 29] (by decide +kernel) (by decide +kernel)
set_option maxRecDepth 20000 in
theorem gX0_knotsOf_X0_isAsAbove : GoodIn wsX0_knotsOf (wsV RX0 74 RX0 yX0_isAsAbove wsX0_isAsAbove) := goodIn_app (goodIn_of _ (by decide +kernel)) ggX0_knotsOf_X0_isAsAbove
set_option maxRecDepth 20000 in
theorem ggX0_knotsOf_X0_runsOf : GoodIn wsX0_knotsOf wsX0_runsOf := goodIn_r _ [21, 22, 7, 8, 9, 10, 11, 12, 13, 14, 15, 16, 17, 23, 24, 25, 26, 27, 28, 29] (by decide +kernel) (by decide +kernel)
set_option maxRecDepth 20000 in
theorem gX0_knotsOf_X0_runsOf : GoodIn wsX0_knotsOf (wsV RX0 78 RX0 yX0_runsOf wsX0_runsOf) := goodIn_app (goodIn_of _ (by decide +kernel)) ggX0_knotsOf_X0_runsOf
theorem dX0_knotsOf_0 : decode cX0_knotsOf 0 = .ok (.iload_n 2, 1) := by decide +kernel
theorem dX0_knotsOf_1 : decode cX0_knotsOf 1 = .ok (.ifCond .eq 15, 3) := by decide +kernel
theorem dX0_knotsOf_4 : decode cX0_knotsOf 4 = .ok (.aload_n 0, 1) := by decide +kernel
theorem dX0_knotsOf_5 : decode cX0_knotsOf 5 = .ok (.iload_n 1, 1) := by decide +kernel
theorem dX0_knotsOf_6 : decode cX0_knotsOf 6 = .ok (.invokevirtual 74, 3) := by decide +kernel
theorem dX0_knotsOf_9 : decode cX0_knotsOf 9 = .ok (.ifCond .eq 7, 3) := by decide +kernel
theorem dX0_knotsOf_12 : decode cX0_knotsOf 12 = .ok (.iconst 1, 1) := by decide +kernel
theorem dX0_knotsOf_13 : decode cX0_knotsOf 13 = .ok (.goto 8, 3) := by decide +kernel
theorem dX0_knotsOf_16 : decode cX0_knotsOf 16 = .ok (.aload_n 0, 1) := by decide +kernel
theorem dX0_knotsOf_17 : decode cX0_knotsOf 17 = .ok (.iload_n 1, 1) := by decide +kernel
theorem dX0_knotsOf_18 : decode cX0_knotsOf 18 = .ok (.invokevirtual 78, 3) := by decide +kernel
theorem dX0_knotsOf_21 : decode cX0_knotsOf 21 = .ok (.ireturn, 1) := by decide +kernel
set_option maxRecDepth 20000 in
theorem ggX0_allKnots_X0_knotsOf : GoodIn wsX0_allKnots wsX0_knotsOf := goodIn_r _ [5, 6, 7, 8, 4, 9, 10, 11, 12, 13, 14, 15, 16, 17, 18, 19, 20, 21, 22, 23, 24, 25, 26, 27, 28, 29, 30, 31, 32, 33] (by decide +kernel) (by decide +kernel)
set_option maxRecDepth 20000 in
theorem gX0_allKnots_X0_knotsOf : GoodIn wsX0_allKnots (wsV RX0 81 RX0 yX0_knotsOf wsX0_knotsOf) := goodIn_app (goodIn_of _ (by decide +kernel)) ggX0_allKnots_X0_knotsOf
theorem dX0_allKnots_0 : decode cX0_allKnots 0 = .ok (.iconst 0, 1) := by decide +kernel
theorem dX0_allKnots_1 : decode cX0_allKnots 1 = .ok (.istore_n 2, 1) := by decide +kernel
theorem dX0_allKnots_2 : decode cX0_allKnots 2 = .ok (.iconst 0, 1) := by decide +kernel
theorem dX0_allKnots_3 : decode cX0_allKnots 3 = .ok (.istore_n 3, 1) := by decide +kernel
theorem dX0_allKnots_4 : decode cX0_allKnots 4 = .ok (.iload_n 3, 1) := by decide +kernel
theorem dX0_allKnots_5 : decode cX0_allKnots 5 = .ok (.bipush 8, 2) := by decide +kernel
theorem dX0_allKnots_7 : decode cX0_allKnots 7 = .ok (.if_icmp .ge 18, 3) := by decide +kernel
theorem dX0_allKnots_10 : decode cX0_allKnots 10 = .ok (.iload_n 2, 1) := by decide +kernel
theorem dX0_allKnots_11 : decode cX0_allKnots 11 = .ok (.aload_n 0, 1) := by decide +kernel
theorem dX0_allKnots_12 : decode cX0_allKnots 12 = .ok (.iload_n 3, 1) := by decide +kernel
theorem dX0_allKnots_13 : decode cX0_allKnots 13 = .ok (.iload_n 1, 1) := by decide +kernel
theorem dX0_allKnots_14 : decode cX0_allKnots 14 = .ok (.invokevirtual 81, 3) := by decide +kernel
theorem dX0_allKnots_17 : decode cX0_allKnots 17 = .ok (.iadd, 1) := by decide +kernel
theorem dX0_allKnots_18 : decode cX0_allKnots 18 = .ok (.istore_n 2, 1) := by decide +kernel
theorem dX0_allKnots_19 : decode cX0_allKnots 19 = .ok (.iinc 3 1, 3) := by decide +kernel
theorem dX0_allKnots_22 : decode cX0_allKnots 22 = .ok (.goto (-18), 3) := by decide +kernel
theorem dX0_allKnots_25 : decode cX0_allKnots 25 = .ok (.iload_n 2, 1) := by decide +kernel
theorem dX0_allKnots_26 : decode cX0_allKnots 26 = .ok (.ireturn, 1) := by decide +kernel
set_option maxRecDepth 20000 in
theorem ggX0_digestFrom_X2_digestFrom : GoodIn wsX0_digestFrom wsX2_digestFrom := goodIn_r _ [7, 8, 9, 10, 11, 12, 13, 14, 15, 16, 29, 30, 31, 32, 33] (by decide +kernel) (by decide +kernel)
set_option maxRecDepth 20000 in
theorem gX0_digestFrom_X2_digestFrom : GoodIn wsX0_digestFrom (wsV RX0 85 RX2 yX2_digestFrom wsX2_digestFrom) := goodIn_app (goodIn_of _ (by decide +kernel)) ggX0_digestFrom_X2_digestFrom
set_option maxRecDepth 20000 in
theorem ggX0_digestFrom_X1_digestFrom : GoodIn wsX0_digestFrom wsX1_digestFrom := goodIn_r _ [21, 22, 10, 11, 12, 13, 14, 15, 16, 34] (by decide +kernel) (by decide +kernel)
set_option maxRecDepth 20000 in
theorem gX0_digestFrom_X1_digestFrom : GoodIn wsX0_digestFrom (wsV RX0 89 RX1 yX1_digestFrom wsX1_digestFrom) := goodIn_app (goodIn_of _ (by decide +kernel)) ggX0_digestFrom_X1_digestFrom
theorem dX0_digestFrom_0 : decode cX0_digestFrom 0 = .ok (.aload_n 0, 1) := by decide +kernel
theorem dX0_digestFrom_1 : decode cX0_digestFrom 1 = .ok (.getfield 21, 3) := by decide +kernel
theorem dX0_digestFrom_4 : decode cX0_digestFrom 4 = .ok (.aload_n 0, 1) := by decide +kernel
theorem dX0_digestFrom_5 : decode cX0_digestFrom 5 = .ok (.getfield 12, 3) := by decide +kernel
theorem dX0_digestFrom_8 : decode cX0_digestFrom 8 = .ok (.lload_n 1, 1) := by decide +kernel
theorem dX0_digestFrom_9 : decode cX0_digestFrom 9 = .ok (.invokevirtual 85, 3) := by decide +kernel
theorem dX0_digestFrom_12 : decode cX0_digestFrom 12 = .ok (.invokevirtual 89, 3) := by decide +kernel
theorem dX0_digestFrom_15 : decode cX0_digestFrom 15 = .ok (.lreturn, 1) := by decide +kernel
set_option maxRecDepth 20000 in
theorem ggX0_makeRow_X1_at : GoodIn wsX0_makeRow wsX1_at := goodIn_r _ [14, 15, 16, 17, 18, 19, 20, 61] (by decide +kernel) (by decide +kernel)
set_option maxRecDepth 20000 in
theorem gX0_makeRow_X1_at : GoodIn wsX0_makeRow (wsV RX0 66 RX1 yX1_at wsX1_at) := goodIn_app (goodIn_of _ (by decide +kernel)) ggX0_makeRow_X1_at
set_option maxRecDepth 20000 in
theorem ggX0_makeRow_X2_nearestTo : GoodIn wsX0_makeRow wsX2_nearestTo := goodIn_r _ [25, 26, 27, 28, 29, 24, 30, 31, 7, 8, 9, 32, 33, 34, 35, 36, 19, 17, 20, 62, 63, 64, 65, 66] (by decide +kernel) (by decide +kernel)
set_option maxRecDepth 20000 in
theorem gX0_makeRow_X2_nearestTo : GoodIn wsX0_makeRow (wsV RX0 90 RX2 yX2_nearestTo wsX2_nearestTo) := goodIn_app (goodIn_of _ (by decide +kernel)) ggX0_makeRow_X2_nearestTo
set_option maxRecDepth 20000 in
theorem ggX0_makeRow_X2_shadeOf : GoodIn wsX0_makeRow wsX2_shadeOf := goodIn_r _ [35, 26, 36, 19, 17, 20, 62, 63, 64, 65, 66] (by decide +kernel) (by decide +kernel)
set_option maxRecDepth 20000 in
theorem gX0_makeRow_X2_shadeOf : GoodIn wsX0_makeRow (wsV RX0 62 RX2 yX2_shadeOf wsX2_shadeOf) := goodIn_app (goodIn_of _ (by decide +kernel)) ggX0_makeRow_X2_shadeOf
set_option maxRecDepth 20000 in
theorem ggX0_makeRow_X1_put : GoodIn wsX0_makeRow wsX1_put := goodIn_r _ [41, 15, 16, 17, 18, 42, 43, 61] (by decide +kernel) (by decide +kernel)
set_option maxRecDepth 20000 in
theorem gX0_makeRow_X1_put : GoodIn wsX0_makeRow (wsV RX0 93 RX1 yX1_put wsX1_put) := goodIn_app (goodIn_of _ (by decide +kernel)) ggX0_makeRow_X1_put
set_option maxRecDepth 20000 in
theorem ggX0_makeRow_X4_numberAt : GoodIn wsX0_makeRow wsX4_numberAt := goodIn_r _ [20] (by decide +kernel) (by decide +kernel)
set_option maxRecDepth 20000 in
theorem gX0_makeRow_X4_numberAt_n70 : GoodIn wsX0_makeRow (wsX4_numberAt) := ggX0_makeRow_X4_numberAt
set_option maxRecDepth 20000 in
theorem ggX0_makeRow_X4_putNumber : GoodIn wsX0_makeRow wsX4_putNumber := goodIn_r _ [43] (by decide +kernel) (by decide +kernel)
set_option maxRecDepth 20000 in
theorem gX0_makeRow_X4_putNumber_n97 : GoodIn wsX0_makeRow (wsX4_putNumber) := ggX0_makeRow_X4_putNumber
set_option maxRecDepth 20000 in
theorem ggX0_makeRow_X0_carryOn : GoodIn wsX0_makeRow wsX0_carryOn := goodIn_r _ [48, 1, 49, 50, 51, 13, 52, 53, 11, 12, 14, 15, 16, 17, 18, 19, 20, 54, 39, 40, 41, 42, 43, 55, 56, 57, 58, 59, 60, 61] (by decide +kernel) (by decide +kernel)
set_option maxRecDepth 20000 in
theorem gX0_makeRow_X0_carryOn : GoodIn wsX0_makeRow (wsV RX0 106 RX0 yX0_carryOn wsX0_carryOn) := goodIn_app (goodIn_of _ (by decide +kernel)) ggX0_makeRow_X0_carryOn
theorem dX0_makeRow_0 : decode cX0_makeRow 0 = .ok (.iload 4, 2) := by decide +kernel
theorem dX0_makeRow_2 : decode cX0_makeRow 2 = .ok (.ifCond .eq 7, 3) := by decide +kernel
theorem dX0_makeRow_5 : decode cX0_makeRow 5 = .ok (.iconst (-1), 1) := by decide +kernel
theorem dX0_makeRow_6 : decode cX0_makeRow 6 = .ok (.goto 4, 3) := by decide +kernel
theorem dX0_makeRow_9 : decode cX0_makeRow 9 = .ok (.iconst 1, 1) := by decide +kernel
theorem dX0_makeRow_10 : decode cX0_makeRow 10 = .ok (.istore 5, 2) := by decide +kernel
theorem dX0_makeRow_12 : decode cX0_makeRow 12 = .ok (.iconst 0, 1) := by decide +kernel
theorem dX0_makeRow_13 : decode cX0_makeRow 13 = .ok (.istore 6, 2) := by decide +kernel
theorem dX0_makeRow_15 : decode cX0_makeRow 15 = .ok (.iload 6, 2) := by decide +kernel
theorem dX0_makeRow_17 : decode cX0_makeRow 17 = .ok (.bipush 12, 2) := by decide +kernel
theorem dX0_makeRow_19 : decode cX0_makeRow 19 = .ok (.if_icmp .ge 137, 3) := by decide +kernel
theorem dX0_makeRow_22 : decode cX0_makeRow 22 = .ok (.iload 4, 2) := by decide +kernel
theorem dX0_makeRow_24 : decode cX0_makeRow 24 = .ok (.ifCond .eq 11, 3) := by decide +kernel
theorem dX0_makeRow_27 : decode cX0_makeRow 27 = .ok (.bipush 11, 2) := by decide +kernel
theorem dX0_makeRow_29 : decode cX0_makeRow 29 = .ok (.iload 6, 2) := by decide +kernel
theorem dX0_makeRow_31 : decode cX0_makeRow 31 = .ok (.isub, 1) := by decide +kernel
theorem dX0_makeRow_32 : decode cX0_makeRow 32 = .ok (.goto 5, 3) := by decide +kernel
theorem dX0_makeRow_35 : decode cX0_makeRow 35 = .ok (.iload 6, 2) := by decide +kernel
theorem dX0_makeRow_37 : decode cX0_makeRow 37 = .ok (.istore 7, 2) := by decide +kernel
theorem dX0_makeRow_39 : decode cX0_makeRow 39 = .ok (.aload_n 1, 1) := by decide +kernel
theorem dX0_makeRow_40 : decode cX0_makeRow 40 = .ok (.iload 7, 2) := by decide +kernel
theorem dX0_makeRow_42 : decode cX0_makeRow 42 = .ok (.iload_n 2, 1) := by decide +kernel
theorem dX0_makeRow_43 : decode cX0_makeRow 43 = .ok (.invokevirtual 66, 3) := by decide +kernel
theorem dX0_makeRow_46 : decode cX0_makeRow 46 = .ok (.aload_n 0, 1) := by decide +kernel
theorem dX0_makeRow_47 : decode cX0_makeRow 47 = .ok (.getfield 25, 3) := by decide +kernel
theorem dX0_makeRow_50 : decode cX0_makeRow 50 = .ok (.iload 7, 2) := by decide +kernel
theorem dX0_makeRow_52 : decode cX0_makeRow 52 = .ok (.iload_n 2, 1) := by decide +kernel
theorem dX0_makeRow_53 : decode cX0_makeRow 53 = .ok (.invokevirtual 66, 3) := by decide +kernel
theorem dX0_makeRow_56 : decode cX0_makeRow 56 = .ok (.iadd, 1) := by decide +kernel
theorem dX0_makeRow_57 : decode cX0_makeRow 57 = .ok (.istore 8, 2) := by decide +kernel
theorem dX0_makeRow_59 : decode cX0_makeRow 59 = .ok (.aload_n 0, 1) := by decide +kernel
theorem dX0_makeRow_60 : decode cX0_makeRow 60 = .ok (.getfield 12, 3) := by decide +kernel
theorem dX0_makeRow_63 : decode cX0_makeRow 63 = .ok (.iload 8, 2) := by decide +kernel
theorem dX0_makeRow_65 : decode cX0_makeRow 65 = .ok (.invokevirtual 90, 3) := by decide +kernel
theorem dX0_makeRow_68 : decode cX0_makeRow 68 = .ok (.istore 9, 2) := by decide +kernel
theorem dX0_makeRow_70 : decode cX0_makeRow 70 = .ok (.aload_n 0, 1) := by decide +kernel
theorem dX0_makeRow_71 : decode cX0_makeRow 71 = .ok (.getfield 12, 3) := by decide +kernel
theorem dX0_makeRow_74 : decode cX0_makeRow 74 = .ok (.iload 9, 2) := by decide +kernel
theorem dX0_makeRow_76 : decode cX0_makeRow 76 = .ok (.invokevirtual 62, 3) := by decide +kernel
theorem dX0_makeRow_79 : decode cX0_makeRow 79 = .ok (.istore 10, 2) := by decide +kernel
theorem dX0_makeRow_81 : decode cX0_makeRow 81 = .ok (.aload_n 0, 1) := by decide +kernel
theorem dX0_makeRow_82 : decode cX0_makeRow 82 = .ok (.getfield 21, 3) := by decide +kernel
theorem dX0_makeRow_85 : decode cX0_makeRow 85 = .ok (.iload 7, 2) := by decide +kernel
theorem dX0_makeRow_87 : decode cX0_makeRow 87 = .ok (.iload_n 2, 1) := by decide +kernel
theorem dX0_makeRow_88 : decode cX0_makeRow 88 = .ok (.iload 9, 2) := by decide +kernel
theorem dX0_makeRow_90 : decode cX0_makeRow 90 = .ok (.invokevirtual 93, 3) := by decide +kernel
theorem dX0_makeRow_93 : decode cX0_makeRow 93 = .ok (.aload_n 0, 1) := by decide +kernel
theorem dX0_makeRow_94 : decode cX0_makeRow 94 = .ok (.getfield 31, 3) := by decide +kernel
theorem dX0_makeRow_97 : decode cX0_makeRow 97 = .ok (.iload 9, 2) := by decide +kernel
theorem dX0_makeRow_99 : decode cX0_makeRow 99 = .ok (.aload_n 0, 1) := by decide +kernel
theorem dX0_makeRow_100 : decode cX0_makeRow 100 = .ok (.getfield 31, 3) := by decide +kernel
theorem dX0_makeRow_103 : decode cX0_makeRow 103 = .ok (.iload 9, 2) := by decide +kernel
theorem dX0_makeRow_105 : decode cX0_makeRow 105 = .ok (.invokestatic 70, 3) := by decide +kernel
theorem dX0_makeRow_108 : decode cX0_makeRow 108 = .ok (.iconst 1, 1) := by decide +kernel
theorem dX0_makeRow_109 : decode cX0_makeRow 109 = .ok (.iadd, 1) := by decide +kernel
theorem dX0_makeRow_110 : decode cX0_makeRow 110 = .ok (.invokestatic 97, 3) := by decide +kernel
theorem dX0_makeRow_113 : decode cX0_makeRow 113 = .ok (.aload_n 0, 1) := by decide +kernel
theorem dX0_makeRow_114 : decode cX0_makeRow 114 = .ok (.dup, 1) := by decide +kernel
theorem dX0_makeRow_115 : decode cX0_makeRow 115 = .ok (.getfield 35, 3) := by decide +kernel
theorem dX0_makeRow_118 : decode cX0_makeRow 118 = .ok (.iload 10, 2) := by decide +kernel
theorem dX0_makeRow_120 : decode cX0_makeRow 120 = .ok (.aload_n 1, 1) := by decide +kernel
theorem dX0_makeRow_121 : decode cX0_makeRow 121 = .ok (.iload 7, 2) := by decide +kernel
theorem dX0_makeRow_123 : decode cX0_makeRow 123 = .ok (.iload_n 2, 1) := by decide +kernel
theorem dX0_makeRow_124 : decode cX0_makeRow 124 = .ok (.invokevirtual 66, 3) := by decide +kernel
theorem dX0_makeRow_127 : decode cX0_makeRow 127 = .ok (.isub, 1) := by decide +kernel
theorem dX0_makeRow_128 : decode cX0_makeRow 128 = .ok (.invokestatic 101, 3) := by decide +kernel
theorem dX0_makeRow_131 : decode cX0_makeRow 131 = .ok (.iadd, 1) := by decide +kernel
theorem dX0_makeRow_132 : decode cX0_makeRow 132 = .ok (.putfield 35, 3) := by decide +kernel
theorem dX0_makeRow_135 : decode cX0_makeRow 135 = .ok (.aload_n 0, 1) := by decide +kernel
theorem dX0_makeRow_136 : decode cX0_makeRow 136 = .ok (.iload 8, 2) := by decide +kernel
theorem dX0_makeRow_138 : decode cX0_makeRow 138 = .ok (.iload 10, 2) := by decide +kernel
theorem dX0_makeRow_140 : decode cX0_makeRow 140 = .ok (.isub, 1) := by decide +kernel
theorem dX0_makeRow_141 : decode cX0_makeRow 141 = .ok (.iload 7, 2) := by decide +kernel
theorem dX0_makeRow_143 : decode cX0_makeRow 143 = .ok (.iload_n 2, 1) := by decide +kernel
theorem dX0_makeRow_144 : decode cX0_makeRow 144 = .ok (.iload 5, 2) := by decide +kernel
theorem dX0_makeRow_146 : decode cX0_makeRow 146 = .ok (.iload_n 3, 1) := by decide +kernel
theorem dX0_makeRow_147 : decode cX0_makeRow 147 = .ok (.invokevirtual 106, 3) := by decide +kernel
theorem dX0_makeRow_150 : decode cX0_makeRow 150 = .ok (.iinc 6 1, 3) := by decide +kernel
theorem dX0_makeRow_153 : decode cX0_makeRow 153 = .ok (.goto (-138), 3) := by decide +kernel
theorem dX0_makeRow_156 : decode cX0_makeRow 156 = .ok (.return_, 1) := by decide +kernel
set_option maxRecDepth 20000 in
theorem ggX0_carryOn_X1_add : GoodIn wsX0_carryOn wsX1_add := goodIn_r _ [6, 7, 8, 9, 5, 10, 11, 12, 13, 14, 15, 16, 17, 18, 19, 20, 21, 22, 29] (by decide +kernel) (by decide +kernel)
set_option maxRecDepth 20000 in
theorem gX0_carryOn_X1_add : GoodIn wsX0_carryOn (wsV RX0 110 RX1 yX1_add wsX1_add) := goodIn_app (goodIn_of _ (by decide +kernel)) ggX0_carryOn_X1_add
theorem dX0_carryOn_0 : decode cX0_carryOn 0 = .ok (.iload 5, 2) := by decide +kernel
theorem dX0_carryOn_2 : decode cX0_carryOn 2 = .ok (.iconst 1, 1) := by decide +kernel
theorem dX0_carryOn_3 : decode cX0_carryOn 3 = .ok (.if_icmp .ne 16, 3) := by decide +kernel
theorem dX0_carryOn_6 : decode cX0_carryOn 6 = .ok (.aload_n 0, 1) := by decide +kernel
theorem dX0_carryOn_7 : decode cX0_carryOn 7 = .ok (.getfield 25, 3) := by decide +kernel
theorem dX0_carryOn_10 : decode cX0_carryOn 10 = .ok (.iload_n 2, 1) := by decide +kernel
theorem dX0_carryOn_11 : decode cX0_carryOn 11 = .ok (.iload 4, 2) := by decide +kernel
theorem dX0_carryOn_13 : decode cX0_carryOn 13 = .ok (.iadd, 1) := by decide +kernel
theorem dX0_carryOn_14 : decode cX0_carryOn 14 = .ok (.iload_n 3, 1) := by decide +kernel
theorem dX0_carryOn_15 : decode cX0_carryOn 15 = .ok (.iload_n 1, 1) := by decide +kernel
theorem dX0_carryOn_16 : decode cX0_carryOn 16 = .ok (.invokevirtual 110, 3) := by decide +kernel
theorem dX0_carryOn_19 : decode cX0_carryOn 19 = .ok (.iload 5, 2) := by decide +kernel
theorem dX0_carryOn_21 : decode cX0_carryOn 21 = .ok (.iconst 2, 1) := by decide +kernel
theorem dX0_carryOn_22 : decode cX0_carryOn 22 = .ok (.if_icmp .ne 95, 3) := by decide +kernel
theorem dX0_carryOn_25 : decode cX0_carryOn 25 = .ok (.iload_n 1, 1) := by decide +kernel
theorem dX0_carryOn_26 : decode cX0_carryOn 26 = .ok (.bipush 7, 2) := by decide +kernel
theorem dX0_carryOn_28 : decode cX0_carryOn 28 = .ok (.imul, 1) := by decide +kernel
theorem dX0_carryOn_29 : decode cX0_carryOn 29 = .ok (.bipush 16, 2) := by decide +kernel
theorem dX0_carryOn_31 : decode cX0_carryOn 31 = .ok (.idiv, 1) := by decide +kernel
theorem dX0_carryOn_32 : decode cX0_carryOn 32 = .ok (.istore 6, 2) := by decide +kernel
theorem dX0_carryOn_34 : decode cX0_carryOn 34 = .ok (.iload_n 1, 1) := by decide +kernel
theorem dX0_carryOn_35 : decode cX0_carryOn 35 = .ok (.iconst 3, 1) := by decide +kernel
theorem dX0_carryOn_36 : decode cX0_carryOn 36 = .ok (.imul, 1) := by decide +kernel
theorem dX0_carryOn_37 : decode cX0_carryOn 37 = .ok (.bipush 16, 2) := by decide +kernel
theorem dX0_carryOn_39 : decode cX0_carryOn 39 = .ok (.idiv, 1) := by decide +kernel
theorem dX0_carryOn_40 : decode cX0_carryOn 40 = .ok (.istore 7, 2) := by decide +kernel
theorem dX0_carryOn_42 : decode cX0_carryOn 42 = .ok (.iload_n 1, 1) := by decide +kernel
theorem dX0_carryOn_43 : decode cX0_carryOn 43 = .ok (.iconst 5, 1) := by decide +kernel
theorem dX0_carryOn_44 : decode cX0_carryOn 44 = .ok (.imul, 1) := by decide +kernel
theorem dX0_carryOn_45 : decode cX0_carryOn 45 = .ok (.bipush 16, 2) := by decide +kernel
theorem dX0_carryOn_47 : decode cX0_carryOn 47 = .ok (.idiv, 1) := by decide +kernel
theorem dX0_carryOn_48 : decode cX0_carryOn 48 = .ok (.istore 8, 2) := by decide +kernel
theorem dX0_carryOn_50 : decode cX0_carryOn 50 = .ok (.aload_n 0, 1) := by decide +kernel
theorem dX0_carryOn_51 : decode cX0_carryOn 51 = .ok (.getfield 25, 3) := by decide +kernel
theorem dX0_carryOn_54 : decode cX0_carryOn 54 = .ok (.iload_n 2, 1) := by decide +kernel
theorem dX0_carryOn_55 : decode cX0_carryOn 55 = .ok (.iload 4, 2) := by decide +kernel
theorem dX0_carryOn_57 : decode cX0_carryOn 57 = .ok (.iadd, 1) := by decide +kernel
theorem dX0_carryOn_58 : decode cX0_carryOn 58 = .ok (.iload_n 3, 1) := by decide +kernel
theorem dX0_carryOn_59 : decode cX0_carryOn 59 = .ok (.iload 6, 2) := by decide +kernel
theorem dX0_carryOn_61 : decode cX0_carryOn 61 = .ok (.invokevirtual 110, 3) := by decide +kernel
theorem dX0_carryOn_64 : decode cX0_carryOn 64 = .ok (.aload_n 0, 1) := by decide +kernel
theorem dX0_carryOn_65 : decode cX0_carryOn 65 = .ok (.getfield 25, 3) := by decide +kernel
theorem dX0_carryOn_68 : decode cX0_carryOn 68 = .ok (.iload_n 2, 1) := by decide +kernel
theorem dX0_carryOn_69 : decode cX0_carryOn 69 = .ok (.iload 4, 2) := by decide +kernel
theorem dX0_carryOn_71 : decode cX0_carryOn 71 = .ok (.isub, 1) := by decide +kernel
theorem dX0_carryOn_72 : decode cX0_carryOn 72 = .ok (.iload_n 3, 1) := by decide +kernel
theorem dX0_carryOn_73 : decode cX0_carryOn 73 = .ok (.iconst 1, 1) := by decide +kernel
theorem dX0_carryOn_74 : decode cX0_carryOn 74 = .ok (.iadd, 1) := by decide +kernel
theorem dX0_carryOn_75 : decode cX0_carryOn 75 = .ok (.iload 7, 2) := by decide +kernel
theorem dX0_carryOn_77 : decode cX0_carryOn 77 = .ok (.invokevirtual 110, 3) := by decide +kernel
theorem dX0_carryOn_80 : decode cX0_carryOn 80 = .ok (.aload_n 0, 1) := by decide +kernel
theorem dX0_carryOn_81 : decode cX0_carryOn 81 = .ok (.getfield 25, 3) := by decide +kernel
theorem dX0_carryOn_84 : decode cX0_carryOn 84 = .ok (.iload_n 2, 1) := by decide +kernel
theorem dX0_carryOn_85 : decode cX0_carryOn 85 = .ok (.iload_n 3, 1) := by decide +kernel
theorem dX0_carryOn_86 : decode cX0_carryOn 86 = .ok (.iconst 1, 1) := by decide +kernel
theorem dX0_carryOn_87 : decode cX0_carryOn 87 = .ok (.iadd, 1) := by decide +kernel
theorem dX0_carryOn_88 : decode cX0_carryOn 88 = .ok (.iload 8, 2) := by decide +kernel
theorem dX0_carryOn_90 : decode cX0_carryOn 90 = .ok (.invokevirtual 110, 3) := by decide +kernel
theorem dX0_carryOn_93 : decode cX0_carryOn 93 = .ok (.aload_n 0, 1) := by decide +kernel
theorem dX0_carryOn_94 : decode cX0_carryOn 94 = .ok (.getfield 25, 3) := by decide +kernel
theorem dX0_carryOn_97 : decode cX0_carryOn 97 = .ok (.iload_n 2, 1) := by decide +kernel
theorem dX0_carryOn_98 : decode cX0_carryOn 98 = .ok (.iload 4, 2) := by decide +kernel
theorem dX0_carryOn_100 : decode cX0_carryOn 100 = .ok (.iadd, 1) := by decide +kernel
theorem dX0_carryOn_101 : decode cX0_carryOn 101 = .ok (.iload_n 3, 1) := by decide +kernel
theorem dX0_carryOn_102 : decode cX0_carryOn 102 = .ok (.iconst 1, 1) := by decide +kernel
theorem dX0_carryOn_103 : decode cX0_carryOn 103 = .ok (.iadd, 1) := by decide +kernel
theorem dX0_carryOn_104 : decode cX0_carryOn 104 = .ok (.iload_n 1, 1) := by decide +kernel
theorem dX0_carryOn_105 : decode cX0_carryOn 105 = .ok (.iload 6, 2) := by decide +kernel
theorem dX0_carryOn_107 : decode cX0_carryOn 107 = .ok (.isub, 1) := by decide +kernel
theorem dX0_carryOn_108 : decode cX0_carryOn 108 = .ok (.iload 7, 2) := by decide +kernel
theorem dX0_carryOn_110 : decode cX0_carryOn 110 = .ok (.isub, 1) := by decide +kernel
theorem dX0_carryOn_111 : decode cX0_carryOn 111 = .ok (.iload 8, 2) := by decide +kernel
theorem dX0_carryOn_113 : decode cX0_carryOn 113 = .ok (.isub, 1) := by decide +kernel
theorem dX0_carryOn_114 : decode cX0_carryOn 114 = .ok (.invokevirtual 110, 3) := by decide +kernel
theorem dX0_carryOn_117 : decode cX0_carryOn 117 = .ok (.return_, 1) := by decide +kernel
set_option maxRecDepth 20000 in
theorem ggX0_numberRuns_X1_put : GoodIn wsX0_numberRuns wsX1_put := goodIn_r _ [7, 8, 9, 10, 11, 12, 13, 26] (by decide +kernel) (by decide +kernel)
set_option maxRecDepth 20000 in
theorem gX0_numberRuns_X1_put : GoodIn wsX0_numberRuns (wsV RX0 93 RX1 yX1_put wsX1_put) := goodIn_app (goodIn_of _ (by decide +kernel)) ggX0_numberRuns_X1_put
set_option maxRecDepth 20000 in
theorem ggX0_numberRuns_X1_at : GoodIn wsX0_numberRuns wsX1_at := goodIn_r _ [17, 8, 9, 10, 11, 18, 19, 26] (by decide +kernel) (by decide +kernel)
set_option maxRecDepth 20000 in
theorem gX0_numberRuns_X1_at : GoodIn wsX0_numberRuns (wsV RX0 66 RX1 yX1_at wsX1_at) := goodIn_app (goodIn_of _ (by decide +kernel)) ggX0_numberRuns_X1_at
theorem dX0_numberRuns_0 : decode cX0_numberRuns 0 = .ok (.iconst 0, 1) := by decide +kernel
theorem dX0_numberRuns_1 : decode cX0_numberRuns 1 = .ok (.istore_n 2, 1) := by decide +kernel
theorem dX0_numberRuns_2 : decode cX0_numberRuns 2 = .ok (.iconst 1, 1) := by decide +kernel
theorem dX0_numberRuns_3 : decode cX0_numberRuns 3 = .ok (.istore_n 3, 1) := by decide +kernel
theorem dX0_numberRuns_4 : decode cX0_numberRuns 4 = .ok (.aload_n 0, 1) := by decide +kernel
theorem dX0_numberRuns_5 : decode cX0_numberRuns 5 = .ok (.getfield 28, 3) := by decide +kernel
theorem dX0_numberRuns_8 : decode cX0_numberRuns 8 = .ok (.iconst 0, 1) := by decide +kernel
theorem dX0_numberRuns_9 : decode cX0_numberRuns 9 = .ok (.iload_n 1, 1) := by decide +kernel
theorem dX0_numberRuns_10 : decode cX0_numberRuns 10 = .ok (.iconst 0, 1) := by decide +kernel
theorem dX0_numberRuns_11 : decode cX0_numberRuns 11 = .ok (.invokevirtual 93, 3) := by decide +kernel
theorem dX0_numberRuns_14 : decode cX0_numberRuns 14 = .ok (.iconst 1, 1) := by decide +kernel
theorem dX0_numberRuns_15 : decode cX0_numberRuns 15 = .ok (.istore 4, 2) := by decide +kernel
theorem dX0_numberRuns_17 : decode cX0_numberRuns 17 = .ok (.iload 4, 2) := by decide +kernel
theorem dX0_numberRuns_19 : decode cX0_numberRuns 19 = .ok (.bipush 12, 2) := by decide +kernel
theorem dX0_numberRuns_21 : decode cX0_numberRuns 21 = .ok (.if_icmp .ge 84, 3) := by decide +kernel
theorem dX0_numberRuns_24 : decode cX0_numberRuns 24 = .ok (.aload_n 0, 1) := by decide +kernel
theorem dX0_numberRuns_25 : decode cX0_numberRuns 25 = .ok (.getfield 21, 3) := by decide +kernel
theorem dX0_numberRuns_28 : decode cX0_numberRuns 28 = .ok (.iload 4, 2) := by decide +kernel
theorem dX0_numberRuns_30 : decode cX0_numberRuns 30 = .ok (.iload_n 1, 1) := by decide +kernel
theorem dX0_numberRuns_31 : decode cX0_numberRuns 31 = .ok (.invokevirtual 66, 3) := by decide +kernel
theorem dX0_numberRuns_34 : decode cX0_numberRuns 34 = .ok (.aload_n 0, 1) := by decide +kernel
theorem dX0_numberRuns_35 : decode cX0_numberRuns 35 = .ok (.getfield 21, 3) := by decide +kernel
theorem dX0_numberRuns_38 : decode cX0_numberRuns 38 = .ok (.iload 4, 2) := by decide +kernel
theorem dX0_numberRuns_40 : decode cX0_numberRuns 40 = .ok (.iconst 1, 1) := by decide +kernel
theorem dX0_numberRuns_41 : decode cX0_numberRuns 41 = .ok (.isub, 1) := by decide +kernel
theorem dX0_numberRuns_42 : decode cX0_numberRuns 42 = .ok (.iload_n 1, 1) := by decide +kernel
theorem dX0_numberRuns_43 : decode cX0_numberRuns 43 = .ok (.invokevirtual 66, 3) := by decide +kernel
theorem dX0_numberRuns_46 : decode cX0_numberRuns 46 = .ok (.if_icmp .ne 13, 3) := by decide +kernel
theorem dX0_numberRuns_49 : decode cX0_numberRuns 49 = .ok (.iload_n 3, 1) := by decide +kernel
theorem dX0_numberRuns_50 : decode cX0_numberRuns 50 = .ok (.bipush 9, 2) := by decide +kernel
theorem dX0_numberRuns_52 : decode cX0_numberRuns 52 = .ok (.if_icmp .ge 7, 3) := by decide +kernel
theorem dX0_numberRuns_55 : decode cX0_numberRuns 55 = .ok (.iconst 1, 1) := by decide +kernel
theorem dX0_numberRuns_56 : decode cX0_numberRuns 56 = .ok (.goto 4, 3) := by decide +kernel
theorem dX0_numberRuns_59 : decode cX0_numberRuns 59 = .ok (.iconst 0, 1) := by decide +kernel
theorem dX0_numberRuns_60 : decode cX0_numberRuns 60 = .ok (.istore 5, 2) := by decide +kernel
theorem dX0_numberRuns_62 : decode cX0_numberRuns 62 = .ok (.iload 5, 2) := by decide +kernel
theorem dX0_numberRuns_64 : decode cX0_numberRuns 64 = .ok (.ifCond .eq 9, 3) := by decide +kernel
theorem dX0_numberRuns_67 : decode cX0_numberRuns 67 = .ok (.iload_n 3, 1) := by decide +kernel
theorem dX0_numberRuns_68 : decode cX0_numberRuns 68 = .ok (.iconst 1, 1) := by decide +kernel
theorem dX0_numberRuns_69 : decode cX0_numberRuns 69 = .ok (.iadd, 1) := by decide +kernel
theorem dX0_numberRuns_70 : decode cX0_numberRuns 70 = .ok (.goto 4, 3) := by decide +kernel
theorem dX0_numberRuns_73 : decode cX0_numberRuns 73 = .ok (.iconst 1, 1) := by decide +kernel
theorem dX0_numberRuns_74 : decode cX0_numberRuns 74 = .ok (.istore_n 3, 1) := by decide +kernel
theorem dX0_numberRuns_75 : decode cX0_numberRuns 75 = .ok (.iload 5, 2) := by decide +kernel
theorem dX0_numberRuns_77 : decode cX0_numberRuns 77 = .ok (.ifCond .eq 7, 3) := by decide +kernel
theorem dX0_numberRuns_80 : decode cX0_numberRuns 80 = .ok (.iload_n 2, 1) := by decide +kernel
theorem dX0_numberRuns_81 : decode cX0_numberRuns 81 = .ok (.goto 6, 3) := by decide +kernel
theorem dX0_numberRuns_84 : decode cX0_numberRuns 84 = .ok (.iload_n 2, 1) := by decide +kernel
theorem dX0_numberRuns_85 : decode cX0_numberRuns 85 = .ok (.iconst 1, 1) := by decide +kernel
theorem dX0_numberRuns_86 : decode cX0_numberRuns 86 = .ok (.iadd, 1) := by decide +kernel
theorem dX0_numberRuns_87 : decode cX0_numberRuns 87 = .ok (.istore_n 2, 1) := by decide +kernel
theorem dX0_numberRuns_88 : decode cX0_numberRuns 88 = .ok (.aload_n 0, 1) := by decide +kernel
theorem dX0_numberRuns_89 : decode cX0_numberRuns 89 = .ok (.getfield 28, 3) := by decide +kernel
theorem dX0_numberRuns_92 : decode cX0_numberRuns 92 = .ok (.iload 4, 2) := by decide +kernel
theorem dX0_numberRuns_94 : decode cX0_numberRuns 94 = .ok (.iload_n 1, 1) := by decide +kernel
theorem dX0_numberRuns_95 : decode cX0_numberRuns 95 = .ok (.iload_n 2, 1) := by decide +kernel
theorem dX0_numberRuns_96 : decode cX0_numberRuns 96 = .ok (.invokevirtual 93, 3) := by decide +kernel
theorem dX0_numberRuns_99 : decode cX0_numberRuns 99 = .ok (.iinc 4 1, 3) := by decide +kernel
theorem dX0_numberRuns_102 : decode cX0_numberRuns 102 = .ok (.goto (-85), 3) := by decide +kernel
theorem dX0_numberRuns_105 : decode cX0_numberRuns 105 = .ok (.return_, 1) := by decide +kernel
set_option maxRecDepth 20000 in
theorem ggX0_isAsAbove_X1_at : GoodIn wsX0_isAsAbove wsX1_at := goodIn_r _ [6, 7, 8, 9, 10, 11, 12, 19] (by decide +kernel) (by decide +kernel)
set_option maxRecDepth 20000 in
theorem gX0_isAsAbove_X1_at : GoodIn wsX0_isAsAbove (wsV RX0 66 RX1 yX1_at wsX1_at) := goodIn_app (goodIn_of _ (by decide +kernel)) ggX0_isAsAbove_X1_at
theorem dX0_isAsAbove_0 : decode cX0_isAsAbove 0 = .ok (.iload_n 1, 1) := by decide +kernel
theorem dX0_isAsAbove_1 : decode cX0_isAsAbove 1 = .ok (.ifCond .gt 5, 3) := by decide +kernel
theorem dX0_isAsAbove_4 : decode cX0_isAsAbove 4 = .ok (.iconst 0, 1) := by decide +kernel
theorem dX0_isAsAbove_5 : decode cX0_isAsAbove 5 = .ok (.ireturn, 1) := by decide +kernel
theorem dX0_isAsAbove_6 : decode cX0_isAsAbove 6 = .ok (.iconst 0, 1) := by decide +kernel
theorem dX0_isAsAbove_7 : decode cX0_isAsAbove 7 = .ok (.istore_n 2, 1) := by decide +kernel
theorem dX0_isAsAbove_8 : decode cX0_isAsAbove 8 = .ok (.iload_n 2, 1) := by decide +kernel
theorem dX0_isAsAbove_9 : decode cX0_isAsAbove 9 = .ok (.bipush 12, 2) := by decide +kernel
theorem dX0_isAsAbove_11 : decode cX0_isAsAbove 11 = .ok (.if_icmp .ge 34, 3) := by decide +kernel
theorem dX0_isAsAbove_14 : decode cX0_isAsAbove 14 = .ok (.aload_n 0, 1) := by decide +kernel
theorem dX0_isAsAbove_15 : decode cX0_isAsAbove 15 = .ok (.getfield 21, 3) := by decide +kernel
theorem dX0_isAsAbove_18 : decode cX0_isAsAbove 18 = .ok (.iload_n 2, 1) := by decide +kernel
theorem dX0_isAsAbove_19 : decode cX0_isAsAbove 19 = .ok (.iload_n 1, 1) := by decide +kernel
theorem dX0_isAsAbove_20 : decode cX0_isAsAbove 20 = .ok (.invokevirtual 66, 3) := by decide +kernel
theorem dX0_isAsAbove_23 : decode cX0_isAsAbove 23 = .ok (.aload_n 0, 1) := by decide +kernel
theorem dX0_isAsAbove_24 : decode cX0_isAsAbove 24 = .ok (.getfield 21, 3) := by decide +kernel
theorem dX0_isAsAbove_27 : decode cX0_isAsAbove 27 = .ok (.iload_n 2, 1) := by decide +kernel
theorem dX0_isAsAbove_28 : decode cX0_isAsAbove 28 = .ok (.iload_n 1, 1) := by decide +kernel
theorem dX0_isAsAbove_29 : decode cX0_isAsAbove 29 = .ok (.iconst 1, 1) := by decide +kernel
theorem dX0_isAsAbove_30 : decode cX0_isAsAbove 30 = .ok (.isub, 1) := by decide +kernel
theorem dX0_isAsAbove_31 : decode cX0_isAsAbove 31 = .ok (.invokevirtual 66, 3) := by decide +kernel
theorem dX0_isAsAbove_34 : decode cX0_isAsAbove 34 = .ok (.if_icmp .eq 5, 3) := by decide +kernel
theorem dX0_isAsAbove_37 : decode cX0_isAsAbove 37 = .ok (.iconst 0, 1) := by decide +kernel
theorem dX0_isAsAbove_38 : decode cX0_isAsAbove 38 = .ok (.ireturn, 1) := by decide +kernel
theorem dX0_isAsAbove_39 : decode cX0_isAsAbove 39 = .ok (.iinc 2 1, 3) := by decide +kernel
theorem dX0_isAsAbove_42 : decode cX0_isAsAbove 42 = .ok (.goto (-34), 3) := by decide +kernel
theorem dX0_isAsAbove_45 : decode cX0_isAsAbove 45 = .ok (.iconst 1, 1) := by decide +kernel
theorem dX0_isAsAbove_46 : decode cX0_isAsAbove 46 = .ok (.ireturn, 1) := by decide +kernel
theorem dX1_init_0 : decode cX1_init 0 = .ok (.aload_n 0, 1) := by decide +kernel
theorem dX1_init_1 : decode cX1_init 1 = .ok (.invokespecial 3, 3) := by decide +kernel
theorem dX1_init_4 : decode cX1_init 4 = .ok (.aload_n 0, 1) := by decide +kernel
theorem dX1_init_5 : decode cX1_init 5 = .ok (.bipush 96, 2) := by decide +kernel
theorem dX1_init_7 : decode cX1_init 7 = .ok (.newarray .int, 2) := by decide +kernel
theorem dX1_init_9 : decode cX1_init 9 = .ok (.putfield 9, 3) := by decide +kernel
theorem dX1_init_12 : decode cX1_init 12 = .ok (.return_, 1) := by decide +kernel
set_option maxRecDepth 20000 in
theorem ggX1_at_X4_isCell : GoodIn wsX1_at wsX4_isCell := goodIn_r _ [4] (by decide +kernel) (by decide +kernel)
set_option maxRecDepth 20000 in
theorem gX1_at_X4_isCell_n15 : GoodIn wsX1_at (wsX4_isCell) := ggX1_at_X4_isCell
set_option maxRecDepth 20000 in
theorem ggX1_at_X4_numberAt : GoodIn wsX1_at wsX4_numberAt := goodIn_r _ [6] (by decide +kernel) (by decide +kernel)
set_option maxRecDepth 20000 in
theorem gX1_at_X4_numberAt_n19 : GoodIn wsX1_at (wsX4_numberAt) := ggX1_at_X4_numberAt
theorem dX1_at_0 : decode cX1_at 0 = .ok (.iload_n 1, 1) := by decide +kernel
theorem dX1_at_1 : decode cX1_at 1 = .ok (.iload_n 2, 1) := by decide +kernel
theorem dX1_at_2 : decode cX1_at 2 = .ok (.invokestatic 15, 3) := by decide +kernel
theorem dX1_at_5 : decode cX1_at 5 = .ok (.ifCond .eq 19, 3) := by decide +kernel
theorem dX1_at_8 : decode cX1_at 8 = .ok (.aload_n 0, 1) := by decide +kernel
theorem dX1_at_9 : decode cX1_at 9 = .ok (.getfield 9, 3) := by decide +kernel
theorem dX1_at_12 : decode cX1_at 12 = .ok (.iload_n 2, 1) := by decide +kernel
theorem dX1_at_13 : decode cX1_at 13 = .ok (.bipush 12, 2) := by decide +kernel
theorem dX1_at_15 : decode cX1_at 15 = .ok (.imul, 1) := by decide +kernel
theorem dX1_at_16 : decode cX1_at 16 = .ok (.iload_n 1, 1) := by decide +kernel
theorem dX1_at_17 : decode cX1_at 17 = .ok (.iadd, 1) := by decide +kernel
theorem dX1_at_18 : decode cX1_at 18 = .ok (.invokestatic 19, 3) := by decide +kernel
theorem dX1_at_21 : decode cX1_at 21 = .ok (.goto 4, 3) := by decide +kernel
theorem dX1_at_24 : decode cX1_at 24 = .ok (.iconst 0, 1) := by decide +kernel
theorem dX1_at_25 : decode cX1_at 25 = .ok (.ireturn, 1) := by decide +kernel
set_option maxRecDepth 20000 in
theorem ggX1_put_X4_isCell : GoodIn wsX1_put wsX4_isCell := goodIn_r _ [4] (by decide +kernel) (by decide +kernel)
set_option maxRecDepth 20000 in
theorem gX1_put_X4_isCell_n15 : GoodIn wsX1_put (wsX4_isCell) := ggX1_put_X4_isCell
set_option maxRecDepth 20000 in
theorem ggX1_put_X4_putNumber : GoodIn wsX1_put wsX4_putNumber := goodIn_r _ [6] (by decide +kernel) (by decide +kernel)
set_option maxRecDepth 20000 in
theorem gX1_put_X4_putNumber_n23 : GoodIn wsX1_put (wsX4_putNumber) := ggX1_put_X4_putNumber
theorem dX1_put_0 : decode cX1_put 0 = .ok (.iload_n 1, 1) := by decide +kernel
theorem dX1_put_1 : decode cX1_put 1 = .ok (.iload_n 2, 1) := by decide +kernel
theorem dX1_put_2 : decode cX1_put 2 = .ok (.invokestatic 15, 3) := by decide +kernel
theorem dX1_put_5 : decode cX1_put 5 = .ok (.ifCond .eq 17, 3) := by decide +kernel
theorem dX1_put_8 : decode cX1_put 8 = .ok (.aload_n 0, 1) := by decide +kernel
theorem dX1_put_9 : decode cX1_put 9 = .ok (.getfield 9, 3) := by decide +kernel
theorem dX1_put_12 : decode cX1_put 12 = .ok (.iload_n 2, 1) := by decide +kernel
theorem dX1_put_13 : decode cX1_put 13 = .ok (.bipush 12, 2) := by decide +kernel
theorem dX1_put_15 : decode cX1_put 15 = .ok (.imul, 1) := by decide +kernel
theorem dX1_put_16 : decode cX1_put 16 = .ok (.iload_n 1, 1) := by decide +kernel
theorem dX1_put_17 : decode cX1_put 17 = .ok (.iadd, 1) := by decide +kernel
theorem dX1_put_18 : decode cX1_put 18 = .ok (.iload_n 3, 1) := by decide +kernel
theorem dX1_put_19 : decode cX1_put 19 = .ok (.invokestatic 23, 3) := by decide +kernel
theorem dX1_put_22 : decode cX1_put 22 = .ok (.return_, 1) := by decide +kernel
set_option maxRecDepth 20000 in
theorem ggX1_add_X1_at : GoodIn wsX1_add wsX1_at := goodIn_r _ [5, 6, 7, 8, 9, 10, 11, 18] (by decide +kernel) (by decide +kernel)
set_option maxRecDepth 20000 in
theorem gX1_add_X1_at : GoodIn wsX1_add (wsV RX1 27 RX1 yX1_at wsX1_at) := goodIn_app (goodIn_of _ (by decide +kernel)) ggX1_add_X1_at
set_option maxRecDepth 20000 in
theorem ggX1_add_X1_put : GoodIn wsX1_add wsX1_put := goodIn_r _ [15, 6, 7, 8, 9, 16, 17, 18] (by decide +kernel) (by decide +kernel)
set_option maxRecDepth 20000 in
theorem gX1_add_X1_put : GoodIn wsX1_add (wsV RX1 31 RX1 yX1_put wsX1_put) := goodIn_app (goodIn_of _ (by decide +kernel)) ggX1_add_X1_put
theorem dX1_add_0 : decode cX1_add 0 = .ok (.aload_n 0, 1) := by decide +kernel
theorem dX1_add_1 : decode cX1_add 1 = .ok (.iload_n 1, 1) := by decide +kernel
theorem dX1_add_2 : decode cX1_add 2 = .ok (.iload_n 2, 1) := by decide +kernel
theorem dX1_add_3 : decode cX1_add 3 = .ok (.aload_n 0, 1) := by decide +kernel
theorem dX1_add_4 : decode cX1_add 4 = .ok (.iload_n 1, 1) := by decide +kernel
theorem dX1_add_5 : decode cX1_add 5 = .ok (.iload_n 2, 1) := by decide +kernel
theorem dX1_add_6 : decode cX1_add 6 = .ok (.invokevirtual 27, 3) := by decide +kernel
theorem dX1_add_9 : decode cX1_add 9 = .ok (.iload_n 3, 1) := by decide +kernel
theorem dX1_add_10 : decode cX1_add 10 = .ok (.iadd, 1) := by decide +kernel
theorem dX1_add_11 : decode cX1_add 11 = .ok (.invokevirtual 31, 3) := by decide +kernel
theorem dX1_add_14 : decode cX1_add 14 = .ok (.return_, 1) := by decide +kernel
set_option maxRecDepth 20000 in
theorem ggX1_fill_X4_fillNumbers : GoodIn wsX1_fill wsX4_fillNumbers := goodIn_r _ [4] (by decide +kernel) (by decide +kernel)
set_option maxRecDepth 20000 in
theorem gX1_fill_X4_fillNumbers_n35 : GoodIn wsX1_fill (wsX4_fillNumbers) := ggX1_fill_X4_fillNumbers
theorem dX1_fill_0 : decode cX1_fill 0 = .ok (.aload_n 0, 1) := by decide +kernel
theorem dX1_fill_1 : decode cX1_fill 1 = .ok (.getfield 9, 3) := by decide +kernel
theorem dX1_fill_4 : decode cX1_fill 4 = .ok (.iload_n 1, 1) := by decide +kernel
theorem dX1_fill_5 : decode cX1_fill 5 = .ok (.invokestatic 35, 3) := by decide +kernel
theorem dX1_fill_8 : decode cX1_fill 8 = .ok (.return_, 1) := by decide +kernel
set_option maxRecDepth 20000 in
theorem ggX1_digestFrom_X4_digested : GoodIn wsX1_digestFrom wsX4_digested := goodIn_r _ [4, 5, 6, 7, 3, 8] (by decide +kernel) (by decide +kernel)
set_option maxRecDepth 20000 in
theorem gX1_digestFrom_X4_digested_n39 : GoodIn wsX1_digestFrom (wsX4_digested) := ggX1_digestFrom_X4_digested
theorem dX1_digestFrom_0 : decode cX1_digestFrom 0 = .ok (.lload_n 1, 1) := by decide +kernel
theorem dX1_digestFrom_1 : decode cX1_digestFrom 1 = .ok (.aload_n 0, 1) := by decide +kernel
theorem dX1_digestFrom_2 : decode cX1_digestFrom 2 = .ok (.getfield 9, 3) := by decide +kernel
theorem dX1_digestFrom_5 : decode cX1_digestFrom 5 = .ok (.bipush 96, 2) := by decide +kernel
theorem dX1_digestFrom_7 : decode cX1_digestFrom 7 = .ok (.invokestatic 39, 3) := by decide +kernel
theorem dX1_digestFrom_10 : decode cX1_digestFrom 10 = .ok (.lreturn, 1) := by decide +kernel
theorem dX2_init_0 : decode cX2_init 0 = .ok (.aload_n 0, 1) := by decide +kernel
theorem dX2_init_1 : decode cX2_init 1 = .ok (.invokespecial 3, 3) := by decide +kernel
theorem dX2_init_4 : decode cX2_init 4 = .ok (.aload_n 0, 1) := by decide +kernel
theorem dX2_init_5 : decode cX2_init 5 = .ok (.sipush 256, 3) := by decide +kernel
theorem dX2_init_8 : decode cX2_init 8 = .ok (.newarray .int, 2) := by decide +kernel
theorem dX2_init_10 : decode cX2_init 10 = .ok (.putfield 9, 3) := by decide +kernel
theorem dX2_init_13 : decode cX2_init 13 = .ok (.aload_n 0, 1) := by decide +kernel
theorem dX2_init_14 : decode cX2_init 14 = .ok (.bipush 96, 2) := by decide +kernel
theorem dX2_init_16 : decode cX2_init 16 = .ok (.newarray .int, 2) := by decide +kernel
theorem dX2_init_18 : decode cX2_init 18 = .ok (.putfield 15, 3) := by decide +kernel
theorem dX2_init_21 : decode cX2_init 21 = .ok (.aload_n 0, 1) := by decide +kernel
theorem dX2_init_22 : decode cX2_init 22 = .ok (.bipush 6, 2) := by decide +kernel
theorem dX2_init_24 : decode cX2_init 24 = .ok (.newarray .int, 2) := by decide +kernel
theorem dX2_init_26 : decode cX2_init 26 = .ok (.putfield 18, 3) := by decide +kernel
theorem dX2_init_29 : decode cX2_init 29 = .ok (.aload_n 0, 1) := by decide +kernel
theorem dX2_init_30 : decode cX2_init 30 = .ok (.bipush 6, 2) := by decide +kernel
theorem dX2_init_32 : decode cX2_init 32 = .ok (.newarray .int, 2) := by decide +kernel
theorem dX2_init_34 : decode cX2_init 34 = .ok (.putfield 21, 3) := by decide +kernel
theorem dX2_init_37 : decode cX2_init 37 = .ok (.aload_n 0, 1) := by decide +kernel
theorem dX2_init_38 : decode cX2_init 38 = .ok (.iconst 0, 1) := by decide +kernel
theorem dX2_init_39 : decode cX2_init 39 = .ok (.putfield 24, 3) := by decide +kernel
theorem dX2_init_42 : decode cX2_init 42 = .ok (.return_, 1) := by decide +kernel
set_option maxRecDepth 20000 in
theorem ggX2_fit_X2_tallyShades : GoodIn wsX2_fit wsX2_tallyShades := goodIn_r _ [8, 9, 10, 11, 12, 13, 14, 15, 16, 17, 18, 19, 20, 21, 22, 23, 24, 54, 55, 56, 57, 58, 59] (by decide +kernel) (by decide +kernel)
set_option maxRecDepth 20000 in
theorem gX2_fit_X2_tallyShades : GoodIn wsX2_fit (wsV RX2 28 RX2 yX2_tallyShades wsX2_tallyShades) := goodIn_app (goodIn_of _ (by decide +kernel)) ggX2_fit_X2_tallyShades
set_option maxRecDepth 20000 in
theorem ggX2_fit_X2_sortShades : GoodIn wsX2_fit wsX2_sortShades := goodIn_r _ [28, 9, 29, 21, 11, 22, 23, 24, 54, 55, 56, 57, 58] (by decide +kernel) (by decide +kernel)
set_option maxRecDepth 20000 in
theorem gX2_fit_X2_sortShades : GoodIn wsX2_fit (wsV RX2 32 RX2 yX2_sortShades wsX2_sortShades) := goodIn_app (goodIn_of _ (by decide +kernel)) ggX2_fit_X2_sortShades
set_option maxRecDepth 20000 in
theorem ggX2_fit_X4_putNumber : GoodIn wsX2_fit wsX4_putNumber := goodIn_r _ [24] (by decide +kernel) (by decide +kernel)
set_option maxRecDepth 20000 in
theorem gX2_fit_X4_putNumber_n35 : GoodIn wsX2_fit (wsX4_putNumber) := ggX2_fit_X4_putNumber
set_option maxRecDepth 20000 in
theorem ggX2_fit_X2_widestBox : GoodIn wsX2_fit wsX2_widestBox := goodIn_r _ [33, 1, 34, 35, 36, 7, 37, 29, 38, 39, 40, 41, 2, 21, 11, 22, 42, 43, 44, 45, 54, 55, 56, 57, 58] (by decide +kernel) (by decide +kernel)
set_option maxRecDepth 20000 in
theorem gX2_fit_X2_widestBox : GoodIn wsX2_fit (wsV RX2 39 RX2 yX2_widestBox wsX2_widestBox) := goodIn_app (goodIn_of _ (by decide +kernel)) ggX2_fit_X2_widestBox
set_option maxRecDepth 20000 in
theorem ggX2_fit_X2_spreadOf : GoodIn wsX2_fit wsX2_spreadOf := goodIn_r _ [37, 29, 38, 39, 40, 7, 41, 1, 2, 21, 11, 22, 42, 43, 44, 45, 54, 55, 56, 57, 58] (by decide +kernel) (by decide +kernel)
set_option maxRecDepth 20000 in
theorem gX2_fit_X2_spreadOf : GoodIn wsX2_fit (wsV RX2 43 RX2 yX2_spreadOf wsX2_spreadOf) := goodIn_app (goodIn_of _ (by decide +kernel)) ggX2_fit_X2_spreadOf
set_option maxRecDepth 20000 in
theorem ggX2_fit_X2_split : GoodIn wsX2_fit wsX2_split := goodIn_r _ [49, 1, 2, 42, 43, 44, 7, 45, 21, 11, 22, 38, 39, 40, 41, 23, 24, 54, 55, 56, 57, 58] (by decide +kernel) (by decide +kernel)
set_option maxRecDepth 20000 in
theorem gX2_fit_X2_split : GoodIn wsX2_fit (wsV RX2 47 RX2 yX2_split wsX2_split) := goodIn_app (goodIn_of _ (by decide +kernel)) ggX2_fit_X2_split
set_option maxRecDepth 20000 in
theorem ggX2_fit_X2_meanOf : GoodIn wsX2_fit wsX2_meanOf := goodIn_r _ [53, 29, 42, 43, 44, 7, 45, 2, 21, 11, 22, 38, 39, 40, 41, 1, 54, 55, 56, 57, 58] (by decide +kernel) (by decide +kernel)
set_option maxRecDepth 20000 in
theorem gX2_fit_X2_meanOf : GoodIn wsX2_fit (wsV RX2 51 RX2 yX2_meanOf wsX2_meanOf) := goodIn_app (goodIn_of _ (by decide +kernel)) ggX2_fit_X2_meanOf
theorem dX2_fit_0 : decode cX2_fit 0 = .ok (.aload_n 0, 1) := by decide +kernel
theorem dX2_fit_1 : decode cX2_fit 1 = .ok (.aload_n 1, 1) := by decide +kernel
theorem dX2_fit_2 : decode cX2_fit 2 = .ok (.invokevirtual 28, 3) := by decide +kernel
theorem dX2_fit_5 : decode cX2_fit 5 = .ok (.aload_n 0, 1) := by decide +kernel
theorem dX2_fit_6 : decode cX2_fit 6 = .ok (.invokevirtual 32, 3) := by decide +kernel
theorem dX2_fit_9 : decode cX2_fit 9 = .ok (.aload_n 0, 1) := by decide +kernel
theorem dX2_fit_10 : decode cX2_fit 10 = .ok (.iconst 1, 1) := by decide +kernel
theorem dX2_fit_11 : decode cX2_fit 11 = .ok (.putfield 24, 3) := by decide +kernel
theorem dX2_fit_14 : decode cX2_fit 14 = .ok (.aload_n 0, 1) := by decide +kernel
theorem dX2_fit_15 : decode cX2_fit 15 = .ok (.getfield 18, 3) := by decide +kernel
theorem dX2_fit_18 : decode cX2_fit 18 = .ok (.iconst 0, 1) := by decide +kernel
theorem dX2_fit_19 : decode cX2_fit 19 = .ok (.iconst 0, 1) := by decide +kernel
theorem dX2_fit_20 : decode cX2_fit 20 = .ok (.invokestatic 35, 3) := by decide +kernel
theorem dX2_fit_23 : decode cX2_fit 23 = .ok (.iconst 1, 1) := by decide +kernel
theorem dX2_fit_24 : decode cX2_fit 24 = .ok (.istore_n 3, 1) := by decide +kernel
theorem dX2_fit_25 : decode cX2_fit 25 = .ok (.iload_n 3, 1) := by decide +kernel
theorem dX2_fit_26 : decode cX2_fit 26 = .ok (.iload_n 2, 1) := by decide +kernel
theorem dX2_fit_27 : decode cX2_fit 27 = .ok (.if_icmp .ge 39, 3) := by decide +kernel
theorem dX2_fit_30 : decode cX2_fit 30 = .ok (.iload_n 3, 1) := by decide +kernel
theorem dX2_fit_31 : decode cX2_fit 31 = .ok (.bipush 6, 2) := by decide +kernel
theorem dX2_fit_33 : decode cX2_fit 33 = .ok (.if_icmp .ge 33, 3) := by decide +kernel
theorem dX2_fit_36 : decode cX2_fit 36 = .ok (.aload_n 0, 1) := by decide +kernel
theorem dX2_fit_37 : decode cX2_fit 37 = .ok (.invokevirtual 39, 3) := by decide +kernel
theorem dX2_fit_40 : decode cX2_fit 40 = .ok (.istore 4, 2) := by decide +kernel
theorem dX2_fit_42 : decode cX2_fit 42 = .ok (.aload_n 0, 1) := by decide +kernel
theorem dX2_fit_43 : decode cX2_fit 43 = .ok (.iload 4, 2) := by decide +kernel
theorem dX2_fit_45 : decode cX2_fit 45 = .ok (.invokevirtual 43, 3) := by decide +kernel
theorem dX2_fit_48 : decode cX2_fit 48 = .ok (.ifCond .ne 6, 3) := by decide +kernel
theorem dX2_fit_51 : decode cX2_fit 51 = .ok (.goto 15, 3) := by decide +kernel
theorem dX2_fit_54 : decode cX2_fit 54 = .ok (.aload_n 0, 1) := by decide +kernel
theorem dX2_fit_55 : decode cX2_fit 55 = .ok (.iload 4, 2) := by decide +kernel
theorem dX2_fit_57 : decode cX2_fit 57 = .ok (.invokevirtual 47, 3) := by decide +kernel
theorem dX2_fit_60 : decode cX2_fit 60 = .ok (.iinc 3 1, 3) := by decide +kernel
theorem dX2_fit_63 : decode cX2_fit 63 = .ok (.goto (-38), 3) := by decide +kernel
theorem dX2_fit_66 : decode cX2_fit 66 = .ok (.iconst 0, 1) := by decide +kernel
theorem dX2_fit_67 : decode cX2_fit 67 = .ok (.istore_n 3, 1) := by decide +kernel
theorem dX2_fit_68 : decode cX2_fit 68 = .ok (.iload_n 3, 1) := by decide +kernel
theorem dX2_fit_69 : decode cX2_fit 69 = .ok (.aload_n 0, 1) := by decide +kernel
theorem dX2_fit_70 : decode cX2_fit 70 = .ok (.getfield 24, 3) := by decide +kernel
theorem dX2_fit_73 : decode cX2_fit 73 = .ok (.if_icmp .ge 22, 3) := by decide +kernel
theorem dX2_fit_76 : decode cX2_fit 76 = .ok (.aload_n 0, 1) := by decide +kernel
theorem dX2_fit_77 : decode cX2_fit 77 = .ok (.getfield 21, 3) := by decide +kernel
theorem dX2_fit_80 : decode cX2_fit 80 = .ok (.iload_n 3, 1) := by decide +kernel
theorem dX2_fit_81 : decode cX2_fit 81 = .ok (.aload_n 0, 1) := by decide +kernel
theorem dX2_fit_82 : decode cX2_fit 82 = .ok (.iload_n 3, 1) := by decide +kernel
theorem dX2_fit_83 : decode cX2_fit 83 = .ok (.invokevirtual 51, 3) := by decide +kernel
theorem dX2_fit_86 : decode cX2_fit 86 = .ok (.invokestatic 35, 3) := by decide +kernel
theorem dX2_fit_89 : decode cX2_fit 89 = .ok (.iinc 3 1, 3) := by decide +kernel
theorem dX2_fit_92 : decode cX2_fit 92 = .ok (.goto (-24), 3) := by decide +kernel
theorem dX2_fit_95 : decode cX2_fit 95 = .ok (.return_, 1) := by decide +kernel
theorem dX2_size_0 : decode cX2_size 0 = .ok (.aload_n 0, 1) := by decide +kernel
theorem dX2_size_1 : decode cX2_size 1 = .ok (.getfield 24, 3) := by decide +kernel
theorem dX2_size_4 : decode cX2_size 4 = .ok (.ireturn, 1) := by decide +kernel
set_option maxRecDepth 20000 in
theorem ggX2_shadeOf_X4_numberAt : GoodIn wsX2_shadeOf wsX4_numberAt := goodIn_r _ [5] (by decide +kernel) (by decide +kernel)
set_option maxRecDepth 20000 in
theorem gX2_shadeOf_X4_numberAt_n54 : GoodIn wsX2_shadeOf (wsX4_numberAt) := ggX2_shadeOf_X4_numberAt
theorem dX2_shadeOf_0 : decode cX2_shadeOf 0 = .ok (.iload_n 1, 1) := by decide +kernel
theorem dX2_shadeOf_1 : decode cX2_shadeOf 1 = .ok (.ifCond .lt 22, 3) := by decide +kernel
theorem dX2_shadeOf_4 : decode cX2_shadeOf 4 = .ok (.iload_n 1, 1) := by decide +kernel
theorem dX2_shadeOf_5 : decode cX2_shadeOf 5 = .ok (.aload_n 0, 1) := by decide +kernel
theorem dX2_shadeOf_6 : decode cX2_shadeOf 6 = .ok (.getfield 24, 3) := by decide +kernel
theorem dX2_shadeOf_9 : decode cX2_shadeOf 9 = .ok (.if_icmp .ge 14, 3) := by decide +kernel
theorem dX2_shadeOf_12 : decode cX2_shadeOf 12 = .ok (.aload_n 0, 1) := by decide +kernel
theorem dX2_shadeOf_13 : decode cX2_shadeOf 13 = .ok (.getfield 21, 3) := by decide +kernel
theorem dX2_shadeOf_16 : decode cX2_shadeOf 16 = .ok (.iload_n 1, 1) := by decide +kernel
theorem dX2_shadeOf_17 : decode cX2_shadeOf 17 = .ok (.invokestatic 54, 3) := by decide +kernel
theorem dX2_shadeOf_20 : decode cX2_shadeOf 20 = .ok (.goto 4, 3) := by decide +kernel
theorem dX2_shadeOf_23 : decode cX2_shadeOf 23 = .ok (.iconst (-1), 1) := by decide +kernel
theorem dX2_shadeOf_24 : decode cX2_shadeOf 24 = .ok (.ireturn, 1) := by decide +kernel
set_option maxRecDepth 20000 in
theorem ggX2_nearestTo_X2_distance : GoodIn wsX2_nearestTo wsX2_distance := goodIn_r _ [6, 7, 8, 9, 10, 11, 12, 13, 5, 14, 1, 15, 16, 17, 18, 19, 20, 21, 22, 23] (by decide +kernel) (by decide +kernel)
set_option maxRecDepth 20000 in
theorem gX2_nearestTo_X2_distance : GoodIn wsX2_nearestTo (wsV RX2 58 RX2 yX2_distance wsX2_distance) := goodIn_app (goodIn_of _ (by decide +kernel)) ggX2_nearestTo_X2_distance
theorem dX2_nearestTo_0 : decode cX2_nearestTo 0 = .ok (.iconst 0, 1) := by decide +kernel
theorem dX2_nearestTo_1 : decode cX2_nearestTo 1 = .ok (.istore_n 2, 1) := by decide +kernel
theorem dX2_nearestTo_2 : decode cX2_nearestTo 2 = .ok (.aload_n 0, 1) := by decide +kernel
theorem dX2_nearestTo_3 : decode cX2_nearestTo 3 = .ok (.iconst 0, 1) := by decide +kernel
theorem dX2_nearestTo_4 : decode cX2_nearestTo 4 = .ok (.iload_n 1, 1) := by decide +kernel
theorem dX2_nearestTo_5 : decode cX2_nearestTo 5 = .ok (.invokevirtual 58, 3) := by decide +kernel
theorem dX2_nearestTo_8 : decode cX2_nearestTo 8 = .ok (.istore_n 3, 1) := by decide +kernel
theorem dX2_nearestTo_9 : decode cX2_nearestTo 9 = .ok (.iconst 1, 1) := by decide +kernel
theorem dX2_nearestTo_10 : decode cX2_nearestTo 10 = .ok (.istore 4, 2) := by decide +kernel
theorem dX2_nearestTo_12 : decode cX2_nearestTo 12 = .ok (.iload 4, 2) := by decide +kernel
theorem dX2_nearestTo_14 : decode cX2_nearestTo 14 = .ok (.aload_n 0, 1) := by decide +kernel
theorem dX2_nearestTo_15 : decode cX2_nearestTo 15 = .ok (.getfield 24, 3) := by decide +kernel
theorem dX2_nearestTo_18 : decode cX2_nearestTo 18 = .ok (.if_icmp .ge 30, 3) := by decide +kernel
theorem dX2_nearestTo_21 : decode cX2_nearestTo 21 = .ok (.aload_n 0, 1) := by decide +kernel
theorem dX2_nearestTo_22 : decode cX2_nearestTo 22 = .ok (.iload 4, 2) := by decide +kernel
theorem dX2_nearestTo_24 : decode cX2_nearestTo 24 = .ok (.iload_n 1, 1) := by decide +kernel
theorem dX2_nearestTo_25 : decode cX2_nearestTo 25 = .ok (.invokevirtual 58, 3) := by decide +kernel
theorem dX2_nearestTo_28 : decode cX2_nearestTo 28 = .ok (.istore 5, 2) := by decide +kernel
theorem dX2_nearestTo_30 : decode cX2_nearestTo 30 = .ok (.iload 5, 2) := by decide +kernel
theorem dX2_nearestTo_32 : decode cX2_nearestTo 32 = .ok (.iload_n 3, 1) := by decide +kernel
theorem dX2_nearestTo_33 : decode cX2_nearestTo 33 = .ok (.if_icmp .ge 9, 3) := by decide +kernel
theorem dX2_nearestTo_36 : decode cX2_nearestTo 36 = .ok (.iload 4, 2) := by decide +kernel
theorem dX2_nearestTo_38 : decode cX2_nearestTo 38 = .ok (.istore_n 2, 1) := by decide +kernel
theorem dX2_nearestTo_39 : decode cX2_nearestTo 39 = .ok (.iload 5, 2) := by decide +kernel
theorem dX2_nearestTo_41 : decode cX2_nearestTo 41 = .ok (.istore_n 3, 1) := by decide +kernel
theorem dX2_nearestTo_42 : decode cX2_nearestTo 42 = .ok (.iinc 4 1, 3) := by decide +kernel
theorem dX2_nearestTo_45 : decode cX2_nearestTo 45 = .ok (.goto (-33), 3) := by decide +kernel
theorem dX2_nearestTo_48 : decode cX2_nearestTo 48 = .ok (.iload_n 2, 1) := by decide +kernel
theorem dX2_nearestTo_49 : decode cX2_nearestTo 49 = .ok (.ireturn, 1) := by decide +kernel
set_option maxRecDepth 20000 in
theorem ggX2_digestFrom_X4_digested : GoodIn wsX2_digestFrom wsX4_digested := goodIn_r _ [5, 6, 7, 8, 4, 9] (by decide +kernel) (by decide +kernel)
set_option maxRecDepth 20000 in
theorem gX2_digestFrom_X4_digested_n62 : GoodIn wsX2_digestFrom (wsX4_digested) := ggX2_digestFrom_X4_digested
theorem dX2_digestFrom_0 : decode cX2_digestFrom 0 = .ok (.lload_n 1, 1) := by decide +kernel
theorem dX2_digestFrom_1 : decode cX2_digestFrom 1 = .ok (.aload_n 0, 1) := by decide +kernel
theorem dX2_digestFrom_2 : decode cX2_digestFrom 2 = .ok (.getfield 21, 3) := by decide +kernel
theorem dX2_digestFrom_5 : decode cX2_digestFrom 5 = .ok (.aload_n 0, 1) := by decide +kernel
theorem dX2_digestFrom_6 : decode cX2_digestFrom 6 = .ok (.getfield 24, 3) := by decide +kernel
theorem dX2_digestFrom_9 : decode cX2_digestFrom 9 = .ok (.invokestatic 62, 3) := by decide +kernel
