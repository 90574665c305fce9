set_option maxRecDepth 20000 in
theorem ggX4_cell_X0_colourAt : GoodIn wsX4_cell wsX0_colourAt := goodIn_r _ [26, 27, 28, 29, 30, 31, 32, 33, 9, 4, 10, 34, 35, 46, 47, 48, 49, 50, 51, 52] (by decide +kernel) (by decide +kernel)
set_option maxRecDepth 20000 in
theorem gX4_cell_X0_colourAt : GoodIn wsX4_cell (wsV RX4 132 RX0 yX0_colourAt wsX0_colourAt) := goodIn_app (goodIn_of _ (by decide +kernel)) ggX4_cell_X0_colourAt
theorem dX4_cell_0 : decode cX4_cell 0 = .ok (.iload_n 1, 1) := by decide +kernel
theorem dX4_cell_1 : decode cX4_cell 1 = .ok (.iload_n 2, 1) := by decide +kernel
theorem dX4_cell_2 : decode cX4_cell 2 = .ok (.invokestatic 61, 3) := by decide +kernel
theorem dX4_cell_5 : decode cX4_cell 5 = .ok (.aload_n 0, 1) := by decide +kernel
theorem dX4_cell_6 : decode cX4_cell 6 = .ok (.invokevirtual 129, 3) := by decide +kernel
theorem dX4_cell_9 : decode cX4_cell 9 = .ok (.aload_n 0, 1) := by decide +kernel
theorem dX4_cell_10 : decode cX4_cell 10 = .ok (.getfield 33, 3) := by decide +kernel
theorem dX4_cell_13 : decode cX4_cell 13 = .ok (.iload_n 1, 1) := by decide +kernel
theorem dX4_cell_14 : decode cX4_cell 14 = .ok (.iload_n 2, 1) := by decide +kernel
theorem dX4_cell_15 : decode cX4_cell 15 = .ok (.invokevirtual 132, 3) := by decide +kernel
theorem dX4_cell_18 : decode cX4_cell 18 = .ok (.ireturn, 1) := by decide +kernel
set_option maxRecDepth 20000 in
theorem ggX4_run_X4_needRow : GoodIn wsX4_run wsX4_needRow := goodIn_ca (goodIn_r _ [5, 6, 7, 4, 8, 9, 10] (by decide +kernel) (by decide +kernel)) (goodIn_sub (fun _ h => List.mem_cons_of_mem _ (List.mem_append_left _ (List.mem_append_right _ h))) (by decide +kernel))
set_option maxRecDepth 20000 in
theorem gX4_run_X4_needRow : GoodIn wsX4_run (va_wsS RX4 76 yX4_needRow wsX4_needRow) := goodIn_app (goodIn_of _ (by decide +kernel)) ggX4_run_X4_needRow
set_option maxRecDepth 20000 in
theorem ggX4_run_X4_needUpTo : GoodIn wsX4_run wsX4_needUpTo := goodIn_ca (goodIn_r _ [8, 9, 10] (by decide +kernel) (by decide +kernel)) (goodIn_sub (fun _ h => List.mem_cons_of_mem _ (List.mem_append_left _ (List.mem_append_right _ h))) (by decide +kernel))
set_option maxRecDepth 20000 in
theorem gX4_run_X4_needUpTo : GoodIn wsX4_run (va_wsS RX4 89 yX4_needUpTo wsX4_needUpTo) := goodIn_app (goodIn_of _ (by decide +kernel)) ggX4_run_X4_needUpTo
set_option maxRecDepth 20000 in
theorem ggX4_run_X4_needCloth : GoodIn wsX4_run wsX4_needCloth := goodIn_ca (goodIn_r _ [14, 15, 16, 17, 18, 19, 4, 20, 21, 47, 48, 49, 50, 51, 52, 53, 54, 55, 56] (by decide +kernel) (by decide +kernel)) (goodIn_sub (fun _ h => List.mem_cons_of_mem _ (List.mem_append_right _ h)) (by decide +kernel))
set_option maxRecDepth 20000 in
theorem gX4_run_X4_needCloth : GoodIn wsX4_run (wsV RX4 129 RX4 yX4_needCloth wsX4_needCloth) := goodIn_app (goodIn_of _ (by decide +kernel)) ggX4_run_X4_needCloth
set_option maxRecDepth 20000 in
theorem ggX4_run_X0_runsOf : GoodIn wsX4_run wsX0_runsOf := goodIn_r _ [26, 27, 28, 29, 30, 31, 32, 33, 34, 4, 35, 36, 37, 57, 58, 59, 60, 61, 62, 63] (by decide +kernel) (by decide +kernel)
set_option maxRecDepth 20000 in
theorem gX4_run_X0_runsOf : GoodIn wsX4_run (wsV RX4 135 RX0 yX0_runsOf wsX0_runsOf) := goodIn_app (goodIn_of _ (by decide +kernel)) ggX4_run_X0_runsOf
set_option maxRecDepth 20000 in
theorem ggX4_run_X0_colourOfRun : GoodIn wsX4_run wsX0_colourOfRun := goodIn_r _ [41, 27, 42, 28, 29, 30, 31, 32, 33, 34, 4, 35, 36, 37, 57, 58, 59, 60, 61, 62, 63] (by decide +kernel) (by decide +kernel)
set_option maxRecDepth 20000 in
theorem gX4_run_X0_colourOfRun : GoodIn wsX4_run (wsV RX4 138 RX0 yX0_colourOfRun wsX0_colourOfRun) := goodIn_app (goodIn_of _ (by decide +kernel)) ggX4_run_X0_colourOfRun
set_option maxRecDepth 20000 in
theorem ggX4_run_X0_lengthOfRun : GoodIn wsX4_run wsX0_lengthOfRun := goodIn_r _ [46, 27, 28, 29, 30, 31, 32, 33, 34, 4, 35, 36, 37, 57, 58, 59, 60, 61, 62, 63] (by decide +kernel) (by decide +kernel)
set_option maxRecDepth 20000 in
theorem gX4_run_X0_lengthOfRun : GoodIn wsX4_run (wsV RX4 141 RX0 yX0_lengthOfRun wsX0_lengthOfRun) := goodIn_app (goodIn_of _ (by decide +kernel)) ggX4_run_X0_lengthOfRun
theorem dX4_run_0 : decode cX4_run 0 = .ok (.iload_n 1, 1) := by decide +kernel
theorem dX4_run_1 : decode cX4_run 1 = .ok (.invokestatic 76, 3) := by decide +kernel
theorem dX4_run_4 : decode cX4_run 4 = .ok (.iload_n 3, 1) := by decide +kernel
theorem dX4_run_5 : decode cX4_run 5 = .ok (.iconst 1, 1) := by decide +kernel
theorem dX4_run_6 : decode cX4_run 6 = .ok (.invokestatic 89, 3) := by decide +kernel
theorem dX4_run_9 : decode cX4_run 9 = .ok (.aload_n 0, 1) := by decide +kernel
theorem dX4_run_10 : decode cX4_run 10 = .ok (.invokevirtual 129, 3) := by decide +kernel
theorem dX4_run_13 : decode cX4_run 13 = .ok (.iload_n 2, 1) := by decide +kernel
theorem dX4_run_14 : decode cX4_run 14 = .ok (.aload_n 0, 1) := by decide +kernel
theorem dX4_run_15 : decode cX4_run 15 = .ok (.getfield 33, 3) := by decide +kernel
theorem dX4_run_18 : decode cX4_run 18 = .ok (.iload_n 1, 1) := by decide +kernel
theorem dX4_run_19 : decode cX4_run 19 = .ok (.invokevirtual 135, 3) := by decide +kernel
theorem dX4_run_22 : decode cX4_run 22 = .ok (.iconst 1, 1) := by decide +kernel
theorem dX4_run_23 : decode cX4_run 23 = .ok (.isub, 1) := by decide +kernel
theorem dX4_run_24 : decode cX4_run 24 = .ok (.invokestatic 89, 3) := by decide +kernel
theorem dX4_run_27 : decode cX4_run 27 = .ok (.iload_n 3, 1) := by decide +kernel
theorem dX4_run_28 : decode cX4_run 28 = .ok (.ifCond .ne 15, 3) := by decide +kernel
theorem dX4_run_31 : decode cX4_run 31 = .ok (.aload_n 0, 1) := by decide +kernel
theorem dX4_run_32 : decode cX4_run 32 = .ok (.getfield 33, 3) := by decide +kernel
theorem dX4_run_35 : decode cX4_run 35 = .ok (.iload_n 1, 1) := by decide +kernel
theorem dX4_run_36 : decode cX4_run 36 = .ok (.iload_n 2, 1) := by decide +kernel
theorem dX4_run_37 : decode cX4_run 37 = .ok (.invokevirtual 138, 3) := by decide +kernel
theorem dX4_run_40 : decode cX4_run 40 = .ok (.goto 12, 3) := by decide +kernel
theorem dX4_run_43 : decode cX4_run 43 = .ok (.aload_n 0, 1) := by decide +kernel
theorem dX4_run_44 : decode cX4_run 44 = .ok (.getfield 33, 3) := by decide +kernel
theorem dX4_run_47 : decode cX4_run 47 = .ok (.iload_n 1, 1) := by decide +kernel
theorem dX4_run_48 : decode cX4_run 48 = .ok (.iload_n 2, 1) := by decide +kernel
theorem dX4_run_49 : decode cX4_run 49 = .ok (.invokevirtual 141, 3) := by decide +kernel
theorem dX4_run_52 : decode cX4_run 52 = .ok (.ireturn, 1) := by decide +kernel
set_option maxRecDepth 20000 in
theorem ggX4_knots_X4_needRow : GoodIn wsX4_knots wsX4_needRow := goodIn_ca (goodIn_r _ [6, 7, 8, 5, 9, 10, 11] (by decide +kernel) (by decide +kernel)) (goodIn_sub (fun _ h => List.mem_cons_of_mem _ (List.mem_append_left _ (List.mem_append_right _ h))) (by decide +kernel))
set_option maxRecDepth 20000 in
theorem gX4_knots_X4_needRow : GoodIn wsX4_knots (va_wsS RX4 76 yX4_needRow wsX4_needRow) := goodIn_app (goodIn_of _ (by decide +kernel)) ggX4_knots_X4_needRow
set_option maxRecDepth 20000 in
theorem ggX4_knots_X4_needCloth : GoodIn wsX4_knots wsX4_needCloth := goodIn_ca (goodIn_r _ [15, 16, 17, 18, 19, 20, 5, 21, 22, 48, 49, 50, 51, 52, 53, 54, 55, 56, 57] (by decide +kernel) (by decide +kernel)) (goodIn_sub (fun _ h => List.mem_cons_of_mem _ (List.mem_append_right _ h)) (by decide +kernel))
set_option maxRecDepth 20000 in
theorem gX4_knots_X4_needCloth : GoodIn wsX4_knots (wsV RX4 129 RX4 yX4_needCloth wsX4_needCloth) := goodIn_app (goodIn_of _ (by decide +kernel)) ggX4_knots_X4_needCloth
set_option maxRecDepth 20000 in
theorem ggX4_knots_X0_knotsOf : GoodIn wsX4_knots wsX0_knotsOf := goodIn_r _ [27, 28, 29, 30, 26, 31, 32, 33, 34, 35, 36, 37, 38, 39, 5, 40, 41, 42, 43, 44, 45, 46, 47, 58, 59, 60, 61, 62, 63, 64] (by decide +kernel) (by decide +kernel)
set_option maxRecDepth 20000 in
theorem gX4_knots_X0_knotsOf : GoodIn wsX4_knots (wsV RX4 144 RX0 yX0_knotsOf wsX0_knotsOf) := goodIn_app (goodIn_of _ (by decide +kernel)) ggX4_knots_X0_knotsOf
theorem dX4_knots_0 : decode cX4_knots 0 = .ok (.iload_n 1, 1) := by decide +kernel
theorem dX4_knots_1 : decode cX4_knots 1 = .ok (.invokestatic 76, 3) := by decide +kernel
theorem dX4_knots_4 : decode cX4_knots 4 = .ok (.aload_n 0, 1) := by decide +kernel
theorem dX4_knots_5 : decode cX4_knots 5 = .ok (.invokevirtual 129, 3) := by decide +kernel
theorem dX4_knots_8 : decode cX4_knots 8 = .ok (.aload_n 0, 1) := by decide +kernel
theorem dX4_knots_9 : decode cX4_knots 9 = .ok (.getfield 33, 3) := by decide +kernel
theorem dX4_knots_12 : decode cX4_knots 12 = .ok (.iload_n 1, 1) := by decide +kernel
theorem dX4_knots_13 : decode cX4_knots 13 = .ok (.aload_n 0, 1) := by decide +kernel
theorem dX4_knots_14 : decode cX4_knots 14 = .ok (.getfield 51, 3) := by decide +kernel
theorem dX4_knots_17 : decode cX4_knots 17 = .ok (.invokevirtual 144, 3) := by decide +kernel
theorem dX4_knots_20 : decode cX4_knots 20 = .ok (.ireturn, 1) := by decide +kernel
set_option maxRecDepth 20000 in
theorem ggX4_thread_X4_needColour : GoodIn wsX4_thread wsX4_needColour := goodIn_ca (goodIn_r _ [6, 7, 8, 5, 9, 10, 11] (by decide +kernel) (by decide +kernel)) (goodIn_sub (fun _ h => List.mem_cons_of_mem _ (List.mem_append_right _ h)) (by decide +kernel))
set_option maxRecDepth 20000 in
theorem gX4_thread_X4_needColour : GoodIn wsX4_thread (va_wsS RX4 92 yX4_needColour wsX4_needColour) := goodIn_app (goodIn_of _ (by decide +kernel)) ggX4_thread_X4_needColour
set_option maxRecDepth 20000 in
theorem ggX4_thread_X4_needUpTo : GoodIn wsX4_thread wsX4_needUpTo := goodIn_ca (goodIn_r _ [9, 10, 11] (by decide +kernel) (by decide +kernel)) (goodIn_sub (fun _ h => List.mem_cons_of_mem _ (List.mem_append_right _ h)) (by decide +kernel))
set_option maxRecDepth 20000 in
theorem gX4_thread_X4_needUpTo : GoodIn wsX4_thread (va_wsS RX4 89 yX4_needUpTo wsX4_needUpTo) := goodIn_app (goodIn_of _ (by decide +kernel)) ggX4_thread_X4_needUpTo
set_option maxRecDepth 20000 in
theorem ggX4_thread_X3_holds : GoodIn wsX4_thread wsX3_holds := goodIn_r _ [16, 17, 18, 5, 19, 53] (by decide +kernel) (by decide +kernel)
set_option maxRecDepth 20000 in
theorem gX4_thread_X3_holds : GoodIn wsX4_thread (wsV RX4 101 RX3 yX3_holds wsX3_holds) := goodIn_app (goodIn_of _ (by decide +kernel)) ggX4_thread_X3_holds
set_option maxRecDepth 20000 in
theorem ggX4_thread_X4_hasCloth : GoodIn wsX4_thread wsX4_hasCloth := goodIn_r _ [23, 24, 43, 44, 45, 46, 47, 48, 49, 50, 51, 52] (by decide +kernel) (by decide +kernel)
set_option maxRecDepth 20000 in
theorem gX4_thread_X4_hasCloth : GoodIn wsX4_thread (wsV RX4 148 RX4 yX4_hasCloth wsX4_hasCloth) := goodIn_app (goodIn_of _ (by decide +kernel)) ggX4_thread_X4_hasCloth
set_option maxRecDepth 20000 in
theorem ggX4_thread_X0_cellsIn : GoodIn wsX4_thread wsX0_cellsIn := goodIn_r _ [29, 30, 18, 5, 19, 54, 55, 56, 57, 58, 59] (by decide +kernel) (by decide +kernel)
set_option maxRecDepth 20000 in
theorem gX4_thread_X0_cellsIn : GoodIn wsX4_thread (wsV RX4 152 RX0 yX0_cellsIn wsX0_cellsIn) := goodIn_app (goodIn_of _ (by decide +kernel)) ggX4_thread_X0_cellsIn
set_option maxRecDepth 20000 in
theorem ggX4_thread_X0_shadeOf : GoodIn wsX4_thread wsX0_shadeOf := goodIn_r _ [34, 35, 36, 37, 38, 39, 40, 41, 42, 18, 5, 19, 54, 55, 56, 57, 58, 59, 60, 61, 62, 63, 64] (by decide +kernel) (by decide +kernel)
set_option maxRecDepth 20000 in
theorem gX4_thread_X0_shadeOf : GoodIn wsX4_thread (wsV RX4 155 RX0 yX0_shadeOf wsX0_shadeOf) := goodIn_app (goodIn_of _ (by decide +kernel)) ggX4_thread_X0_shadeOf
theorem dX4_thread_0 : decode cX4_thread 0 = .ok (.iload_n 1, 1) := by decide +kernel
theorem dX4_thread_1 : decode cX4_thread 1 = .ok (.invokestatic 92, 3) := by decide +kernel
theorem dX4_thread_4 : decode cX4_thread 4 = .ok (.iload_n 2, 1) := by decide +kernel
theorem dX4_thread_5 : decode cX4_thread 5 = .ok (.iconst 2, 1) := by decide +kernel
theorem dX4_thread_6 : decode cX4_thread 6 = .ok (.invokestatic 89, 3) := by decide +kernel
theorem dX4_thread_9 : decode cX4_thread 9 = .ok (.iload_n 2, 1) := by decide +kernel
theorem dX4_thread_10 : decode cX4_thread 10 = .ok (.ifCond .ne 12, 3) := by decide +kernel
theorem dX4_thread_13 : decode cX4_thread 13 = .ok (.aload_n 0, 1) := by decide +kernel
theorem dX4_thread_14 : decode cX4_thread 14 = .ok (.getfield 26, 3) := by decide +kernel
theorem dX4_thread_17 : decode cX4_thread 17 = .ok (.iload_n 1, 1) := by decide +kernel
theorem dX4_thread_18 : decode cX4_thread 18 = .ok (.invokevirtual 101, 3) := by decide +kernel
theorem dX4_thread_21 : decode cX4_thread 21 = .ok (.ireturn, 1) := by decide +kernel
theorem dX4_thread_22 : decode cX4_thread 22 = .ok (.iload_n 2, 1) := by decide +kernel
theorem dX4_thread_23 : decode cX4_thread 23 = .ok (.iconst 1, 1) := by decide +kernel
theorem dX4_thread_24 : decode cX4_thread 24 = .ok (.if_icmp .ne 23, 3) := by decide +kernel
theorem dX4_thread_27 : decode cX4_thread 27 = .ok (.aload_n 0, 1) := by decide +kernel
theorem dX4_thread_28 : decode cX4_thread 28 = .ok (.invokevirtual 148, 3) := by decide +kernel
theorem dX4_thread_31 : decode cX4_thread 31 = .ok (.ifCond .eq 14, 3) := by decide +kernel
theorem dX4_thread_34 : decode cX4_thread 34 = .ok (.aload_n 0, 1) := by decide +kernel
theorem dX4_thread_35 : decode cX4_thread 35 = .ok (.getfield 33, 3) := by decide +kernel
theorem dX4_thread_38 : decode cX4_thread 38 = .ok (.iload_n 1, 1) := by decide +kernel
theorem dX4_thread_39 : decode cX4_thread 39 = .ok (.invokevirtual 152, 3) := by decide +kernel
theorem dX4_thread_42 : decode cX4_thread 42 = .ok (.goto 4, 3) := by decide +kernel
theorem dX4_thread_45 : decode cX4_thread 45 = .ok (.iconst 0, 1) := by decide +kernel
theorem dX4_thread_46 : decode cX4_thread 46 = .ok (.ireturn, 1) := by decide +kernel
theorem dX4_thread_47 : decode cX4_thread 47 = .ok (.aload_n 0, 1) := by decide +kernel
theorem dX4_thread_48 : decode cX4_thread 48 = .ok (.invokevirtual 148, 3) := by decide +kernel
theorem dX4_thread_51 : decode cX4_thread 51 = .ok (.ifCond .eq 14, 3) := by decide +kernel
theorem dX4_thread_54 : decode cX4_thread 54 = .ok (.aload_n 0, 1) := by decide +kernel
theorem dX4_thread_55 : decode cX4_thread 55 = .ok (.getfield 33, 3) := by decide +kernel
theorem dX4_thread_58 : decode cX4_thread 58 = .ok (.iload_n 1, 1) := by decide +kernel
theorem dX4_thread_59 : decode cX4_thread 59 = .ok (.invokevirtual 155, 3) := by decide +kernel
theorem dX4_thread_62 : decode cX4_thread 62 = .ok (.goto 4, 3) := by decide +kernel
theorem dX4_thread_65 : decode cX4_thread 65 = .ok (.iconst (-1), 1) := by decide +kernel
theorem dX4_thread_66 : decode cX4_thread 66 = .ok (.ireturn, 1) := by decide +kernel
set_option maxRecDepth 20000 in
theorem ggX4_count_X4_needUpTo : GoodIn wsX4_count wsX4_needUpTo := goodIn_ca (goodIn_r _ [4, 5, 6] (by decide +kernel) (by decide +kernel)) (goodIn_sub (fun _ h => List.mem_cons_of_mem _ (List.mem_append_right _ h)) (by decide +kernel))
set_option maxRecDepth 20000 in
theorem gX4_count_X4_needUpTo : GoodIn wsX4_count (va_wsS RX4 89 yX4_needUpTo wsX4_needUpTo) := goodIn_app (goodIn_of _ (by decide +kernel)) ggX4_count_X4_needUpTo
set_option maxRecDepth 20000 in
theorem ggX4_count_X4_counted : GoodIn wsX4_count wsX4_counted := goodIn_r _ [10, 11, 12, 13, 14, 15, 16, 17, 18, 19, 20, 21, 22, 23, 24, 25, 26, 27, 28, 3, 29, 30, 31, 32, 33, 34, 35, 36, 37, 38, 39, 40, 41, 42, 43, 44, 45, 46, 47, 48, 49, 50, 51, 52, 53, 54, 55, 56, 57, 58, 59, 60, 61, 62, 63, 64, 65, 66, 67, 68, 69, 70, 71, 72, 73, 74, 75, 76, 77, 78, 79, 80, 81, 82, 83] (by decide +kernel) (by decide +kernel)
set_option maxRecDepth 20000 in
theorem gX4_count_X4_counted : GoodIn wsX4_count (wsV RX4 156 RX4 yX4_counted wsX4_counted) := goodIn_app (goodIn_of _ (by decide +kernel)) ggX4_count_X4_counted
theorem dX4_count_0 : decode cX4_count 0 = .ok (.iload_n 1, 1) := by decide +kernel
theorem dX4_count_1 : decode cX4_count 1 = .ok (.bipush 7, 2) := by decide +kernel
theorem dX4_count_3 : decode cX4_count 3 = .ok (.invokestatic 89, 3) := by decide +kernel
theorem dX4_count_6 : decode cX4_count 6 = .ok (.aload_n 0, 1) := by decide +kernel
theorem dX4_count_7 : decode cX4_count 7 = .ok (.iload_n 1, 1) := by decide +kernel
theorem dX4_count_8 : decode cX4_count 8 = .ok (.invokevirtual 156, 3) := by decide +kernel
theorem dX4_count_11 : decode cX4_count 11 = .ok (.ireturn, 1) := by decide +kernel
set_option maxRecDepth 20000 in
theorem ggX4_would_X4_needColours : GoodIn wsX4_would wsX4_needColours := goodIn_ca (goodIn_r _ [9, 10, 11, 8, 12, 13, 14] (by decide +kernel) (by decide +kernel)) (goodIn_sub (fun _ h => List.mem_cons_of_mem _ (List.mem_append_left _ (List.mem_append_right _ h))) (by decide +kernel))
set_option maxRecDepth 20000 in
theorem gX4_would_X4_needColours : GoodIn wsX4_would (va_wsS RX4 86 yX4_needColours wsX4_needColours) := goodIn_app (goodIn_of _ (by decide +kernel)) ggX4_would_X4_needColours
set_option maxRecDepth 20000 in
theorem ggX4_would_X4_needUpTo : GoodIn wsX4_would wsX4_needUpTo := goodIn_ca (goodIn_r _ [17, 18, 19] (by decide +kernel) (by decide +kernel)) (goodIn_sub (fun _ h => List.mem_cons_of_mem _ (List.mem_append_right _ h)) (by decide +kernel))
set_option maxRecDepth 20000 in
theorem gX4_would_X4_needUpTo : GoodIn wsX4_would (va_wsS RX4 89 yX4_needUpTo wsX4_needUpTo) := goodIn_app (goodIn_of _ (by decide +kernel)) ggX4_would_X4_needUpTo
set_option maxRecDepth 20000 in
theorem ggX4_would_X0_make : GoodIn wsX4_would wsX0_make := goodIn_r _ [24, 25, 26, 27, 28, 29, 30, 31, 32, 33, 34, 35, 36, 37, 38, 39, 40, 41, 42, 8, 43, 44, 45, 46, 47, 48, 49, 50, 51, 52, 53, 54, 55, 56, 57, 58, 59, 60, 61, 62, 63, 64, 65, 66, 67, 68, 69, 70, 71, 72, 73, 74, 75, 76, 77, 78, 79, 80, 81, 82, 83, 84, 85, 86, 87, 88, 89, 90, 91, 23, 92, 93, 94, 95, 96, 97, 98, 99, 100, 101, 102, 103, 104, 105, 106, 107, 108, 109, 110, 111, 112, 113, 114, 115, 116, 117, 118, 119, 120, 121, 122, 123, 124, 125, 126, 127, 128, 129, 130, 131, 170, 171, 172, 173, 174, 175, 176, 177, 178, 179, 180, 181] (by decide +kernel) (by decide +kernel)
set_option maxRecDepth 20000 in
theorem gX4_would_X0_make : GoodIn wsX4_would (wsV RX4 104 RX0 yX0_make wsX0_make) := goodIn_app (goodIn_of _ (by decide +kernel)) ggX4_would_X0_make
set_option maxRecDepth 20000 in
theorem ggX4_would_X0_colourCount : GoodIn wsX4_would wsX0_colourCount := goodIn_r _ [135, 25, 136, 137, 138, 32, 139, 34, 170, 171, 172, 173, 174, 175, 176, 177, 178, 179, 180] (by decide +kernel) (by decide +kernel)
set_option maxRecDepth 20000 in
theorem gX4_would_X0_colourCount : GoodIn wsX4_would (wsV RX4 159 RX0 yX0_colourCount wsX0_colourCount) := goodIn_app (goodIn_of _ (by decide +kernel)) ggX4_would_X0_colourCount
set_option maxRecDepth 20000 in
theorem ggX4_would_X0_offInAll : GoodIn wsX4_would wsX0_offInAll := goodIn_r _ [143, 28, 170, 171, 172, 173, 174, 175] (by decide +kernel) (by decide +kernel)
set_option maxRecDepth 20000 in
theorem gX4_would_X0_offInAll : GoodIn wsX4_would (wsV RX4 163 RX0 yX0_offInAll wsX0_offInAll) := goodIn_app (goodIn_of _ (by decide +kernel)) ggX4_would_X0_offInAll
set_option maxRecDepth 20000 in
theorem ggX4_would_X0_allKnots : GoodIn wsX4_would wsX0_allKnots := goodIn_r _ [147, 148, 149, 150, 23, 151, 152, 153, 154, 155, 93, 98, 45, 46, 47, 48, 49, 50, 8, 51, 52, 53, 156, 157, 158, 159, 131, 170, 171, 172, 173, 174, 175, 181] (by decide +kernel) (by decide +kernel)
set_option maxRecDepth 20000 in
theorem gX4_would_X0_allKnots : GoodIn wsX4_would (wsV RX4 118 RX0 yX0_allKnots wsX0_allKnots) := goodIn_app (goodIn_of _ (by decide +kernel)) ggX4_would_X0_allKnots
theorem dX4_would_0 : decode cX4_would 0 = .ok (.iload_n 1, 1) := by decide +kernel
theorem dX4_would_1 : decode cX4_would 1 = .ok (.invokestatic 86, 3) := by decide +kernel
theorem dX4_would_4 : decode cX4_would 4 = .ok (.iload_n 2, 1) := by decide +kernel
theorem dX4_would_5 : decode cX4_would 5 = .ok (.iconst 2, 1) := by decide +kernel
theorem dX4_would_6 : decode cX4_would 6 = .ok (.invokestatic 89, 3) := by decide +kernel
theorem dX4_would_9 : decode cX4_would 9 = .ok (.aload_n 0, 1) := by decide +kernel
theorem dX4_would_10 : decode cX4_would 10 = .ok (.getfield 37, 3) := by decide +kernel
theorem dX4_would_13 : decode cX4_would 13 = .ok (.aload_n 0, 1) := by decide +kernel
theorem dX4_would_14 : decode cX4_would 14 = .ok (.getfield 10, 3) := by decide +kernel
theorem dX4_would_17 : decode cX4_would 17 = .ok (.iload_n 1, 1) := by decide +kernel
theorem dX4_would_18 : decode cX4_would 18 = .ok (.aload_n 0, 1) := by decide +kernel
theorem dX4_would_19 : decode cX4_would 19 = .ok (.getfield 44, 3) := by decide +kernel
theorem dX4_would_22 : decode cX4_would 22 = .ok (.aload_n 0, 1) := by decide +kernel
theorem dX4_would_23 : decode cX4_would 23 = .ok (.getfield 47, 3) := by decide +kernel
theorem dX4_would_26 : decode cX4_would 26 = .ok (.invokevirtual 104, 3) := by decide +kernel
theorem dX4_would_29 : decode cX4_would 29 = .ok (.iload_n 2, 1) := by decide +kernel
theorem dX4_would_30 : decode cX4_would 30 = .ok (.ifCond .ne 11, 3) := by decide +kernel
theorem dX4_would_33 : decode cX4_would 33 = .ok (.aload_n 0, 1) := by decide +kernel
theorem dX4_would_34 : decode cX4_would 34 = .ok (.getfield 37, 3) := by decide +kernel
theorem dX4_would_37 : decode cX4_would 37 = .ok (.invokevirtual 159, 3) := by decide +kernel
theorem dX4_would_40 : decode cX4_would 40 = .ok (.ireturn, 1) := by decide +kernel
theorem dX4_would_41 : decode cX4_would 41 = .ok (.iload_n 2, 1) := by decide +kernel
theorem dX4_would_42 : decode cX4_would 42 = .ok (.iconst 1, 1) := by decide +kernel
theorem dX4_would_43 : decode cX4_would 43 = .ok (.if_icmp .ne 13, 3) := by decide +kernel
theorem dX4_would_46 : decode cX4_would 46 = .ok (.aload_n 0, 1) := by decide +kernel
theorem dX4_would_47 : decode cX4_would 47 = .ok (.getfield 37, 3) := by decide +kernel
theorem dX4_would_50 : decode cX4_would 50 = .ok (.invokevirtual 163, 3) := by decide +kernel
theorem dX4_would_53 : decode cX4_would 53 = .ok (.goto 14, 3) := by decide +kernel
theorem dX4_would_56 : decode cX4_would 56 = .ok (.aload_n 0, 1) := by decide +kernel
theorem dX4_would_57 : decode cX4_would 57 = .ok (.getfield 37, 3) := by decide +kernel
theorem dX4_would_60 : decode cX4_would 60 = .ok (.aload_n 0, 1) := by decide +kernel
theorem dX4_would_61 : decode cX4_would 61 = .ok (.getfield 51, 3) := by decide +kernel
theorem dX4_would_64 : decode cX4_would 64 = .ok (.invokevirtual 118, 3) := by decide +kernel
theorem dX4_would_67 : decode cX4_would 67 = .ok (.ireturn, 1) := by decide +kernel
set_option maxRecDepth 20000 in
theorem ggX4_advise_X4_needKnots : GoodIn wsX4_advise wsX4_needKnots := goodIn_ca (goodIn_r _ [9, 10, 11, 8, 12, 13, 14] (by decide +kernel) (by decide +kernel)) (goodIn_sub (fun _ h => List.mem_cons_of_mem _ (List.mem_append_right _ h)) (by decide +kernel))
set_option maxRecDepth 20000 in
theorem gX4_advise_X4_needKnots : GoodIn wsX4_advise (va_wsS RX4 166 yX4_needKnots wsX4_needKnots) := goodIn_app (goodIn_of _ (by decide +kernel)) ggX4_advise_X4_needKnots
set_option maxRecDepth 20000 in
theorem ggX4_advise_X0_make : GoodIn wsX4_advise wsX0_make := goodIn_r _ [19, 20, 21, 22, 23, 24, 25, 26, 27, 28, 29, 30, 31, 32, 33, 34, 35, 36, 37, 8, 38, 39, 40, 41, 42, 43, 44, 45, 46, 47, 48, 49, 50, 51, 52, 53, 54, 55, 56, 57, 58, 59, 60, 61, 62, 63, 64, 65, 66, 67, 68, 69, 70, 71, 72, 73, 74, 75, 76, 77, 78, 79, 80, 81, 82, 83, 84, 85, 86, 18, 87, 88, 89, 90, 91, 92, 93, 94, 95, 96, 97, 98, 99, 100, 101, 102, 103, 104, 105, 106, 107, 108, 109, 110, 111, 112, 113, 114, 115, 116, 117, 118, 119, 120, 121, 122, 123, 124, 125, 126, 157, 158, 159, 160, 161, 162, 163, 164, 165, 166, 167, 168] (by decide +kernel) (by decide +kernel)
set_option maxRecDepth 20000 in
theorem gX4_advise_X0_make : GoodIn wsX4_advise (wsV RX4 104 RX0 yX0_make wsX0_make) := goodIn_app (goodIn_of _ (by decide +kernel)) ggX4_advise_X0_make
set_option maxRecDepth 20000 in
theorem ggX4_advise_X0_allKnots : GoodIn wsX4_advise wsX0_allKnots := goodIn_r _ [130, 131, 132, 133, 18, 134, 135, 136, 137, 138, 88, 93, 40, 41, 42, 43, 44, 45, 8, 46, 47, 48, 139, 140, 141, 142, 126, 157, 158, 159, 160, 161, 162, 168] (by decide +kernel) (by decide +kernel)
set_option maxRecDepth 20000 in
theorem gX4_advise_X0_allKnots : GoodIn wsX4_advise (wsV RX4 118 RX0 yX0_allKnots wsX0_allKnots) := goodIn_app (goodIn_of _ (by decide +kernel)) ggX4_advise_X0_allKnots
set_option maxRecDepth 20000 in
theorem ggX4_advise_X0_offInAll : GoodIn wsX4_advise wsX0_offInAll := goodIn_r _ [146, 23, 157, 158, 159, 160, 161, 162] (by decide +kernel) (by decide +kernel)
set_option maxRecDepth 20000 in
theorem gX4_advise_X0_offInAll : GoodIn wsX4_advise (wsV RX4 163 RX0 yX0_offInAll wsX0_offInAll) := goodIn_app (goodIn_of _ (by decide +kernel)) ggX4_advise_X0_offInAll
theorem dX4_advise_0 : decode cX4_advise 0 = .ok (.iload_n 1, 1) := by decide +kernel
theorem dX4_advise_1 : decode cX4_advise 1 = .ok (.invokestatic 166, 3) := by decide +kernel
theorem dX4_advise_4 : decode cX4_advise 4 = .ok (.iconst (-1), 1) := by decide +kernel
theorem dX4_advise_5 : decode cX4_advise 5 = .ok (.istore_n 2, 1) := by decide +kernel
theorem dX4_advise_6 : decode cX4_advise 6 = .ok (.iconst 0, 1) := by decide +kernel
theorem dX4_advise_7 : decode cX4_advise 7 = .ok (.istore_n 3, 1) := by decide +kernel
theorem dX4_advise_8 : decode cX4_advise 8 = .ok (.iconst 2, 1) := by decide +kernel
theorem dX4_advise_9 : decode cX4_advise 9 = .ok (.istore 4, 2) := by decide +kernel
theorem dX4_advise_11 : decode cX4_advise 11 = .ok (.iload 4, 2) := by decide +kernel
theorem dX4_advise_13 : decode cX4_advise 13 = .ok (.bipush 6, 2) := by decide +kernel
theorem dX4_advise_15 : decode cX4_advise 15 = .ok (.if_icmp .gt 83, 3) := by decide +kernel
theorem dX4_advise_18 : decode cX4_advise 18 = .ok (.aload_n 0, 1) := by decide +kernel
theorem dX4_advise_19 : decode cX4_advise 19 = .ok (.getfield 37, 3) := by decide +kernel
theorem dX4_advise_22 : decode cX4_advise 22 = .ok (.aload_n 0, 1) := by decide +kernel
theorem dX4_advise_23 : decode cX4_advise 23 = .ok (.getfield 10, 3) := by decide +kernel
theorem dX4_advise_26 : decode cX4_advise 26 = .ok (.iload 4, 2) := by decide +kernel
theorem dX4_advise_28 : decode cX4_advise 28 = .ok (.aload_n 0, 1) := by decide +kernel
theorem dX4_advise_29 : decode cX4_advise 29 = .ok (.getfield 44, 3) := by decide +kernel
theorem dX4_advise_32 : decode cX4_advise 32 = .ok (.aload_n 0, 1) := by decide +kernel
theorem dX4_advise_33 : decode cX4_advise 33 = .ok (.getfield 47, 3) := by decide +kernel
theorem dX4_advise_36 : decode cX4_advise 36 = .ok (.invokevirtual 104, 3) := by decide +kernel
theorem dX4_advise_39 : decode cX4_advise 39 = .ok (.aload_n 0, 1) := by decide +kernel
theorem dX4_advise_40 : decode cX4_advise 40 = .ok (.getfield 37, 3) := by decide +kernel
theorem dX4_advise_43 : decode cX4_advise 43 = .ok (.aload_n 0, 1) := by decide +kernel
theorem dX4_advise_44 : decode cX4_advise 44 = .ok (.getfield 51, 3) := by decide +kernel
theorem dX4_advise_47 : decode cX4_advise 47 = .ok (.invokevirtual 118, 3) := by decide +kernel
theorem dX4_advise_50 : decode cX4_advise 50 = .ok (.iload_n 1, 1) := by decide +kernel
theorem dX4_advise_51 : decode cX4_advise 51 = .ok (.if_icmp .gt 7, 3) := by decide +kernel
theorem dX4_advise_54 : decode cX4_advise 54 = .ok (.iconst 1, 1) := by decide +kernel
theorem dX4_advise_55 : decode cX4_advise 55 = .ok (.goto 4, 3) := by decide +kernel
theorem dX4_advise_58 : decode cX4_advise 58 = .ok (.iconst 0, 1) := by decide +kernel
theorem dX4_advise_59 : decode cX4_advise 59 = .ok (.istore 5, 2) := by decide +kernel
theorem dX4_advise_61 : decode cX4_advise 61 = .ok (.iload 5, 2) := by decide +kernel
theorem dX4_advise_63 : decode cX4_advise 63 = .ok (.ifCond .eq 29, 3) := by decide +kernel
theorem dX4_advise_66 : decode cX4_advise 66 = .ok (.iload_n 2, 1) := by decide +kernel
theorem dX4_advise_67 : decode cX4_advise 67 = .ok (.ifCond .lt 14, 3) := by decide +kernel
theorem dX4_advise_70 : decode cX4_advise 70 = .ok (.aload_n 0, 1) := by decide +kernel
theorem dX4_advise_71 : decode cX4_advise 71 = .ok (.getfield 37, 3) := by decide +kernel
theorem dX4_advise_74 : decode cX4_advise 74 = .ok (.invokevirtual 163, 3) := by decide +kernel
theorem dX4_advise_77 : decode cX4_advise 77 = .ok (.iload_n 3, 1) := by decide +kernel
theorem dX4_advise_78 : decode cX4_advise 78 = .ok (.if_icmp .ge 14, 3) := by decide +kernel
theorem dX4_advise_81 : decode cX4_advise 81 = .ok (.iload 4, 2) := by decide +kernel
theorem dX4_advise_83 : decode cX4_advise 83 = .ok (.istore_n 2, 1) := by decide +kernel
theorem dX4_advise_84 : decode cX4_advise 84 = .ok (.aload_n 0, 1) := by decide +kernel
theorem dX4_advise_85 : decode cX4_advise 85 = .ok (.getfield 37, 3) := by decide +kernel
theorem dX4_advise_88 : decode cX4_advise 88 = .ok (.invokevirtual 163, 3) := by decide +kernel
theorem dX4_advise_91 : decode cX4_advise 91 = .ok (.istore_n 3, 1) := by decide +kernel
theorem dX4_advise_92 : decode cX4_advise 92 = .ok (.iinc 4 1, 3) := by decide +kernel
theorem dX4_advise_95 : decode cX4_advise 95 = .ok (.goto (-84), 3) := by decide +kernel
theorem dX4_advise_98 : decode cX4_advise 98 = .ok (.iload_n 2, 1) := by decide +kernel
theorem dX4_advise_99 : decode cX4_advise 99 = .ok (.ireturn, 1) := by decide +kernel
set_option maxRecDepth 20000 in
theorem ggX4_mean_X1_at : GoodIn wsX4_mean wsX1_at := goodIn_r _ [7, 8, 9, 10, 11, 12, 13, 24] (by decide +kernel) (by decide +kernel)
set_option maxRecDepth 20000 in
theorem gX4_mean_X1_at : GoodIn wsX4_mean (wsV RX4 68 RX1 yX1_at wsX1_at) := goodIn_app (goodIn_of _ (by decide +kernel)) ggX4_mean_X1_at
theorem dX4_mean_0 : decode cX4_mean 0 = .ok (.iconst 0, 1) := by decide +kernel
theorem dX4_mean_1 : decode cX4_mean 1 = .ok (.istore_n 1, 1) := by decide +kernel
theorem dX4_mean_2 : decode cX4_mean 2 = .ok (.iconst 0, 1) := by decide +kernel
theorem dX4_mean_3 : decode cX4_mean 3 = .ok (.istore_n 2, 1) := by decide +kernel
theorem dX4_mean_4 : decode cX4_mean 4 = .ok (.iload_n 2, 1) := by decide +kernel
theorem dX4_mean_5 : decode cX4_mean 5 = .ok (.bipush 8, 2) := by decide +kernel
theorem dX4_mean_7 : decode cX4_mean 7 = .ok (.if_icmp .ge 35, 3) := by decide +kernel
theorem dX4_mean_10 : decode cX4_mean 10 = .ok (.iconst 0, 1) := by decide +kernel
theorem dX4_mean_11 : decode cX4_mean 11 = .ok (.istore_n 3, 1) := by decide +kernel
theorem dX4_mean_12 : decode cX4_mean 12 = .ok (.iload_n 3, 1) := by decide +kernel
theorem dX4_mean_13 : decode cX4_mean 13 = .ok (.bipush 12, 2) := by decide +kernel
theorem dX4_mean_15 : decode cX4_mean 15 = .ok (.if_icmp .ge 21, 3) := by decide +kernel
theorem dX4_mean_18 : decode cX4_mean 18 = .ok (.iload_n 1, 1) := by decide +kernel
theorem dX4_mean_19 : decode cX4_mean 19 = .ok (.aload_n 0, 1) := by decide +kernel
theorem dX4_mean_20 : decode cX4_mean 20 = .ok (.getfield 10, 3) := by decide +kernel
theorem dX4_mean_23 : decode cX4_mean 23 = .ok (.iload_n 3, 1) := by decide +kernel
theorem dX4_mean_24 : decode cX4_mean 24 = .ok (.iload_n 2, 1) := by decide +kernel
theorem dX4_mean_25 : decode cX4_mean 25 = .ok (.invokevirtual 68, 3) := by decide +kernel
theorem dX4_mean_28 : decode cX4_mean 28 = .ok (.iadd, 1) := by decide +kernel
theorem dX4_mean_29 : decode cX4_mean 29 = .ok (.istore_n 1, 1) := by decide +kernel
theorem dX4_mean_30 : decode cX4_mean 30 = .ok (.iinc 3 1, 3) := by decide +kernel
theorem dX4_mean_33 : decode cX4_mean 33 = .ok (.goto (-21), 3) := by decide +kernel
theorem dX4_mean_36 : decode cX4_mean 36 = .ok (.iinc 2 1, 3) := by decide +kernel
theorem dX4_mean_39 : decode cX4_mean 39 = .ok (.goto (-35), 3) := by decide +kernel
theorem dX4_mean_42 : decode cX4_mean 42 = .ok (.iload_n 1, 1) := by decide +kernel
theorem dX4_mean_43 : decode cX4_mean 43 = .ok (.i2d, 1) := by decide +kernel
theorem dX4_mean_44 : decode cX4_mean 44 = .ok (.ldc2_w 169, 3) := by decide +kernel
theorem dX4_mean_47 : decode cX4_mean 47 = .ok (.ddiv, 1) := by decide +kernel
theorem dX4_mean_48 : decode cX4_mean 48 = .ok (.dreturn, 1) := by decide +kernel
set_option maxRecDepth 20000 in
theorem ggX4_digest_X4_counted : GoodIn wsX4_digest wsX4_counted := goodIn_r _ [10, 11, 12, 13, 14, 15, 4, 5, 16, 17, 18, 19, 20, 21, 22, 23, 24, 25, 26, 9, 27, 28, 29, 30, 31, 32, 33, 34, 35, 36, 37, 38, 39, 40, 41, 42, 43, 44, 45, 46, 47, 48, 49, 50, 51, 52, 53, 54, 55, 56, 57, 58, 59, 60, 61, 62, 63, 88, 89, 90, 91, 92, 93, 94, 95, 96, 97, 98, 99, 100, 101, 102, 103, 104, 105] (by decide +kernel) (by decide +kernel)
set_option maxRecDepth 20000 in
theorem gX4_digest_X4_counted : GoodIn wsX4_digest (wsV RX4 156 RX4 yX4_counted wsX4_counted) := goodIn_app (goodIn_of _ (by decide +kernel)) ggX4_digest_X4_counted
set_option maxRecDepth 20000 in
theorem ggX4_digest_X1_digestFrom : GoodIn wsX4_digest wsX1_digestFrom := goodIn_r _ [67, 56, 68, 9, 69, 2, 70, 26, 27, 105] (by decide +kernel) (by decide +kernel)
set_option maxRecDepth 20000 in
theorem gX4_digest_X1_digestFrom : GoodIn wsX4_digest (wsV RX4 175 RX1 yX1_digestFrom wsX1_digestFrom) := goodIn_app (goodIn_of _ (by decide +kernel)) ggX4_digest_X1_digestFrom
set_option maxRecDepth 20000 in
theorem ggX4_digest_X3_digestFrom : GoodIn wsX4_digest wsX3_digestFrom := goodIn_r _ [74, 25, 68, 9, 69, 2, 70, 26, 27, 98] (by decide +kernel) (by decide +kernel)
set_option maxRecDepth 20000 in
theorem gX4_digest_X3_digestFrom : GoodIn wsX4_digest (wsV RX4 179 RX3 yX3_digestFrom wsX3_digestFrom) := goodIn_app (goodIn_of _ (by decide +kernel)) ggX4_digest_X3_digestFrom
set_option maxRecDepth 20000 in
theorem ggX4_digest_X4_hasCloth : GoodIn wsX4_digest wsX4_hasCloth := goodIn_r _ [31, 15, 88, 89, 90, 91, 92, 93, 94, 95, 96, 97] (by decide +kernel) (by decide +kernel)
set_option maxRecDepth 20000 in
theorem gX4_digest_X4_hasCloth : GoodIn wsX4_digest (wsV RX4 148 RX4 yX4_hasCloth wsX4_hasCloth) := goodIn_app (goodIn_of _ (by decide +kernel)) ggX4_digest_X4_hasCloth
set_option maxRecDepth 20000 in
theorem ggX4_digest_X0_digestFrom : GoodIn wsX4_digest wsX0_digestFrom := goodIn_r _ [78, 50, 79, 80, 81, 82, 83, 84, 85, 86, 68, 9, 69, 2, 70, 26, 27, 87, 65, 66, 54, 67, 56, 99, 100, 101, 102, 103, 104, 106, 107, 108, 109, 110, 105] (by decide +kernel) (by decide +kernel)
set_option maxRecDepth 20000 in
theorem gX4_digest_X0_digestFrom : GoodIn wsX4_digest (wsV RX4 180 RX0 yX0_digestFrom wsX0_digestFrom) := goodIn_app (goodIn_of _ (by decide +kernel)) ggX4_digest_X0_digestFrom
theorem dX4_digest_0 : decode cX4_digest 0 = .ok (.ldc2_w 171, 3) := by decide +kernel
theorem dX4_digest_3 : decode cX4_digest 3 = .ok (.lstore_n 1, 1) := by decide +kernel
theorem dX4_digest_4 : decode cX4_digest 4 = .ok (.iconst 0, 1) := by decide +kernel
theorem dX4_digest_5 : decode cX4_digest 5 = .ok (.istore_n 3, 1) := by decide +kernel
theorem dX4_digest_6 : decode cX4_digest 6 = .ok (.iload_n 3, 1) := by decide +kernel
theorem dX4_digest_7 : decode cX4_digest 7 = .ok (.bipush 8, 2) := by decide +kernel
theorem dX4_digest_9 : decode cX4_digest 9 = .ok (.if_icmp .ge 22, 3) := by decide +kernel
theorem dX4_digest_12 : decode cX4_digest 12 = .ok (.lload_n 1, 1) := by decide +kernel
theorem dX4_digest_13 : decode cX4_digest 13 = .ok (.ldc2_w 173, 3) := by decide +kernel
theorem dX4_digest_16 : decode cX4_digest 16 = .ok (.lmul, 1) := by decide +kernel
theorem dX4_digest_17 : decode cX4_digest 17 = .ok (.aload_n 0, 1) := by decide +kernel
theorem dX4_digest_18 : decode cX4_digest 18 = .ok (.iload_n 3, 1) := by decide +kernel
theorem dX4_digest_19 : decode cX4_digest 19 = .ok (.invokevirtual 156, 3) := by decide +kernel
theorem dX4_digest_22 : decode cX4_digest 22 = .ok (.i2l, 1) := by decide +kernel
theorem dX4_digest_23 : decode cX4_digest 23 = .ok (.ladd, 1) := by decide +kernel
theorem dX4_digest_24 : decode cX4_digest 24 = .ok (.lstore_n 1, 1) := by decide +kernel
theorem dX4_digest_25 : decode cX4_digest 25 = .ok (.iinc 3 1, 3) := by decide +kernel
theorem dX4_digest_28 : decode cX4_digest 28 = .ok (.goto (-22), 3) := by decide +kernel
theorem dX4_digest_31 : decode cX4_digest 31 = .ok (.aload_n 0, 1) := by decide +kernel
theorem dX4_digest_32 : decode cX4_digest 32 = .ok (.getfield 10, 3) := by decide +kernel
theorem dX4_digest_35 : decode cX4_digest 35 = .ok (.lload_n 1, 1) := by decide +kernel
theorem dX4_digest_36 : decode cX4_digest 36 = .ok (.invokevirtual 175, 3) := by decide +kernel
theorem dX4_digest_39 : decode cX4_digest 39 = .ok (.lstore_n 1, 1) := by decide +kernel
theorem dX4_digest_40 : decode cX4_digest 40 = .ok (.aload_n 0, 1) := by decide +kernel
theorem dX4_digest_41 : decode cX4_digest 41 = .ok (.getfield 26, 3) := by decide +kernel
theorem dX4_digest_44 : decode cX4_digest 44 = .ok (.lload_n 1, 1) := by decide +kernel
theorem dX4_digest_45 : decode cX4_digest 45 = .ok (.invokevirtual 179, 3) := by decide +kernel
theorem dX4_digest_48 : decode cX4_digest 48 = .ok (.lstore_n 1, 1) := by decide +kernel
theorem dX4_digest_49 : decode cX4_digest 49 = .ok (.aload_n 0, 1) := by decide +kernel
theorem dX4_digest_50 : decode cX4_digest 50 = .ok (.invokevirtual 148, 3) := by decide +kernel
theorem dX4_digest_53 : decode cX4_digest 53 = .ok (.ifCond .eq 14, 3) := by decide +kernel
theorem dX4_digest_56 : decode cX4_digest 56 = .ok (.aload_n 0, 1) := by decide +kernel
theorem dX4_digest_57 : decode cX4_digest 57 = .ok (.getfield 33, 3) := by decide +kernel
theorem dX4_digest_60 : decode cX4_digest 60 = .ok (.lload_n 1, 1) := by decide +kernel
theorem dX4_digest_61 : decode cX4_digest 61 = .ok (.invokevirtual 180, 3) := by decide +kernel
theorem dX4_digest_64 : decode cX4_digest 64 = .ok (.goto 4, 3) := by decide +kernel
theorem dX4_digest_67 : decode cX4_digest 67 = .ok (.lload_n 1, 1) := by decide +kernel
theorem dX4_digest_68 : decode cX4_digest 68 = .ok (.lreturn, 1) := by decide +kernel
theorem dX4_hasCloth_0 : decode cX4_hasCloth 0 = .ok (.aload_n 0, 1) := by decide +kernel
theorem dX4_hasCloth_1 : decode cX4_hasCloth 1 = .ok (.getfield 54, 3) := by decide +kernel
theorem dX4_hasCloth_4 : decode cX4_hasCloth 4 = .ok (.ifCond .le 7, 3) := by decide +kernel
theorem dX4_hasCloth_7 : decode cX4_hasCloth 7 = .ok (.iconst 1, 1) := by decide +kernel
theorem dX4_hasCloth_8 : decode cX4_hasCloth 8 = .ok (.goto 4, 3) := by decide +kernel
theorem dX4_hasCloth_11 : decode cX4_hasCloth 11 = .ok (.iconst 0, 1) := by decide +kernel
theorem dX4_hasCloth_12 : decode cX4_hasCloth 12 = .ok (.ireturn, 1) := by decide +kernel
theorem dX4_keepTrial_0 : decode cX4_keepTrial 0 = .ok (.aload_n 0, 1) := by decide +kernel
theorem dX4_keepTrial_1 : decode cX4_keepTrial 1 = .ok (.getfield 33, 3) := by decide +kernel
theorem dX4_keepTrial_4 : decode cX4_keepTrial 4 = .ok (.astore_n 1, 1) := by decide +kernel
theorem dX4_keepTrial_5 : decode cX4_keepTrial 5 = .ok (.aload_n 0, 1) := by decide +kernel
theorem dX4_keepTrial_6 : decode cX4_keepTrial 6 = .ok (.aload_n 0, 1) := by decide +kernel
theorem dX4_keepTrial_7 : decode cX4_keepTrial 7 = .ok (.getfield 37, 3) := by decide +kernel
theorem dX4_keepTrial_10 : decode cX4_keepTrial 10 = .ok (.putfield 33, 3) := by decide +kernel
theorem dX4_keepTrial_13 : decode cX4_keepTrial 13 = .ok (.aload_n 0, 1) := by decide +kernel
theorem dX4_keepTrial_14 : decode cX4_keepTrial 14 = .ok (.aload_n 1, 1) := by decide +kernel
theorem dX4_keepTrial_15 : decode cX4_keepTrial 15 = .ok (.putfield 37, 3) := by decide +kernel
theorem dX4_keepTrial_18 : decode cX4_keepTrial 18 = .ok (.aload_n 0, 1) := by decide +kernel
theorem dX4_keepTrial_19 : decode cX4_keepTrial 19 = .ok (.dup, 1) := by decide +kernel
theorem dX4_keepTrial_20 : decode cX4_keepTrial 20 = .ok (.getfield 54, 3) := by decide +kernel
theorem dX4_keepTrial_23 : decode cX4_keepTrial 23 = .ok (.iconst 1, 1) := by decide +kernel
theorem dX4_keepTrial_24 : decode cX4_keepTrial 24 = .ok (.iadd, 1) := by decide +kernel
theorem dX4_keepTrial_25 : decode cX4_keepTrial 25 = .ok (.putfield 54, 3) := by decide +kernel
theorem dX4_keepTrial_28 : decode cX4_keepTrial 28 = .ok (.return_, 1) := by decide +kernel
set_option maxRecDepth 20000 in
theorem ggX4_counted_X3_holdInAll : GoodIn wsX4_counted wsX3_holdInAll := goodIn_r _ [12, 13, 14, 15, 11, 16, 17, 18, 19, 20, 67] (by decide +kernel) (by decide +kernel)
set_option maxRecDepth 20000 in
theorem gX4_counted_X3_holdInAll : GoodIn wsX4_counted (wsV RX4 181 RX3 yX3_holdInAll wsX3_holdInAll) := goodIn_app (goodIn_of _ (by decide +kernel)) ggX4_counted_X3_holdInAll
set_option maxRecDepth 20000 in
theorem ggX4_counted_X4_hasCloth : GoodIn wsX4_counted wsX4_hasCloth := goodIn_r _ [24, 5, 57, 58, 59, 60, 61, 62, 63, 64, 65, 66] (by decide +kernel) (by decide +kernel)
set_option maxRecDepth 20000 in
theorem gX4_counted_X4_hasCloth : GoodIn wsX4_counted (wsV RX4 148 RX4 yX4_hasCloth wsX4_hasCloth) := goodIn_app (goodIn_of _ (by decide +kernel)) ggX4_counted_X4_hasCloth
set_option maxRecDepth 20000 in
theorem ggX4_counted_X0_offInAll : GoodIn wsX4_counted wsX0_offInAll := goodIn_r _ [29, 30, 68, 69, 70, 71, 72, 73] (by decide +kernel) (by decide +kernel)
set_option maxRecDepth 20000 in
theorem gX4_counted_X0_offInAll : GoodIn wsX4_counted (wsV RX4 163 RX0 yX0_offInAll wsX0_offInAll) := goodIn_app (goodIn_of _ (by decide +kernel)) ggX4_counted_X0_offInAll
set_option maxRecDepth 20000 in
theorem ggX4_counted_X0_allKnots : GoodIn wsX4_counted wsX0_allKnots := goodIn_r _ [34, 35, 36, 37, 28, 38, 39, 40, 41, 42, 43, 44, 45, 46, 47, 48, 49, 50, 19, 51, 18, 20, 52, 53, 54, 55, 56, 68, 69, 70, 71, 72, 73, 74] (by decide +kernel) (by decide +kernel)
set_option maxRecDepth 20000 in
theorem gX4_counted_X0_allKnots : GoodIn wsX4_counted (wsV RX4 118 RX0 yX0_allKnots wsX0_allKnots) := goodIn_app (goodIn_of _ (by decide +kernel)) ggX4_counted_X0_allKnots
theorem dX4_counted_0 : decode cX4_counted 0 = .ok (.iload_n 1, 1) := by decide +kernel
theorem dX4_counted_1 : decode cX4_counted 1 = .ok (.tableswitch 111 0 6 #[43, 48, 53, 66, 79, 84, 92], 43) := by decide +kernel
theorem dX4_counted_44 : decode cX4_counted 44 = .ok (.aload_n 0, 1) := by decide +kernel
theorem dX4_counted_45 : decode cX4_counted 45 = .ok (.getfield 40, 3) := by decide +kernel
theorem dX4_counted_48 : decode cX4_counted 48 = .ok (.ireturn, 1) := by decide +kernel
theorem dX4_counted_49 : decode cX4_counted 49 = .ok (.aload_n 0, 1) := by decide +kernel
theorem dX4_counted_50 : decode cX4_counted 50 = .ok (.getfield 44, 3) := by decide +kernel
theorem dX4_counted_53 : decode cX4_counted 53 = .ok (.ireturn, 1) := by decide +kernel
theorem dX4_counted_54 : decode cX4_counted 54 = .ok (.aload_n 0, 1) := by decide +kernel
theorem dX4_counted_55 : decode cX4_counted 55 = .ok (.getfield 47, 3) := by decide +kernel
theorem dX4_counted_58 : decode cX4_counted 58 = .ok (.ifCond .eq 7, 3) := by decide +kernel
theorem dX4_counted_61 : decode cX4_counted 61 = .ok (.iconst 1, 1) := by decide +kernel
theorem dX4_counted_62 : decode cX4_counted 62 = .ok (.goto 4, 3) := by decide +kernel
theorem dX4_counted_65 : decode cX4_counted 65 = .ok (.iconst 0, 1) := by decide +kernel
theorem dX4_counted_66 : decode cX4_counted 66 = .ok (.ireturn, 1) := by decide +kernel
theorem dX4_counted_67 : decode cX4_counted 67 = .ok (.aload_n 0, 1) := by decide +kernel
theorem dX4_counted_68 : decode cX4_counted 68 = .ok (.getfield 51, 3) := by decide +kernel
theorem dX4_counted_71 : decode cX4_counted 71 = .ok (.ifCond .eq 7, 3) := by decide +kernel
theorem dX4_counted_74 : decode cX4_counted 74 = .ok (.iconst 1, 1) := by decide +kernel
theorem dX4_counted_75 : decode cX4_counted 75 = .ok (.goto 4, 3) := by decide +kernel
theorem dX4_counted_78 : decode cX4_counted 78 = .ok (.iconst 0, 1) := by decide +kernel
theorem dX4_counted_79 : decode cX4_counted 79 = .ok (.ireturn, 1) := by decide +kernel
theorem dX4_counted_80 : decode cX4_counted 80 = .ok (.aload_n 0, 1) := by decide +kernel
theorem dX4_counted_81 : decode cX4_counted 81 = .ok (.getfield 54, 3) := by decide +kernel
theorem dX4_counted_84 : decode cX4_counted 84 = .ok (.ireturn, 1) := by decide +kernel
theorem dX4_counted_85 : decode cX4_counted 85 = .ok (.aload_n 0, 1) := by decide +kernel
theorem dX4_counted_86 : decode cX4_counted 86 = .ok (.getfield 26, 3) := by decide +kernel
theorem dX4_counted_89 : decode cX4_counted 89 = .ok (.invokevirtual 181, 3) := by decide +kernel
theorem dX4_counted_92 : decode cX4_counted 92 = .ok (.ireturn, 1) := by decide +kernel
theorem dX4_counted_93 : decode cX4_counted 93 = .ok (.aload_n 0, 1) := by decide +kernel
theorem dX4_counted_94 : decode cX4_counted 94 = .ok (.invokevirtual 148, 3) := by decide +kernel
theorem dX4_counted_97 : decode cX4_counted 97 = .ok (.ifCond .eq 13, 3) := by decide +kernel
theorem dX4_counted_100 : decode cX4_counted 100 = .ok (.aload_n 0, 1) := by decide +kernel
theorem dX4_counted_101 : decode cX4_counted 101 = .ok (.getfield 33, 3) := by decide +kernel
theorem dX4_counted_104 : decode cX4_counted 104 = .ok (.invokevirtual 163, 3) := by decide +kernel
theorem dX4_counted_107 : decode cX4_counted 107 = .ok (.goto 4, 3) := by decide +kernel
theorem dX4_counted_110 : decode cX4_counted 110 = .ok (.iconst 0, 1) := by decide +kernel
theorem dX4_counted_111 : decode cX4_counted 111 = .ok (.ireturn, 1) := by decide +kernel
theorem dX4_counted_112 : decode cX4_counted 112 = .ok (.aload_n 0, 1) := by decide +kernel
theorem dX4_counted_113 : decode cX4_counted 113 = .ok (.invokevirtual 148, 3) := by decide +kernel
theorem dX4_counted_116 : decode cX4_counted 116 = .ok (.ifCond .eq 17, 3) := by decide +kernel
theorem dX4_counted_119 : decode cX4_counted 119 = .ok (.aload_n 0, 1) := by decide +kernel
theorem dX4_counted_120 : decode cX4_counted 120 = .ok (.getfield 33, 3) := by decide +kernel
theorem dX4_counted_123 : decode cX4_counted 123 = .ok (.aload_n 0, 1) := by decide +kernel
theorem dX4_counted_124 : decode cX4_counted 124 = .ok (.getfield 51, 3) := by decide +kernel
theorem dX4_counted_127 : decode cX4_counted 127 = .ok (.invokevirtual 118, 3) := by decide +kernel
theorem dX4_counted_130 : decode cX4_counted 130 = .ok (.goto 4, 3) := by decide +kernel
theorem dX4_counted_133 : decode cX4_counted 133 = .ok (.iconst 0, 1) := by decide +kernel
theorem dX4_counted_134 : decode cX4_counted 134 = .ok (.ireturn, 1) := by decide +kernel
set_option maxRecDepth 20000 in
theorem ggX4_needCloth_X4_hasCloth : GoodIn wsX4_needCloth wsX4_hasCloth := goodIn_r _ [7, 8, 9, 10, 11, 12, 13, 14, 15, 16, 17, 18] (by decide +kernel) (by decide +kernel)
set_option maxRecDepth 20000 in
theorem gX4_needCloth_X4_hasCloth : GoodIn wsX4_needCloth (wsV RX4 148 RX4 yX4_hasCloth wsX4_hasCloth) := goodIn_app (goodIn_of _ (by decide +kernel)) ggX4_needCloth_X4_hasCloth
theorem dX4_needCloth_0 : decode cX4_needCloth 0 = .ok (.aload_n 0, 1) := by decide +kernel
theorem dX4_needCloth_1 : decode cX4_needCloth 1 = .ok (.invokevirtual 148, 3) := by decide +kernel
theorem dX4_needCloth_4 : decode cX4_needCloth 4 = .ok (.ifCond .ne 13, 3) := by decide +kernel
theorem dX4_needCloth_7 : decode cX4_needCloth 7 = .ok (.new 184, 3) := by decide +kernel
theorem dX4_needCloth_10 : decode cX4_needCloth 10 = .ok (.dup, 1) := by decide +kernel
theorem dX4_needCloth_11 : decode cX4_needCloth 11 = .ok (.ldc 186, 2) := by decide +kernel
theorem dX4_needCloth_13 : decode cX4_needCloth 13 = .ok (.invokespecial 188, 3) := by decide +kernel
theorem dX4_needCloth_16 : decode cX4_needCloth 16 = .ok (.athrow, 1) := by decide +kernel
theorem dX4_needCloth_17 : decode cX4_needCloth 17 = .ok (.return_, 1) := by decide +kernel
set_option maxRecDepth 20000 in
theorem ggX4_needThreadFor_X3_sufficeFor : GoodIn wsX4_needThreadFor wsX3_sufficeFor := goodIn_r _ [8, 9, 10, 11, 12, 13, 14, 15, 16, 17, 18, 19, 20, 7, 21, 22, 33, 34, 35, 36, 37, 38, 39] (by decide +kernel) (by decide +kernel)
set_option maxRecDepth 20000 in
theorem gX4_needThreadFor_X3_sufficeFor : GoodIn wsX4_needThreadFor (wsV RX4 191 RX3 yX3_sufficeFor wsX3_sufficeFor) := goodIn_app (goodIn_of _ (by decide +kernel)) ggX4_needThreadFor_X3_sufficeFor
theorem dX4_needThreadFor_0 : decode cX4_needThreadFor 0 = .ok (.aload_n 0, 1) := by decide +kernel
theorem dX4_needThreadFor_1 : decode cX4_needThreadFor 1 = .ok (.getfield 26, 3) := by decide +kernel
theorem dX4_needThreadFor_4 : decode cX4_needThreadFor 4 = .ok (.aload_n 1, 1) := by decide +kernel
theorem dX4_needThreadFor_5 : decode cX4_needThreadFor 5 = .ok (.invokevirtual 191, 3) := by decide +kernel
theorem dX4_needThreadFor_8 : decode cX4_needThreadFor 8 = .ok (.ifCond .ne 13, 3) := by decide +kernel
theorem dX4_needThreadFor_11 : decode cX4_needThreadFor 11 = .ok (.new 184, 3) := by decide +kernel
theorem dX4_needThreadFor_14 : decode cX4_needThreadFor 14 = .ok (.dup, 1) := by decide +kernel
theorem dX4_needThreadFor_15 : decode cX4_needThreadFor 15 = .ok (.ldc 195, 2) := by decide +kernel
theorem dX4_needThreadFor_17 : decode cX4_needThreadFor 17 = .ok (.invokespecial 188, 3) := by decide +kernel
theorem dX4_needThreadFor_20 : decode cX4_needThreadFor 20 = .ok (.athrow, 1) := by decide +kernel
theorem dX4_needThreadFor_21 : decode cX4_needThreadFor 21 = .ok (.return_, 1) := by decide +kernel
set_option maxRecDepth 20000 in
theorem ggX4_needCell_X4_isCell : GoodIn wsX4_needCell wsX4_isCell := goodIn_r _ [6] (by decide +kernel) (by decide +kernel)
set_option maxRecDepth 20000 in
theorem gX4_needCell_X4_isCell : GoodIn wsX4_needCell (va_wsS RX4 197 yX4_isCell wsX4_isCell) := goodIn_app (goodIn_of _ (by decide +kernel)) ggX4_needCell_X4_isCell
theorem dX4_needCell_0 : decode cX4_needCell 0 = .ok (.iload_n 0, 1) := by decide +kernel
theorem dX4_needCell_1 : decode cX4_needCell 1 = .ok (.iload_n 1, 1) := by decide +kernel
theorem dX4_needCell_2 : decode cX4_needCell 2 = .ok (.invokestatic 197, 3) := by decide +kernel
theorem dX4_needCell_5 : decode cX4_needCell 5 = .ok (.ifCond .ne 13, 3) := by decide +kernel
theorem dX4_needCell_8 : decode cX4_needCell 8 = .ok (.new 201, 3) := by decide +kernel
theorem dX4_needCell_11 : decode cX4_needCell 11 = .ok (.dup, 1) := by decide +kernel
theorem dX4_needCell_12 : decode cX4_needCell 12 = .ok (.ldc 203, 2) := by decide +kernel
theorem dX4_needCell_14 : decode cX4_needCell 14 = .ok (.invokespecial 205, 3) := by decide +kernel
theorem dX4_needCell_17 : decode cX4_needCell 17 = .ok (.athrow, 1) := by decide +kernel
theorem dX4_needCell_18 : decode cX4_needCell 18 = .ok (.return_, 1) := by decide +kernel
set_option maxRecDepth 20000 in
theorem ggX4_needRow_X4_needUpTo : GoodIn wsX4_needRow wsX4_needUpTo := goodIn_ca (goodIn_r _ [4, 5, 6] (by decide +kernel) (by decide +kernel)) (goodIn_sub (fun _ h => List.mem_cons_of_mem _ (List.mem_append_right _ h)) (by decide +kernel))
set_option maxRecDepth 20000 in
theorem gX4_needRow_X4_needUpTo : GoodIn wsX4_needRow (va_wsS RX4 89 yX4_needUpTo wsX4_needUpTo) := goodIn_app (goodIn_of _ (by decide +kernel)) ggX4_needRow_X4_needUpTo
theorem dX4_needRow_0 : decode cX4_needRow 0 = .ok (.iload_n 0, 1) := by decide +kernel
theorem dX4_needRow_1 : decode cX4_needRow 1 = .ok (.bipush 7, 2) := by decide +kernel
theorem dX4_needRow_3 : decode cX4_needRow 3 = .ok (.invokestatic 89, 3) := by decide +kernel
theorem dX4_needRow_6 : decode cX4_needRow 6 = .ok (.return_, 1) := by decide +kernel
set_option maxRecDepth 20000 in
theorem ggX4_needColour_X4_needUpTo : GoodIn wsX4_needColour wsX4_needUpTo := goodIn_ca (goodIn_r _ [4, 5, 6] (by decide +kernel) (by decide +kernel)) (goodIn_sub (fun _ h => List.mem_cons_of_mem _ (List.mem_append_right _ h)) (by decide +kernel))
set_option maxRecDepth 20000 in
theorem gX4_needColour_X4_needUpTo : GoodIn wsX4_needColour (va_wsS RX4 89 yX4_needUpTo wsX4_needUpTo) := goodIn_app (goodIn_of _ (by decide +kernel)) ggX4_needColour_X4_needUpTo
theorem dX4_needColour_0 : decode cX4_needColour 0 = .ok (.iload_n 0, 1) := by decide +kernel
theorem dX4_needColour_1 : decode cX4_needColour 1 = .ok (.iconst 5, 1) := by decide +kernel
theorem dX4_needColour_2 : decode cX4_needColour 2 = .ok (.invokestatic 89, 3) := by decide +kernel
theorem dX4_needColour_5 : decode cX4_needColour 5 = .ok (.return_, 1) := by decide +kernel
theorem dX4_needUpTo_0 : decode cX4_needUpTo 0 = .ok (.iload_n 0, 1) := by decide +kernel
theorem dX4_needUpTo_1 : decode cX4_needUpTo 1 = .ok (.ifCond .lt 8, 3) := by decide +kernel
theorem dX4_needUpTo_4 : decode cX4_needUpTo 4 = .ok (.iload_n 0, 1) := by decide +kernel
theorem dX4_needUpTo_5 : decode cX4_needUpTo 5 = .ok (.iload_n 1, 1) := by decide +kernel
theorem dX4_needUpTo_6 : decode cX4_needUpTo 6 = .ok (.if_icmp .le 13, 3) := by decide +kernel
theorem dX4_needUpTo_9 : decode cX4_needUpTo 9 = .ok (.new 201, 3) := by decide +kernel
theorem dX4_needUpTo_12 : decode cX4_needUpTo 12 = .ok (.dup, 1) := by decide +kernel
theorem dX4_needUpTo_13 : decode cX4_needUpTo 13 = .ok (.ldc 206, 2) := by decide +kernel
theorem dX4_needUpTo_15 : decode cX4_needUpTo 15 = .ok (.invokespecial 205, 3) := by decide +kernel
theorem dX4_needUpTo_18 : decode cX4_needUpTo 18 = .ok (.athrow, 1) := by decide +kernel
theorem dX4_needUpTo_19 : decode cX4_needUpTo 19 = .ok (.return_, 1) := by decide +kernel
set_option maxRecDepth 20000 in
theorem ggX4_needShade_X4_needWithin : GoodIn wsX4_needShade wsX4_needWithin := goodIn_ca (goodIn_r _ [4, 5, 6] (by decide +kernel) (by decide +kernel)) (goodIn_sub (fun _ h => List.mem_cons_of_mem _ (List.mem_append_right _ h)) (by decide +kernel))
set_option maxRecDepth 20000 in
theorem gX4_needShade_X4_needWithin : GoodIn wsX4_needShade (va_wsS RX4 208 yX4_needWithin wsX4_needWithin) := goodIn_app (goodIn_of _ (by decide +kernel)) ggX4_needShade_X4_needWithin
theorem dX4_needShade_0 : decode cX4_needShade 0 = .ok (.iload_n 0, 1) := by decide +kernel
theorem dX4_needShade_1 : decode cX4_needShade 1 = .ok (.iconst 0, 1) := by decide +kernel
theorem dX4_needShade_2 : decode cX4_needShade 2 = .ok (.sipush 255, 3) := by decide +kernel
theorem dX4_needShade_5 : decode cX4_needShade 5 = .ok (.invokestatic 208, 3) := by decide +kernel
theorem dX4_needShade_8 : decode cX4_needShade 8 = .ok (.return_, 1) := by decide +kernel
set_option maxRecDepth 20000 in
theorem ggX4_needStep_X4_needWithin : GoodIn wsX4_needStep wsX4_needWithin := goodIn_ca (goodIn_r _ [4, 5, 6] (by decide +kernel) (by decide +kernel)) (goodIn_sub (fun _ h => List.mem_cons_of_mem _ (List.mem_append_right _ h)) (by decide +kernel))
set_option maxRecDepth 20000 in
theorem gX4_needStep_X4_needWithin : GoodIn wsX4_needStep (va_wsS RX4 208 yX4_needWithin wsX4_needWithin) := goodIn_app (goodIn_of _ (by decide +kernel)) ggX4_needStep_X4_needWithin
theorem dX4_needStep_0 : decode cX4_needStep 0 = .ok (.iload_n 0, 1) := by decide +kernel
theorem dX4_needStep_1 : decode cX4_needStep 1 = .ok (.bipush (-60), 2) := by decide +kernel
theorem dX4_needStep_3 : decode cX4_needStep 3 = .ok (.bipush 60, 2) := by decide +kernel
theorem dX4_needStep_5 : decode cX4_needStep 5 = .ok (.invokestatic 208, 3) := by decide +kernel
theorem dX4_needStep_8 : decode cX4_needStep 8 = .ok (.return_, 1) := by decide +kernel
set_option maxRecDepth 20000 in
theorem ggX4_needColours_X4_needWithin : GoodIn wsX4_needColours wsX4_needWithin := goodIn_ca (goodIn_r _ [4, 5, 6] (by decide +kernel) (by decide +kernel)) (goodIn_sub (fun _ h => List.mem_cons_of_mem _ (List.mem_append_right _ h)) (by decide +kernel))
set_option maxRecDepth 20000 in
theorem gX4_needColours_X4_needWithin : GoodIn wsX4_needColours (va_wsS RX4 208 yX4_needWithin wsX4_needWithin) := goodIn_app (goodIn_of _ (by decide +kernel)) ggX4_needColours_X4_needWithin
theorem dX4_needColours_0 : decode cX4_needColours 0 = .ok (.iload_n 0, 1) := by decide +kernel
theorem dX4_needColours_1 : decode cX4_needColours 1 = .ok (.iconst 2, 1) := by decide +kernel
theorem dX4_needColours_2 : decode cX4_needColours 2 = .ok (.bipush 6, 2) := by decide +kernel
theorem dX4_needColours_4 : decode cX4_needColours 4 = .ok (.invokestatic 208, 3) := by decide +kernel
theorem dX4_needColours_7 : decode cX4_needColours 7 = .ok (.return_, 1) := by decide +kernel
set_option maxRecDepth 20000 in
theorem ggX4_needWindable_X4_needWithin : GoodIn wsX4_needWindable wsX4_needWithin := goodIn_ca (goodIn_r _ [4, 5, 6] (by decide +kernel) (by decide +kernel)) (goodIn_sub (fun _ h => List.mem_cons_of_mem _ (List.mem_append_right _ h)) (by decide +kernel))
set_option maxRecDepth 20000 in
theorem gX4_needWindable_X4_needWithin : GoodIn wsX4_needWindable (va_wsS RX4 208 yX4_needWithin wsX4_needWithin) := goodIn_app (goodIn_of _ (by decide +kernel)) ggX4_needWindable_X4_needWithin
theorem dX4_needWindable_0 : decode cX4_needWindable 0 = .ok (.iload_n 0, 1) := by decide +kernel
theorem dX4_needWindable_1 : decode cX4_needWindable 1 = .ok (.iconst 1, 1) := by decide +kernel
theorem dX4_needWindable_2 : decode cX4_needWindable 2 = .ok (.bipush 99, 2) := by decide +kernel
theorem dX4_needWindable_4 : decode cX4_needWindable 4 = .ok (.invokestatic 208, 3) := by decide +kernel
theorem dX4_needWindable_7 : decode cX4_needWindable 7 = .ok (.return_, 1) := by decide +kernel
set_option maxRecDepth 20000 in
theorem ggX4_needKnots_X4_needWithin : GoodIn wsX4_needKnots wsX4_needWithin := goodIn_ca (goodIn_r _ [4, 5, 6] (by decide +kernel) (by decide +kernel)) (goodIn_sub (fun _ h => List.mem_cons_of_mem _ (List.mem_append_right _ h)) (by decide +kernel))
set_option maxRecDepth 20000 in
theorem gX4_needKnots_X4_needWithin : GoodIn wsX4_needKnots (va_wsS RX4 208 yX4_needWithin wsX4_needWithin) := goodIn_app (goodIn_of _ (by decide +kernel)) ggX4_needKnots_X4_needWithin
theorem dX4_needKnots_0 : decode cX4_needKnots 0 = .ok (.iload_n 0, 1) := by decide +kernel
theorem dX4_needKnots_1 : decode cX4_needKnots 1 = .ok (.iconst 0, 1) := by decide +kernel
theorem dX4_needKnots_2 : decode cX4_needKnots 2 = .ok (.bipush 96, 2) := by decide +kernel
theorem dX4_needKnots_4 : decode cX4_needKnots 4 = .ok (.invokestatic 208, 3) := by decide +kernel
theorem dX4_needKnots_7 : decode cX4_needKnots 7 = .ok (.return_, 1) := by decide +kernel
theorem dX4_needWithin_0 : decode cX4_needWithin 0 = .ok (.iload_n 0, 1) := by decide +kernel
theorem dX4_needWithin_1 : decode cX4_needWithin 1 = .ok (.iload_n 1, 1) := by decide +kernel
theorem dX4_needWithin_2 : decode cX4_needWithin 2 = .ok (.if_icmp .lt 8, 3) := by decide +kernel
theorem dX4_needWithin_5 : decode cX4_needWithin 5 = .ok (.iload_n 0, 1) := by decide +kernel
theorem dX4_needWithin_6 : decode cX4_needWithin 6 = .ok (.iload_n 2, 1) := by decide +kernel
theorem dX4_needWithin_7 : decode cX4_needWithin 7 = .ok (.if_icmp .le 13, 3) := by decide +kernel
theorem dX4_needWithin_10 : decode cX4_needWithin 10 = .ok (.new 211, 3) := by decide +kernel
theorem dX4_needWithin_13 : decode cX4_needWithin 13 = .ok (.dup, 1) := by decide +kernel
theorem dX4_needWithin_14 : decode cX4_needWithin 14 = .ok (.ldc 213, 2) := by decide +kernel
theorem dX4_needWithin_16 : decode cX4_needWithin 16 = .ok (.invokespecial 215, 3) := by decide +kernel
theorem dX4_needWithin_19 : decode cX4_needWithin 19 = .ok (.athrow, 1) := by decide +kernel
theorem dX4_needWithin_20 : decode cX4_needWithin 20 = .ok (.return_, 1) := by decide +kernel
theorem dX4_isCell_0 : decode cX4_isCell 0 = .ok (.iload_n 0, 1) := by decide +kernel
theorem dX4_isCell_1 : decode cX4_isCell 1 = .ok (.ifCond .lt 23, 3) := by decide +kernel
theorem dX4_isCell_4 : decode cX4_isCell 4 = .ok (.iload_n 0, 1) := by decide +kernel
theorem dX4_isCell_5 : decode cX4_isCell 5 = .ok (.bipush 12, 2) := by decide +kernel
theorem dX4_isCell_7 : decode cX4_isCell 7 = .ok (.if_icmp .ge 17, 3) := by decide +kernel
theorem dX4_isCell_10 : decode cX4_isCell 10 = .ok (.iload_n 1, 1) := by decide +kernel
theorem dX4_isCell_11 : decode cX4_isCell 11 = .ok (.ifCond .lt 13, 3) := by decide +kernel
theorem dX4_isCell_14 : decode cX4_isCell 14 = .ok (.iload_n 1, 1) := by decide +kernel
theorem dX4_isCell_15 : decode cX4_isCell 15 = .ok (.bipush 8, 2) := by decide +kernel
theorem dX4_isCell_17 : decode cX4_isCell 17 = .ok (.if_icmp .ge 7, 3) := by decide +kernel
theorem dX4_isCell_20 : decode cX4_isCell 20 = .ok (.iconst 1, 1) := by decide +kernel
theorem dX4_isCell_21 : decode cX4_isCell 21 = .ok (.goto 4, 3) := by decide +kernel
theorem dX4_isCell_24 : decode cX4_isCell 24 = .ok (.iconst 0, 1) := by decide +kernel
theorem dX4_isCell_25 : decode cX4_isCell 25 = .ok (.ireturn, 1) := by decide +kernel
theorem dX4_heldShade_0 : decode cX4_heldShade 0 = .ok (.iconst 0, 1) := by decide +kernel
theorem dX4_heldShade_1 : decode cX4_heldShade 1 = .ok (.sipush 255, 3) := by decide +kernel
theorem dX4_heldShade_4 : decode cX4_heldShade 4 = .ok (.iload_n 0, 1) := by decide +kernel
theorem dX4_heldShade_5 : decode cX4_heldShade 5 = .ok (.invokestatic 216, 3) := by decide +kernel
theorem dX4_heldShade_8 : decode cX4_heldShade 8 = .ok (.invokestatic 221, 3) := by decide +kernel
theorem dX4_heldShade_11 : decode cX4_heldShade 11 = .ok (.ireturn, 1) := by decide +kernel
theorem dX4_numberAt_0 : decode cX4_numberAt 0 = .ok (.iload_n 1, 1) := by decide +kernel
theorem dX4_numberAt_1 : decode cX4_numberAt 1 = .ok (.ifCond .lt 15, 3) := by decide +kernel
theorem dX4_numberAt_4 : decode cX4_numberAt 4 = .ok (.iload_n 1, 1) := by decide +kernel
theorem dX4_numberAt_5 : decode cX4_numberAt 5 = .ok (.aload_n 0, 1) := by decide +kernel
theorem dX4_numberAt_6 : decode cX4_numberAt 6 = .ok (.arraylength, 1) := by decide +kernel
theorem dX4_numberAt_7 : decode cX4_numberAt 7 = .ok (.if_icmp .ge 9, 3) := by decide +kernel
theorem dX4_numberAt_10 : decode cX4_numberAt 10 = .ok (.aload_n 0, 1) := by decide +kernel
theorem dX4_numberAt_11 : decode cX4_numberAt 11 = .ok (.iload_n 1, 1) := by decide +kernel
theorem dX4_numberAt_12 : decode cX4_numberAt 12 = .ok (.iaload, 1) := by decide +kernel
theorem dX4_numberAt_13 : decode cX4_numberAt 13 = .ok (.goto 4, 3) := by decide +kernel
theorem dX4_numberAt_16 : decode cX4_numberAt 16 = .ok (.iconst 0, 1) := by decide +kernel
theorem dX4_numberAt_17 : decode cX4_numberAt 17 = .ok (.ireturn, 1) := by decide +kernel
theorem dX4_putNumber_0 : decode cX4_putNumber 0 = .ok (.iload_n 1, 1) := by decide +kernel
theorem dX4_putNumber_1 : decode cX4_putNumber 1 = .ok (.ifCond .lt 13, 3) := by decide +kernel
theorem dX4_putNumber_4 : decode cX4_putNumber 4 = .ok (.iload_n 1, 1) := by decide +kernel
theorem dX4_putNumber_5 : decode cX4_putNumber 5 = .ok (.aload_n 0, 1) := by decide +kernel
theorem dX4_putNumber_6 : decode cX4_putNumber 6 = .ok (.arraylength, 1) := by decide +kernel
theorem dX4_putNumber_7 : decode cX4_putNumber 7 = .ok (.if_icmp .ge 7, 3) := by decide +kernel
theorem dX4_putNumber_10 : decode cX4_putNumber 10 = .ok (.aload_n 0, 1) := by decide +kernel
theorem dX4_putNumber_11 : decode cX4_putNumber 11 = .ok (.iload_n 1, 1) := by decide +kernel
theorem dX4_putNumber_12 : decode cX4_putNumber 12 = .ok (.iload_n 2, 1) := by decide +kernel
theorem dX4_putNumber_13 : decode cX4_putNumber 13 = .ok (.iastore, 1) := by decide +kernel
theorem dX4_putNumber_14 : decode cX4_putNumber 14 = .ok (.return_, 1) := by decide +kernel
theorem dX4_fillNumbers_0 : decode cX4_fillNumbers 0 = .ok (.iconst 0, 1) := by decide +kernel
theorem dX4_fillNumbers_1 : decode cX4_fillNumbers 1 = .ok (.istore_n 2, 1) := by decide +kernel
theorem dX4_fillNumbers_2 : decode cX4_fillNumbers 2 = .ok (.iload_n 2, 1) := by decide +kernel
theorem dX4_fillNumbers_3 : decode cX4_fillNumbers 3 = .ok (.aload_n 0, 1) := by decide +kernel
theorem dX4_fillNumbers_4 : decode cX4_fillNumbers 4 = .ok (.arraylength, 1) := by decide +kernel
theorem dX4_fillNumbers_5 : decode cX4_fillNumbers 5 = .ok (.if_icmp .ge 13, 3) := by decide +kernel
theorem dX4_fillNumbers_8 : decode cX4_fillNumbers 8 = .ok (.aload_n 0, 1) := by decide +kernel
theorem dX4_fillNumbers_9 : decode cX4_fillNumbers 9 = .ok (.iload_n 2, 1) := by decide +kernel
theorem dX4_fillNumbers_10 : decode cX4_fillNumbers 10 = .ok (.iload_n 1, 1) := by decide +kernel
theorem dX4_fillNumbers_11 : decode cX4_fillNumbers 11 = .ok (.iastore, 1) := by decide +kernel
theorem dX4_fillNumbers_12 : decode cX4_fillNumbers 12 = .ok (.iinc 2 1, 3) := by decide +kernel
theorem dX4_fillNumbers_15 : decode cX4_fillNumbers 15 = .ok (.goto (-13), 3) := by decide +kernel
theorem dX4_fillNumbers_18 : decode cX4_fillNumbers 18 = .ok (.return_, 1) := by decide +kernel
set_option maxRecDepth 20000 in
theorem ggX4_digested_X4_numberAt : GoodIn wsX4_digested wsX4_numberAt := goodIn_r _ [5] (by decide +kernel) (by decide +kernel)
set_option maxRecDepth 20000 in
theorem gX4_digested_X4_numberAt : GoodIn wsX4_digested (va_wsS RX4 224 yX4_numberAt wsX4_numberAt) := goodIn_app (goodIn_of _ (by decide +kernel)) ggX4_digested_X4_numberAt
theorem dX4_digested_0 : decode cX4_digested 0 = .ok (.lload_n 0, 1) := by decide +kernel
theorem dX4_digested_1 : decode cX4_digested 1 = .ok (.lstore 4, 2) := by decide +kernel
theorem dX4_digested_3 : decode cX4_digested 3 = .ok (.iconst 0, 1) := by decide +kernel
theorem dX4_digested_4 : decode cX4_digested 4 = .ok (.istore 6, 2) := by decide +kernel
theorem dX4_digested_6 : decode cX4_digested 6 = .ok (.iload 6, 2) := by decide +kernel
theorem dX4_digested_8 : decode cX4_digested 8 = .ok (.iload_n 3, 1) := by decide +kernel
theorem dX4_digested_9 : decode cX4_digested 9 = .ok (.if_icmp .ge 25, 3) := by decide +kernel
theorem dX4_digested_12 : decode cX4_digested 12 = .ok (.lload 4, 2) := by decide +kernel
theorem dX4_digested_14 : decode cX4_digested 14 = .ok (.ldc2_w 173, 3) := by decide +kernel
theorem dX4_digested_17 : decode cX4_digested 17 = .ok (.lmul, 1) := by decide +kernel
theorem dX4_digested_18 : decode cX4_digested 18 = .ok (.aload_n 2, 1) := by decide +kernel
theorem dX4_digested_19 : decode cX4_digested 19 = .ok (.iload 6, 2) := by decide +kernel
theorem dX4_digested_21 : decode cX4_digested 21 = .ok (.invokestatic 224, 3) := by decide +kernel
theorem dX4_digested_24 : decode cX4_digested 24 = .ok (.i2l, 1) := by decide +kernel
theorem dX4_digested_25 : decode cX4_digested 25 = .ok (.ladd, 1) := by decide +kernel
theorem dX4_digested_26 : decode cX4_digested 26 = .ok (.lstore 4, 2) := by decide +kernel
theorem dX4_digested_28 : decode cX4_digested 28 = .ok (.iinc 6 1, 3) := by decide +kernel
theorem dX4_digested_31 : decode cX4_digested 31 = .ok (.goto (-25), 3) := by decide +kernel
theorem dX4_digested_34 : decode cX4_digested 34 = .ok (.lload 4, 2) := by decide +kernel
theorem dX4_digested_36 : decode cX4_digested 36 = .ok (.lreturn, 1) := by decide +kernel
theorem dX5_init_0 : decode cX5_init 0 = .ok (.aload_n 0, 1) := by decide +kernel
theorem dX5_init_1 : decode cX5_init 1 = .ok (.invokespecial 1, 3) := by decide +kernel
theorem dX5_init_4 : decode cX5_init 4 = .ok (.aload_n 0, 1) := by decide +kernel
theorem dX5_init_5 : decode cX5_init 5 = .ok (.bipush 8, 2) := by decide +kernel
theorem dX5_init_7 : decode cX5_init 7 = .ok (.bipush 12, 2) := by decide +kernel
theorem dX5_init_9 : decode cX5_init 9 = .ok (.multianewarray 7 2, 4) := by decide +kernel
theorem dX5_init_13 : decode cX5_init 13 = .ok (.putfield 9, 3) := by decide +kernel
theorem dX5_init_16 : decode cX5_init 16 = .ok (.aload_n 0, 1) := by decide +kernel
theorem dX5_init_17 : decode cX5_init 17 = .ok (.iconst 3, 1) := by decide +kernel
theorem dX5_init_18 : decode cX5_init 18 = .ok (.putfield 14, 3) := by decide +kernel
theorem dX5_init_21 : decode cX5_init 21 = .ok (.aload_n 0, 1) := by decide +kernel
theorem dX5_init_22 : decode cX5_init 22 = .ok (.iconst 2, 1) := by decide +kernel
theorem dX5_init_23 : decode cX5_init 23 = .ok (.putfield 18, 3) := by decide +kernel
theorem dX5_init_26 : decode cX5_init 26 = .ok (.aload_n 0, 1) := by decide +kernel
theorem dX5_init_27 : decode cX5_init 27 = .ok (.bipush 6, 2) := by decide +kernel
theorem dX5_init_29 : decode cX5_init 29 = .ok (.newarray .int, 2) := by decide +kernel
theorem dX5_init_31 : decode cX5_init 31 = .ok (.dup, 1) := by decide +kernel
theorem dX5_init_32 : decode cX5_init 32 = .ok (.iconst 0, 1) := by decide +kernel
theorem dX5_init_33 : decode cX5_init 33 = .ok (.sipush 200, 3) := by decide +kernel
theorem dX5_init_36 : decode cX5_init 36 = .ok (.iastore, 1) := by decide +kernel
theorem dX5_init_37 : decode cX5_init 37 = .ok (.dup, 1) := by decide +kernel
theorem dX5_init_38 : decode cX5_init 38 = .ok (.iconst 1, 1) := by decide +kernel
theorem dX5_init_39 : decode cX5_init 39 = .ok (.sipush 200, 3) := by decide +kernel
theorem dX5_init_42 : decode cX5_init 42 = .ok (.iastore, 1) := by decide +kernel
theorem dX5_init_43 : decode cX5_init 43 = .ok (.dup, 1) := by decide +kernel
theorem dX5_init_44 : decode cX5_init 44 = .ok (.iconst 2, 1) := by decide +kernel
theorem dX5_init_45 : decode cX5_init 45 = .ok (.sipush 200, 3) := by decide +kernel
theorem dX5_init_48 : decode cX5_init 48 = .ok (.iastore, 1) := by decide +kernel
theorem dX5_init_49 : decode cX5_init 49 = .ok (.dup, 1) := by decide +kernel
theorem dX5_init_50 : decode cX5_init 50 = .ok (.iconst 3, 1) := by decide +kernel
theorem dX5_init_51 : decode cX5_init 51 = .ok (.sipush 200, 3) := by decide +kernel
theorem dX5_init_54 : decode cX5_init 54 = .ok (.iastore, 1) := by decide +kernel
theorem dX5_init_55 : decode cX5_init 55 = .ok (.dup, 1) := by decide +kernel
theorem dX5_init_56 : decode cX5_init 56 = .ok (.iconst 4, 1) := by decide +kernel
theorem dX5_init_57 : decode cX5_init 57 = .ok (.sipush 200, 3) := by decide +kernel
theorem dX5_init_60 : decode cX5_init 60 = .ok (.iastore, 1) := by decide +kernel
theorem dX5_init_61 : decode cX5_init 61 = .ok (.dup, 1) := by decide +kernel
theorem dX5_init_62 : decode cX5_init 62 = .ok (.iconst 5, 1) := by decide +kernel
theorem dX5_init_63 : decode cX5_init 63 = .ok (.sipush 200, 3) := by decide +kernel
theorem dX5_init_66 : decode cX5_init 66 = .ok (.iastore, 1) := by decide +kernel
theorem dX5_init_67 : decode cX5_init 67 = .ok (.putfield 21, 3) := by decide +kernel
theorem dX5_init_70 : decode cX5_init 70 = .ok (.aload_n 0, 1) := by decide +kernel
theorem dX5_init_71 : decode cX5_init 71 = .ok (.iconst 0, 1) := by decide +kernel
theorem dX5_init_72 : decode cX5_init 72 = .ok (.newarray .int, 2) := by decide +kernel
theorem dX5_init_74 : decode cX5_init 74 = .ok (.putfield 25, 3) := by decide +kernel
theorem dX5_init_77 : decode cX5_init 77 = .ok (.aload_n 0, 1) := by decide +kernel
theorem dX5_init_78 : decode cX5_init 78 = .ok (.iconst 0, 1) := by decide +kernel
theorem dX5_init_79 : decode cX5_init 79 = .ok (.anewarray 28, 3) := by decide +kernel
theorem dX5_init_82 : decode cX5_init 82 = .ok (.putfield 29, 3) := by decide +kernel
theorem dX5_init_85 : decode cX5_init 85 = .ok (.aload_n 0, 1) := by decide +kernel
theorem dX5_init_86 : decode cX5_init 86 = .ok (.getfield 9, 3) := by decide +kernel
theorem dX5_init_89 : decode cX5_init 89 = .ok (.astore_n 1, 1) := by decide +kernel
theorem dX5_init_90 : decode cX5_init 90 = .ok (.aload_n 1, 1) := by decide +kernel
theorem dX5_init_91 : decode cX5_init 91 = .ok (.arraylength, 1) := by decide +kernel
theorem dX5_init_92 : decode cX5_init 92 = .ok (.istore_n 2, 1) := by decide +kernel
theorem dX5_init_93 : decode cX5_init 93 = .ok (.iconst 0, 1) := by decide +kernel
theorem dX5_init_94 : decode cX5_init 94 = .ok (.istore_n 3, 1) := by decide +kernel
theorem dX5_init_95 : decode cX5_init 95 = .ok (.iload_n 3, 1) := by decide +kernel
theorem dX5_init_96 : decode cX5_init 96 = .ok (.iload_n 2, 1) := by decide +kernel
theorem dX5_init_97 : decode cX5_init 97 = .ok (.if_icmp .ge 38, 3) := by decide +kernel
theorem dX5_init_100 : decode cX5_init 100 = .ok (.aload_n 1, 1) := by decide +kernel
theorem dX5_init_101 : decode cX5_init 101 = .ok (.iload_n 3, 1) := by decide +kernel
theorem dX5_init_102 : decode cX5_init 102 = .ok (.aaload, 1) := by decide +kernel
theorem dX5_init_103 : decode cX5_init 103 = .ok (.astore 4, 2) := by decide +kernel
theorem dX5_init_105 : decode cX5_init 105 = .ok (.iconst 0, 1) := by decide +kernel
theorem dX5_init_106 : decode cX5_init 106 = .ok (.istore 5, 2) := by decide +kernel
theorem dX5_init_108 : decode cX5_init 108 = .ok (.iload 5, 2) := by decide +kernel
theorem dX5_init_110 : decode cX5_init 110 = .ok (.bipush 12, 2) := by decide +kernel
theorem dX5_init_112 : decode cX5_init 112 = .ok (.if_icmp .ge 17, 3) := by decide +kernel
theorem dX5_init_115 : decode cX5_init 115 = .ok (.aload 4, 2) := by decide +kernel
theorem dX5_init_117 : decode cX5_init 117 = .ok (.iload 5, 2) := by decide +kernel
theorem dX5_init_119 : decode cX5_init 119 = .ok (.sipush 128, 3) := by decide +kernel
theorem dX5_init_122 : decode cX5_init 122 = .ok (.iastore, 1) := by decide +kernel
theorem dX5_init_123 : decode cX5_init 123 = .ok (.iinc 5 1, 3) := by decide +kernel
theorem dX5_init_126 : decode cX5_init 126 = .ok (.goto (-18), 3) := by decide +kernel
theorem dX5_init_129 : decode cX5_init 129 = .ok (.iinc 3 1, 3) := by decide +kernel
theorem dX5_init_132 : decode cX5_init 132 = .ok (.goto (-37), 3) := by decide +kernel
theorem dX5_init_135 : decode cX5_init 135 = .ok (.return_, 1) := by decide +kernel
theorem dX5_piece_0 : decode cX5_piece 0 = .ok (.iload_n 2, 1) := by decide +kernel
theorem dX5_piece_1 : decode cX5_piece 1 = .ok (.iload_n 1, 1) := by decide +kernel
theorem dX5_piece_2 : decode cX5_piece 2 = .ok (.isub, 1) := by decide +kernel
theorem dX5_piece_3 : decode cX5_piece 3 = .ok (.newarray .int, 2) := by decide +kernel
theorem dX5_piece_5 : decode cX5_piece 5 = .ok (.astore_n 3, 1) := by decide +kernel
theorem dX5_piece_6 : decode cX5_piece 6 = .ok (.iload_n 1, 1) := by decide +kernel
theorem dX5_piece_7 : decode cX5_piece 7 = .ok (.istore 4, 2) := by decide +kernel
theorem dX5_piece_9 : decode cX5_piece 9 = .ok (.iload 4, 2) := by decide +kernel
theorem dX5_piece_11 : decode cX5_piece 11 = .ok (.iload_n 2, 1) := by decide +kernel
theorem dX5_piece_12 : decode cX5_piece 12 = .ok (.if_icmp .ge 19, 3) := by decide +kernel
theorem dX5_piece_15 : decode cX5_piece 15 = .ok (.aload_n 3, 1) := by decide +kernel
theorem dX5_piece_16 : decode cX5_piece 16 = .ok (.iload 4, 2) := by decide +kernel
theorem dX5_piece_18 : decode cX5_piece 18 = .ok (.iload_n 1, 1) := by decide +kernel
theorem dX5_piece_19 : decode cX5_piece 19 = .ok (.isub, 1) := by decide +kernel
theorem dX5_piece_20 : decode cX5_piece 20 = .ok (.aload_n 0, 1) := by decide +kernel
theorem dX5_piece_21 : decode cX5_piece 21 = .ok (.iload 4, 2) := by decide +kernel
theorem dX5_piece_23 : decode cX5_piece 23 = .ok (.iaload, 1) := by decide +kernel
theorem dX5_piece_24 : decode cX5_piece 24 = .ok (.iastore, 1) := by decide +kernel
theorem dX5_piece_25 : decode cX5_piece 25 = .ok (.iinc 4 1, 3) := by decide +kernel
theorem dX5_piece_28 : decode cX5_piece 28 = .ok (.goto (-19), 3) := by decide +kernel
theorem dX5_piece_31 : decode cX5_piece 31 = .ok (.aload_n 3, 1) := by decide +kernel
theorem dX5_piece_32 : decode cX5_piece 32 = .ok (.areturn, 1) := by decide +kernel
theorem dX5_isSame_0 : decode cX5_isSame 0 = .ok (.iconst 0, 1) := by decide +kernel
theorem dX5_isSame_1 : decode cX5_isSame 1 = .ok (.istore_n 2, 1) := by decide +kernel
theorem dX5_isSame_2 : decode cX5_isSame 2 = .ok (.iload_n 2, 1) := by decide +kernel
theorem dX5_isSame_3 : decode cX5_isSame 3 = .ok (.aload_n 0, 1) := by decide +kernel
theorem dX5_isSame_4 : decode cX5_isSame 4 = .ok (.arraylength, 1) := by decide +kernel
theorem dX5_isSame_5 : decode cX5_isSame 5 = .ok (.if_icmp .ge 20, 3) := by decide +kernel
theorem dX5_isSame_8 : decode cX5_isSame 8 = .ok (.aload_n 0, 1) := by decide +kernel
theorem dX5_isSame_9 : decode cX5_isSame 9 = .ok (.iload_n 2, 1) := by decide +kernel
theorem dX5_isSame_10 : decode cX5_isSame 10 = .ok (.iaload, 1) := by decide +kernel
theorem dX5_isSame_11 : decode cX5_isSame 11 = .ok (.aload_n 1, 1) := by decide +kernel
theorem dX5_isSame_12 : decode cX5_isSame 12 = .ok (.iload_n 2, 1) := by decide +kernel
theorem dX5_isSame_13 : decode cX5_isSame 13 = .ok (.iaload, 1) := by decide +kernel
theorem dX5_isSame_14 : decode cX5_isSame 14 = .ok (.if_icmp .eq 5, 3) := by decide +kernel
theorem dX5_isSame_17 : decode cX5_isSame 17 = .ok (.iconst 0, 1) := by decide +kernel
theorem dX5_isSame_18 : decode cX5_isSame 18 = .ok (.ireturn, 1) := by decide +kernel
theorem dX5_isSame_19 : decode cX5_isSame 19 = .ok (.iinc 2 1, 3) := by decide +kernel
theorem dX5_isSame_22 : decode cX5_isSame 22 = .ok (.goto (-20), 3) := by decide +kernel
theorem dX5_isSame_25 : decode cX5_isSame 25 = .ok (.iconst 1, 1) := by decide +kernel
theorem dX5_isSame_26 : decode cX5_isSame 26 = .ok (.ireturn, 1) := by decide +kernel
set_option maxRecDepth 20000 in
theorem ggX5_palette_X5_piece : GoodIn wsX5_palette wsX5_piece := goodIn_r _ [7, 1] (by decide +kernel) (by decide +kernel)
set_option maxRecDepth 20000 in
theorem gX5_palette_X5_piece : GoodIn wsX5_palette (va_wsS RX5 32 yX5_piece wsX5_piece) := goodIn_app (goodIn_of _ (by decide +kernel)) ggX5_palette_X5_piece
theorem dX5_palette_0 : decode cX5_palette 0 = .ok (.bipush 96, 2) := by decide +kernel
