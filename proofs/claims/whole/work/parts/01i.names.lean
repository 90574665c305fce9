theorem dX5_like_87 : decode cX5_like 87 = .ok (.invokestatic 86, 3) := by decide +kernel
theorem dX5_like_90 : decode cX5_like 90 = .ok (.iaload, 1) := by decide +kernel
theorem dX5_like_91 : decode cX5_like 91 = .ok (.iastore, 1) := by decide +kernel
theorem dX5_like_92 : decode cX5_like 92 = .ok (.iinc 4 1, 3) := by decide +kernel
theorem dX5_like_95 : decode cX5_like 95 = .ok (.goto (-65), 3) := by decide +kernel
theorem dX5_like_98 : decode cX5_like 98 = .ok (.iload_n 3, 1) := by decide +kernel
theorem dX5_like_99 : decode cX5_like 99 = .ok (.ireturn, 1) := by decide +kernel
set_option maxRecDepth 20000 in
theorem ggX5_setColours_X5_isIn : GoodIn wsX5_setColours wsX5_isIn := goodIn_r _ [6] (by decide +kernel) (by decide +kernel)
set_option maxRecDepth 20000 in
theorem gX5_setColours_X5_isIn : GoodIn wsX5_setColours (va_wsS RX5 47 yX5_isIn wsX5_isIn) := goodIn_app (goodIn_of _ (by decide +kernel)) ggX5_setColours_X5_isIn
set_option maxRecDepth 20000 in
theorem ggX5_setColours_X5_no : GoodIn wsX5_setColours wsX5_no := goodIn_r _ [10, 1, 11, 12, 13, 14, 15, 16, 17, 18, 19, 20, 21, 22, 23, 24, 25, 26, 27, 28, 29] (by decide +kernel) (by decide +kernel)
set_option maxRecDepth 20000 in
theorem gX5_setColours_X5_no : GoodIn wsX5_setColours (wsV RX5 117 RX5 yX5_no wsX5_no) := goodIn_app (goodIn_of _ (by decide +kernel)) ggX5_setColours_X5_no
theorem dX5_setColours_0 : decode cX5_setColours 0 = .ok (.aload_n 0, 1) := by decide +kernel
theorem dX5_setColours_1 : decode cX5_setColours 1 = .ok (.iconst 0, 1) := by decide +kernel
theorem dX5_setColours_2 : decode cX5_setColours 2 = .ok (.putfield 44, 3) := by decide +kernel
theorem dX5_setColours_5 : decode cX5_setColours 5 = .ok (.iload_n 1, 1) := by decide +kernel
theorem dX5_setColours_6 : decode cX5_setColours 6 = .ok (.iconst 2, 1) := by decide +kernel
theorem dX5_setColours_7 : decode cX5_setColours 7 = .ok (.bipush 6, 2) := by decide +kernel
theorem dX5_setColours_9 : decode cX5_setColours 9 = .ok (.invokestatic 47, 3) := by decide +kernel
theorem dX5_setColours_12 : decode cX5_setColours 12 = .ok (.ifCond .ne 9, 3) := by decide +kernel
theorem dX5_setColours_15 : decode cX5_setColours 15 = .ok (.aload_n 0, 1) := by decide +kernel
theorem dX5_setColours_16 : decode cX5_setColours 16 = .ok (.iconst 1, 1) := by decide +kernel
theorem dX5_setColours_17 : decode cX5_setColours 17 = .ok (.invokevirtual 117, 3) := by decide +kernel
theorem dX5_setColours_20 : decode cX5_setColours 20 = .ok (.ireturn, 1) := by decide +kernel
theorem dX5_setColours_21 : decode cX5_setColours 21 = .ok (.aload_n 0, 1) := by decide +kernel
theorem dX5_setColours_22 : decode cX5_setColours 22 = .ok (.getfield 13, 3) := by decide +kernel
theorem dX5_setColours_25 : decode cX5_setColours 25 = .ok (.istore_n 2, 1) := by decide +kernel
theorem dX5_setColours_26 : decode cX5_setColours 26 = .ok (.aload_n 0, 1) := by decide +kernel
theorem dX5_setColours_27 : decode cX5_setColours 27 = .ok (.iload_n 1, 1) := by decide +kernel
theorem dX5_setColours_28 : decode cX5_setColours 28 = .ok (.putfield 13, 3) := by decide +kernel
theorem dX5_setColours_31 : decode cX5_setColours 31 = .ok (.iload_n 2, 1) := by decide +kernel
theorem dX5_setColours_32 : decode cX5_setColours 32 = .ok (.ireturn, 1) := by decide +kernel
set_option maxRecDepth 20000 in
theorem ggX5_setCarry_X5_isIn : GoodIn wsX5_setCarry wsX5_isIn := goodIn_r _ [6] (by decide +kernel) (by decide +kernel)
set_option maxRecDepth 20000 in
theorem gX5_setCarry_X5_isIn : GoodIn wsX5_setCarry (va_wsS RX5 47 yX5_isIn wsX5_isIn) := goodIn_app (goodIn_of _ (by decide +kernel)) ggX5_setCarry_X5_isIn
set_option maxRecDepth 20000 in
theorem ggX5_setCarry_X5_no : GoodIn wsX5_setCarry wsX5_no := goodIn_r _ [10, 1, 11, 12, 13, 14, 15, 16, 17, 18, 19, 20, 21, 22, 23, 24, 25, 26, 27, 28, 29] (by decide +kernel) (by decide +kernel)
set_option maxRecDepth 20000 in
theorem gX5_setCarry_X5_no : GoodIn wsX5_setCarry (wsV RX5 117 RX5 yX5_no wsX5_no) := goodIn_app (goodIn_of _ (by decide +kernel)) ggX5_setCarry_X5_no
theorem dX5_setCarry_0 : decode cX5_setCarry 0 = .ok (.aload_n 0, 1) := by decide +kernel
theorem dX5_setCarry_1 : decode cX5_setCarry 1 = .ok (.iconst 0, 1) := by decide +kernel
theorem dX5_setCarry_2 : decode cX5_setCarry 2 = .ok (.putfield 44, 3) := by decide +kernel
theorem dX5_setCarry_5 : decode cX5_setCarry 5 = .ok (.iload_n 1, 1) := by decide +kernel
theorem dX5_setCarry_6 : decode cX5_setCarry 6 = .ok (.iconst 0, 1) := by decide +kernel
theorem dX5_setCarry_7 : decode cX5_setCarry 7 = .ok (.iconst 2, 1) := by decide +kernel
theorem dX5_setCarry_8 : decode cX5_setCarry 8 = .ok (.invokestatic 47, 3) := by decide +kernel
theorem dX5_setCarry_11 : decode cX5_setCarry 11 = .ok (.ifCond .ne 9, 3) := by decide +kernel
theorem dX5_setCarry_14 : decode cX5_setCarry 14 = .ok (.aload_n 0, 1) := by decide +kernel
theorem dX5_setCarry_15 : decode cX5_setCarry 15 = .ok (.iconst 1, 1) := by decide +kernel
theorem dX5_setCarry_16 : decode cX5_setCarry 16 = .ok (.invokevirtual 117, 3) := by decide +kernel
theorem dX5_setCarry_19 : decode cX5_setCarry 19 = .ok (.ireturn, 1) := by decide +kernel
theorem dX5_setCarry_20 : decode cX5_setCarry 20 = .ok (.aload_n 0, 1) := by decide +kernel
theorem dX5_setCarry_21 : decode cX5_setCarry 21 = .ok (.getfield 17, 3) := by decide +kernel
theorem dX5_setCarry_24 : decode cX5_setCarry 24 = .ok (.istore_n 2, 1) := by decide +kernel
theorem dX5_setCarry_25 : decode cX5_setCarry 25 = .ok (.aload_n 0, 1) := by decide +kernel
theorem dX5_setCarry_26 : decode cX5_setCarry 26 = .ok (.iload_n 1, 1) := by decide +kernel
theorem dX5_setCarry_27 : decode cX5_setCarry 27 = .ok (.putfield 17, 3) := by decide +kernel
theorem dX5_setCarry_30 : decode cX5_setCarry 30 = .ok (.iload_n 2, 1) := by decide +kernel
theorem dX5_setCarry_31 : decode cX5_setCarry 31 = .ok (.ireturn, 1) := by decide +kernel
theorem dX5_setTurning_0 : decode cX5_setTurning 0 = .ok (.aload_n 0, 1) := by decide +kernel
theorem dX5_setTurning_1 : decode cX5_setTurning 1 = .ok (.iconst 0, 1) := by decide +kernel
theorem dX5_setTurning_2 : decode cX5_setTurning 2 = .ok (.putfield 44, 3) := by decide +kernel
theorem dX5_setTurning_5 : decode cX5_setTurning 5 = .ok (.aload_n 0, 1) := by decide +kernel
theorem dX5_setTurning_6 : decode cX5_setTurning 6 = .ok (.getfield 82, 3) := by decide +kernel
theorem dX5_setTurning_9 : decode cX5_setTurning 9 = .ok (.istore_n 2, 1) := by decide +kernel
theorem dX5_setTurning_10 : decode cX5_setTurning 10 = .ok (.aload_n 0, 1) := by decide +kernel
theorem dX5_setTurning_11 : decode cX5_setTurning 11 = .ok (.iload_n 1, 1) := by decide +kernel
theorem dX5_setTurning_12 : decode cX5_setTurning 12 = .ok (.putfield 82, 3) := by decide +kernel
theorem dX5_setTurning_15 : decode cX5_setTurning 15 = .ok (.iload_n 2, 1) := by decide +kernel
theorem dX5_setTurning_16 : decode cX5_setTurning 16 = .ok (.ireturn, 1) := by decide +kernel
theorem dX5_setPressing_0 : decode cX5_setPressing 0 = .ok (.aload_n 0, 1) := by decide +kernel
theorem dX5_setPressing_1 : decode cX5_setPressing 1 = .ok (.iconst 0, 1) := by decide +kernel
theorem dX5_setPressing_2 : decode cX5_setPressing 2 = .ok (.putfield 44, 3) := by decide +kernel
theorem dX5_setPressing_5 : decode cX5_setPressing 5 = .ok (.aload_n 0, 1) := by decide +kernel
theorem dX5_setPressing_6 : decode cX5_setPressing 6 = .ok (.getfield 101, 3) := by decide +kernel
theorem dX5_setPressing_9 : decode cX5_setPressing 9 = .ok (.istore_n 2, 1) := by decide +kernel
theorem dX5_setPressing_10 : decode cX5_setPressing 10 = .ok (.aload_n 0, 1) := by decide +kernel
theorem dX5_setPressing_11 : decode cX5_setPressing 11 = .ok (.iload_n 1, 1) := by decide +kernel
theorem dX5_setPressing_12 : decode cX5_setPressing 12 = .ok (.putfield 101, 3) := by decide +kernel
theorem dX5_setPressing_15 : decode cX5_setPressing 15 = .ok (.iload_n 2, 1) := by decide +kernel
theorem dX5_setPressing_16 : decode cX5_setPressing 16 = .ok (.ireturn, 1) := by decide +kernel
set_option maxRecDepth 20000 in
theorem ggX5_wind_X5_isSpool : GoodIn wsX5_wind wsX5_isSpool := goodIn_r _ [10, 11, 12, 9, 13] (by decide +kernel) (by decide +kernel)
set_option maxRecDepth 20000 in
theorem gX5_wind_X5_isSpool : GoodIn wsX5_wind (va_wsS RX5 126 yX5_isSpool wsX5_isSpool) := goodIn_app (goodIn_of _ (by decide +kernel)) ggX5_wind_X5_isSpool
set_option maxRecDepth 20000 in
theorem ggX5_wind_X5_no : GoodIn wsX5_wind wsX5_no := goodIn_r _ [17, 1, 18, 19, 20, 21, 22, 23, 24, 25, 26, 27, 28, 29, 30, 31, 32, 33, 34, 35, 36] (by decide +kernel) (by decide +kernel)
set_option maxRecDepth 20000 in
theorem gX5_wind_X5_no : GoodIn wsX5_wind (wsV RX5 117 RX5 yX5_no wsX5_no) := goodIn_app (goodIn_of _ (by decide +kernel)) ggX5_wind_X5_no
set_option maxRecDepth 20000 in
theorem ggX5_wind_X5_isIn : GoodIn wsX5_wind wsX5_isIn := goodIn_r _ [13] (by decide +kernel) (by decide +kernel)
set_option maxRecDepth 20000 in
theorem gX5_wind_X5_isIn : GoodIn wsX5_wind (va_wsS RX5 47 yX5_isIn wsX5_isIn) := goodIn_app (goodIn_of _ (by decide +kernel)) ggX5_wind_X5_isIn
theorem dX5_wind_0 : decode cX5_wind 0 = .ok (.aload_n 0, 1) := by decide +kernel
theorem dX5_wind_1 : decode cX5_wind 1 = .ok (.iconst 0, 1) := by decide +kernel
theorem dX5_wind_2 : decode cX5_wind 2 = .ok (.putfield 44, 3) := by decide +kernel
theorem dX5_wind_5 : decode cX5_wind 5 = .ok (.iload_n 1, 1) := by decide +kernel
theorem dX5_wind_6 : decode cX5_wind 6 = .ok (.invokestatic 126, 3) := by decide +kernel
theorem dX5_wind_9 : decode cX5_wind 9 = .ok (.ifCond .ne 9, 3) := by decide +kernel
theorem dX5_wind_12 : decode cX5_wind 12 = .ok (.aload_n 0, 1) := by decide +kernel
theorem dX5_wind_13 : decode cX5_wind 13 = .ok (.iconst 1, 1) := by decide +kernel
theorem dX5_wind_14 : decode cX5_wind 14 = .ok (.invokevirtual 117, 3) := by decide +kernel
theorem dX5_wind_17 : decode cX5_wind 17 = .ok (.ireturn, 1) := by decide +kernel
theorem dX5_wind_18 : decode cX5_wind 18 = .ok (.iload_n 2, 1) := by decide +kernel
theorem dX5_wind_19 : decode cX5_wind 19 = .ok (.iconst 1, 1) := by decide +kernel
theorem dX5_wind_20 : decode cX5_wind 20 = .ok (.bipush 99, 2) := by decide +kernel
theorem dX5_wind_22 : decode cX5_wind 22 = .ok (.invokestatic 47, 3) := by decide +kernel
theorem dX5_wind_25 : decode cX5_wind 25 = .ok (.ifCond .ne 9, 3) := by decide +kernel
theorem dX5_wind_28 : decode cX5_wind 28 = .ok (.aload_n 0, 1) := by decide +kernel
theorem dX5_wind_29 : decode cX5_wind 29 = .ok (.iconst 2, 1) := by decide +kernel
theorem dX5_wind_30 : decode cX5_wind 30 = .ok (.invokevirtual 117, 3) := by decide +kernel
theorem dX5_wind_33 : decode cX5_wind 33 = .ok (.ireturn, 1) := by decide +kernel
theorem dX5_wind_34 : decode cX5_wind 34 = .ok (.aload_n 0, 1) := by decide +kernel
theorem dX5_wind_35 : decode cX5_wind 35 = .ok (.getfield 20, 3) := by decide +kernel
theorem dX5_wind_38 : decode cX5_wind 38 = .ok (.iload_n 1, 1) := by decide +kernel
theorem dX5_wind_39 : decode cX5_wind 39 = .ok (.sipush 999, 3) := by decide +kernel
theorem dX5_wind_42 : decode cX5_wind 42 = .ok (.aload_n 0, 1) := by decide +kernel
theorem dX5_wind_43 : decode cX5_wind 43 = .ok (.getfield 20, 3) := by decide +kernel
theorem dX5_wind_46 : decode cX5_wind 46 = .ok (.iload_n 1, 1) := by decide +kernel
theorem dX5_wind_47 : decode cX5_wind 47 = .ok (.iaload, 1) := by decide +kernel
theorem dX5_wind_48 : decode cX5_wind 48 = .ok (.iload_n 2, 1) := by decide +kernel
theorem dX5_wind_49 : decode cX5_wind 49 = .ok (.iadd, 1) := by decide +kernel
theorem dX5_wind_50 : decode cX5_wind 50 = .ok (.invokestatic 120, 3) := by decide +kernel
theorem dX5_wind_53 : decode cX5_wind 53 = .ok (.iastore, 1) := by decide +kernel
theorem dX5_wind_54 : decode cX5_wind 54 = .ok (.aload_n 0, 1) := by decide +kernel
theorem dX5_wind_55 : decode cX5_wind 55 = .ok (.getfield 20, 3) := by decide +kernel
theorem dX5_wind_58 : decode cX5_wind 58 = .ok (.iload_n 1, 1) := by decide +kernel
theorem dX5_wind_59 : decode cX5_wind 59 = .ok (.iaload, 1) := by decide +kernel
theorem dX5_wind_60 : decode cX5_wind 60 = .ok (.ireturn, 1) := by decide +kernel
set_option maxRecDepth 20000 in
theorem ggX5_weave_X5_weaveOn : GoodIn wsX5_weave wsX5_weaveOn := goodIn_r _ [21, 8, 22, 23, 24, 25, 3, 10, 26, 27, 28, 29, 30, 31, 32, 20, 33, 34, 6, 35, 36, 37, 38, 39, 40, 41, 42, 43, 44, 45, 46, 47, 48, 49, 50, 51, 52, 53, 54, 55, 56, 57, 58, 59, 60, 61, 62, 63, 64, 90, 91, 92, 93, 94, 95, 96, 97, 98, 99, 100, 101, 102, 103, 104, 105, 106, 107, 108] (by decide +kernel) (by decide +kernel)
set_option maxRecDepth 20000 in
theorem gX5_weave_X5_weaveOn : GoodIn wsX5_weave (wsV RX5 129 RX5 yX5_weaveOn wsX5_weaveOn) := goodIn_app (goodIn_of _ (by decide +kernel)) ggX5_weave_X5_weaveOn
set_option maxRecDepth 20000 in
theorem ggX5_weave_X5_cellsOf : GoodIn wsX5_weave wsX5_cellsOf := goodIn_r _ [67] (by decide +kernel) (by decide +kernel)
set_option maxRecDepth 20000 in
theorem gX5_weave_X5_cellsOf : GoodIn wsX5_weave (va_wsS RX5 132 yX5_cellsOf wsX5_cellsOf) := goodIn_app (goodIn_of _ (by decide +kernel)) ggX5_weave_X5_cellsOf
set_option maxRecDepth 20000 in
theorem ggX5_weave_X5_no : GoodIn wsX5_weave wsX5_no := goodIn_r _ [71, 1, 90, 91, 92, 93, 94, 95, 96, 97, 98, 99, 100, 101, 102, 103, 104, 105, 106, 107, 108] (by decide +kernel) (by decide +kernel)
set_option maxRecDepth 20000 in
theorem gX5_weave_X5_no : GoodIn wsX5_weave (wsV RX5 117 RX5 yX5_no wsX5_no) := goodIn_app (goodIn_of _ (by decide +kernel)) ggX5_weave_X5_no
set_option maxRecDepth 20000 in
theorem ggX5_weave_X5_allKnots : GoodIn wsX5_weave wsX5_allKnots := goodIn_r _ [75, 76, 77, 78, 20, 79, 80, 81, 82, 83, 44, 45, 46, 84, 85, 86, 87, 88, 89, 90, 91, 92, 93, 94, 95, 96, 97, 98, 99, 100, 101, 102, 103, 104, 105, 106, 107, 108] (by decide +kernel) (by decide +kernel)
set_option maxRecDepth 20000 in
theorem gX5_weave_X5_allKnots : GoodIn wsX5_weave (wsV RX5 150 RX5 yX5_allKnots wsX5_allKnots) := goodIn_app (goodIn_of _ (by decide +kernel)) ggX5_weave_X5_allKnots
theorem dX5_weave_0 : decode cX5_weave 0 = .ok (.aload_n 0, 1) := by decide +kernel
theorem dX5_weave_1 : decode cX5_weave 1 = .ok (.iconst 0, 1) := by decide +kernel
theorem dX5_weave_2 : decode cX5_weave 2 = .ok (.putfield 44, 3) := by decide +kernel
theorem dX5_weave_5 : decode cX5_weave 5 = .ok (.aload_n 0, 1) := by decide +kernel
theorem dX5_weave_6 : decode cX5_weave 6 = .ok (.aload_n 0, 1) := by decide +kernel
theorem dX5_weave_7 : decode cX5_weave 7 = .ok (.getfield 13, 3) := by decide +kernel
theorem dX5_weave_10 : decode cX5_weave 10 = .ok (.invokevirtual 129, 3) := by decide +kernel
theorem dX5_weave_13 : decode cX5_weave 13 = .ok (.iconst 0, 1) := by decide +kernel
theorem dX5_weave_14 : decode cX5_weave 14 = .ok (.istore_n 1, 1) := by decide +kernel
theorem dX5_weave_15 : decode cX5_weave 15 = .ok (.iload_n 1, 1) := by decide +kernel
theorem dX5_weave_16 : decode cX5_weave 16 = .ok (.bipush 6, 2) := by decide +kernel
theorem dX5_weave_18 : decode cX5_weave 18 = .ok (.if_icmp .ge 32, 3) := by decide +kernel
theorem dX5_weave_21 : decode cX5_weave 21 = .ok (.aload_n 0, 1) := by decide +kernel
theorem dX5_weave_22 : decode cX5_weave 22 = .ok (.getfield 29, 3) := by decide +kernel
theorem dX5_weave_25 : decode cX5_weave 25 = .ok (.iload_n 1, 1) := by decide +kernel
theorem dX5_weave_26 : decode cX5_weave 26 = .ok (.invokestatic 132, 3) := by decide +kernel
theorem dX5_weave_29 : decode cX5_weave 29 = .ok (.aload_n 0, 1) := by decide +kernel
theorem dX5_weave_30 : decode cX5_weave 30 = .ok (.getfield 20, 3) := by decide +kernel
theorem dX5_weave_33 : decode cX5_weave 33 = .ok (.iload_n 1, 1) := by decide +kernel
theorem dX5_weave_34 : decode cX5_weave 34 = .ok (.iaload, 1) := by decide +kernel
theorem dX5_weave_35 : decode cX5_weave 35 = .ok (.if_icmp .le 9, 3) := by decide +kernel
theorem dX5_weave_38 : decode cX5_weave 38 = .ok (.aload_n 0, 1) := by decide +kernel
theorem dX5_weave_39 : decode cX5_weave 39 = .ok (.iconst 1, 1) := by decide +kernel
theorem dX5_weave_40 : decode cX5_weave 40 = .ok (.invokevirtual 117, 3) := by decide +kernel
theorem dX5_weave_43 : decode cX5_weave 43 = .ok (.ireturn, 1) := by decide +kernel
theorem dX5_weave_44 : decode cX5_weave 44 = .ok (.iinc 1 1, 3) := by decide +kernel
theorem dX5_weave_47 : decode cX5_weave 47 = .ok (.goto (-32), 3) := by decide +kernel
theorem dX5_weave_50 : decode cX5_weave 50 = .ok (.iconst 0, 1) := by decide +kernel
theorem dX5_weave_51 : decode cX5_weave 51 = .ok (.istore_n 1, 1) := by decide +kernel
theorem dX5_weave_52 : decode cX5_weave 52 = .ok (.iload_n 1, 1) := by decide +kernel
theorem dX5_weave_53 : decode cX5_weave 53 = .ok (.bipush 6, 2) := by decide +kernel
theorem dX5_weave_55 : decode cX5_weave 55 = .ok (.if_icmp .ge 26, 3) := by decide +kernel
theorem dX5_weave_58 : decode cX5_weave 58 = .ok (.aload_n 0, 1) := by decide +kernel
theorem dX5_weave_59 : decode cX5_weave 59 = .ok (.getfield 20, 3) := by decide +kernel
theorem dX5_weave_62 : decode cX5_weave 62 = .ok (.iload_n 1, 1) := by decide +kernel
theorem dX5_weave_63 : decode cX5_weave 63 = .ok (.dup2, 1) := by decide +kernel
theorem dX5_weave_64 : decode cX5_weave 64 = .ok (.iaload, 1) := by decide +kernel
theorem dX5_weave_65 : decode cX5_weave 65 = .ok (.aload_n 0, 1) := by decide +kernel
theorem dX5_weave_66 : decode cX5_weave 66 = .ok (.getfield 29, 3) := by decide +kernel
theorem dX5_weave_69 : decode cX5_weave 69 = .ok (.iload_n 1, 1) := by decide +kernel
theorem dX5_weave_70 : decode cX5_weave 70 = .ok (.invokestatic 132, 3) := by decide +kernel
theorem dX5_weave_73 : decode cX5_weave 73 = .ok (.isub, 1) := by decide +kernel
theorem dX5_weave_74 : decode cX5_weave 74 = .ok (.iastore, 1) := by decide +kernel
theorem dX5_weave_75 : decode cX5_weave 75 = .ok (.iinc 1 1, 3) := by decide +kernel
theorem dX5_weave_78 : decode cX5_weave 78 = .ok (.goto (-26), 3) := by decide +kernel
theorem dX5_weave_81 : decode cX5_weave 81 = .ok (.aload_n 0, 1) := by decide +kernel
theorem dX5_weave_82 : decode cX5_weave 82 = .ok (.dup, 1) := by decide +kernel
theorem dX5_weave_83 : decode cX5_weave 83 = .ok (.getfield 135, 3) := by decide +kernel
theorem dX5_weave_86 : decode cX5_weave 86 = .ok (.iconst 1, 1) := by decide +kernel
theorem dX5_weave_87 : decode cX5_weave 87 = .ok (.iadd, 1) := by decide +kernel
theorem dX5_weave_88 : decode cX5_weave 88 = .ok (.putfield 135, 3) := by decide +kernel
theorem dX5_weave_91 : decode cX5_weave 91 = .ok (.aload_n 0, 1) := by decide +kernel
theorem dX5_weave_92 : decode cX5_weave 92 = .ok (.aload_n 0, 1) := by decide +kernel
theorem dX5_weave_93 : decode cX5_weave 93 = .ok (.getfield 54, 3) := by decide +kernel
theorem dX5_weave_96 : decode cX5_weave 96 = .ok (.putfield 138, 3) := by decide +kernel
theorem dX5_weave_99 : decode cX5_weave 99 = .ok (.aload_n 0, 1) := by decide +kernel
theorem dX5_weave_100 : decode cX5_weave 100 = .ok (.aload_n 0, 1) := by decide +kernel
theorem dX5_weave_101 : decode cX5_weave 101 = .ok (.getfield 79, 3) := by decide +kernel
theorem dX5_weave_104 : decode cX5_weave 104 = .ok (.putfield 141, 3) := by decide +kernel
theorem dX5_weave_107 : decode cX5_weave 107 = .ok (.aload_n 0, 1) := by decide +kernel
theorem dX5_weave_108 : decode cX5_weave 108 = .ok (.getfield 23, 3) := by decide +kernel
theorem dX5_weave_111 : decode cX5_weave 111 = .ok (.iconst 0, 1) := by decide +kernel
theorem dX5_weave_112 : decode cX5_weave 112 = .ok (.aload_n 0, 1) := by decide +kernel
theorem dX5_weave_113 : decode cX5_weave 113 = .ok (.getfield 38, 3) := by decide +kernel
theorem dX5_weave_116 : decode cX5_weave 116 = .ok (.iconst 0, 1) := by decide +kernel
theorem dX5_weave_117 : decode cX5_weave 117 = .ok (.bipush 6, 2) := by decide +kernel
theorem dX5_weave_119 : decode cX5_weave 119 = .ok (.invokestatic 144, 3) := by decide +kernel
theorem dX5_weave_122 : decode cX5_weave 122 = .ok (.aload_n 0, 1) := by decide +kernel
theorem dX5_weave_123 : decode cX5_weave 123 = .ok (.getfield 29, 3) := by decide +kernel
theorem dX5_weave_126 : decode cX5_weave 126 = .ok (.iconst 0, 1) := by decide +kernel
theorem dX5_weave_127 : decode cX5_weave 127 = .ok (.aload_n 0, 1) := by decide +kernel
theorem dX5_weave_128 : decode cX5_weave 128 = .ok (.getfield 41, 3) := by decide +kernel
theorem dX5_weave_131 : decode cX5_weave 131 = .ok (.iconst 0, 1) := by decide +kernel
theorem dX5_weave_132 : decode cX5_weave 132 = .ok (.bipush 96, 2) := by decide +kernel
theorem dX5_weave_134 : decode cX5_weave 134 = .ok (.invokestatic 144, 3) := by decide +kernel
theorem dX5_weave_137 : decode cX5_weave 137 = .ok (.aload_n 0, 1) := by decide +kernel
theorem dX5_weave_138 : decode cX5_weave 138 = .ok (.aload_n 0, 1) := by decide +kernel
theorem dX5_weave_139 : decode cX5_weave 139 = .ok (.getfield 41, 3) := by decide +kernel
theorem dX5_weave_142 : decode cX5_weave 142 = .ok (.invokevirtual 150, 3) := by decide +kernel
theorem dX5_weave_145 : decode cX5_weave 145 = .ok (.ireturn, 1) := by decide +kernel
set_option maxRecDepth 20000 in
theorem ggX5_shade_X5_isX : GoodIn wsX5_shade wsX5_isX := goodIn_r _ [6, 7, 8, 5, 9] (by decide +kernel) (by decide +kernel)
set_option maxRecDepth 20000 in
theorem gX5_shade_X5_isX : GoodIn wsX5_shade (va_wsS RX5 67 yX5_isX wsX5_isX) := goodIn_app (goodIn_of _ (by decide +kernel)) ggX5_shade_X5_isX
set_option maxRecDepth 20000 in
theorem ggX5_shade_X5_isY : GoodIn wsX5_shade wsX5_isY := goodIn_r _ [12, 7, 8, 5, 9] (by decide +kernel) (by decide +kernel)
set_option maxRecDepth 20000 in
theorem gX5_shade_X5_isY : GoodIn wsX5_shade (va_wsS RX5 114 yX5_isY wsX5_isY) := goodIn_app (goodIn_of _ (by decide +kernel)) ggX5_shade_X5_isY
set_option maxRecDepth 20000 in
theorem ggX5_shade_X5_at : GoodIn wsX5_shade wsX5_at := goodIn_r _ [15] (by decide +kernel) (by decide +kernel)
set_option maxRecDepth 20000 in
theorem gX5_shade_X5_at : GoodIn wsX5_shade (va_wsS RX5 86 yX5_at wsX5_at) := goodIn_app (goodIn_of _ (by decide +kernel)) ggX5_shade_X5_at
set_option maxRecDepth 20000 in
theorem ggX5_shade_X5_no : GoodIn wsX5_shade wsX5_no := goodIn_r _ [19, 1, 20, 21, 22, 23, 24, 25, 26, 27, 28, 29, 30, 31, 32, 33, 34, 35, 36, 37, 38] (by decide +kernel) (by decide +kernel)
set_option maxRecDepth 20000 in
theorem gX5_shade_X5_no : GoodIn wsX5_shade (wsV RX5 117 RX5 yX5_no wsX5_no) := goodIn_app (goodIn_of _ (by decide +kernel)) ggX5_shade_X5_no
theorem dX5_shade_0 : decode cX5_shade 0 = .ok (.aload_n 0, 1) := by decide +kernel
theorem dX5_shade_1 : decode cX5_shade 1 = .ok (.iconst 0, 1) := by decide +kernel
theorem dX5_shade_2 : decode cX5_shade 2 = .ok (.putfield 44, 3) := by decide +kernel
theorem dX5_shade_5 : decode cX5_shade 5 = .ok (.iload_n 1, 1) := by decide +kernel
theorem dX5_shade_6 : decode cX5_shade 6 = .ok (.invokestatic 67, 3) := by decide +kernel
theorem dX5_shade_9 : decode cX5_shade 9 = .ok (.ifCond .eq 23, 3) := by decide +kernel
theorem dX5_shade_12 : decode cX5_shade 12 = .ok (.iload_n 2, 1) := by decide +kernel
theorem dX5_shade_13 : decode cX5_shade 13 = .ok (.invokestatic 114, 3) := by decide +kernel
theorem dX5_shade_16 : decode cX5_shade 16 = .ok (.ifCond .eq 16, 3) := by decide +kernel
theorem dX5_shade_19 : decode cX5_shade 19 = .ok (.aload_n 0, 1) := by decide +kernel
theorem dX5_shade_20 : decode cX5_shade 20 = .ok (.getfield 9, 3) := by decide +kernel
theorem dX5_shade_23 : decode cX5_shade 23 = .ok (.iload_n 1, 1) := by decide +kernel
theorem dX5_shade_24 : decode cX5_shade 24 = .ok (.iload_n 2, 1) := by decide +kernel
theorem dX5_shade_25 : decode cX5_shade 25 = .ok (.invokestatic 86, 3) := by decide +kernel
theorem dX5_shade_28 : decode cX5_shade 28 = .ok (.iaload, 1) := by decide +kernel
theorem dX5_shade_29 : decode cX5_shade 29 = .ok (.goto 8, 3) := by decide +kernel
theorem dX5_shade_32 : decode cX5_shade 32 = .ok (.aload_n 0, 1) := by decide +kernel
theorem dX5_shade_33 : decode cX5_shade 33 = .ok (.iconst 1, 1) := by decide +kernel
theorem dX5_shade_34 : decode cX5_shade 34 = .ok (.invokevirtual 117, 3) := by decide +kernel
theorem dX5_shade_37 : decode cX5_shade 37 = .ok (.ireturn, 1) := by decide +kernel
set_option maxRecDepth 20000 in
theorem ggX5_paletteTold_X5_look : GoodIn wsX5_paletteTold wsX5_look := goodIn_r _ [8, 9, 2, 10, 3, 11, 12, 13, 7, 14, 15, 16, 17, 18, 19, 20, 21, 22, 23, 24, 25, 26, 27, 28, 29, 30, 31, 32, 33, 34, 35, 36, 37, 38] (by decide +kernel) (by decide +kernel)
set_option maxRecDepth 20000 in
theorem gX5_paletteTold_X5_look : GoodIn wsX5_paletteTold (wsV RX5 75 RX5 yX5_look wsX5_look) := goodIn_app (goodIn_of _ (by decide +kernel)) ggX5_paletteTold_X5_look
theorem dX5_paletteTold_0 : decode cX5_paletteTold 0 = .ok (.aload_n 0, 1) := by decide +kernel
theorem dX5_paletteTold_1 : decode cX5_paletteTold 1 = .ok (.aload_n 0, 1) := by decide +kernel
theorem dX5_paletteTold_2 : decode cX5_paletteTold 2 = .ok (.getfield 13, 3) := by decide +kernel
theorem dX5_paletteTold_5 : decode cX5_paletteTold 5 = .ok (.invokevirtual 75, 3) := by decide +kernel
theorem dX5_paletteTold_8 : decode cX5_paletteTold 8 = .ok (.iload_n 1, 1) := by decide +kernel
theorem dX5_paletteTold_9 : decode cX5_paletteTold 9 = .ok (.aload_n 0, 1) := by decide +kernel
theorem dX5_paletteTold_10 : decode cX5_paletteTold 10 = .ok (.getfield 54, 3) := by decide +kernel
theorem dX5_paletteTold_13 : decode cX5_paletteTold 13 = .ok (.if_icmp .ge 12, 3) := by decide +kernel
theorem dX5_paletteTold_16 : decode cX5_paletteTold 16 = .ok (.aload_n 0, 1) := by decide +kernel
theorem dX5_paletteTold_17 : decode cX5_paletteTold 17 = .ok (.getfield 23, 3) := by decide +kernel
theorem dX5_paletteTold_20 : decode cX5_paletteTold 20 = .ok (.iload_n 1, 1) := by decide +kernel
theorem dX5_paletteTold_21 : decode cX5_paletteTold 21 = .ok (.iaload, 1) := by decide +kernel
theorem dX5_paletteTold_22 : decode cX5_paletteTold 22 = .ok (.goto 4, 3) := by decide +kernel
theorem dX5_paletteTold_25 : decode cX5_paletteTold 25 = .ok (.iconst (-1), 1) := by decide +kernel
theorem dX5_paletteTold_26 : decode cX5_paletteTold 26 = .ok (.ireturn, 1) := by decide +kernel
set_option maxRecDepth 20000 in
theorem ggX5_palette_X5_isSpool : GoodIn wsX5_palette wsX5_isSpool := goodIn_r _ [5, 6, 7, 4, 8] (by decide +kernel) (by decide +kernel)
set_option maxRecDepth 20000 in
theorem gX5_palette_X5_isSpool : GoodIn wsX5_palette (va_wsS RX5 126 yX5_isSpool wsX5_isSpool) := goodIn_app (goodIn_of _ (by decide +kernel)) ggX5_palette_X5_isSpool
set_option maxRecDepth 20000 in
theorem ggX5_palette_X5_paletteTold : GoodIn wsX5_palette wsX5_paletteTold := goodIn_r _ [12, 13, 14, 15, 16, 17, 18, 4, 19, 20, 21, 22, 23, 24, 25, 26, 27, 28, 29, 30, 35, 36, 37, 38, 39, 40, 41, 42, 43, 44, 45, 46, 47, 48, 49, 50, 51, 52, 53] (by decide +kernel) (by decide +kernel)
set_option maxRecDepth 20000 in
theorem gX5_palette_X5_paletteTold : GoodIn wsX5_palette (wsV RX5 154 RX5 yX5_paletteTold wsX5_paletteTold) := goodIn_app (goodIn_of _ (by decide +kernel)) ggX5_palette_X5_paletteTold
set_option maxRecDepth 20000 in
theorem ggX5_palette_X5_no : GoodIn wsX5_palette wsX5_no := goodIn_r _ [34, 1, 35, 36, 37, 38, 39, 40, 41, 42, 43, 44, 45, 46, 47, 48, 49, 50, 51, 52, 53] (by decide +kernel) (by decide +kernel)
set_option maxRecDepth 20000 in
theorem gX5_palette_X5_no : GoodIn wsX5_palette (wsV RX5 117 RX5 yX5_no wsX5_no) := goodIn_app (goodIn_of _ (by decide +kernel)) ggX5_palette_X5_no
theorem dX5_palette_0 : decode cX5_palette 0 = .ok (.aload_n 0, 1) := by decide +kernel
theorem dX5_palette_1 : decode cX5_palette 1 = .ok (.iconst 0, 1) := by decide +kernel
theorem dX5_palette_2 : decode cX5_palette 2 = .ok (.putfield 44, 3) := by decide +kernel
theorem dX5_palette_5 : decode cX5_palette 5 = .ok (.iload_n 1, 1) := by decide +kernel
theorem dX5_palette_6 : decode cX5_palette 6 = .ok (.invokestatic 126, 3) := by decide +kernel
theorem dX5_palette_9 : decode cX5_palette 9 = .ok (.ifCond .eq 11, 3) := by decide +kernel
theorem dX5_palette_12 : decode cX5_palette 12 = .ok (.aload_n 0, 1) := by decide +kernel
theorem dX5_palette_13 : decode cX5_palette 13 = .ok (.iload_n 1, 1) := by decide +kernel
theorem dX5_palette_14 : decode cX5_palette 14 = .ok (.invokevirtual 154, 3) := by decide +kernel
theorem dX5_palette_17 : decode cX5_palette 17 = .ok (.goto 8, 3) := by decide +kernel
theorem dX5_palette_20 : decode cX5_palette 20 = .ok (.aload_n 0, 1) := by decide +kernel
theorem dX5_palette_21 : decode cX5_palette 21 = .ok (.iconst 1, 1) := by decide +kernel
theorem dX5_palette_22 : decode cX5_palette 22 = .ok (.invokevirtual 117, 3) := by decide +kernel
theorem dX5_palette_25 : decode cX5_palette 25 = .ok (.ireturn, 1) := by decide +kernel
set_option maxRecDepth 20000 in
theorem ggX5_cell_X5_isX : GoodIn wsX5_cell wsX5_isX := goodIn_r _ [7, 8, 9, 6, 10] (by decide +kernel) (by decide +kernel)
set_option maxRecDepth 20000 in
theorem gX5_cell_X5_isX : GoodIn wsX5_cell (va_wsS RX5 67 yX5_isX wsX5_isX) := goodIn_app (goodIn_of _ (by decide +kernel)) ggX5_cell_X5_isX
set_option maxRecDepth 20000 in
theorem ggX5_cell_X5_isY : GoodIn wsX5_cell wsX5_isY := goodIn_r _ [13, 8, 9, 6, 10] (by decide +kernel) (by decide +kernel)
set_option maxRecDepth 20000 in
theorem gX5_cell_X5_isY : GoodIn wsX5_cell (va_wsS RX5 114 yX5_isY wsX5_isY) := goodIn_app (goodIn_of _ (by decide +kernel)) ggX5_cell_X5_isY
set_option maxRecDepth 20000 in
theorem ggX5_cell_X5_no : GoodIn wsX5_cell wsX5_no := goodIn_r _ [17, 1, 21, 22, 23, 24, 25, 26, 27, 28, 29, 30, 31, 32, 33, 34, 35, 36, 37, 38, 39] (by decide +kernel) (by decide +kernel)
set_option maxRecDepth 20000 in
theorem gX5_cell_X5_no : GoodIn wsX5_cell (wsV RX5 117 RX5 yX5_no wsX5_no) := goodIn_app (goodIn_of _ (by decide +kernel)) ggX5_cell_X5_no
set_option maxRecDepth 20000 in
theorem ggX5_cell_X5_at : GoodIn wsX5_cell wsX5_at := goodIn_r _ [20] (by decide +kernel) (by decide +kernel)
set_option maxRecDepth 20000 in
theorem gX5_cell_X5_at : GoodIn wsX5_cell (va_wsS RX5 86 yX5_at wsX5_at) := goodIn_app (goodIn_of _ (by decide +kernel)) ggX5_cell_X5_at
theorem dX5_cell_0 : decode cX5_cell 0 = .ok (.aload_n 0, 1) := by decide +kernel
theorem dX5_cell_1 : decode cX5_cell 1 = .ok (.iconst 0, 1) := by decide +kernel
theorem dX5_cell_2 : decode cX5_cell 2 = .ok (.putfield 44, 3) := by decide +kernel
theorem dX5_cell_5 : decode cX5_cell 5 = .ok (.iload_n 1, 1) := by decide +kernel
theorem dX5_cell_6 : decode cX5_cell 6 = .ok (.invokestatic 67, 3) := by decide +kernel
theorem dX5_cell_9 : decode cX5_cell 9 = .ok (.ifCond .eq 10, 3) := by decide +kernel
theorem dX5_cell_12 : decode cX5_cell 12 = .ok (.iload_n 2, 1) := by decide +kernel
theorem dX5_cell_13 : decode cX5_cell 13 = .ok (.invokestatic 114, 3) := by decide +kernel
theorem dX5_cell_16 : decode cX5_cell 16 = .ok (.ifCond .ne 9, 3) := by decide +kernel
theorem dX5_cell_19 : decode cX5_cell 19 = .ok (.aload_n 0, 1) := by decide +kernel
theorem dX5_cell_20 : decode cX5_cell 20 = .ok (.iconst 1, 1) := by decide +kernel
theorem dX5_cell_21 : decode cX5_cell 21 = .ok (.invokevirtual 117, 3) := by decide +kernel
theorem dX5_cell_24 : decode cX5_cell 24 = .ok (.ireturn, 1) := by decide +kernel
theorem dX5_cell_25 : decode cX5_cell 25 = .ok (.aload_n 0, 1) := by decide +kernel
theorem dX5_cell_26 : decode cX5_cell 26 = .ok (.getfield 135, 3) := by decide +kernel
theorem dX5_cell_29 : decode cX5_cell 29 = .ok (.ifCond .le 16, 3) := by decide +kernel
theorem dX5_cell_32 : decode cX5_cell 32 = .ok (.aload_n 0, 1) := by decide +kernel
theorem dX5_cell_33 : decode cX5_cell 33 = .ok (.getfield 41, 3) := by decide +kernel
theorem dX5_cell_36 : decode cX5_cell 36 = .ok (.iload_n 1, 1) := by decide +kernel
theorem dX5_cell_37 : decode cX5_cell 37 = .ok (.iload_n 2, 1) := by decide +kernel
theorem dX5_cell_38 : decode cX5_cell 38 = .ok (.invokestatic 86, 3) := by decide +kernel
theorem dX5_cell_41 : decode cX5_cell 41 = .ok (.iaload, 1) := by decide +kernel
theorem dX5_cell_42 : decode cX5_cell 42 = .ok (.goto 8, 3) := by decide +kernel
theorem dX5_cell_45 : decode cX5_cell 45 = .ok (.aload_n 0, 1) := by decide +kernel
theorem dX5_cell_46 : decode cX5_cell 46 = .ok (.iconst 2, 1) := by decide +kernel
theorem dX5_cell_47 : decode cX5_cell 47 = .ok (.invokevirtual 117, 3) := by decide +kernel
theorem dX5_cell_50 : decode cX5_cell 50 = .ok (.ireturn, 1) := by decide +kernel
set_option maxRecDepth 20000 in
theorem ggX5_runTold_X5_endOf : GoodIn wsX5_runTold wsX5_endOf := goodIn_r _ [5, 6, 7, 4, 8] (by decide +kernel) (by decide +kernel)
set_option maxRecDepth 20000 in
theorem gX5_runTold_X5_endOf : GoodIn wsX5_runTold (va_wsS RX5 97 yX5_endOf wsX5_endOf) := goodIn_app (goodIn_of _ (by decide +kernel)) ggX5_runTold_X5_endOf
set_option maxRecDepth 20000 in
theorem ggX5_runTold_X5_at : GoodIn wsX5_runTold wsX5_at := goodIn_r _ [8] (by decide +kernel) (by decide +kernel)
set_option maxRecDepth 20000 in
theorem gX5_runTold_X5_at : GoodIn wsX5_runTold (va_wsS RX5 86 yX5_at wsX5_at) := goodIn_app (goodIn_of _ (by decide +kernel)) ggX5_runTold_X5_at
theorem dX5_runTold_0 : decode cX5_runTold 0 = .ok (.iconst 0, 1) := by decide +kernel
theorem dX5_runTold_1 : decode cX5_runTold 1 = .ok (.istore 4, 2) := by decide +kernel
theorem dX5_runTold_3 : decode cX5_runTold 3 = .ok (.iconst 0, 1) := by decide +kernel
theorem dX5_runTold_4 : decode cX5_runTold 4 = .ok (.istore 5, 2) := by decide +kernel
theorem dX5_runTold_6 : decode cX5_runTold 6 = .ok (.iload 5, 2) := by decide +kernel
theorem dX5_runTold_8 : decode cX5_runTold 8 = .ok (.iload_n 2, 1) := by decide +kernel
theorem dX5_runTold_9 : decode cX5_runTold 9 = .ok (.if_icmp .ge 21, 3) := by decide +kernel
theorem dX5_runTold_12 : decode cX5_runTold 12 = .ok (.aload_n 0, 1) := by decide +kernel
theorem dX5_runTold_13 : decode cX5_runTold 13 = .ok (.getfield 41, 3) := by decide +kernel
theorem dX5_runTold_16 : decode cX5_runTold 16 = .ok (.iload 4, 2) := by decide +kernel
theorem dX5_runTold_18 : decode cX5_runTold 18 = .ok (.iload_n 1, 1) := by decide +kernel
theorem dX5_runTold_19 : decode cX5_runTold 19 = .ok (.invokestatic 97, 3) := by decide +kernel
theorem dX5_runTold_22 : decode cX5_runTold 22 = .ok (.istore 4, 2) := by decide +kernel
theorem dX5_runTold_24 : decode cX5_runTold 24 = .ok (.iinc 5 1, 3) := by decide +kernel
theorem dX5_runTold_27 : decode cX5_runTold 27 = .ok (.goto (-21), 3) := by decide +kernel
theorem dX5_runTold_30 : decode cX5_runTold 30 = .ok (.iload_n 3, 1) := by decide +kernel
theorem dX5_runTold_31 : decode cX5_runTold 31 = .ok (.ifCond .ne 17, 3) := by decide +kernel
theorem dX5_runTold_34 : decode cX5_runTold 34 = .ok (.aload_n 0, 1) := by decide +kernel
theorem dX5_runTold_35 : decode cX5_runTold 35 = .ok (.getfield 41, 3) := by decide +kernel
theorem dX5_runTold_38 : decode cX5_runTold 38 = .ok (.iload 4, 2) := by decide +kernel
theorem dX5_runTold_40 : decode cX5_runTold 40 = .ok (.iload_n 1, 1) := by decide +kernel
theorem dX5_runTold_41 : decode cX5_runTold 41 = .ok (.invokestatic 86, 3) := by decide +kernel
theorem dX5_runTold_44 : decode cX5_runTold 44 = .ok (.iaload, 1) := by decide +kernel
theorem dX5_runTold_45 : decode cX5_runTold 45 = .ok (.goto 16, 3) := by decide +kernel
theorem dX5_runTold_48 : decode cX5_runTold 48 = .ok (.aload_n 0, 1) := by decide +kernel
theorem dX5_runTold_49 : decode cX5_runTold 49 = .ok (.getfield 41, 3) := by decide +kernel
theorem dX5_runTold_52 : decode cX5_runTold 52 = .ok (.iload 4, 2) := by decide +kernel
theorem dX5_runTold_54 : decode cX5_runTold 54 = .ok (.iload_n 1, 1) := by decide +kernel
theorem dX5_runTold_55 : decode cX5_runTold 55 = .ok (.invokestatic 97, 3) := by decide +kernel
theorem dX5_runTold_58 : decode cX5_runTold 58 = .ok (.iload 4, 2) := by decide +kernel
theorem dX5_runTold_60 : decode cX5_runTold 60 = .ok (.isub, 1) := by decide +kernel
theorem dX5_runTold_61 : decode cX5_runTold 61 = .ok (.ireturn, 1) := by decide +kernel
set_option maxRecDepth 20000 in
theorem ggX5_run_X5_isY : GoodIn wsX5_run wsX5_isY := goodIn_r _ [7, 8, 9, 6, 10] (by decide +kernel) (by decide +kernel)
set_option maxRecDepth 20000 in
theorem gX5_run_X5_isY : GoodIn wsX5_run (va_wsS RX5 114 yX5_isY wsX5_isY) := goodIn_app (goodIn_of _ (by decide +kernel)) ggX5_run_X5_isY
set_option maxRecDepth 20000 in
theorem ggX5_run_X5_isIn : GoodIn wsX5_run wsX5_isIn := goodIn_r _ [10] (by decide +kernel) (by decide +kernel)
set_option maxRecDepth 20000 in
theorem gX5_run_X5_isIn : GoodIn wsX5_run (va_wsS RX5 47 yX5_isIn wsX5_isIn) := goodIn_app (goodIn_of _ (by decide +kernel)) ggX5_run_X5_isIn
set_option maxRecDepth 20000 in
theorem ggX5_run_X5_no : GoodIn wsX5_run wsX5_no := goodIn_r _ [14, 1, 28, 29, 30, 31, 32, 33, 34, 35, 36, 37, 38, 39, 40, 41, 42, 43, 44, 45, 46] (by decide +kernel) (by decide +kernel)
set_option maxRecDepth 20000 in
theorem gX5_run_X5_no : GoodIn wsX5_run (wsV RX5 117 RX5 yX5_no wsX5_no) := goodIn_app (goodIn_of _ (by decide +kernel)) ggX5_run_X5_no
set_option maxRecDepth 20000 in
theorem ggX5_run_X5_runs : GoodIn wsX5_run wsX5_runs := goodIn_r _ [17, 18, 19, 6, 20, 21, 22, 23] (by decide +kernel) (by decide +kernel)
set_option maxRecDepth 20000 in
theorem gX5_run_X5_runs : GoodIn wsX5_run (va_wsS RX5 108 yX5_runs wsX5_runs) := goodIn_app (goodIn_of _ (by decide +kernel)) ggX5_run_X5_runs
set_option maxRecDepth 20000 in
theorem ggX5_run_X5_runTold : GoodIn wsX5_run wsX5_runTold := goodIn_r _ [27, 3, 18, 19, 6, 20, 21, 22, 23, 28, 29, 30, 31, 32, 33, 34, 35, 36, 37, 38, 39, 40, 41, 42, 43, 44, 45, 46] (by decide +kernel) (by decide +kernel)
set_option maxRecDepth 20000 in
theorem gX5_run_X5_runTold : GoodIn wsX5_run (wsV RX5 157 RX5 yX5_runTold wsX5_runTold) := goodIn_app (goodIn_of _ (by decide +kernel)) ggX5_run_X5_runTold
theorem dX5_run_0 : decode cX5_run 0 = .ok (.aload_n 0, 1) := by decide +kernel
theorem dX5_run_1 : decode cX5_run 1 = .ok (.iconst 0, 1) := by decide +kernel
theorem dX5_run_2 : decode cX5_run 2 = .ok (.putfield 44, 3) := by decide +kernel
theorem dX5_run_5 : decode cX5_run 5 = .ok (.iload_n 1, 1) := by decide +kernel
theorem dX5_run_6 : decode cX5_run 6 = .ok (.invokestatic 114, 3) := by decide +kernel
theorem dX5_run_9 : decode cX5_run 9 = .ok (.ifCond .eq 12, 3) := by decide +kernel
theorem dX5_run_12 : decode cX5_run 12 = .ok (.iload_n 3, 1) := by decide +kernel
theorem dX5_run_13 : decode cX5_run 13 = .ok (.iconst 0, 1) := by decide +kernel
theorem dX5_run_14 : decode cX5_run 14 = .ok (.iconst 1, 1) := by decide +kernel
theorem dX5_run_15 : decode cX5_run 15 = .ok (.invokestatic 47, 3) := by decide +kernel
theorem dX5_run_18 : decode cX5_run 18 = .ok (.ifCond .ne 9, 3) := by decide +kernel
theorem dX5_run_21 : decode cX5_run 21 = .ok (.aload_n 0, 1) := by decide +kernel
theorem dX5_run_22 : decode cX5_run 22 = .ok (.iconst 1, 1) := by decide +kernel
theorem dX5_run_23 : decode cX5_run 23 = .ok (.invokevirtual 117, 3) := by decide +kernel
theorem dX5_run_26 : decode cX5_run 26 = .ok (.ireturn, 1) := by decide +kernel
theorem dX5_run_27 : decode cX5_run 27 = .ok (.aload_n 0, 1) := by decide +kernel
theorem dX5_run_28 : decode cX5_run 28 = .ok (.getfield 135, 3) := by decide +kernel
theorem dX5_run_31 : decode cX5_run 31 = .ok (.ifCond .ne 9, 3) := by decide +kernel
theorem dX5_run_34 : decode cX5_run 34 = .ok (.aload_n 0, 1) := by decide +kernel
theorem dX5_run_35 : decode cX5_run 35 = .ok (.iconst 2, 1) := by decide +kernel
theorem dX5_run_36 : decode cX5_run 36 = .ok (.invokevirtual 117, 3) := by decide +kernel
theorem dX5_run_39 : decode cX5_run 39 = .ok (.ireturn, 1) := by decide +kernel
theorem dX5_run_40 : decode cX5_run 40 = .ok (.iload_n 2, 1) := by decide +kernel
theorem dX5_run_41 : decode cX5_run 41 = .ok (.iconst 0, 1) := by decide +kernel
theorem dX5_run_42 : decode cX5_run 42 = .ok (.aload_n 0, 1) := by decide +kernel
theorem dX5_run_43 : decode cX5_run 43 = .ok (.getfield 41, 3) := by decide +kernel
theorem dX5_run_46 : decode cX5_run 46 = .ok (.iload_n 1, 1) := by decide +kernel
theorem dX5_run_47 : decode cX5_run 47 = .ok (.invokestatic 108, 3) := by decide +kernel
theorem dX5_run_50 : decode cX5_run 50 = .ok (.iconst 1, 1) := by decide +kernel
theorem dX5_run_51 : decode cX5_run 51 = .ok (.isub, 1) := by decide +kernel
theorem dX5_run_52 : decode cX5_run 52 = .ok (.invokestatic 47, 3) := by decide +kernel
theorem dX5_run_55 : decode cX5_run 55 = .ok (.ifCond .eq 13, 3) := by decide +kernel
theorem dX5_run_58 : decode cX5_run 58 = .ok (.aload_n 0, 1) := by decide +kernel
theorem dX5_run_59 : decode cX5_run 59 = .ok (.iload_n 1, 1) := by decide +kernel
theorem dX5_run_60 : decode cX5_run 60 = .ok (.iload_n 2, 1) := by decide +kernel
theorem dX5_run_61 : decode cX5_run 61 = .ok (.iload_n 3, 1) := by decide +kernel
theorem dX5_run_62 : decode cX5_run 62 = .ok (.invokevirtual 157, 3) := by decide +kernel
theorem dX5_run_65 : decode cX5_run 65 = .ok (.goto 8, 3) := by decide +kernel
theorem dX5_run_68 : decode cX5_run 68 = .ok (.aload_n 0, 1) := by decide +kernel
theorem dX5_run_69 : decode cX5_run 69 = .ok (.iconst 1, 1) := by decide +kernel
theorem dX5_run_70 : decode cX5_run 70 = .ok (.invokevirtual 117, 3) := by decide +kernel
theorem dX5_run_73 : decode cX5_run 73 = .ok (.ireturn, 1) := by decide +kernel
set_option maxRecDepth 20000 in
theorem ggX5_knots_X5_isY : GoodIn wsX5_knots wsX5_isY := goodIn_r _ [7, 8, 9, 6, 10] (by decide +kernel) (by decide +kernel)
set_option maxRecDepth 20000 in
theorem gX5_knots_X5_isY : GoodIn wsX5_knots (va_wsS RX5 114 yX5_isY wsX5_isY) := goodIn_app (goodIn_of _ (by decide +kernel)) ggX5_knots_X5_isY
set_option maxRecDepth 20000 in
theorem ggX5_knots_X5_no : GoodIn wsX5_knots wsX5_no := goodIn_r _ [14, 1, 32, 33, 34, 35, 36, 37, 38, 39, 40, 41, 42, 43, 44, 45, 46, 47, 48, 49, 50] (by decide +kernel) (by decide +kernel)
set_option maxRecDepth 20000 in
theorem gX5_knots_X5_no : GoodIn wsX5_knots (wsV RX5 117 RX5 yX5_no wsX5_no) := goodIn_app (goodIn_of _ (by decide +kernel)) ggX5_knots_X5_no
set_option maxRecDepth 20000 in
theorem ggX5_knots_X5_knotsOf : GoodIn wsX5_knots wsX5_knotsOf := goodIn_r _ [18, 19, 20, 21, 6, 22, 23, 24, 25, 26, 27, 28, 29, 30, 31, 32, 33, 34, 35, 36, 37, 38, 39, 40, 41, 42, 43, 44, 45, 46, 47, 48, 49, 50] (by decide +kernel) (by decide +kernel)
set_option maxRecDepth 20000 in
theorem gX5_knots_X5_knotsOf : GoodIn wsX5_knots (wsV RX5 111 RX5 yX5_knotsOf wsX5_knotsOf) := goodIn_app (goodIn_of _ (by decide +kernel)) ggX5_knots_X5_knotsOf
theorem dX5_knots_0 : decode cX5_knots 0 = .ok (.aload_n 0, 1) := by decide +kernel
theorem dX5_knots_1 : decode cX5_knots 1 = .ok (.iconst 0, 1) := by decide +kernel
theorem dX5_knots_2 : decode cX5_knots 2 = .ok (.putfield 44, 3) := by decide +kernel
theorem dX5_knots_5 : decode cX5_knots 5 = .ok (.iload_n 1, 1) := by decide +kernel
theorem dX5_knots_6 : decode cX5_knots 6 = .ok (.invokestatic 114, 3) := by decide +kernel
theorem dX5_knots_9 : decode cX5_knots 9 = .ok (.ifCond .ne 9, 3) := by decide +kernel
theorem dX5_knots_12 : decode cX5_knots 12 = .ok (.aload_n 0, 1) := by decide +kernel
theorem dX5_knots_13 : decode cX5_knots 13 = .ok (.iconst 1, 1) := by decide +kernel
theorem dX5_knots_14 : decode cX5_knots 14 = .ok (.invokevirtual 117, 3) := by decide +kernel
theorem dX5_knots_17 : decode cX5_knots 17 = .ok (.ireturn, 1) := by decide +kernel
theorem dX5_knots_18 : decode cX5_knots 18 = .ok (.aload_n 0, 1) := by decide +kernel
theorem dX5_knots_19 : decode cX5_knots 19 = .ok (.getfield 135, 3) := by decide +kernel
theorem dX5_knots_22 : decode cX5_knots 22 = .ok (.ifCond .le 15, 3) := by decide +kernel
theorem dX5_knots_25 : decode cX5_knots 25 = .ok (.aload_n 0, 1) := by decide +kernel
theorem dX5_knots_26 : decode cX5_knots 26 = .ok (.aload_n 0, 1) := by decide +kernel
theorem dX5_knots_27 : decode cX5_knots 27 = .ok (.getfield 41, 3) := by decide +kernel
theorem dX5_knots_30 : decode cX5_knots 30 = .ok (.iload_n 1, 1) := by decide +kernel
theorem dX5_knots_31 : decode cX5_knots 31 = .ok (.invokevirtual 111, 3) := by decide +kernel
theorem dX5_knots_34 : decode cX5_knots 34 = .ok (.goto 8, 3) := by decide +kernel
theorem dX5_knots_37 : decode cX5_knots 37 = .ok (.aload_n 0, 1) := by decide +kernel
theorem dX5_knots_38 : decode cX5_knots 38 = .ok (.iconst 2, 1) := by decide +kernel
theorem dX5_knots_39 : decode cX5_knots 39 = .ok (.invokevirtual 117, 3) := by decide +kernel
theorem dX5_knots_42 : decode cX5_knots 42 = .ok (.ireturn, 1) := by decide +kernel
set_option maxRecDepth 20000 in
theorem ggX5_threadTold_X5_cellsOf : GoodIn wsX5_threadTold wsX5_cellsOf := goodIn_r _ [9] (by decide +kernel) (by decide +kernel)
set_option maxRecDepth 20000 in
theorem gX5_threadTold_X5_cellsOf : GoodIn wsX5_threadTold (va_wsS RX5 132 yX5_cellsOf wsX5_cellsOf) := goodIn_app (goodIn_of _ (by decide +kernel)) ggX5_threadTold_X5_cellsOf
theorem dX5_threadTold_0 : decode cX5_threadTold 0 = .ok (.iload_n 2, 1) := by decide +kernel
theorem dX5_threadTold_1 : decode cX5_threadTold 1 = .ok (.ifCond .ne 10, 3) := by decide +kernel
theorem dX5_threadTold_4 : decode cX5_threadTold 4 = .ok (.aload_n 0, 1) := by decide +kernel
theorem dX5_threadTold_5 : decode cX5_threadTold 5 = .ok (.getfield 20, 3) := by decide +kernel
theorem dX5_threadTold_8 : decode cX5_threadTold 8 = .ok (.iload_n 1, 1) := by decide +kernel
theorem dX5_threadTold_9 : decode cX5_threadTold 9 = .ok (.iaload, 1) := by decide +kernel
theorem dX5_threadTold_10 : decode cX5_threadTold 10 = .ok (.ireturn, 1) := by decide +kernel
theorem dX5_threadTold_11 : decode cX5_threadTold 11 = .ok (.iload_n 2, 1) := by decide +kernel
theorem dX5_threadTold_12 : decode cX5_threadTold 12 = .ok (.iconst 1, 1) := by decide +kernel
theorem dX5_threadTold_13 : decode cX5_threadTold 13 = .ok (.if_icmp .ne 23, 3) := by decide +kernel
theorem dX5_threadTold_16 : decode cX5_threadTold 16 = .ok (.aload_n 0, 1) := by decide +kernel
theorem dX5_threadTold_17 : decode cX5_threadTold 17 = .ok (.getfield 135, 3) := by decide +kernel
theorem dX5_threadTold_20 : decode cX5_threadTold 20 = .ok (.ifCond .le 14, 3) := by decide +kernel
theorem dX5_threadTold_23 : decode cX5_threadTold 23 = .ok (.aload_n 0, 1) := by decide +kernel
theorem dX5_threadTold_24 : decode cX5_threadTold 24 = .ok (.getfield 41, 3) := by decide +kernel
theorem dX5_threadTold_27 : decode cX5_threadTold 27 = .ok (.iload_n 1, 1) := by decide +kernel
theorem dX5_threadTold_28 : decode cX5_threadTold 28 = .ok (.invokestatic 132, 3) := by decide +kernel
theorem dX5_threadTold_31 : decode cX5_threadTold 31 = .ok (.goto 4, 3) := by decide +kernel
theorem dX5_threadTold_34 : decode cX5_threadTold 34 = .ok (.iconst 0, 1) := by decide +kernel
theorem dX5_threadTold_35 : decode cX5_threadTold 35 = .ok (.ireturn, 1) := by decide +kernel
theorem dX5_threadTold_36 : decode cX5_threadTold 36 = .ok (.iload_n 1, 1) := by decide +kernel
theorem dX5_threadTold_37 : decode cX5_threadTold 37 = .ok (.aload_n 0, 1) := by decide +kernel
theorem dX5_threadTold_38 : decode cX5_threadTold 38 = .ok (.getfield 138, 3) := by decide +kernel
theorem dX5_threadTold_41 : decode cX5_threadTold 41 = .ok (.if_icmp .ge 12, 3) := by decide +kernel
theorem dX5_threadTold_44 : decode cX5_threadTold 44 = .ok (.aload_n 0, 1) := by decide +kernel
theorem dX5_threadTold_45 : decode cX5_threadTold 45 = .ok (.getfield 38, 3) := by decide +kernel
theorem dX5_threadTold_48 : decode cX5_threadTold 48 = .ok (.iload_n 1, 1) := by decide +kernel
theorem dX5_threadTold_49 : decode cX5_threadTold 49 = .ok (.iaload, 1) := by decide +kernel
theorem dX5_threadTold_50 : decode cX5_threadTold 50 = .ok (.goto 4, 3) := by decide +kernel
theorem dX5_threadTold_53 : decode cX5_threadTold 53 = .ok (.iconst (-1), 1) := by decide +kernel
theorem dX5_threadTold_54 : decode cX5_threadTold 54 = .ok (.ireturn, 1) := by decide +kernel
set_option maxRecDepth 20000 in
theorem ggX5_thread_X5_isSpool : GoodIn wsX5_thread wsX5_isSpool := goodIn_r _ [5, 6, 7, 4, 8] (by decide +kernel) (by decide +kernel)
set_option maxRecDepth 20000 in
theorem gX5_thread_X5_isSpool : GoodIn wsX5_thread (va_wsS RX5 126 yX5_isSpool wsX5_isSpool) := goodIn_app (goodIn_of _ (by decide +kernel)) ggX5_thread_X5_isSpool
set_option maxRecDepth 20000 in
theorem ggX5_thread_X5_isIn : GoodIn wsX5_thread wsX5_isIn := goodIn_r _ [8] (by decide +kernel) (by decide +kernel)
set_option maxRecDepth 20000 in
theorem gX5_thread_X5_isIn : GoodIn wsX5_thread (va_wsS RX5 47 yX5_isIn wsX5_isIn) := goodIn_app (goodIn_of _ (by decide +kernel)) ggX5_thread_X5_isIn
set_option maxRecDepth 20000 in
theorem ggX5_thread_X5_threadTold : GoodIn wsX5_thread wsX5_threadTold := goodIn_r _ [12, 13, 14, 15, 16, 17, 18, 19, 4, 20, 25, 26, 27, 28, 29, 30, 31, 32, 33, 34, 35, 36, 37, 38, 39, 40, 41, 42, 43] (by decide +kernel) (by decide +kernel)
set_option maxRecDepth 20000 in
theorem gX5_thread_X5_threadTold : GoodIn wsX5_thread (wsV RX5 161 RX5 yX5_threadTold wsX5_threadTold) := goodIn_app (goodIn_of _ (by decide +kernel)) ggX5_thread_X5_threadTold
set_option maxRecDepth 20000 in
theorem ggX5_thread_X5_no : GoodIn wsX5_thread wsX5_no := goodIn_r _ [24, 1, 25, 26, 27, 28, 29, 30, 31, 32, 33, 34, 35, 36, 37, 38, 39, 40, 41, 42, 43] (by decide +kernel) (by decide +kernel)
set_option maxRecDepth 20000 in
theorem gX5_thread_X5_no : GoodIn wsX5_thread (wsV RX5 117 RX5 yX5_no wsX5_no) := goodIn_app (goodIn_of _ (by decide +kernel)) ggX5_thread_X5_no
theorem dX5_thread_0 : decode cX5_thread 0 = .ok (.aload_n 0, 1) := by decide +kernel
theorem dX5_thread_1 : decode cX5_thread 1 = .ok (.iconst 0, 1) := by decide +kernel
theorem dX5_thread_2 : decode cX5_thread 2 = .ok (.putfield 44, 3) := by decide +kernel
theorem dX5_thread_5 : decode cX5_thread 5 = .ok (.iload_n 1, 1) := by decide +kernel
theorem dX5_thread_6 : decode cX5_thread 6 = .ok (.invokestatic 126, 3) := by decide +kernel
theorem dX5_thread_9 : decode cX5_thread 9 = .ok (.ifCond .eq 21, 3) := by decide +kernel
theorem dX5_thread_12 : decode cX5_thread 12 = .ok (.iload_n 2, 1) := by decide +kernel
theorem dX5_thread_13 : decode cX5_thread 13 = .ok (.iconst 0, 1) := by decide +kernel
theorem dX5_thread_14 : decode cX5_thread 14 = .ok (.iconst 2, 1) := by decide +kernel
theorem dX5_thread_15 : decode cX5_thread 15 = .ok (.invokestatic 47, 3) := by decide +kernel
theorem dX5_thread_18 : decode cX5_thread 18 = .ok (.ifCond .eq 12, 3) := by decide +kernel
theorem dX5_thread_21 : decode cX5_thread 21 = .ok (.aload_n 0, 1) := by decide +kernel
theorem dX5_thread_22 : decode cX5_thread 22 = .ok (.iload_n 1, 1) := by decide +kernel
theorem dX5_thread_23 : decode cX5_thread 23 = .ok (.iload_n 2, 1) := by decide +kernel
theorem dX5_thread_24 : decode cX5_thread 24 = .ok (.invokevirtual 161, 3) := by decide +kernel
theorem dX5_thread_27 : decode cX5_thread 27 = .ok (.goto 8, 3) := by decide +kernel
theorem dX5_thread_30 : decode cX5_thread 30 = .ok (.aload_n 0, 1) := by decide +kernel
theorem dX5_thread_31 : decode cX5_thread 31 = .ok (.iconst 1, 1) := by decide +kernel
theorem dX5_thread_32 : decode cX5_thread 32 = .ok (.invokevirtual 117, 3) := by decide +kernel
theorem dX5_thread_35 : decode cX5_thread 35 = .ok (.ireturn, 1) := by decide +kernel
set_option maxRecDepth 20000 in
theorem ggX5_counted_X5_allKnots : GoodIn wsX5_counted wsX5_allKnots := goodIn_r _ [13, 14, 15, 16, 12, 17, 4, 18, 19, 20, 21, 22, 23, 24, 25, 26, 27, 28, 29, 30, 31, 32, 33, 34, 35, 36, 37, 38, 39, 40, 41, 42, 43, 44, 45, 46, 47, 48] (by decide +kernel) (by decide +kernel)
set_option maxRecDepth 20000 in
theorem gX5_counted_X5_allKnots : GoodIn wsX5_counted (wsV RX5 150 RX5 yX5_allKnots wsX5_allKnots) := goodIn_app (goodIn_of _ (by decide +kernel)) ggX5_counted_X5_allKnots
theorem dX5_counted_0 : decode cX5_counted 0 = .ok (.iconst 0, 1) := by decide +kernel
theorem dX5_counted_1 : decode cX5_counted 1 = .ok (.istore_n 2, 1) := by decide +kernel
theorem dX5_counted_2 : decode cX5_counted 2 = .ok (.iload_n 1, 1) := by decide +kernel
theorem dX5_counted_3 : decode cX5_counted 3 = .ok (.tableswitch 125 0 6 #[41, 46, 51, 64, 77, 82, 120], 41) := by decide +kernel
theorem dX5_counted_44 : decode cX5_counted 44 = .ok (.aload_n 0, 1) := by decide +kernel
theorem dX5_counted_45 : decode cX5_counted 45 = .ok (.getfield 13, 3) := by decide +kernel
theorem dX5_counted_48 : decode cX5_counted 48 = .ok (.ireturn, 1) := by decide +kernel
theorem dX5_counted_49 : decode cX5_counted 49 = .ok (.aload_n 0, 1) := by decide +kernel
theorem dX5_counted_50 : decode cX5_counted 50 = .ok (.getfield 17, 3) := by decide +kernel
theorem dX5_counted_53 : decode cX5_counted 53 = .ok (.ireturn, 1) := by decide +kernel
theorem dX5_counted_54 : decode cX5_counted 54 = .ok (.aload_n 0, 1) := by decide +kernel
theorem dX5_counted_55 : decode cX5_counted 55 = .ok (.getfield 82, 3) := by decide +kernel
theorem dX5_counted_58 : decode cX5_counted 58 = .ok (.ifCond .eq 7, 3) := by decide +kernel
theorem dX5_counted_61 : decode cX5_counted 61 = .ok (.iconst 1, 1) := by decide +kernel
theorem dX5_counted_62 : decode cX5_counted 62 = .ok (.goto 4, 3) := by decide +kernel
theorem dX5_counted_65 : decode cX5_counted 65 = .ok (.iconst 0, 1) := by decide +kernel
theorem dX5_counted_66 : decode cX5_counted 66 = .ok (.ireturn, 1) := by decide +kernel
theorem dX5_counted_67 : decode cX5_counted 67 = .ok (.aload_n 0, 1) := by decide +kernel
theorem dX5_counted_68 : decode cX5_counted 68 = .ok (.getfield 101, 3) := by decide +kernel
theorem dX5_counted_71 : decode cX5_counted 71 = .ok (.ifCond .eq 7, 3) := by decide +kernel
theorem dX5_counted_74 : decode cX5_counted 74 = .ok (.iconst 1, 1) := by decide +kernel
theorem dX5_counted_75 : decode cX5_counted 75 = .ok (.goto 4, 3) := by decide +kernel
theorem dX5_counted_78 : decode cX5_counted 78 = .ok (.iconst 0, 1) := by decide +kernel
theorem dX5_counted_79 : decode cX5_counted 79 = .ok (.ireturn, 1) := by decide +kernel
theorem dX5_counted_80 : decode cX5_counted 80 = .ok (.aload_n 0, 1) := by decide +kernel
theorem dX5_counted_81 : decode cX5_counted 81 = .ok (.getfield 135, 3) := by decide +kernel
theorem dX5_counted_84 : decode cX5_counted 84 = .ok (.ireturn, 1) := by decide +kernel
theorem dX5_counted_85 : decode cX5_counted 85 = .ok (.aload_n 0, 1) := by decide +kernel
theorem dX5_counted_86 : decode cX5_counted 86 = .ok (.getfield 20, 3) := by decide +kernel
theorem dX5_counted_89 : decode cX5_counted 89 = .ok (.astore_n 3, 1) := by decide +kernel
theorem dX5_counted_90 : decode cX5_counted 90 = .ok (.aload_n 3, 1) := by decide +kernel
theorem dX5_counted_91 : decode cX5_counted 91 = .ok (.arraylength, 1) := by decide +kernel
theorem dX5_counted_92 : decode cX5_counted 92 = .ok (.istore 4, 2) := by decide +kernel
theorem dX5_counted_94 : decode cX5_counted 94 = .ok (.iconst 0, 1) := by decide +kernel
theorem dX5_counted_95 : decode cX5_counted 95 = .ok (.istore 5, 2) := by decide +kernel
theorem dX5_counted_97 : decode cX5_counted 97 = .ok (.iload 5, 2) := by decide +kernel
theorem dX5_counted_99 : decode cX5_counted 99 = .ok (.iload 4, 2) := by decide +kernel
theorem dX5_counted_101 : decode cX5_counted 101 = .ok (.if_icmp .ge 20, 3) := by decide +kernel
theorem dX5_counted_104 : decode cX5_counted 104 = .ok (.aload_n 3, 1) := by decide +kernel
theorem dX5_counted_105 : decode cX5_counted 105 = .ok (.iload 5, 2) := by decide +kernel
theorem dX5_counted_107 : decode cX5_counted 107 = .ok (.iaload, 1) := by decide +kernel
theorem dX5_counted_108 : decode cX5_counted 108 = .ok (.istore 6, 2) := by decide +kernel
theorem dX5_counted_110 : decode cX5_counted 110 = .ok (.iload_n 2, 1) := by decide +kernel
theorem dX5_counted_111 : decode cX5_counted 111 = .ok (.iload 6, 2) := by decide +kernel
theorem dX5_counted_113 : decode cX5_counted 113 = .ok (.iadd, 1) := by decide +kernel
theorem dX5_counted_114 : decode cX5_counted 114 = .ok (.istore_n 2, 1) := by decide +kernel
theorem dX5_counted_115 : decode cX5_counted 115 = .ok (.iinc 5 1, 3) := by decide +kernel
theorem dX5_counted_118 : decode cX5_counted 118 = .ok (.goto (-21), 3) := by decide +kernel
theorem dX5_counted_121 : decode cX5_counted 121 = .ok (.iload_n 2, 1) := by decide +kernel
theorem dX5_counted_122 : decode cX5_counted 122 = .ok (.ireturn, 1) := by decide +kernel
theorem dX5_counted_123 : decode cX5_counted 123 = .ok (.aload_n 0, 1) := by decide +kernel
theorem dX5_counted_124 : decode cX5_counted 124 = .ok (.getfield 141, 3) := by decide +kernel
theorem dX5_counted_127 : decode cX5_counted 127 = .ok (.ireturn, 1) := by decide +kernel
theorem dX5_counted_128 : decode cX5_counted 128 = .ok (.aload_n 0, 1) := by decide +kernel
theorem dX5_counted_129 : decode cX5_counted 129 = .ok (.getfield 135, 3) := by decide +kernel
theorem dX5_counted_132 : decode cX5_counted 132 = .ok (.ifCond .le 14, 3) := by decide +kernel
theorem dX5_counted_135 : decode cX5_counted 135 = .ok (.aload_n 0, 1) := by decide +kernel
theorem dX5_counted_136 : decode cX5_counted 136 = .ok (.aload_n 0, 1) := by decide +kernel
theorem dX5_counted_137 : decode cX5_counted 137 = .ok (.getfield 41, 3) := by decide +kernel
theorem dX5_counted_140 : decode cX5_counted 140 = .ok (.invokevirtual 150, 3) := by decide +kernel
theorem dX5_counted_143 : decode cX5_counted 143 = .ok (.goto 4, 3) := by decide +kernel
theorem dX5_counted_146 : decode cX5_counted 146 = .ok (.iconst 0, 1) := by decide +kernel
theorem dX5_counted_147 : decode cX5_counted 147 = .ok (.ireturn, 1) := by decide +kernel
set_option maxRecDepth 20000 in
theorem ggX5_count_X5_isIn : GoodIn wsX5_count wsX5_isIn := goodIn_r _ [5] (by decide +kernel) (by decide +kernel)
set_option maxRecDepth 20000 in
theorem gX5_count_X5_isIn : GoodIn wsX5_count (va_wsS RX5 47 yX5_isIn wsX5_isIn) := goodIn_app (goodIn_of _ (by decide +kernel)) ggX5_count_X5_isIn
set_option maxRecDepth 20000 in
theorem ggX5_count_X5_counted : GoodIn wsX5_count wsX5_counted := goodIn_r _ [9, 10, 11, 12, 13, 14, 15, 16, 17, 18, 19, 20, 4, 21, 22, 23, 24, 25, 26, 27, 28, 29, 30, 31, 32, 33, 34, 35, 36, 37, 42, 43, 44, 45, 46, 47, 48, 49, 50, 51, 52, 53, 54, 55, 56, 57, 58, 59, 60] (by decide +kernel) (by decide +kernel)
set_option maxRecDepth 20000 in
theorem gX5_count_X5_counted : GoodIn wsX5_count (wsV RX5 164 RX5 yX5_counted wsX5_counted) := goodIn_app (goodIn_of _ (by decide +kernel)) ggX5_count_X5_counted
set_option maxRecDepth 20000 in
theorem ggX5_count_X5_no : GoodIn wsX5_count wsX5_no := goodIn_r _ [41, 1, 42, 43, 44, 45, 46, 47, 48, 49, 50, 51, 52, 53, 54, 55, 56, 57, 58, 59, 60] (by decide +kernel) (by decide +kernel)
set_option maxRecDepth 20000 in
theorem gX5_count_X5_no : GoodIn wsX5_count (wsV RX5 117 RX5 yX5_no wsX5_no) := goodIn_app (goodIn_of _ (by decide +kernel)) ggX5_count_X5_no
theorem dX5_count_0 : decode cX5_count 0 = .ok (.aload_n 0, 1) := by decide +kernel
theorem dX5_count_1 : decode cX5_count 1 = .ok (.iconst 0, 1) := by decide +kernel
theorem dX5_count_2 : decode cX5_count 2 = .ok (.putfield 44, 3) := by decide +kernel
theorem dX5_count_5 : decode cX5_count 5 = .ok (.iload_n 1, 1) := by decide +kernel
theorem dX5_count_6 : decode cX5_count 6 = .ok (.iconst 0, 1) := by decide +kernel
theorem dX5_count_7 : decode cX5_count 7 = .ok (.bipush 7, 2) := by decide +kernel
theorem dX5_count_9 : decode cX5_count 9 = .ok (.invokestatic 47, 3) := by decide +kernel
theorem dX5_count_12 : decode cX5_count 12 = .ok (.ifCond .eq 11, 3) := by decide +kernel
theorem dX5_count_15 : decode cX5_count 15 = .ok (.aload_n 0, 1) := by decide +kernel
theorem dX5_count_16 : decode cX5_count 16 = .ok (.iload_n 1, 1) := by decide +kernel
theorem dX5_count_17 : decode cX5_count 17 = .ok (.invokevirtual 164, 3) := by decide +kernel
theorem dX5_count_20 : decode cX5_count 20 = .ok (.goto 8, 3) := by decide +kernel
theorem dX5_count_23 : decode cX5_count 23 = .ok (.aload_n 0, 1) := by decide +kernel
theorem dX5_count_24 : decode cX5_count 24 = .ok (.iconst 1, 1) := by decide +kernel
theorem dX5_count_25 : decode cX5_count 25 = .ok (.invokevirtual 117, 3) := by decide +kernel
theorem dX5_count_28 : decode cX5_count 28 = .ok (.ireturn, 1) := by decide +kernel
set_option maxRecDepth 20000 in
theorem ggX5_wouldTell_X5_weaveOn : GoodIn wsX5_wouldTell wsX5_weaveOn := goodIn_r _ [8, 2, 9, 10, 11, 12, 3, 13, 14, 15, 16, 17, 18, 19, 20, 7, 21, 22, 1, 23, 24, 25, 26, 27, 28, 29, 30, 31, 32, 33, 34, 35, 36, 37, 38, 39, 40, 41, 42, 43, 44, 45, 46, 47, 48, 49, 50, 51, 52, 71, 72, 73, 74, 75, 76, 77, 78, 79, 80, 81, 82, 83, 84, 85, 86, 87, 88, 89] (by decide +kernel) (by decide +kernel)
set_option maxRecDepth 20000 in
theorem gX5_wouldTell_X5_weaveOn : GoodIn wsX5_wouldTell (wsV RX5 129 RX5 yX5_weaveOn wsX5_weaveOn) := goodIn_app (goodIn_of _ (by decide +kernel)) ggX5_wouldTell_X5_weaveOn
set_option maxRecDepth 20000 in
theorem ggX5_wouldTell_X5_allKnots : GoodIn wsX5_wouldTell wsX5_allKnots := goodIn_r _ [56, 57, 58, 59, 7, 60, 61, 62, 63, 64, 32, 33, 34, 65, 66, 67, 68, 69, 70, 71, 72, 73, 74, 75, 76, 77, 78, 79, 80, 81, 82, 83, 84, 85, 86, 87, 88, 89] (by decide +kernel) (by decide +kernel)
set_option maxRecDepth 20000 in
theorem gX5_wouldTell_X5_allKnots : GoodIn wsX5_wouldTell (wsV RX5 150 RX5 yX5_allKnots wsX5_allKnots) := goodIn_app (goodIn_of _ (by decide +kernel)) ggX5_wouldTell_X5_allKnots
theorem dX5_wouldTell_0 : decode cX5_wouldTell 0 = .ok (.aload_n 0, 1) := by decide +kernel
theorem dX5_wouldTell_1 : decode cX5_wouldTell 1 = .ok (.iload_n 1, 1) := by decide +kernel
theorem dX5_wouldTell_2 : decode cX5_wouldTell 2 = .ok (.invokevirtual 129, 3) := by decide +kernel
theorem dX5_wouldTell_5 : decode cX5_wouldTell 5 = .ok (.iload_n 2, 1) := by decide +kernel
theorem dX5_wouldTell_6 : decode cX5_wouldTell 6 = .ok (.ifCond .ne 10, 3) := by decide +kernel
theorem dX5_wouldTell_9 : decode cX5_wouldTell 9 = .ok (.aload_n 0, 1) := by decide +kernel
theorem dX5_wouldTell_10 : decode cX5_wouldTell 10 = .ok (.getfield 54, 3) := by decide +kernel
theorem dX5_wouldTell_13 : decode cX5_wouldTell 13 = .ok (.goto 23, 3) := by decide +kernel
theorem dX5_wouldTell_16 : decode cX5_wouldTell 16 = .ok (.iload_n 2, 1) := by decide +kernel
theorem dX5_wouldTell_17 : decode cX5_wouldTell 17 = .ok (.iconst 1, 1) := by decide +kernel
theorem dX5_wouldTell_18 : decode cX5_wouldTell 18 = .ok (.if_icmp .ne 10, 3) := by decide +kernel
theorem dX5_wouldTell_21 : decode cX5_wouldTell 21 = .ok (.aload_n 0, 1) := by decide +kernel
theorem dX5_wouldTell_22 : decode cX5_wouldTell 22 = .ok (.getfield 79, 3) := by decide +kernel
theorem dX5_wouldTell_25 : decode cX5_wouldTell 25 = .ok (.goto 11, 3) := by decide +kernel
theorem dX5_wouldTell_28 : decode cX5_wouldTell 28 = .ok (.aload_n 0, 1) := by decide +kernel
theorem dX5_wouldTell_29 : decode cX5_wouldTell 29 = .ok (.aload_n 0, 1) := by decide +kernel
theorem dX5_wouldTell_30 : decode cX5_wouldTell 30 = .ok (.getfield 29, 3) := by decide +kernel
theorem dX5_wouldTell_33 : decode cX5_wouldTell 33 = .ok (.invokevirtual 150, 3) := by decide +kernel
theorem dX5_wouldTell_36 : decode cX5_wouldTell 36 = .ok (.ireturn, 1) := by decide +kernel
set_option maxRecDepth 20000 in
theorem ggX5_would_X5_isIn : GoodIn wsX5_would wsX5_isIn := goodIn_r _ [5] (by decide +kernel) (by decide +kernel)
set_option maxRecDepth 20000 in
theorem gX5_would_X5_isIn : GoodIn wsX5_would (va_wsS RX5 47 yX5_isIn wsX5_isIn) := goodIn_app (goodIn_of _ (by decide +kernel)) ggX5_would_X5_isIn
set_option maxRecDepth 20000 in
theorem ggX5_would_X5_no : GoodIn wsX5_would wsX5_no := goodIn_r _ [9, 1, 80, 81, 82, 83, 84, 85, 86, 87, 88, 89, 90, 91, 92, 93, 94, 95, 96, 97, 98] (by decide +kernel) (by decide +kernel)
set_option maxRecDepth 20000 in
theorem gX5_would_X5_no : GoodIn wsX5_would (wsV RX5 117 RX5 yX5_no wsX5_no) := goodIn_app (goodIn_of _ (by decide +kernel)) ggX5_would_X5_no
set_option maxRecDepth 20000 in
theorem ggX5_would_X5_wouldTell : GoodIn wsX5_would wsX5_wouldTell := goodIn_r _ [13, 14, 15, 16, 17, 18, 19, 4, 20, 21, 22, 23, 24, 25, 26, 27, 28, 29, 30, 31, 32, 33, 34, 35, 36, 37, 38, 39, 40, 41, 42, 43, 44, 45, 46, 47, 48, 49, 50, 51, 52, 53, 54, 55, 56, 57, 58, 59, 60, 61, 2, 3, 5, 62, 63, 64, 65, 66, 67, 68, 69, 70, 71, 72, 73, 74, 75, 76, 77, 78, 79, 80, 81, 82, 83, 84, 85, 86, 87, 88, 89, 90, 91, 92, 93, 94, 95, 96, 97, 98] (by decide +kernel) (by decide +kernel)
set_option maxRecDepth 20000 in
theorem gX5_would_X5_wouldTell : GoodIn wsX5_would (wsV RX5 167 RX5 yX5_wouldTell wsX5_wouldTell) := goodIn_app (goodIn_of _ (by decide +kernel)) ggX5_would_X5_wouldTell
theorem dX5_would_0 : decode cX5_would 0 = .ok (.aload_n 0, 1) := by decide +kernel
theorem dX5_would_1 : decode cX5_would 1 = .ok (.iconst 0, 1) := by decide +kernel
theorem dX5_would_2 : decode cX5_would 2 = .ok (.putfield 44, 3) := by decide +kernel
theorem dX5_would_5 : decode cX5_would 5 = .ok (.iload_n 1, 1) := by decide +kernel
theorem dX5_would_6 : decode cX5_would 6 = .ok (.iconst 2, 1) := by decide +kernel
theorem dX5_would_7 : decode cX5_would 7 = .ok (.bipush 6, 2) := by decide +kernel
theorem dX5_would_9 : decode cX5_would 9 = .ok (.invokestatic 47, 3) := by decide +kernel
theorem dX5_would_12 : decode cX5_would 12 = .ok (.ifCond .ne 9, 3) := by decide +kernel
theorem dX5_would_15 : decode cX5_would 15 = .ok (.aload_n 0, 1) := by decide +kernel
theorem dX5_would_16 : decode cX5_would 16 = .ok (.iconst 1, 1) := by decide +kernel
theorem dX5_would_17 : decode cX5_would 17 = .ok (.invokevirtual 117, 3) := by decide +kernel
theorem dX5_would_20 : decode cX5_would 20 = .ok (.ireturn, 1) := by decide +kernel
theorem dX5_would_21 : decode cX5_would 21 = .ok (.iload_n 2, 1) := by decide +kernel
theorem dX5_would_22 : decode cX5_would 22 = .ok (.iconst 0, 1) := by decide +kernel
theorem dX5_would_23 : decode cX5_would 23 = .ok (.iconst 2, 1) := by decide +kernel
theorem dX5_would_24 : decode cX5_would 24 = .ok (.invokestatic 47, 3) := by decide +kernel
theorem dX5_would_27 : decode cX5_would 27 = .ok (.ifCond .eq 12, 3) := by decide +kernel
theorem dX5_would_30 : decode cX5_would 30 = .ok (.aload_n 0, 1) := by decide +kernel
theorem dX5_would_31 : decode cX5_would 31 = .ok (.iload_n 1, 1) := by decide +kernel
theorem dX5_would_32 : decode cX5_would 32 = .ok (.iload_n 2, 1) := by decide +kernel
theorem dX5_would_33 : decode cX5_would 33 = .ok (.invokevirtual 167, 3) := by decide +kernel
theorem dX5_would_36 : decode cX5_would 36 = .ok (.goto 8, 3) := by decide +kernel
theorem dX5_would_39 : decode cX5_would 39 = .ok (.aload_n 0, 1) := by decide +kernel
theorem dX5_would_40 : decode cX5_would 40 = .ok (.iconst 2, 1) := by decide +kernel
theorem dX5_would_41 : decode cX5_would 41 = .ok (.invokevirtual 117, 3) := by decide +kernel
theorem dX5_would_44 : decode cX5_would 44 = .ok (.ireturn, 1) := by decide +kernel
set_option maxRecDepth 20000 in
theorem ggX5_advise_X5_isIn : GoodIn wsX5_advise wsX5_isIn := goodIn_r _ [7] (by decide +kernel) (by decide +kernel)
set_option maxRecDepth 20000 in
theorem gX5_advise_X5_isIn : GoodIn wsX5_advise (va_wsS RX5 47 yX5_isIn wsX5_isIn) := goodIn_app (goodIn_of _ (by decide +kernel)) ggX5_advise_X5_isIn
set_option maxRecDepth 20000 in
theorem ggX5_advise_X5_no : GoodIn wsX5_advise wsX5_no := goodIn_r _ [11, 1, 76, 77, 78, 79, 80, 81, 82, 83, 84, 85, 86, 87, 88, 89, 90, 91, 92, 93, 94] (by decide +kernel) (by decide +kernel)
set_option maxRecDepth 20000 in
theorem gX5_advise_X5_no : GoodIn wsX5_advise (wsV RX5 117 RX5 yX5_no wsX5_no) := goodIn_app (goodIn_of _ (by decide +kernel)) ggX5_advise_X5_no
set_option maxRecDepth 20000 in
theorem ggX5_advise_X5_weaveOn : GoodIn wsX5_advise wsX5_weaveOn := goodIn_r _ [15, 3, 16, 17, 18, 19, 2, 20, 21, 22, 23, 24, 25, 26, 27, 6, 28, 29, 30, 31, 32, 33, 34, 35, 36, 37, 38, 39, 40, 41, 42, 43, 44, 45, 46, 47, 48, 49, 50, 51, 52, 53, 54, 55, 56, 57, 4, 5, 7, 76, 77, 78, 79, 80, 81, 82, 83, 84, 85, 86, 87, 88, 89, 90, 91, 92, 93, 94] (by decide +kernel) (by decide +kernel)
set_option maxRecDepth 20000 in
theorem gX5_advise_X5_weaveOn : GoodIn wsX5_advise (wsV RX5 129 RX5 yX5_weaveOn wsX5_weaveOn) := goodIn_app (goodIn_of _ (by decide +kernel)) ggX5_advise_X5_weaveOn
set_option maxRecDepth 20000 in
theorem ggX5_advise_X5_allKnots : GoodIn wsX5_advise wsX5_allKnots := goodIn_r _ [61, 62, 63, 64, 6, 65, 66, 67, 68, 69, 40, 41, 42, 70, 71, 72, 73, 74, 75, 76, 77, 78, 79, 80, 81, 82, 83, 84, 85, 86, 87, 88, 89, 90, 91, 92, 93, 94] (by decide +kernel) (by decide +kernel)
set_option maxRecDepth 20000 in
theorem gX5_advise_X5_allKnots : GoodIn wsX5_advise (wsV RX5 150 RX5 yX5_allKnots wsX5_allKnots) := goodIn_app (goodIn_of _ (by decide +kernel)) ggX5_advise_X5_allKnots
theorem dX5_advise_0 : decode cX5_advise 0 = .ok (.aload_n 0, 1) := by decide +kernel
theorem dX5_advise_1 : decode cX5_advise 1 = .ok (.iconst 0, 1) := by decide +kernel
theorem dX5_advise_2 : decode cX5_advise 2 = .ok (.putfield 44, 3) := by decide +kernel
theorem dX5_advise_5 : decode cX5_advise 5 = .ok (.iload_n 1, 1) := by decide +kernel
theorem dX5_advise_6 : decode cX5_advise 6 = .ok (.iconst 0, 1) := by decide +kernel
theorem dX5_advise_7 : decode cX5_advise 7 = .ok (.bipush 96, 2) := by decide +kernel
theorem dX5_advise_9 : decode cX5_advise 9 = .ok (.invokestatic 47, 3) := by decide +kernel
theorem dX5_advise_12 : decode cX5_advise 12 = .ok (.ifCond .ne 9, 3) := by decide +kernel
theorem dX5_advise_15 : decode cX5_advise 15 = .ok (.aload_n 0, 1) := by decide +kernel
theorem dX5_advise_16 : decode cX5_advise 16 = .ok (.iconst 1, 1) := by decide +kernel
theorem dX5_advise_17 : decode cX5_advise 17 = .ok (.invokevirtual 117, 3) := by decide +kernel
theorem dX5_advise_20 : decode cX5_advise 20 = .ok (.ireturn, 1) := by decide +kernel
theorem dX5_advise_21 : decode cX5_advise 21 = .ok (.iconst (-1), 1) := by decide +kernel
theorem dX5_advise_22 : decode cX5_advise 22 = .ok (.istore_n 2, 1) := by decide +kernel
theorem dX5_advise_23 : decode cX5_advise 23 = .ok (.iconst 0, 1) := by decide +kernel
theorem dX5_advise_24 : decode cX5_advise 24 = .ok (.istore_n 3, 1) := by decide +kernel
theorem dX5_advise_25 : decode cX5_advise 25 = .ok (.iconst 2, 1) := by decide +kernel
theorem dX5_advise_26 : decode cX5_advise 26 = .ok (.istore 4, 2) := by decide +kernel
theorem dX5_advise_28 : decode cX5_advise 28 = .ok (.iload 4, 2) := by decide +kernel
theorem dX5_advise_30 : decode cX5_advise 30 = .ok (.bipush 6, 2) := by decide +kernel
theorem dX5_advise_32 : decode cX5_advise 32 = .ok (.if_icmp .gt 51, 3) := by decide +kernel
theorem dX5_advise_35 : decode cX5_advise 35 = .ok (.aload_n 0, 1) := by decide +kernel
theorem dX5_advise_36 : decode cX5_advise 36 = .ok (.iload 4, 2) := by decide +kernel
theorem dX5_advise_38 : decode cX5_advise 38 = .ok (.invokevirtual 129, 3) := by decide +kernel
theorem dX5_advise_41 : decode cX5_advise 41 = .ok (.aload_n 0, 1) := by decide +kernel
theorem dX5_advise_42 : decode cX5_advise 42 = .ok (.aload_n 0, 1) := by decide +kernel
theorem dX5_advise_43 : decode cX5_advise 43 = .ok (.getfield 29, 3) := by decide +kernel
theorem dX5_advise_46 : decode cX5_advise 46 = .ok (.invokevirtual 150, 3) := by decide +kernel
theorem dX5_advise_49 : decode cX5_advise 49 = .ok (.iload_n 1, 1) := by decide +kernel
theorem dX5_advise_50 : decode cX5_advise 50 = .ok (.if_icmp .gt 27, 3) := by decide +kernel
theorem dX5_advise_53 : decode cX5_advise 53 = .ok (.iload_n 2, 1) := by decide +kernel
theorem dX5_advise_54 : decode cX5_advise 54 = .ok (.iconst (-1), 1) := by decide +kernel
theorem dX5_advise_55 : decode cX5_advise 55 = .ok (.if_icmp .eq 14, 3) := by decide +kernel
theorem dX5_advise_58 : decode cX5_advise 58 = .ok (.aload_n 0, 1) := by decide +kernel
theorem dX5_advise_59 : decode cX5_advise 59 = .ok (.getfield 79, 3) := by decide +kernel
theorem dX5_advise_62 : decode cX5_advise 62 = .ok (.iload_n 3, 1) := by decide +kernel
theorem dX5_advise_63 : decode cX5_advise 63 = .ok (.if_icmp .lt 6, 3) := by decide +kernel
theorem dX5_advise_66 : decode cX5_advise 66 = .ok (.goto 11, 3) := by decide +kernel
theorem dX5_advise_69 : decode cX5_advise 69 = .ok (.iload 4, 2) := by decide +kernel
theorem dX5_advise_71 : decode cX5_advise 71 = .ok (.istore_n 2, 1) := by decide +kernel
theorem dX5_advise_72 : decode cX5_advise 72 = .ok (.aload_n 0, 1) := by decide +kernel
theorem dX5_advise_73 : decode cX5_advise 73 = .ok (.getfield 79, 3) := by decide +kernel
theorem dX5_advise_76 : decode cX5_advise 76 = .ok (.istore_n 3, 1) := by decide +kernel
theorem dX5_advise_77 : decode cX5_advise 77 = .ok (.iinc 4 1, 3) := by decide +kernel
theorem dX5_advise_80 : decode cX5_advise 80 = .ok (.goto (-52), 3) := by decide +kernel
theorem dX5_advise_83 : decode cX5_advise 83 = .ok (.iload_n 2, 1) := by decide +kernel
theorem dX5_advise_84 : decode cX5_advise 84 = .ok (.ireturn, 1) := by decide +kernel
theorem dX5_mean_0 : decode cX5_mean 0 = .ok (.aload_n 0, 1) := by decide +kernel
theorem dX5_mean_1 : decode cX5_mean 1 = .ok (.iconst 0, 1) := by decide +kernel
theorem dX5_mean_2 : decode cX5_mean 2 = .ok (.putfield 44, 3) := by decide +kernel
theorem dX5_mean_5 : decode cX5_mean 5 = .ok (.iconst 0, 1) := by decide +kernel
theorem dX5_mean_6 : decode cX5_mean 6 = .ok (.istore_n 1, 1) := by decide +kernel
theorem dX5_mean_7 : decode cX5_mean 7 = .ok (.aload_n 0, 1) := by decide +kernel
theorem dX5_mean_8 : decode cX5_mean 8 = .ok (.getfield 9, 3) := by decide +kernel
theorem dX5_mean_11 : decode cX5_mean 11 = .ok (.astore_n 2, 1) := by decide +kernel
theorem dX5_mean_12 : decode cX5_mean 12 = .ok (.aload_n 2, 1) := by decide +kernel
theorem dX5_mean_13 : decode cX5_mean 13 = .ok (.arraylength, 1) := by decide +kernel
theorem dX5_mean_14 : decode cX5_mean 14 = .ok (.istore_n 3, 1) := by decide +kernel
theorem dX5_mean_15 : decode cX5_mean 15 = .ok (.iconst 0, 1) := by decide +kernel
theorem dX5_mean_16 : decode cX5_mean 16 = .ok (.istore 4, 2) := by decide +kernel
theorem dX5_mean_18 : decode cX5_mean 18 = .ok (.iload 4, 2) := by decide +kernel
theorem dX5_mean_20 : decode cX5_mean 20 = .ok (.iload_n 3, 1) := by decide +kernel
theorem dX5_mean_21 : decode cX5_mean 21 = .ok (.if_icmp .ge 20, 3) := by decide +kernel
