theorem dX2_digestFrom_12 : decode cX2_digestFrom 12 = .ok (.lreturn, 1) := by decide +kernel
set_option maxRecDepth 20000 in
theorem ggX2_distance_X2_shadeOf : GoodIn wsX2_distance wsX2_shadeOf := goodIn_r _ [9, 10, 11, 12, 13, 14, 15, 16, 17, 18, 19] (by decide +kernel) (by decide +kernel)
set_option maxRecDepth 20000 in
theorem gX2_distance_X2_shadeOf : GoodIn wsX2_distance (wsV RX2 66 RX2 yX2_shadeOf wsX2_shadeOf) := goodIn_app (goodIn_of _ (by decide +kernel)) ggX2_distance_X2_shadeOf
theorem dX2_distance_0 : decode cX2_distance 0 = .ok (.iload_n 2, 1) := by decide +kernel
theorem dX2_distance_1 : decode cX2_distance 1 = .ok (.aload_n 0, 1) := by decide +kernel
theorem dX2_distance_2 : decode cX2_distance 2 = .ok (.iload_n 1, 1) := by decide +kernel
theorem dX2_distance_3 : decode cX2_distance 3 = .ok (.invokevirtual 66, 3) := by decide +kernel
theorem dX2_distance_6 : decode cX2_distance 6 = .ok (.isub, 1) := by decide +kernel
theorem dX2_distance_7 : decode cX2_distance 7 = .ok (.invokestatic 69, 3) := by decide +kernel
theorem dX2_distance_10 : decode cX2_distance 10 = .ok (.ireturn, 1) := by decide +kernel
set_option maxRecDepth 20000 in
theorem ggX2_tallyShades_X4_fillNumbers : GoodIn wsX2_tallyShades wsX4_fillNumbers := goodIn_r _ [4] (by decide +kernel) (by decide +kernel)
set_option maxRecDepth 20000 in
theorem gX2_tallyShades_X4_fillNumbers_n74 : GoodIn wsX2_tallyShades (wsX4_fillNumbers) := ggX2_tallyShades_X4_fillNumbers
set_option maxRecDepth 20000 in
theorem ggX2_tallyShades_X1_at : GoodIn wsX2_tallyShades wsX1_at := goodIn_r _ [9, 10, 11, 3, 12, 13, 14, 22] (by decide +kernel) (by decide +kernel)
set_option maxRecDepth 20000 in
theorem gX2_tallyShades_X1_at : GoodIn wsX2_tallyShades (wsV RX2 78 RX1 yX1_at wsX1_at) := goodIn_app (goodIn_of _ (by decide +kernel)) ggX2_tallyShades_X1_at
set_option maxRecDepth 20000 in
theorem ggX2_tallyShades_X4_numberAt : GoodIn wsX2_tallyShades wsX4_numberAt := goodIn_r _ [14] (by decide +kernel) (by decide +kernel)
set_option maxRecDepth 20000 in
theorem gX2_tallyShades_X4_numberAt_n54 : GoodIn wsX2_tallyShades (wsX4_numberAt) := ggX2_tallyShades_X4_numberAt
set_option maxRecDepth 20000 in
theorem ggX2_tallyShades_X4_putNumber : GoodIn wsX2_tallyShades wsX4_putNumber := goodIn_r _ [16] (by decide +kernel) (by decide +kernel)
set_option maxRecDepth 20000 in
theorem gX2_tallyShades_X4_putNumber_n35 : GoodIn wsX2_tallyShades (wsX4_putNumber) := ggX2_tallyShades_X4_putNumber
theorem dX2_tallyShades_0 : decode cX2_tallyShades 0 = .ok (.aload_n 0, 1) := by decide +kernel
theorem dX2_tallyShades_1 : decode cX2_tallyShades 1 = .ok (.getfield 9, 3) := by decide +kernel
theorem dX2_tallyShades_4 : decode cX2_tallyShades 4 = .ok (.iconst 0, 1) := by decide +kernel
theorem dX2_tallyShades_5 : decode cX2_tallyShades 5 = .ok (.invokestatic 74, 3) := by decide +kernel
theorem dX2_tallyShades_8 : decode cX2_tallyShades 8 = .ok (.iconst 0, 1) := by decide +kernel
theorem dX2_tallyShades_9 : decode cX2_tallyShades 9 = .ok (.istore_n 2, 1) := by decide +kernel
theorem dX2_tallyShades_10 : decode cX2_tallyShades 10 = .ok (.iload_n 2, 1) := by decide +kernel
theorem dX2_tallyShades_11 : decode cX2_tallyShades 11 = .ok (.bipush 8, 2) := by decide +kernel
theorem dX2_tallyShades_13 : decode cX2_tallyShades 13 = .ok (.if_icmp .ge 51, 3) := by decide +kernel
theorem dX2_tallyShades_16 : decode cX2_tallyShades 16 = .ok (.iconst 0, 1) := by decide +kernel
theorem dX2_tallyShades_17 : decode cX2_tallyShades 17 = .ok (.istore_n 3, 1) := by decide +kernel
theorem dX2_tallyShades_18 : decode cX2_tallyShades 18 = .ok (.iload_n 3, 1) := by decide +kernel
theorem dX2_tallyShades_19 : decode cX2_tallyShades 19 = .ok (.bipush 12, 2) := by decide +kernel
theorem dX2_tallyShades_21 : decode cX2_tallyShades 21 = .ok (.if_icmp .ge 37, 3) := by decide +kernel
theorem dX2_tallyShades_24 : decode cX2_tallyShades 24 = .ok (.aload_n 1, 1) := by decide +kernel
theorem dX2_tallyShades_25 : decode cX2_tallyShades 25 = .ok (.iload_n 3, 1) := by decide +kernel
theorem dX2_tallyShades_26 : decode cX2_tallyShades 26 = .ok (.iload_n 2, 1) := by decide +kernel
theorem dX2_tallyShades_27 : decode cX2_tallyShades 27 = .ok (.invokevirtual 78, 3) := by decide +kernel
theorem dX2_tallyShades_30 : decode cX2_tallyShades 30 = .ok (.istore 4, 2) := by decide +kernel
theorem dX2_tallyShades_32 : decode cX2_tallyShades 32 = .ok (.aload_n 0, 1) := by decide +kernel
theorem dX2_tallyShades_33 : decode cX2_tallyShades 33 = .ok (.getfield 9, 3) := by decide +kernel
theorem dX2_tallyShades_36 : decode cX2_tallyShades 36 = .ok (.iload 4, 2) := by decide +kernel
theorem dX2_tallyShades_38 : decode cX2_tallyShades 38 = .ok (.aload_n 0, 1) := by decide +kernel
theorem dX2_tallyShades_39 : decode cX2_tallyShades 39 = .ok (.getfield 9, 3) := by decide +kernel
theorem dX2_tallyShades_42 : decode cX2_tallyShades 42 = .ok (.iload 4, 2) := by decide +kernel
theorem dX2_tallyShades_44 : decode cX2_tallyShades 44 = .ok (.invokestatic 54, 3) := by decide +kernel
theorem dX2_tallyShades_47 : decode cX2_tallyShades 47 = .ok (.iconst 1, 1) := by decide +kernel
theorem dX2_tallyShades_48 : decode cX2_tallyShades 48 = .ok (.iadd, 1) := by decide +kernel
theorem dX2_tallyShades_49 : decode cX2_tallyShades 49 = .ok (.invokestatic 35, 3) := by decide +kernel
theorem dX2_tallyShades_52 : decode cX2_tallyShades 52 = .ok (.iinc 3 1, 3) := by decide +kernel
theorem dX2_tallyShades_55 : decode cX2_tallyShades 55 = .ok (.goto (-37), 3) := by decide +kernel
theorem dX2_tallyShades_58 : decode cX2_tallyShades 58 = .ok (.iinc 2 1, 3) := by decide +kernel
theorem dX2_tallyShades_61 : decode cX2_tallyShades 61 = .ok (.goto (-51), 3) := by decide +kernel
theorem dX2_tallyShades_64 : decode cX2_tallyShades 64 = .ok (.return_, 1) := by decide +kernel
set_option maxRecDepth 20000 in
theorem ggX2_sortShades_X4_numberAt : GoodIn wsX2_sortShades wsX4_numberAt := goodIn_r _ [5] (by decide +kernel) (by decide +kernel)
set_option maxRecDepth 20000 in
theorem gX2_sortShades_X4_numberAt_n54 : GoodIn wsX2_sortShades (wsX4_numberAt) := ggX2_sortShades_X4_numberAt
set_option maxRecDepth 20000 in
theorem ggX2_sortShades_X4_putNumber : GoodIn wsX2_sortShades wsX4_putNumber := goodIn_r _ [7] (by decide +kernel) (by decide +kernel)
set_option maxRecDepth 20000 in
theorem gX2_sortShades_X4_putNumber_n35 : GoodIn wsX2_sortShades (wsX4_putNumber) := ggX2_sortShades_X4_putNumber
theorem dX2_sortShades_0 : decode cX2_sortShades 0 = .ok (.iconst 0, 1) := by decide +kernel
theorem dX2_sortShades_1 : decode cX2_sortShades 1 = .ok (.istore_n 1, 1) := by decide +kernel
theorem dX2_sortShades_2 : decode cX2_sortShades 2 = .ok (.iconst 0, 1) := by decide +kernel
theorem dX2_sortShades_3 : decode cX2_sortShades 3 = .ok (.istore_n 2, 1) := by decide +kernel
theorem dX2_sortShades_4 : decode cX2_sortShades 4 = .ok (.iload_n 2, 1) := by decide +kernel
theorem dX2_sortShades_5 : decode cX2_sortShades 5 = .ok (.sipush 256, 3) := by decide +kernel
theorem dX2_sortShades_8 : decode cX2_sortShades 8 = .ok (.if_icmp .ge 45, 3) := by decide +kernel
theorem dX2_sortShades_11 : decode cX2_sortShades 11 = .ok (.aload_n 0, 1) := by decide +kernel
theorem dX2_sortShades_12 : decode cX2_sortShades 12 = .ok (.getfield 9, 3) := by decide +kernel
theorem dX2_sortShades_15 : decode cX2_sortShades 15 = .ok (.iload_n 2, 1) := by decide +kernel
theorem dX2_sortShades_16 : decode cX2_sortShades 16 = .ok (.invokestatic 54, 3) := by decide +kernel
theorem dX2_sortShades_19 : decode cX2_sortShades 19 = .ok (.istore_n 3, 1) := by decide +kernel
theorem dX2_sortShades_20 : decode cX2_sortShades 20 = .ok (.iconst 0, 1) := by decide +kernel
theorem dX2_sortShades_21 : decode cX2_sortShades 21 = .ok (.istore 4, 2) := by decide +kernel
theorem dX2_sortShades_23 : decode cX2_sortShades 23 = .ok (.iload 4, 2) := by decide +kernel
theorem dX2_sortShades_25 : decode cX2_sortShades 25 = .ok (.iload_n 3, 1) := by decide +kernel
theorem dX2_sortShades_26 : decode cX2_sortShades 26 = .ok (.if_icmp .ge 21, 3) := by decide +kernel
theorem dX2_sortShades_29 : decode cX2_sortShades 29 = .ok (.aload_n 0, 1) := by decide +kernel
theorem dX2_sortShades_30 : decode cX2_sortShades 30 = .ok (.getfield 15, 3) := by decide +kernel
theorem dX2_sortShades_33 : decode cX2_sortShades 33 = .ok (.iload_n 1, 1) := by decide +kernel
theorem dX2_sortShades_34 : decode cX2_sortShades 34 = .ok (.iload_n 2, 1) := by decide +kernel
theorem dX2_sortShades_35 : decode cX2_sortShades 35 = .ok (.invokestatic 35, 3) := by decide +kernel
theorem dX2_sortShades_38 : decode cX2_sortShades 38 = .ok (.iinc 1 1, 3) := by decide +kernel
theorem dX2_sortShades_41 : decode cX2_sortShades 41 = .ok (.iinc 4 1, 3) := by decide +kernel
theorem dX2_sortShades_44 : decode cX2_sortShades 44 = .ok (.goto (-21), 3) := by decide +kernel
theorem dX2_sortShades_47 : decode cX2_sortShades 47 = .ok (.iinc 2 1, 3) := by decide +kernel
theorem dX2_sortShades_50 : decode cX2_sortShades 50 = .ok (.goto (-46), 3) := by decide +kernel
theorem dX2_sortShades_53 : decode cX2_sortShades 53 = .ok (.return_, 1) := by decide +kernel
set_option maxRecDepth 20000 in
theorem ggX2_widestBox_X2_spreadOf : GoodIn wsX2_widestBox wsX2_spreadOf := goodIn_r _ [6, 7, 8, 9, 10, 5, 11, 1, 12, 13, 14, 15, 16, 17, 18, 19, 20, 21, 22, 23, 24] (by decide +kernel) (by decide +kernel)
set_option maxRecDepth 20000 in
theorem gX2_widestBox_X2_spreadOf : GoodIn wsX2_widestBox (wsV RX2 43 RX2 yX2_spreadOf wsX2_spreadOf) := goodIn_app (goodIn_of _ (by decide +kernel)) ggX2_widestBox_X2_spreadOf
theorem dX2_widestBox_0 : decode cX2_widestBox 0 = .ok (.iconst 0, 1) := by decide +kernel
theorem dX2_widestBox_1 : decode cX2_widestBox 1 = .ok (.istore_n 1, 1) := by decide +kernel
theorem dX2_widestBox_2 : decode cX2_widestBox 2 = .ok (.iconst 1, 1) := by decide +kernel
theorem dX2_widestBox_3 : decode cX2_widestBox 3 = .ok (.istore_n 2, 1) := by decide +kernel
theorem dX2_widestBox_4 : decode cX2_widestBox 4 = .ok (.iload_n 2, 1) := by decide +kernel
theorem dX2_widestBox_5 : decode cX2_widestBox 5 = .ok (.aload_n 0, 1) := by decide +kernel
theorem dX2_widestBox_6 : decode cX2_widestBox 6 = .ok (.getfield 24, 3) := by decide +kernel
theorem dX2_widestBox_9 : decode cX2_widestBox 9 = .ok (.if_icmp .ge 24, 3) := by decide +kernel
theorem dX2_widestBox_12 : decode cX2_widestBox 12 = .ok (.aload_n 0, 1) := by decide +kernel
theorem dX2_widestBox_13 : decode cX2_widestBox 13 = .ok (.iload_n 2, 1) := by decide +kernel
theorem dX2_widestBox_14 : decode cX2_widestBox 14 = .ok (.invokevirtual 43, 3) := by decide +kernel
theorem dX2_widestBox_17 : decode cX2_widestBox 17 = .ok (.aload_n 0, 1) := by decide +kernel
theorem dX2_widestBox_18 : decode cX2_widestBox 18 = .ok (.iload_n 1, 1) := by decide +kernel
theorem dX2_widestBox_19 : decode cX2_widestBox 19 = .ok (.invokevirtual 43, 3) := by decide +kernel
theorem dX2_widestBox_22 : decode cX2_widestBox 22 = .ok (.if_icmp .le 5, 3) := by decide +kernel
theorem dX2_widestBox_25 : decode cX2_widestBox 25 = .ok (.iload_n 2, 1) := by decide +kernel
theorem dX2_widestBox_26 : decode cX2_widestBox 26 = .ok (.istore_n 1, 1) := by decide +kernel
theorem dX2_widestBox_27 : decode cX2_widestBox 27 = .ok (.iinc 2 1, 3) := by decide +kernel
theorem dX2_widestBox_30 : decode cX2_widestBox 30 = .ok (.goto (-26), 3) := by decide +kernel
theorem dX2_widestBox_33 : decode cX2_widestBox 33 = .ok (.iload_n 1, 1) := by decide +kernel
theorem dX2_widestBox_34 : decode cX2_widestBox 34 = .ok (.ireturn, 1) := by decide +kernel
set_option maxRecDepth 20000 in
theorem ggX2_spreadOf_X2_endOf : GoodIn wsX2_spreadOf wsX2_endOf := goodIn_r _ [6, 7, 8, 9, 10, 11, 16, 17, 18, 19, 20] (by decide +kernel) (by decide +kernel)
set_option maxRecDepth 20000 in
theorem gX2_spreadOf_X2_endOf : GoodIn wsX2_spreadOf (wsV RX2 83 RX2 yX2_endOf wsX2_endOf) := goodIn_app (goodIn_of _ (by decide +kernel)) ggX2_spreadOf_X2_endOf
set_option maxRecDepth 20000 in
theorem ggX2_spreadOf_X4_numberAt : GoodIn wsX2_spreadOf wsX4_numberAt := goodIn_r _ [11] (by decide +kernel) (by decide +kernel)
set_option maxRecDepth 20000 in
theorem gX2_spreadOf_X4_numberAt_n54 : GoodIn wsX2_spreadOf (wsX4_numberAt) := ggX2_spreadOf_X4_numberAt
set_option maxRecDepth 20000 in
theorem ggX2_spreadOf_X2_startOf : GoodIn wsX2_spreadOf wsX2_startOf := goodIn_r _ [15, 8, 9, 10, 11, 16, 17, 18, 19, 20] (by decide +kernel) (by decide +kernel)
set_option maxRecDepth 20000 in
theorem gX2_spreadOf_X2_startOf : GoodIn wsX2_spreadOf (wsV RX2 86 RX2 yX2_startOf wsX2_startOf) := goodIn_app (goodIn_of _ (by decide +kernel)) ggX2_spreadOf_X2_startOf
theorem dX2_spreadOf_0 : decode cX2_spreadOf 0 = .ok (.aload_n 0, 1) := by decide +kernel
theorem dX2_spreadOf_1 : decode cX2_spreadOf 1 = .ok (.getfield 15, 3) := by decide +kernel
theorem dX2_spreadOf_4 : decode cX2_spreadOf 4 = .ok (.aload_n 0, 1) := by decide +kernel
theorem dX2_spreadOf_5 : decode cX2_spreadOf 5 = .ok (.iload_n 1, 1) := by decide +kernel
theorem dX2_spreadOf_6 : decode cX2_spreadOf 6 = .ok (.invokevirtual 83, 3) := by decide +kernel
theorem dX2_spreadOf_9 : decode cX2_spreadOf 9 = .ok (.iconst 1, 1) := by decide +kernel
theorem dX2_spreadOf_10 : decode cX2_spreadOf 10 = .ok (.isub, 1) := by decide +kernel
theorem dX2_spreadOf_11 : decode cX2_spreadOf 11 = .ok (.invokestatic 54, 3) := by decide +kernel
theorem dX2_spreadOf_14 : decode cX2_spreadOf 14 = .ok (.aload_n 0, 1) := by decide +kernel
theorem dX2_spreadOf_15 : decode cX2_spreadOf 15 = .ok (.getfield 15, 3) := by decide +kernel
theorem dX2_spreadOf_18 : decode cX2_spreadOf 18 = .ok (.aload_n 0, 1) := by decide +kernel
theorem dX2_spreadOf_19 : decode cX2_spreadOf 19 = .ok (.iload_n 1, 1) := by decide +kernel
theorem dX2_spreadOf_20 : decode cX2_spreadOf 20 = .ok (.invokevirtual 86, 3) := by decide +kernel
theorem dX2_spreadOf_23 : decode cX2_spreadOf 23 = .ok (.invokestatic 54, 3) := by decide +kernel
theorem dX2_spreadOf_26 : decode cX2_spreadOf 26 = .ok (.isub, 1) := by decide +kernel
theorem dX2_spreadOf_27 : decode cX2_spreadOf 27 = .ok (.ireturn, 1) := by decide +kernel
set_option maxRecDepth 20000 in
theorem ggX2_startOf_X4_numberAt : GoodIn wsX2_startOf wsX4_numberAt := goodIn_r _ [4] (by decide +kernel) (by decide +kernel)
set_option maxRecDepth 20000 in
theorem gX2_startOf_X4_numberAt_n54 : GoodIn wsX2_startOf (wsX4_numberAt) := ggX2_startOf_X4_numberAt
theorem dX2_startOf_0 : decode cX2_startOf 0 = .ok (.aload_n 0, 1) := by decide +kernel
theorem dX2_startOf_1 : decode cX2_startOf 1 = .ok (.getfield 18, 3) := by decide +kernel
theorem dX2_startOf_4 : decode cX2_startOf 4 = .ok (.iload_n 1, 1) := by decide +kernel
theorem dX2_startOf_5 : decode cX2_startOf 5 = .ok (.invokestatic 54, 3) := by decide +kernel
theorem dX2_startOf_8 : decode cX2_startOf 8 = .ok (.ireturn, 1) := by decide +kernel
set_option maxRecDepth 20000 in
theorem ggX2_endOf_X4_numberAt : GoodIn wsX2_endOf wsX4_numberAt := goodIn_r _ [5] (by decide +kernel) (by decide +kernel)
set_option maxRecDepth 20000 in
theorem gX2_endOf_X4_numberAt_n54 : GoodIn wsX2_endOf (wsX4_numberAt) := ggX2_endOf_X4_numberAt
theorem dX2_endOf_0 : decode cX2_endOf 0 = .ok (.iload_n 1, 1) := by decide +kernel
theorem dX2_endOf_1 : decode cX2_endOf 1 = .ok (.iconst 1, 1) := by decide +kernel
theorem dX2_endOf_2 : decode cX2_endOf 2 = .ok (.iadd, 1) := by decide +kernel
theorem dX2_endOf_3 : decode cX2_endOf 3 = .ok (.aload_n 0, 1) := by decide +kernel
theorem dX2_endOf_4 : decode cX2_endOf 4 = .ok (.getfield 24, 3) := by decide +kernel
theorem dX2_endOf_7 : decode cX2_endOf 7 = .ok (.if_icmp .ge 16, 3) := by decide +kernel
theorem dX2_endOf_10 : decode cX2_endOf 10 = .ok (.aload_n 0, 1) := by decide +kernel
theorem dX2_endOf_11 : decode cX2_endOf 11 = .ok (.getfield 18, 3) := by decide +kernel
theorem dX2_endOf_14 : decode cX2_endOf 14 = .ok (.iload_n 1, 1) := by decide +kernel
theorem dX2_endOf_15 : decode cX2_endOf 15 = .ok (.iconst 1, 1) := by decide +kernel
theorem dX2_endOf_16 : decode cX2_endOf 16 = .ok (.iadd, 1) := by decide +kernel
theorem dX2_endOf_17 : decode cX2_endOf 17 = .ok (.invokestatic 54, 3) := by decide +kernel
theorem dX2_endOf_20 : decode cX2_endOf 20 = .ok (.goto 5, 3) := by decide +kernel
theorem dX2_endOf_23 : decode cX2_endOf 23 = .ok (.bipush 96, 2) := by decide +kernel
theorem dX2_endOf_25 : decode cX2_endOf 25 = .ok (.ireturn, 1) := by decide +kernel
set_option maxRecDepth 20000 in
theorem ggX2_split_X2_startOf : GoodIn wsX2_split wsX2_startOf := goodIn_r _ [7, 2, 8, 9, 10, 17, 18, 19, 20, 21] (by decide +kernel) (by decide +kernel)
set_option maxRecDepth 20000 in
theorem gX2_split_X2_startOf : GoodIn wsX2_split (wsV RX2 86 RX2 yX2_startOf wsX2_startOf) := goodIn_app (goodIn_of _ (by decide +kernel)) ggX2_split_X2_startOf
set_option maxRecDepth 20000 in
theorem ggX2_split_X2_endOf : GoodIn wsX2_split wsX2_endOf := goodIn_r _ [14, 1, 2, 8, 9, 10, 17, 18, 19, 20, 21] (by decide +kernel) (by decide +kernel)
set_option maxRecDepth 20000 in
theorem gX2_split_X2_endOf : GoodIn wsX2_split (wsV RX2 83 RX2 yX2_endOf wsX2_endOf) := goodIn_app (goodIn_of _ (by decide +kernel)) ggX2_split_X2_endOf
set_option maxRecDepth 20000 in
theorem ggX2_split_X4_numberAt : GoodIn wsX2_split wsX4_numberAt := goodIn_r _ [10] (by decide +kernel) (by decide +kernel)
set_option maxRecDepth 20000 in
theorem gX2_split_X4_numberAt_n54 : GoodIn wsX2_split (wsX4_numberAt) := ggX2_split_X4_numberAt
set_option maxRecDepth 20000 in
theorem ggX2_split_X4_putNumber : GoodIn wsX2_split wsX4_putNumber := goodIn_r _ [16] (by decide +kernel) (by decide +kernel)
set_option maxRecDepth 20000 in
theorem gX2_split_X4_putNumber_n35 : GoodIn wsX2_split (wsX4_putNumber) := ggX2_split_X4_putNumber
theorem dX2_split_0 : decode cX2_split 0 = .ok (.aload_n 0, 1) := by decide +kernel
theorem dX2_split_1 : decode cX2_split 1 = .ok (.iload_n 1, 1) := by decide +kernel
theorem dX2_split_2 : decode cX2_split 2 = .ok (.invokevirtual 86, 3) := by decide +kernel
theorem dX2_split_5 : decode cX2_split 5 = .ok (.aload_n 0, 1) := by decide +kernel
theorem dX2_split_6 : decode cX2_split 6 = .ok (.iload_n 1, 1) := by decide +kernel
theorem dX2_split_7 : decode cX2_split 7 = .ok (.invokevirtual 83, 3) := by decide +kernel
theorem dX2_split_10 : decode cX2_split 10 = .ok (.aload_n 0, 1) := by decide +kernel
theorem dX2_split_11 : decode cX2_split 11 = .ok (.iload_n 1, 1) := by decide +kernel
theorem dX2_split_12 : decode cX2_split 12 = .ok (.invokevirtual 86, 3) := by decide +kernel
theorem dX2_split_15 : decode cX2_split 15 = .ok (.isub, 1) := by decide +kernel
theorem dX2_split_16 : decode cX2_split 16 = .ok (.iconst 2, 1) := by decide +kernel
theorem dX2_split_17 : decode cX2_split 17 = .ok (.idiv, 1) := by decide +kernel
theorem dX2_split_18 : decode cX2_split 18 = .ok (.iadd, 1) := by decide +kernel
theorem dX2_split_19 : decode cX2_split 19 = .ok (.istore_n 2, 1) := by decide +kernel
theorem dX2_split_20 : decode cX2_split 20 = .ok (.aload_n 0, 1) := by decide +kernel
theorem dX2_split_21 : decode cX2_split 21 = .ok (.getfield 24, 3) := by decide +kernel
theorem dX2_split_24 : decode cX2_split 24 = .ok (.istore_n 3, 1) := by decide +kernel
theorem dX2_split_25 : decode cX2_split 25 = .ok (.iload_n 3, 1) := by decide +kernel
theorem dX2_split_26 : decode cX2_split 26 = .ok (.iload_n 1, 1) := by decide +kernel
theorem dX2_split_27 : decode cX2_split 27 = .ok (.iconst 1, 1) := by decide +kernel
theorem dX2_split_28 : decode cX2_split 28 = .ok (.iadd, 1) := by decide +kernel
theorem dX2_split_29 : decode cX2_split 29 = .ok (.if_icmp .le 27, 3) := by decide +kernel
theorem dX2_split_32 : decode cX2_split 32 = .ok (.aload_n 0, 1) := by decide +kernel
theorem dX2_split_33 : decode cX2_split 33 = .ok (.getfield 18, 3) := by decide +kernel
theorem dX2_split_36 : decode cX2_split 36 = .ok (.iload_n 3, 1) := by decide +kernel
theorem dX2_split_37 : decode cX2_split 37 = .ok (.aload_n 0, 1) := by decide +kernel
theorem dX2_split_38 : decode cX2_split 38 = .ok (.getfield 18, 3) := by decide +kernel
theorem dX2_split_41 : decode cX2_split 41 = .ok (.iload_n 3, 1) := by decide +kernel
theorem dX2_split_42 : decode cX2_split 42 = .ok (.iconst 1, 1) := by decide +kernel
theorem dX2_split_43 : decode cX2_split 43 = .ok (.isub, 1) := by decide +kernel
theorem dX2_split_44 : decode cX2_split 44 = .ok (.invokestatic 54, 3) := by decide +kernel
theorem dX2_split_47 : decode cX2_split 47 = .ok (.invokestatic 35, 3) := by decide +kernel
theorem dX2_split_50 : decode cX2_split 50 = .ok (.iinc 3 (-1), 3) := by decide +kernel
theorem dX2_split_53 : decode cX2_split 53 = .ok (.goto (-28), 3) := by decide +kernel
theorem dX2_split_56 : decode cX2_split 56 = .ok (.aload_n 0, 1) := by decide +kernel
theorem dX2_split_57 : decode cX2_split 57 = .ok (.getfield 18, 3) := by decide +kernel
theorem dX2_split_60 : decode cX2_split 60 = .ok (.iload_n 1, 1) := by decide +kernel
theorem dX2_split_61 : decode cX2_split 61 = .ok (.iconst 1, 1) := by decide +kernel
theorem dX2_split_62 : decode cX2_split 62 = .ok (.iadd, 1) := by decide +kernel
theorem dX2_split_63 : decode cX2_split 63 = .ok (.iload_n 2, 1) := by decide +kernel
theorem dX2_split_64 : decode cX2_split 64 = .ok (.invokestatic 35, 3) := by decide +kernel
theorem dX2_split_67 : decode cX2_split 67 = .ok (.aload_n 0, 1) := by decide +kernel
theorem dX2_split_68 : decode cX2_split 68 = .ok (.dup, 1) := by decide +kernel
theorem dX2_split_69 : decode cX2_split 69 = .ok (.getfield 24, 3) := by decide +kernel
theorem dX2_split_72 : decode cX2_split 72 = .ok (.iconst 1, 1) := by decide +kernel
theorem dX2_split_73 : decode cX2_split 73 = .ok (.iadd, 1) := by decide +kernel
theorem dX2_split_74 : decode cX2_split 74 = .ok (.putfield 24, 3) := by decide +kernel
theorem dX2_split_77 : decode cX2_split 77 = .ok (.return_, 1) := by decide +kernel
set_option maxRecDepth 20000 in
theorem ggX2_meanOf_X2_startOf : GoodIn wsX2_meanOf wsX2_startOf := goodIn_r _ [6, 7, 8, 9, 10, 16, 17, 18, 19, 20] (by decide +kernel) (by decide +kernel)
set_option maxRecDepth 20000 in
theorem gX2_meanOf_X2_startOf : GoodIn wsX2_meanOf (wsV RX2 86 RX2 yX2_startOf wsX2_startOf) := goodIn_app (goodIn_of _ (by decide +kernel)) ggX2_meanOf_X2_startOf
set_option maxRecDepth 20000 in
theorem ggX2_meanOf_X2_endOf : GoodIn wsX2_meanOf wsX2_endOf := goodIn_r _ [14, 15, 7, 8, 9, 10, 16, 17, 18, 19, 20] (by decide +kernel) (by decide +kernel)
set_option maxRecDepth 20000 in
theorem gX2_meanOf_X2_endOf : GoodIn wsX2_meanOf (wsV RX2 83 RX2 yX2_endOf wsX2_endOf) := goodIn_app (goodIn_of _ (by decide +kernel)) ggX2_meanOf_X2_endOf
set_option maxRecDepth 20000 in
theorem ggX2_meanOf_X4_numberAt : GoodIn wsX2_meanOf wsX4_numberAt := goodIn_r _ [10] (by decide +kernel) (by decide +kernel)
set_option maxRecDepth 20000 in
theorem gX2_meanOf_X4_numberAt_n54 : GoodIn wsX2_meanOf (wsX4_numberAt) := ggX2_meanOf_X4_numberAt
theorem dX2_meanOf_0 : decode cX2_meanOf 0 = .ok (.aload_n 0, 1) := by decide +kernel
theorem dX2_meanOf_1 : decode cX2_meanOf 1 = .ok (.iload_n 1, 1) := by decide +kernel
theorem dX2_meanOf_2 : decode cX2_meanOf 2 = .ok (.invokevirtual 86, 3) := by decide +kernel
theorem dX2_meanOf_5 : decode cX2_meanOf 5 = .ok (.istore_n 2, 1) := by decide +kernel
theorem dX2_meanOf_6 : decode cX2_meanOf 6 = .ok (.aload_n 0, 1) := by decide +kernel
theorem dX2_meanOf_7 : decode cX2_meanOf 7 = .ok (.iload_n 1, 1) := by decide +kernel
theorem dX2_meanOf_8 : decode cX2_meanOf 8 = .ok (.invokevirtual 83, 3) := by decide +kernel
theorem dX2_meanOf_11 : decode cX2_meanOf 11 = .ok (.istore_n 3, 1) := by decide +kernel
theorem dX2_meanOf_12 : decode cX2_meanOf 12 = .ok (.iload_n 3, 1) := by decide +kernel
theorem dX2_meanOf_13 : decode cX2_meanOf 13 = .ok (.iload_n 2, 1) := by decide +kernel
theorem dX2_meanOf_14 : decode cX2_meanOf 14 = .ok (.isub, 1) := by decide +kernel
theorem dX2_meanOf_15 : decode cX2_meanOf 15 = .ok (.istore 4, 2) := by decide +kernel
theorem dX2_meanOf_17 : decode cX2_meanOf 17 = .ok (.iload 4, 2) := by decide +kernel
theorem dX2_meanOf_19 : decode cX2_meanOf 19 = .ok (.ifCond .gt 5, 3) := by decide +kernel
theorem dX2_meanOf_22 : decode cX2_meanOf 22 = .ok (.iconst 0, 1) := by decide +kernel
theorem dX2_meanOf_23 : decode cX2_meanOf 23 = .ok (.ireturn, 1) := by decide +kernel
theorem dX2_meanOf_24 : decode cX2_meanOf 24 = .ok (.iconst 0, 1) := by decide +kernel
theorem dX2_meanOf_25 : decode cX2_meanOf 25 = .ok (.istore 5, 2) := by decide +kernel
theorem dX2_meanOf_27 : decode cX2_meanOf 27 = .ok (.iload_n 2, 1) := by decide +kernel
theorem dX2_meanOf_28 : decode cX2_meanOf 28 = .ok (.istore 6, 2) := by decide +kernel
theorem dX2_meanOf_30 : decode cX2_meanOf 30 = .ok (.iload 6, 2) := by decide +kernel
theorem dX2_meanOf_32 : decode cX2_meanOf 32 = .ok (.iload_n 3, 1) := by decide +kernel
theorem dX2_meanOf_33 : decode cX2_meanOf 33 = .ok (.if_icmp .ge 23, 3) := by decide +kernel
theorem dX2_meanOf_36 : decode cX2_meanOf 36 = .ok (.iload 5, 2) := by decide +kernel
theorem dX2_meanOf_38 : decode cX2_meanOf 38 = .ok (.aload_n 0, 1) := by decide +kernel
theorem dX2_meanOf_39 : decode cX2_meanOf 39 = .ok (.getfield 15, 3) := by decide +kernel
theorem dX2_meanOf_42 : decode cX2_meanOf 42 = .ok (.iload 6, 2) := by decide +kernel
theorem dX2_meanOf_44 : decode cX2_meanOf 44 = .ok (.invokestatic 54, 3) := by decide +kernel
theorem dX2_meanOf_47 : decode cX2_meanOf 47 = .ok (.iadd, 1) := by decide +kernel
theorem dX2_meanOf_48 : decode cX2_meanOf 48 = .ok (.istore 5, 2) := by decide +kernel
theorem dX2_meanOf_50 : decode cX2_meanOf 50 = .ok (.iinc 6 1, 3) := by decide +kernel
theorem dX2_meanOf_53 : decode cX2_meanOf 53 = .ok (.goto (-23), 3) := by decide +kernel
theorem dX2_meanOf_56 : decode cX2_meanOf 56 = .ok (.iload 5, 2) := by decide +kernel
theorem dX2_meanOf_58 : decode cX2_meanOf 58 = .ok (.iload 4, 2) := by decide +kernel
theorem dX2_meanOf_60 : decode cX2_meanOf 60 = .ok (.idiv, 1) := by decide +kernel
theorem dX2_meanOf_61 : decode cX2_meanOf 61 = .ok (.ireturn, 1) := by decide +kernel
set_option maxRecDepth 20000 in
theorem ggX3_init_X4_fillNumbers : GoodIn wsX3_init wsX4_fillNumbers := goodIn_r _ [8] (by decide +kernel) (by decide +kernel)
set_option maxRecDepth 20000 in
theorem gX3_init_X4_fillNumbers_n15 : GoodIn wsX3_init (wsX4_fillNumbers) := ggX3_init_X4_fillNumbers
theorem dX3_init_0 : decode cX3_init 0 = .ok (.aload_n 0, 1) := by decide +kernel
theorem dX3_init_1 : decode cX3_init 1 = .ok (.invokespecial 3, 3) := by decide +kernel
theorem dX3_init_4 : decode cX3_init 4 = .ok (.aload_n 0, 1) := by decide +kernel
theorem dX3_init_5 : decode cX3_init 5 = .ok (.bipush 6, 2) := by decide +kernel
theorem dX3_init_7 : decode cX3_init 7 = .ok (.newarray .int, 2) := by decide +kernel
theorem dX3_init_9 : decode cX3_init 9 = .ok (.putfield 9, 3) := by decide +kernel
theorem dX3_init_12 : decode cX3_init 12 = .ok (.aload_n 0, 1) := by decide +kernel
theorem dX3_init_13 : decode cX3_init 13 = .ok (.getfield 9, 3) := by decide +kernel
theorem dX3_init_16 : decode cX3_init 16 = .ok (.sipush 200, 3) := by decide +kernel
theorem dX3_init_19 : decode cX3_init 19 = .ok (.invokestatic 15, 3) := by decide +kernel
theorem dX3_init_22 : decode cX3_init 22 = .ok (.return_, 1) := by decide +kernel
set_option maxRecDepth 20000 in
theorem ggX3_holds_X4_numberAt : GoodIn wsX3_holds wsX4_numberAt := goodIn_r _ [4] (by decide +kernel) (by decide +kernel)
set_option maxRecDepth 20000 in
theorem gX3_holds_X4_numberAt_n19 : GoodIn wsX3_holds (wsX4_numberAt) := ggX3_holds_X4_numberAt
theorem dX3_holds_0 : decode cX3_holds 0 = .ok (.aload_n 0, 1) := by decide +kernel
theorem dX3_holds_1 : decode cX3_holds 1 = .ok (.getfield 9, 3) := by decide +kernel
theorem dX3_holds_4 : decode cX3_holds 4 = .ok (.iload_n 1, 1) := by decide +kernel
theorem dX3_holds_5 : decode cX3_holds 5 = .ok (.invokestatic 19, 3) := by decide +kernel
theorem dX3_holds_8 : decode cX3_holds 8 = .ok (.ireturn, 1) := by decide +kernel
set_option maxRecDepth 20000 in
theorem ggX3_holdInAll_X3_holds : GoodIn wsX3_holdInAll wsX3_holds := goodIn_r _ [5, 6, 7, 8, 9, 10] (by decide +kernel) (by decide +kernel)
set_option maxRecDepth 20000 in
theorem gX3_holdInAll_X3_holds : GoodIn wsX3_holdInAll (wsV RX3 23 RX3 yX3_holds wsX3_holds) := goodIn_app (goodIn_of _ (by decide +kernel)) ggX3_holdInAll_X3_holds
theorem dX3_holdInAll_0 : decode cX3_holdInAll 0 = .ok (.iconst 0, 1) := by decide +kernel
theorem dX3_holdInAll_1 : decode cX3_holdInAll 1 = .ok (.istore_n 1, 1) := by decide +kernel
theorem dX3_holdInAll_2 : decode cX3_holdInAll 2 = .ok (.iconst 0, 1) := by decide +kernel
theorem dX3_holdInAll_3 : decode cX3_holdInAll 3 = .ok (.istore_n 2, 1) := by decide +kernel
theorem dX3_holdInAll_4 : decode cX3_holdInAll 4 = .ok (.iload_n 2, 1) := by decide +kernel
theorem dX3_holdInAll_5 : decode cX3_holdInAll 5 = .ok (.bipush 6, 2) := by decide +kernel
theorem dX3_holdInAll_7 : decode cX3_holdInAll 7 = .ok (.if_icmp .ge 17, 3) := by decide +kernel
theorem dX3_holdInAll_10 : decode cX3_holdInAll 10 = .ok (.iload_n 1, 1) := by decide +kernel
theorem dX3_holdInAll_11 : decode cX3_holdInAll 11 = .ok (.aload_n 0, 1) := by decide +kernel
theorem dX3_holdInAll_12 : decode cX3_holdInAll 12 = .ok (.iload_n 2, 1) := by decide +kernel
theorem dX3_holdInAll_13 : decode cX3_holdInAll 13 = .ok (.invokevirtual 23, 3) := by decide +kernel
theorem dX3_holdInAll_16 : decode cX3_holdInAll 16 = .ok (.iadd, 1) := by decide +kernel
theorem dX3_holdInAll_17 : decode cX3_holdInAll 17 = .ok (.istore_n 1, 1) := by decide +kernel
theorem dX3_holdInAll_18 : decode cX3_holdInAll 18 = .ok (.iinc 2 1, 3) := by decide +kernel
theorem dX3_holdInAll_21 : decode cX3_holdInAll 21 = .ok (.goto (-17), 3) := by decide +kernel
theorem dX3_holdInAll_24 : decode cX3_holdInAll 24 = .ok (.iload_n 1, 1) := by decide +kernel
theorem dX3_holdInAll_25 : decode cX3_holdInAll 25 = .ok (.ireturn, 1) := by decide +kernel
set_option maxRecDepth 20000 in
theorem ggX3_add_X3_holds : GoodIn wsX3_add wsX3_holds := goodIn_r _ [10, 1, 11, 12, 13, 16] (by decide +kernel) (by decide +kernel)
set_option maxRecDepth 20000 in
theorem gX3_add_X3_holds : GoodIn wsX3_add (wsV RX3 23 RX3 yX3_holds wsX3_holds) := goodIn_app (goodIn_of _ (by decide +kernel)) ggX3_add_X3_holds
set_option maxRecDepth 20000 in
theorem ggX3_add_X4_putNumber : GoodIn wsX3_add wsX4_putNumber := goodIn_r _ [15] (by decide +kernel) (by decide +kernel)
set_option maxRecDepth 20000 in
theorem gX3_add_X4_putNumber_n33 : GoodIn wsX3_add (wsX4_putNumber) := ggX3_add_X4_putNumber
theorem dX3_add_0 : decode cX3_add 0 = .ok (.aload_n 0, 1) := by decide +kernel
theorem dX3_add_1 : decode cX3_add 1 = .ok (.getfield 9, 3) := by decide +kernel
theorem dX3_add_4 : decode cX3_add 4 = .ok (.iload_n 1, 1) := by decide +kernel
theorem dX3_add_5 : decode cX3_add 5 = .ok (.sipush 999, 3) := by decide +kernel
theorem dX3_add_8 : decode cX3_add 8 = .ok (.aload_n 0, 1) := by decide +kernel
theorem dX3_add_9 : decode cX3_add 9 = .ok (.iload_n 1, 1) := by decide +kernel
theorem dX3_add_10 : decode cX3_add 10 = .ok (.invokevirtual 23, 3) := by decide +kernel
theorem dX3_add_13 : decode cX3_add 13 = .ok (.iload_n 2, 1) := by decide +kernel
theorem dX3_add_14 : decode cX3_add 14 = .ok (.iadd, 1) := by decide +kernel
theorem dX3_add_15 : decode cX3_add 15 = .ok (.invokestatic 27, 3) := by decide +kernel
theorem dX3_add_18 : decode cX3_add 18 = .ok (.invokestatic 33, 3) := by decide +kernel
theorem dX3_add_21 : decode cX3_add 21 = .ok (.return_, 1) := by decide +kernel
set_option maxRecDepth 20000 in
theorem ggX3_sufficeFor_X0_cellsIn : GoodIn wsX3_sufficeFor wsX0_cellsIn := goodIn_r _ [5, 6, 7, 8, 9, 16, 17, 18, 19, 20, 21] (by decide +kernel) (by decide +kernel)
set_option maxRecDepth 20000 in
theorem gX3_sufficeFor_X0_cellsIn : GoodIn wsX3_sufficeFor (wsV RX3 37 RX0 yX0_cellsIn wsX0_cellsIn) := goodIn_app (goodIn_of _ (by decide +kernel)) ggX3_sufficeFor_X0_cellsIn
set_option maxRecDepth 20000 in
theorem ggX3_sufficeFor_X3_holds : GoodIn wsX3_sufficeFor wsX3_holds := goodIn_r _ [14, 15, 7, 8, 9, 22] (by decide +kernel) (by decide +kernel)
set_option maxRecDepth 20000 in
theorem gX3_sufficeFor_X3_holds : GoodIn wsX3_sufficeFor (wsV RX3 23 RX3 yX3_holds wsX3_holds) := goodIn_app (goodIn_of _ (by decide +kernel)) ggX3_sufficeFor_X3_holds
theorem dX3_sufficeFor_0 : decode cX3_sufficeFor 0 = .ok (.iconst 0, 1) := by decide +kernel
theorem dX3_sufficeFor_1 : decode cX3_sufficeFor 1 = .ok (.istore_n 2, 1) := by decide +kernel
theorem dX3_sufficeFor_2 : decode cX3_sufficeFor 2 = .ok (.iload_n 2, 1) := by decide +kernel
theorem dX3_sufficeFor_3 : decode cX3_sufficeFor 3 = .ok (.bipush 6, 2) := by decide +kernel
theorem dX3_sufficeFor_5 : decode cX3_sufficeFor 5 = .ok (.if_icmp .ge 24, 3) := by decide +kernel
theorem dX3_sufficeFor_8 : decode cX3_sufficeFor 8 = .ok (.aload_n 1, 1) := by decide +kernel
theorem dX3_sufficeFor_9 : decode cX3_sufficeFor 9 = .ok (.iload_n 2, 1) := by decide +kernel
theorem dX3_sufficeFor_10 : decode cX3_sufficeFor 10 = .ok (.invokevirtual 37, 3) := by decide +kernel
theorem dX3_sufficeFor_13 : decode cX3_sufficeFor 13 = .ok (.aload_n 0, 1) := by decide +kernel
theorem dX3_sufficeFor_14 : decode cX3_sufficeFor 14 = .ok (.iload_n 2, 1) := by decide +kernel
theorem dX3_sufficeFor_15 : decode cX3_sufficeFor 15 = .ok (.invokevirtual 23, 3) := by decide +kernel
theorem dX3_sufficeFor_18 : decode cX3_sufficeFor 18 = .ok (.if_icmp .le 5, 3) := by decide +kernel
theorem dX3_sufficeFor_21 : decode cX3_sufficeFor 21 = .ok (.iconst 0, 1) := by decide +kernel
theorem dX3_sufficeFor_22 : decode cX3_sufficeFor 22 = .ok (.ireturn, 1) := by decide +kernel
theorem dX3_sufficeFor_23 : decode cX3_sufficeFor 23 = .ok (.iinc 2 1, 3) := by decide +kernel
theorem dX3_sufficeFor_26 : decode cX3_sufficeFor 26 = .ok (.goto (-24), 3) := by decide +kernel
theorem dX3_sufficeFor_29 : decode cX3_sufficeFor 29 = .ok (.iconst 1, 1) := by decide +kernel
theorem dX3_sufficeFor_30 : decode cX3_sufficeFor 30 = .ok (.ireturn, 1) := by decide +kernel
set_option maxRecDepth 20000 in
theorem ggX3_takeFor_X3_holds : GoodIn wsX3_takeFor wsX3_holds := goodIn_r _ [6, 1, 7, 8, 9, 18] (by decide +kernel) (by decide +kernel)
set_option maxRecDepth 20000 in
theorem gX3_takeFor_X3_holds : GoodIn wsX3_takeFor (wsV RX3 23 RX3 yX3_holds wsX3_holds) := goodIn_app (goodIn_of _ (by decide +kernel)) ggX3_takeFor_X3_holds
set_option maxRecDepth 20000 in
theorem ggX3_takeFor_X0_cellsIn : GoodIn wsX3_takeFor wsX0_cellsIn := goodIn_r _ [14, 15, 7, 8, 9, 19, 20, 21, 22, 23, 24] (by decide +kernel) (by decide +kernel)
set_option maxRecDepth 20000 in
theorem gX3_takeFor_X0_cellsIn : GoodIn wsX3_takeFor (wsV RX3 37 RX0 yX0_cellsIn wsX0_cellsIn) := goodIn_app (goodIn_of _ (by decide +kernel)) ggX3_takeFor_X0_cellsIn
set_option maxRecDepth 20000 in
theorem ggX3_takeFor_X4_putNumber : GoodIn wsX3_takeFor wsX4_putNumber := goodIn_r _ [17] (by decide +kernel) (by decide +kernel)
set_option maxRecDepth 20000 in
theorem gX3_takeFor_X4_putNumber_n33 : GoodIn wsX3_takeFor (wsX4_putNumber) := ggX3_takeFor_X4_putNumber
theorem dX3_takeFor_0 : decode cX3_takeFor 0 = .ok (.iconst 0, 1) := by decide +kernel
theorem dX3_takeFor_1 : decode cX3_takeFor 1 = .ok (.istore_n 2, 1) := by decide +kernel
theorem dX3_takeFor_2 : decode cX3_takeFor 2 = .ok (.iload_n 2, 1) := by decide +kernel
theorem dX3_takeFor_3 : decode cX3_takeFor 3 = .ok (.bipush 6, 2) := by decide +kernel
theorem dX3_takeFor_5 : decode cX3_takeFor 5 = .ok (.if_icmp .ge 28, 3) := by decide +kernel
theorem dX3_takeFor_8 : decode cX3_takeFor 8 = .ok (.aload_n 0, 1) := by decide +kernel
theorem dX3_takeFor_9 : decode cX3_takeFor 9 = .ok (.getfield 9, 3) := by decide +kernel
theorem dX3_takeFor_12 : decode cX3_takeFor 12 = .ok (.iload_n 2, 1) := by decide +kernel
theorem dX3_takeFor_13 : decode cX3_takeFor 13 = .ok (.aload_n 0, 1) := by decide +kernel
theorem dX3_takeFor_14 : decode cX3_takeFor 14 = .ok (.iload_n 2, 1) := by decide +kernel
theorem dX3_takeFor_15 : decode cX3_takeFor 15 = .ok (.invokevirtual 23, 3) := by decide +kernel
theorem dX3_takeFor_18 : decode cX3_takeFor 18 = .ok (.aload_n 1, 1) := by decide +kernel
theorem dX3_takeFor_19 : decode cX3_takeFor 19 = .ok (.iload_n 2, 1) := by decide +kernel
theorem dX3_takeFor_20 : decode cX3_takeFor 20 = .ok (.invokevirtual 37, 3) := by decide +kernel
theorem dX3_takeFor_23 : decode cX3_takeFor 23 = .ok (.isub, 1) := by decide +kernel
theorem dX3_takeFor_24 : decode cX3_takeFor 24 = .ok (.invokestatic 33, 3) := by decide +kernel
theorem dX3_takeFor_27 : decode cX3_takeFor 27 = .ok (.iinc 2 1, 3) := by decide +kernel
theorem dX3_takeFor_30 : decode cX3_takeFor 30 = .ok (.goto (-28), 3) := by decide +kernel
theorem dX3_takeFor_33 : decode cX3_takeFor 33 = .ok (.return_, 1) := by decide +kernel
set_option maxRecDepth 20000 in
theorem ggX3_digestFrom_X4_digested : GoodIn wsX3_digestFrom wsX4_digested := goodIn_r _ [4, 5, 6, 7, 3, 8] (by decide +kernel) (by decide +kernel)
set_option maxRecDepth 20000 in
theorem gX3_digestFrom_X4_digested_n42 : GoodIn wsX3_digestFrom (wsX4_digested) := ggX3_digestFrom_X4_digested
theorem dX3_digestFrom_0 : decode cX3_digestFrom 0 = .ok (.lload_n 1, 1) := by decide +kernel
theorem dX3_digestFrom_1 : decode cX3_digestFrom 1 = .ok (.aload_n 0, 1) := by decide +kernel
theorem dX3_digestFrom_2 : decode cX3_digestFrom 2 = .ok (.getfield 9, 3) := by decide +kernel
theorem dX3_digestFrom_5 : decode cX3_digestFrom 5 = .ok (.bipush 6, 2) := by decide +kernel
theorem dX3_digestFrom_7 : decode cX3_digestFrom 7 = .ok (.invokestatic 42, 3) := by decide +kernel
theorem dX3_digestFrom_10 : decode cX3_digestFrom 10 = .ok (.lreturn, 1) := by decide +kernel
set_option maxRecDepth 20000 in
theorem ggX4_init_X1_init : GoodIn wsX4_init wsX1_init := goodIn_r _ [27, 28, 2, 3, 29, 30, 62] (by decide +kernel) (by decide +kernel)
set_option maxRecDepth 20000 in
theorem gX4_init_X1_init_n9 : GoodIn wsX4_init (wsX1_init) := ggX4_init_X1_init
set_option maxRecDepth 20000 in
theorem ggX4_init_X2_init : GoodIn wsX4_init wsX2_init := goodIn_r _ [32, 33, 2, 3, 29, 34, 35, 36, 37, 38, 73, 74, 75, 76, 77] (by decide +kernel) (by decide +kernel)
set_option maxRecDepth 20000 in
theorem gX4_init_X2_init_n18 : GoodIn wsX4_init (wsX2_init) := ggX4_init_X2_init
set_option maxRecDepth 20000 in
theorem ggX4_init_X3_init : GoodIn wsX4_init wsX3_init := goodIn_r _ [41, 42, 2, 3, 29, 43, 44, 45, 46, 78] (by decide +kernel) (by decide +kernel)
set_option maxRecDepth 20000 in
theorem gX4_init_X3_init : GoodIn wsX4_init (wsX3_init) := ggX4_init_X3_init
set_option maxRecDepth 20000 in
theorem ggX4_init_X0_init : GoodIn wsX4_init wsX0_init := goodIn_r _ [48, 49, 2, 3, 50, 9, 10, 51, 52, 5, 6, 53, 54, 55, 29, 56, 57, 31, 32, 33, 34, 35, 36, 37, 38, 26, 27, 28, 30, 73, 74, 75, 76, 77, 79, 80, 81, 82, 83, 84, 62] (by decide +kernel) (by decide +kernel)
set_option maxRecDepth 20000 in
theorem gX4_init_X0_init_n32 : GoodIn wsX4_init (wsX0_init) := ggX4_init_X0_init
set_option maxRecDepth 20000 in
theorem ggX4_init_X1_fill : GoodIn wsX4_init wsX1_fill := goodIn_r _ [61, 30, 44, 45, 46, 62] (by decide +kernel) (by decide +kernel)
set_option maxRecDepth 20000 in
theorem gX4_init_X1_fill : GoodIn wsX4_init (wsV RX4 57 RX1 yX1_fill wsX1_fill) := goodIn_app (goodIn_of _ (by decide +kernel)) ggX4_init_X1_fill
theorem dX4_init_0 : decode cX4_init 0 = .ok (.aload_n 0, 1) := by decide +kernel
theorem dX4_init_1 : decode cX4_init 1 = .ok (.invokespecial 1, 3) := by decide +kernel
theorem dX4_init_4 : decode cX4_init 4 = .ok (.aload_n 0, 1) := by decide +kernel
theorem dX4_init_5 : decode cX4_init 5 = .ok (.new 7, 3) := by decide +kernel
theorem dX4_init_8 : decode cX4_init 8 = .ok (.dup, 1) := by decide +kernel
theorem dX4_init_9 : decode cX4_init 9 = .ok (.invokespecial 9, 3) := by decide +kernel
theorem dX4_init_12 : decode cX4_init 12 = .ok (.putfield 10, 3) := by decide +kernel
theorem dX4_init_15 : decode cX4_init 15 = .ok (.aload_n 0, 1) := by decide +kernel
theorem dX4_init_16 : decode cX4_init 16 = .ok (.new 16, 3) := by decide +kernel
theorem dX4_init_19 : decode cX4_init 19 = .ok (.dup, 1) := by decide +kernel
theorem dX4_init_20 : decode cX4_init 20 = .ok (.invokespecial 18, 3) := by decide +kernel
theorem dX4_init_23 : decode cX4_init 23 = .ok (.putfield 19, 3) := by decide +kernel
theorem dX4_init_26 : decode cX4_init 26 = .ok (.aload_n 0, 1) := by decide +kernel
theorem dX4_init_27 : decode cX4_init 27 = .ok (.new 23, 3) := by decide +kernel
theorem dX4_init_30 : decode cX4_init 30 = .ok (.dup, 1) := by decide +kernel
theorem dX4_init_31 : decode cX4_init 31 = .ok (.invokespecial 25, 3) := by decide +kernel
theorem dX4_init_34 : decode cX4_init 34 = .ok (.putfield 26, 3) := by decide +kernel
theorem dX4_init_37 : decode cX4_init 37 = .ok (.aload_n 0, 1) := by decide +kernel
theorem dX4_init_38 : decode cX4_init 38 = .ok (.new 30, 3) := by decide +kernel
theorem dX4_init_41 : decode cX4_init 41 = .ok (.dup, 1) := by decide +kernel
theorem dX4_init_42 : decode cX4_init 42 = .ok (.invokespecial 32, 3) := by decide +kernel
theorem dX4_init_45 : decode cX4_init 45 = .ok (.putfield 33, 3) := by decide +kernel
theorem dX4_init_48 : decode cX4_init 48 = .ok (.aload_n 0, 1) := by decide +kernel
theorem dX4_init_49 : decode cX4_init 49 = .ok (.new 30, 3) := by decide +kernel
theorem dX4_init_52 : decode cX4_init 52 = .ok (.dup, 1) := by decide +kernel
theorem dX4_init_53 : decode cX4_init 53 = .ok (.invokespecial 32, 3) := by decide +kernel
theorem dX4_init_56 : decode cX4_init 56 = .ok (.putfield 37, 3) := by decide +kernel
theorem dX4_init_59 : decode cX4_init 59 = .ok (.aload_n 0, 1) := by decide +kernel
theorem dX4_init_60 : decode cX4_init 60 = .ok (.iconst 3, 1) := by decide +kernel
theorem dX4_init_61 : decode cX4_init 61 = .ok (.putfield 40, 3) := by decide +kernel
theorem dX4_init_64 : decode cX4_init 64 = .ok (.aload_n 0, 1) := by decide +kernel
theorem dX4_init_65 : decode cX4_init 65 = .ok (.iconst 2, 1) := by decide +kernel
theorem dX4_init_66 : decode cX4_init 66 = .ok (.putfield 44, 3) := by decide +kernel
theorem dX4_init_69 : decode cX4_init 69 = .ok (.aload_n 0, 1) := by decide +kernel
theorem dX4_init_70 : decode cX4_init 70 = .ok (.iconst 0, 1) := by decide +kernel
theorem dX4_init_71 : decode cX4_init 71 = .ok (.putfield 47, 3) := by decide +kernel
theorem dX4_init_74 : decode cX4_init 74 = .ok (.aload_n 0, 1) := by decide +kernel
theorem dX4_init_75 : decode cX4_init 75 = .ok (.iconst 0, 1) := by decide +kernel
theorem dX4_init_76 : decode cX4_init 76 = .ok (.putfield 51, 3) := by decide +kernel
theorem dX4_init_79 : decode cX4_init 79 = .ok (.aload_n 0, 1) := by decide +kernel
theorem dX4_init_80 : decode cX4_init 80 = .ok (.iconst 0, 1) := by decide +kernel
theorem dX4_init_81 : decode cX4_init 81 = .ok (.putfield 54, 3) := by decide +kernel
theorem dX4_init_84 : decode cX4_init 84 = .ok (.aload_n 0, 1) := by decide +kernel
theorem dX4_init_85 : decode cX4_init 85 = .ok (.getfield 10, 3) := by decide +kernel
theorem dX4_init_88 : decode cX4_init 88 = .ok (.sipush 128, 3) := by decide +kernel
theorem dX4_init_91 : decode cX4_init 91 = .ok (.invokevirtual 57, 3) := by decide +kernel
theorem dX4_init_94 : decode cX4_init 94 = .ok (.return_, 1) := by decide +kernel
set_option maxRecDepth 20000 in
theorem ggX4_set_X4_needCell : GoodIn wsX4_set wsX4_needCell := goodIn_ca (goodIn_r _ [5, 6, 7, 8, 9, 4, 10] (by decide +kernel) (by decide +kernel)) (goodIn_sub (fun _ h => List.mem_cons_of_mem _ (List.mem_append_left _ (List.mem_append_right _ h))) (by decide +kernel))
set_option maxRecDepth 20000 in
theorem gX4_set_X4_needCell : GoodIn wsX4_set (va_wsS RX4 61 yX4_needCell wsX4_needCell) := goodIn_app (goodIn_of _ (by decide +kernel)) ggX4_set_X4_needCell
set_option maxRecDepth 20000 in
theorem ggX4_set_X4_needShade : GoodIn wsX4_set wsX4_needShade := goodIn_ca (goodIn_r _ [13, 14, 15, 4, 16, 17, 18] (by decide +kernel) (by decide +kernel)) (goodIn_sub (fun _ h => List.mem_cons_of_mem _ (List.mem_append_right _ h)) (by decide +kernel))
set_option maxRecDepth 20000 in
theorem gX4_set_X4_needShade : GoodIn wsX4_set (va_wsS RX4 65 yX4_needShade wsX4_needShade) := goodIn_app (goodIn_of _ (by decide +kernel)) ggX4_set_X4_needShade
set_option maxRecDepth 20000 in
theorem ggX4_set_X1_at : GoodIn wsX4_set wsX1_at := goodIn_r _ [23, 24, 9, 4, 10, 25, 26, 43] (by decide +kernel) (by decide +kernel)
set_option maxRecDepth 20000 in
theorem gX4_set_X1_at : GoodIn wsX4_set (wsV RX4 68 RX1 yX1_at wsX1_at) := goodIn_app (goodIn_of _ (by decide +kernel)) ggX4_set_X1_at
set_option maxRecDepth 20000 in
theorem ggX4_set_X1_put : GoodIn wsX4_set wsX1_put := goodIn_r _ [30, 24, 9, 4, 10, 31, 32, 43] (by decide +kernel) (by decide +kernel)
set_option maxRecDepth 20000 in
theorem gX4_set_X1_put : GoodIn wsX4_set (wsV RX4 72 RX1 yX1_put wsX1_put) := goodIn_app (goodIn_of _ (by decide +kernel)) ggX4_set_X1_put
theorem dX4_set_0 : decode cX4_set 0 = .ok (.iload_n 1, 1) := by decide +kernel
theorem dX4_set_1 : decode cX4_set 1 = .ok (.iload_n 2, 1) := by decide +kernel
theorem dX4_set_2 : decode cX4_set 2 = .ok (.invokestatic 61, 3) := by decide +kernel
theorem dX4_set_5 : decode cX4_set 5 = .ok (.iload_n 3, 1) := by decide +kernel
theorem dX4_set_6 : decode cX4_set 6 = .ok (.invokestatic 65, 3) := by decide +kernel
theorem dX4_set_9 : decode cX4_set 9 = .ok (.aload_n 0, 1) := by decide +kernel
theorem dX4_set_10 : decode cX4_set 10 = .ok (.getfield 10, 3) := by decide +kernel
theorem dX4_set_13 : decode cX4_set 13 = .ok (.iload_n 1, 1) := by decide +kernel
theorem dX4_set_14 : decode cX4_set 14 = .ok (.iload_n 2, 1) := by decide +kernel
theorem dX4_set_15 : decode cX4_set 15 = .ok (.invokevirtual 68, 3) := by decide +kernel
theorem dX4_set_18 : decode cX4_set 18 = .ok (.istore 4, 2) := by decide +kernel
theorem dX4_set_20 : decode cX4_set 20 = .ok (.aload_n 0, 1) := by decide +kernel
theorem dX4_set_21 : decode cX4_set 21 = .ok (.getfield 10, 3) := by decide +kernel
theorem dX4_set_24 : decode cX4_set 24 = .ok (.iload_n 1, 1) := by decide +kernel
theorem dX4_set_25 : decode cX4_set 25 = .ok (.iload_n 2, 1) := by decide +kernel
theorem dX4_set_26 : decode cX4_set 26 = .ok (.iload_n 3, 1) := by decide +kernel
theorem dX4_set_27 : decode cX4_set 27 = .ok (.invokevirtual 72, 3) := by decide +kernel
theorem dX4_set_30 : decode cX4_set 30 = .ok (.iload 4, 2) := by decide +kernel
theorem dX4_set_32 : decode cX4_set 32 = .ok (.ireturn, 1) := by decide +kernel
set_option maxRecDepth 20000 in
theorem ggX4_row_X4_needRow : GoodIn wsX4_row wsX4_needRow := goodIn_ca (goodIn_r _ [5, 6, 7, 4, 8, 9, 10] (by decide +kernel) (by decide +kernel)) (goodIn_sub (fun _ h => List.mem_cons_of_mem _ (List.mem_append_left _ (List.mem_append_right _ h))) (by decide +kernel))
set_option maxRecDepth 20000 in
theorem gX4_row_X4_needRow : GoodIn wsX4_row (va_wsS RX4 76 yX4_needRow wsX4_needRow) := goodIn_app (goodIn_of _ (by decide +kernel)) ggX4_row_X4_needRow
set_option maxRecDepth 20000 in
theorem ggX4_row_X4_needShade : GoodIn wsX4_row wsX4_needShade := goodIn_ca (goodIn_r _ [13, 14, 15, 4, 16, 17, 18] (by decide +kernel) (by decide +kernel)) (goodIn_sub (fun _ h => List.mem_cons_of_mem _ (List.mem_append_right _ h)) (by decide +kernel))
set_option maxRecDepth 20000 in
theorem gX4_row_X4_needShade : GoodIn wsX4_row (va_wsS RX4 65 yX4_needShade wsX4_needShade) := goodIn_app (goodIn_of _ (by decide +kernel)) ggX4_row_X4_needShade
set_option maxRecDepth 20000 in
theorem ggX4_row_X4_needStep : GoodIn wsX4_row wsX4_needStep := goodIn_ca (goodIn_r _ [21, 14, 15, 4, 16, 17, 18] (by decide +kernel) (by decide +kernel)) (goodIn_sub (fun _ h => List.mem_cons_of_mem _ (List.mem_append_right _ h)) (by decide +kernel))
set_option maxRecDepth 20000 in
theorem gX4_row_X4_needStep : GoodIn wsX4_row (va_wsS RX4 79 yX4_needStep wsX4_needStep) := goodIn_app (goodIn_of _ (by decide +kernel)) ggX4_row_X4_needStep
set_option maxRecDepth 20000 in
theorem ggX4_row_X4_heldShade : GoodIn wsX4_row wsX4_heldShade := goodIn_r _ [24, 25, 26, 27, 28, 29, 30, 31] (by decide +kernel) (by decide +kernel)
set_option maxRecDepth 20000 in
theorem gX4_row_X4_heldShade : GoodIn wsX4_row (va_wsS RX4 82 yX4_heldShade wsX4_heldShade) := goodIn_app (goodIn_of _ (by decide +kernel)) ggX4_row_X4_heldShade
set_option maxRecDepth 20000 in
theorem ggX4_row_X1_put : GoodIn wsX4_row wsX1_put := goodIn_r _ [36, 37, 38, 4, 39, 40, 41, 58] (by decide +kernel) (by decide +kernel)
set_option maxRecDepth 20000 in
theorem gX4_row_X1_put : GoodIn wsX4_row (wsV RX4 72 RX1 yX1_put wsX1_put) := goodIn_app (goodIn_of _ (by decide +kernel)) ggX4_row_X1_put
set_option maxRecDepth 20000 in
theorem ggX4_row_X1_at : GoodIn wsX4_row wsX1_at := goodIn_r _ [45, 37, 38, 4, 39, 46, 47, 58] (by decide +kernel) (by decide +kernel)
set_option maxRecDepth 20000 in
theorem gX4_row_X1_at : GoodIn wsX4_row (wsV RX4 68 RX1 yX1_at wsX1_at) := goodIn_app (goodIn_of _ (by decide +kernel)) ggX4_row_X1_at
theorem dX4_row_0 : decode cX4_row 0 = .ok (.iload_n 1, 1) := by decide +kernel
theorem dX4_row_1 : decode cX4_row 1 = .ok (.invokestatic 76, 3) := by decide +kernel
theorem dX4_row_4 : decode cX4_row 4 = .ok (.iload_n 2, 1) := by decide +kernel
theorem dX4_row_5 : decode cX4_row 5 = .ok (.invokestatic 65, 3) := by decide +kernel
theorem dX4_row_8 : decode cX4_row 8 = .ok (.iload_n 3, 1) := by decide +kernel
theorem dX4_row_9 : decode cX4_row 9 = .ok (.invokestatic 79, 3) := by decide +kernel
theorem dX4_row_12 : decode cX4_row 12 = .ok (.iconst 0, 1) := by decide +kernel
theorem dX4_row_13 : decode cX4_row 13 = .ok (.istore 4, 2) := by decide +kernel
theorem dX4_row_15 : decode cX4_row 15 = .ok (.iload 4, 2) := by decide +kernel
theorem dX4_row_17 : decode cX4_row 17 = .ok (.bipush 12, 2) := by decide +kernel
theorem dX4_row_19 : decode cX4_row 19 = .ok (.if_icmp .ge 28, 3) := by decide +kernel
theorem dX4_row_22 : decode cX4_row 22 = .ok (.aload_n 0, 1) := by decide +kernel
theorem dX4_row_23 : decode cX4_row 23 = .ok (.getfield 10, 3) := by decide +kernel
theorem dX4_row_26 : decode cX4_row 26 = .ok (.iload 4, 2) := by decide +kernel
theorem dX4_row_28 : decode cX4_row 28 = .ok (.iload_n 1, 1) := by decide +kernel
theorem dX4_row_29 : decode cX4_row 29 = .ok (.iload_n 2, 1) := by decide +kernel
theorem dX4_row_30 : decode cX4_row 30 = .ok (.iload_n 3, 1) := by decide +kernel
theorem dX4_row_31 : decode cX4_row 31 = .ok (.iload 4, 2) := by decide +kernel
theorem dX4_row_33 : decode cX4_row 33 = .ok (.imul, 1) := by decide +kernel
theorem dX4_row_34 : decode cX4_row 34 = .ok (.iadd, 1) := by decide +kernel
theorem dX4_row_35 : decode cX4_row 35 = .ok (.invokestatic 82, 3) := by decide +kernel
theorem dX4_row_38 : decode cX4_row 38 = .ok (.invokevirtual 72, 3) := by decide +kernel
theorem dX4_row_41 : decode cX4_row 41 = .ok (.iinc 4 1, 3) := by decide +kernel
theorem dX4_row_44 : decode cX4_row 44 = .ok (.goto (-29), 3) := by decide +kernel
theorem dX4_row_47 : decode cX4_row 47 = .ok (.aload_n 0, 1) := by decide +kernel
theorem dX4_row_48 : decode cX4_row 48 = .ok (.getfield 10, 3) := by decide +kernel
theorem dX4_row_51 : decode cX4_row 51 = .ok (.bipush 11, 2) := by decide +kernel
theorem dX4_row_53 : decode cX4_row 53 = .ok (.iload_n 1, 1) := by decide +kernel
theorem dX4_row_54 : decode cX4_row 54 = .ok (.invokevirtual 68, 3) := by decide +kernel
theorem dX4_row_57 : decode cX4_row 57 = .ok (.ireturn, 1) := by decide +kernel
set_option maxRecDepth 20000 in
theorem ggX4_like_X4_needRow : GoodIn wsX4_like wsX4_needRow := goodIn_ca (goodIn_r _ [5, 6, 7, 4, 8, 9, 10] (by decide +kernel) (by decide +kernel)) (goodIn_sub (fun _ h => List.mem_cons_of_mem _ (List.mem_append_right _ h)) (by decide +kernel))
set_option maxRecDepth 20000 in
theorem gX4_like_X4_needRow : GoodIn wsX4_like (va_wsS RX4 76 yX4_needRow wsX4_needRow) := goodIn_app (goodIn_of _ (by decide +kernel)) ggX4_like_X4_needRow
set_option maxRecDepth 20000 in
theorem ggX4_like_X1_at : GoodIn wsX4_like wsX1_at := goodIn_r _ [15, 16, 17, 4, 18, 19, 20, 37] (by decide +kernel) (by decide +kernel)
set_option maxRecDepth 20000 in
theorem gX4_like_X1_at : GoodIn wsX4_like (wsV RX4 68 RX1 yX1_at wsX1_at) := goodIn_app (goodIn_of _ (by decide +kernel)) ggX4_like_X1_at
set_option maxRecDepth 20000 in
theorem ggX4_like_X1_put : GoodIn wsX4_like wsX1_put := goodIn_r _ [24, 16, 17, 4, 18, 25, 26, 37] (by decide +kernel) (by decide +kernel)
set_option maxRecDepth 20000 in
theorem gX4_like_X1_put : GoodIn wsX4_like (wsV RX4 72 RX1 yX1_put wsX1_put) := goodIn_app (goodIn_of _ (by decide +kernel)) ggX4_like_X1_put
theorem dX4_like_0 : decode cX4_like 0 = .ok (.iload_n 1, 1) := by decide +kernel
theorem dX4_like_1 : decode cX4_like 1 = .ok (.invokestatic 76, 3) := by decide +kernel
theorem dX4_like_4 : decode cX4_like 4 = .ok (.iload_n 2, 1) := by decide +kernel
theorem dX4_like_5 : decode cX4_like 5 = .ok (.invokestatic 76, 3) := by decide +kernel
theorem dX4_like_8 : decode cX4_like 8 = .ok (.iconst 0, 1) := by decide +kernel
theorem dX4_like_9 : decode cX4_like 9 = .ok (.istore_n 3, 1) := by decide +kernel
theorem dX4_like_10 : decode cX4_like 10 = .ok (.iconst 0, 1) := by decide +kernel
theorem dX4_like_11 : decode cX4_like 11 = .ok (.istore 4, 2) := by decide +kernel
theorem dX4_like_13 : decode cX4_like 13 = .ok (.iload 4, 2) := by decide +kernel
theorem dX4_like_15 : decode cX4_like 15 = .ok (.bipush 12, 2) := by decide +kernel
theorem dX4_like_17 : decode cX4_like 17 = .ok (.if_icmp .ge 51, 3) := by decide +kernel
theorem dX4_like_20 : decode cX4_like 20 = .ok (.aload_n 0, 1) := by decide +kernel
theorem dX4_like_21 : decode cX4_like 21 = .ok (.getfield 10, 3) := by decide +kernel
theorem dX4_like_24 : decode cX4_like 24 = .ok (.iload 4, 2) := by decide +kernel
theorem dX4_like_26 : decode cX4_like 26 = .ok (.iload_n 2, 1) := by decide +kernel
theorem dX4_like_27 : decode cX4_like 27 = .ok (.invokevirtual 68, 3) := by decide +kernel
theorem dX4_like_30 : decode cX4_like 30 = .ok (.istore 5, 2) := by decide +kernel
theorem dX4_like_32 : decode cX4_like 32 = .ok (.aload_n 0, 1) := by decide +kernel
theorem dX4_like_33 : decode cX4_like 33 = .ok (.getfield 10, 3) := by decide +kernel
theorem dX4_like_36 : decode cX4_like 36 = .ok (.iload 4, 2) := by decide +kernel
theorem dX4_like_38 : decode cX4_like 38 = .ok (.iload_n 1, 1) := by decide +kernel
theorem dX4_like_39 : decode cX4_like 39 = .ok (.invokevirtual 68, 3) := by decide +kernel
theorem dX4_like_42 : decode cX4_like 42 = .ok (.iload 5, 2) := by decide +kernel
theorem dX4_like_44 : decode cX4_like 44 = .ok (.if_icmp .eq 6, 3) := by decide +kernel
theorem dX4_like_47 : decode cX4_like 47 = .ok (.iinc 3 1, 3) := by decide +kernel
theorem dX4_like_50 : decode cX4_like 50 = .ok (.aload_n 0, 1) := by decide +kernel
theorem dX4_like_51 : decode cX4_like 51 = .ok (.getfield 10, 3) := by decide +kernel
theorem dX4_like_54 : decode cX4_like 54 = .ok (.iload 4, 2) := by decide +kernel
theorem dX4_like_56 : decode cX4_like 56 = .ok (.iload_n 1, 1) := by decide +kernel
theorem dX4_like_57 : decode cX4_like 57 = .ok (.iload 5, 2) := by decide +kernel
theorem dX4_like_59 : decode cX4_like 59 = .ok (.invokevirtual 72, 3) := by decide +kernel
theorem dX4_like_62 : decode cX4_like 62 = .ok (.iinc 4 1, 3) := by decide +kernel
theorem dX4_like_65 : decode cX4_like 65 = .ok (.goto (-52), 3) := by decide +kernel
theorem dX4_like_68 : decode cX4_like 68 = .ok (.iload_n 3, 1) := by decide +kernel
theorem dX4_like_69 : decode cX4_like 69 = .ok (.ireturn, 1) := by decide +kernel
set_option maxRecDepth 20000 in
theorem ggX4_setColours_X4_needColours : GoodIn wsX4_setColours wsX4_needColours := goodIn_ca (goodIn_r _ [5, 6, 7, 4, 8, 9, 10] (by decide +kernel) (by decide +kernel)) (goodIn_sub (fun _ h => List.mem_cons_of_mem _ (List.mem_append_right _ h)) (by decide +kernel))
set_option maxRecDepth 20000 in
theorem gX4_setColours_X4_needColours : GoodIn wsX4_setColours (va_wsS RX4 86 yX4_needColours wsX4_needColours) := goodIn_app (goodIn_of _ (by decide +kernel)) ggX4_setColours_X4_needColours
theorem dX4_setColours_0 : decode cX4_setColours 0 = .ok (.iload_n 1, 1) := by decide +kernel
theorem dX4_setColours_1 : decode cX4_setColours 1 = .ok (.invokestatic 86, 3) := by decide +kernel
theorem dX4_setColours_4 : decode cX4_setColours 4 = .ok (.aload_n 0, 1) := by decide +kernel
theorem dX4_setColours_5 : decode cX4_setColours 5 = .ok (.getfield 40, 3) := by decide +kernel
theorem dX4_setColours_8 : decode cX4_setColours 8 = .ok (.istore_n 2, 1) := by decide +kernel
theorem dX4_setColours_9 : decode cX4_setColours 9 = .ok (.aload_n 0, 1) := by decide +kernel
theorem dX4_setColours_10 : decode cX4_setColours 10 = .ok (.iload_n 1, 1) := by decide +kernel
theorem dX4_setColours_11 : decode cX4_setColours 11 = .ok (.putfield 40, 3) := by decide +kernel
theorem dX4_setColours_14 : decode cX4_setColours 14 = .ok (.iload_n 2, 1) := by decide +kernel
theorem dX4_setColours_15 : decode cX4_setColours 15 = .ok (.ireturn, 1) := by decide +kernel
set_option maxRecDepth 20000 in
theorem ggX4_setCarry_X4_needUpTo : GoodIn wsX4_setCarry wsX4_needUpTo := goodIn_ca (goodIn_r _ [5, 6, 7] (by decide +kernel) (by decide +kernel)) (goodIn_sub (fun _ h => List.mem_cons_of_mem _ (List.mem_append_right _ h)) (by decide +kernel))
set_option maxRecDepth 20000 in
theorem gX4_setCarry_X4_needUpTo : GoodIn wsX4_setCarry (va_wsS RX4 89 yX4_needUpTo wsX4_needUpTo) := goodIn_app (goodIn_of _ (by decide +kernel)) ggX4_setCarry_X4_needUpTo
theorem dX4_setCarry_0 : decode cX4_setCarry 0 = .ok (.iload_n 1, 1) := by decide +kernel
theorem dX4_setCarry_1 : decode cX4_setCarry 1 = .ok (.iconst 2, 1) := by decide +kernel
theorem dX4_setCarry_2 : decode cX4_setCarry 2 = .ok (.invokestatic 89, 3) := by decide +kernel
theorem dX4_setCarry_5 : decode cX4_setCarry 5 = .ok (.aload_n 0, 1) := by decide +kernel
theorem dX4_setCarry_6 : decode cX4_setCarry 6 = .ok (.getfield 44, 3) := by decide +kernel
theorem dX4_setCarry_9 : decode cX4_setCarry 9 = .ok (.istore_n 2, 1) := by decide +kernel
theorem dX4_setCarry_10 : decode cX4_setCarry 10 = .ok (.aload_n 0, 1) := by decide +kernel
theorem dX4_setCarry_11 : decode cX4_setCarry 11 = .ok (.iload_n 1, 1) := by decide +kernel
theorem dX4_setCarry_12 : decode cX4_setCarry 12 = .ok (.putfield 44, 3) := by decide +kernel
theorem dX4_setCarry_15 : decode cX4_setCarry 15 = .ok (.iload_n 2, 1) := by decide +kernel
theorem dX4_setCarry_16 : decode cX4_setCarry 16 = .ok (.ireturn, 1) := by decide +kernel
theorem dX4_setTurning_0 : decode cX4_setTurning 0 = .ok (.aload_n 0, 1) := by decide +kernel
theorem dX4_setTurning_1 : decode cX4_setTurning 1 = .ok (.getfield 47, 3) := by decide +kernel
theorem dX4_setTurning_4 : decode cX4_setTurning 4 = .ok (.istore_n 2, 1) := by decide +kernel
theorem dX4_setTurning_5 : decode cX4_setTurning 5 = .ok (.aload_n 0, 1) := by decide +kernel
theorem dX4_setTurning_6 : decode cX4_setTurning 6 = .ok (.iload_n 1, 1) := by decide +kernel
theorem dX4_setTurning_7 : decode cX4_setTurning 7 = .ok (.putfield 47, 3) := by decide +kernel
theorem dX4_setTurning_10 : decode cX4_setTurning 10 = .ok (.iload_n 2, 1) := by decide +kernel
theorem dX4_setTurning_11 : decode cX4_setTurning 11 = .ok (.ireturn, 1) := by decide +kernel
theorem dX4_setPressing_0 : decode cX4_setPressing 0 = .ok (.aload_n 0, 1) := by decide +kernel
theorem dX4_setPressing_1 : decode cX4_setPressing 1 = .ok (.getfield 51, 3) := by decide +kernel
theorem dX4_setPressing_4 : decode cX4_setPressing 4 = .ok (.istore_n 2, 1) := by decide +kernel
theorem dX4_setPressing_5 : decode cX4_setPressing 5 = .ok (.aload_n 0, 1) := by decide +kernel
theorem dX4_setPressing_6 : decode cX4_setPressing 6 = .ok (.iload_n 1, 1) := by decide +kernel
theorem dX4_setPressing_7 : decode cX4_setPressing 7 = .ok (.putfield 51, 3) := by decide +kernel
theorem dX4_setPressing_10 : decode cX4_setPressing 10 = .ok (.iload_n 2, 1) := by decide +kernel
theorem dX4_setPressing_11 : decode cX4_setPressing 11 = .ok (.ireturn, 1) := by decide +kernel
set_option maxRecDepth 20000 in
theorem ggX4_wind_X4_needColour : GoodIn wsX4_wind wsX4_needColour := goodIn_ca (goodIn_r _ [5, 6, 7, 4, 8, 9, 10] (by decide +kernel) (by decide +kernel)) (goodIn_sub (fun _ h => List.mem_cons_of_mem _ (List.mem_append_left _ (List.mem_append_right _ h))) (by decide +kernel))
set_option maxRecDepth 20000 in
theorem gX4_wind_X4_needColour : GoodIn wsX4_wind (va_wsS RX4 92 yX4_needColour wsX4_needColour) := goodIn_app (goodIn_of _ (by decide +kernel)) ggX4_wind_X4_needColour
set_option maxRecDepth 20000 in
theorem ggX4_wind_X4_needWindable : GoodIn wsX4_wind wsX4_needWindable := goodIn_ca (goodIn_r _ [13, 14, 15, 4, 16, 17, 18] (by decide +kernel) (by decide +kernel)) (goodIn_sub (fun _ h => List.mem_cons_of_mem _ (List.mem_append_right _ h)) (by decide +kernel))
set_option maxRecDepth 20000 in
theorem gX4_wind_X4_needWindable : GoodIn wsX4_wind (va_wsS RX4 95 yX4_needWindable wsX4_needWindable) := goodIn_app (goodIn_of _ (by decide +kernel)) ggX4_wind_X4_needWindable
set_option maxRecDepth 20000 in
theorem ggX4_wind_X3_add : GoodIn wsX4_wind wsX3_add := goodIn_r _ [23, 24, 25, 26, 27, 28, 29, 30, 31, 22, 32, 33, 4, 34, 35, 36, 48] (by decide +kernel) (by decide +kernel)
set_option maxRecDepth 20000 in
theorem gX4_wind_X3_add : GoodIn wsX4_wind (wsV RX4 98 RX3 yX3_add wsX3_add) := goodIn_app (goodIn_of _ (by decide +kernel)) ggX4_wind_X3_add
set_option maxRecDepth 20000 in
theorem ggX4_wind_X3_holds : GoodIn wsX4_wind wsX3_holds := goodIn_r _ [32, 24, 33, 4, 34, 48] (by decide +kernel) (by decide +kernel)
set_option maxRecDepth 20000 in
theorem gX4_wind_X3_holds : GoodIn wsX4_wind (wsV RX4 101 RX3 yX3_holds wsX3_holds) := goodIn_app (goodIn_of _ (by decide +kernel)) ggX4_wind_X3_holds
theorem dX4_wind_0 : decode cX4_wind 0 = .ok (.iload_n 1, 1) := by decide +kernel
theorem dX4_wind_1 : decode cX4_wind 1 = .ok (.invokestatic 92, 3) := by decide +kernel
theorem dX4_wind_4 : decode cX4_wind 4 = .ok (.iload_n 2, 1) := by decide +kernel
theorem dX4_wind_5 : decode cX4_wind 5 = .ok (.invokestatic 95, 3) := by decide +kernel
theorem dX4_wind_8 : decode cX4_wind 8 = .ok (.aload_n 0, 1) := by decide +kernel
theorem dX4_wind_9 : decode cX4_wind 9 = .ok (.getfield 26, 3) := by decide +kernel
theorem dX4_wind_12 : decode cX4_wind 12 = .ok (.iload_n 1, 1) := by decide +kernel
theorem dX4_wind_13 : decode cX4_wind 13 = .ok (.iload_n 2, 1) := by decide +kernel
theorem dX4_wind_14 : decode cX4_wind 14 = .ok (.invokevirtual 98, 3) := by decide +kernel
theorem dX4_wind_17 : decode cX4_wind 17 = .ok (.aload_n 0, 1) := by decide +kernel
theorem dX4_wind_18 : decode cX4_wind 18 = .ok (.getfield 26, 3) := by decide +kernel
theorem dX4_wind_21 : decode cX4_wind 21 = .ok (.iload_n 1, 1) := by decide +kernel
theorem dX4_wind_22 : decode cX4_wind 22 = .ok (.invokevirtual 101, 3) := by decide +kernel
theorem dX4_wind_25 : decode cX4_wind 25 = .ok (.ireturn, 1) := by decide +kernel
set_option maxRecDepth 20000 in
theorem ggX4_weave_X0_make : GoodIn wsX4_weave wsX0_make := goodIn_r _ [13, 14, 15, 16, 17, 18, 19, 20, 21, 22, 23, 24, 25, 26, 27, 28, 29, 30, 31, 32, 33, 34, 35, 36, 37, 38, 39, 40, 41, 42, 43, 44, 45, 46, 47, 48, 49, 50, 51, 52, 53, 54, 55, 56, 57, 58, 59, 60, 61, 62, 63, 64, 65, 66, 67, 68, 69, 70, 71, 72, 73, 74, 75, 76, 77, 78, 79, 80, 81, 12, 82, 83, 84, 85, 86, 87, 88, 89, 90, 91, 92, 93, 94, 95, 96, 97, 98, 99, 100, 101, 102, 103, 104, 105, 106, 107, 108, 109, 110, 111, 112, 113, 114, 115, 116, 117, 118, 119, 120, 121, 177, 178, 179, 180, 181, 182, 183, 184, 185, 186, 187, 188] (by decide +kernel) (by decide +kernel)
set_option maxRecDepth 20000 in
theorem gX4_weave_X0_make : GoodIn wsX4_weave (wsV RX4 104 RX0 yX0_make wsX0_make) := goodIn_app (goodIn_of _ (by decide +kernel)) ggX4_weave_X0_make
set_option maxRecDepth 20000 in
theorem ggX4_weave_X4_needThreadFor : GoodIn wsX4_weave wsX4_needThreadFor := goodIn_ca (goodIn_r _ [125, 126, 127, 6, 128, 129, 130, 131, 132, 133, 134, 135, 12, 136, 16, 42, 32, 43, 137, 138, 139, 140, 141, 167, 168, 169, 170, 171, 172, 173, 174, 175, 176, 177, 178, 179, 180, 181, 182, 189] (by decide +kernel) (by decide +kernel)) (goodIn_sub (fun _ h => List.mem_cons_of_mem _ (List.mem_append_right _ h)) (by decide +kernel))
set_option maxRecDepth 20000 in
theorem gX4_weave_X4_needThreadFor : GoodIn wsX4_weave (wsV RX4 108 RX4 yX4_needThreadFor wsX4_needThreadFor) := goodIn_app (goodIn_of _ (by decide +kernel)) ggX4_weave_X4_needThreadFor
set_option maxRecDepth 20000 in
theorem ggX4_weave_X3_takeFor : GoodIn wsX4_weave wsX3_takeFor := goodIn_r _ [145, 141, 137, 138, 139, 131, 140, 42, 32, 43, 133, 134, 135, 12, 136, 16, 44, 45, 189, 177, 178, 179, 180, 181, 182] (by decide +kernel) (by decide +kernel)
set_option maxRecDepth 20000 in
theorem gX4_weave_X3_takeFor : GoodIn wsX4_weave (wsV RX4 112 RX3 yX3_takeFor wsX3_takeFor) := goodIn_app (goodIn_of _ (by decide +kernel)) ggX4_weave_X3_takeFor
set_option maxRecDepth 20000 in
theorem ggX4_weave_X4_keepTrial : GoodIn wsX4_weave wsX4_keepTrial := goodIn_r _ [149, 7, 1, 150, 167, 168, 169, 170, 171, 172, 173, 174, 175, 176] (by decide +kernel) (by decide +kernel)
set_option maxRecDepth 20000 in
theorem gX4_weave_X4_keepTrial : GoodIn wsX4_weave (wsV RX4 115 RX4 yX4_keepTrial wsX4_keepTrial) := goodIn_app (goodIn_of _ (by decide +kernel)) ggX4_weave_X4_keepTrial
set_option maxRecDepth 20000 in
theorem ggX4_weave_X0_allKnots : GoodIn wsX4_weave wsX0_allKnots := goodIn_r _ [154, 155, 156, 157, 12, 158, 159, 160, 161, 162, 83, 88, 35, 36, 37, 38, 39, 40, 32, 41, 42, 43, 163, 164, 165, 166, 121, 177, 178, 179, 180, 181, 182, 188] (by decide +kernel) (by decide +kernel)
set_option maxRecDepth 20000 in
theorem gX4_weave_X0_allKnots : GoodIn wsX4_weave (wsV RX4 118 RX0 yX0_allKnots wsX0_allKnots) := goodIn_app (goodIn_of _ (by decide +kernel)) ggX4_weave_X0_allKnots
theorem dX4_weave_0 : decode cX4_weave 0 = .ok (.aload_n 0, 1) := by decide +kernel
theorem dX4_weave_1 : decode cX4_weave 1 = .ok (.getfield 37, 3) := by decide +kernel
theorem dX4_weave_4 : decode cX4_weave 4 = .ok (.aload_n 0, 1) := by decide +kernel
theorem dX4_weave_5 : decode cX4_weave 5 = .ok (.getfield 10, 3) := by decide +kernel
theorem dX4_weave_8 : decode cX4_weave 8 = .ok (.aload_n 0, 1) := by decide +kernel
theorem dX4_weave_9 : decode cX4_weave 9 = .ok (.getfield 40, 3) := by decide +kernel
theorem dX4_weave_12 : decode cX4_weave 12 = .ok (.aload_n 0, 1) := by decide +kernel
theorem dX4_weave_13 : decode cX4_weave 13 = .ok (.getfield 44, 3) := by decide +kernel
theorem dX4_weave_16 : decode cX4_weave 16 = .ok (.aload_n 0, 1) := by decide +kernel
theorem dX4_weave_17 : decode cX4_weave 17 = .ok (.getfield 47, 3) := by decide +kernel
theorem dX4_weave_20 : decode cX4_weave 20 = .ok (.invokevirtual 104, 3) := by decide +kernel
theorem dX4_weave_23 : decode cX4_weave 23 = .ok (.aload_n 0, 1) := by decide +kernel
theorem dX4_weave_24 : decode cX4_weave 24 = .ok (.aload_n 0, 1) := by decide +kernel
theorem dX4_weave_25 : decode cX4_weave 25 = .ok (.getfield 37, 3) := by decide +kernel
theorem dX4_weave_28 : decode cX4_weave 28 = .ok (.invokevirtual 108, 3) := by decide +kernel
theorem dX4_weave_31 : decode cX4_weave 31 = .ok (.aload_n 0, 1) := by decide +kernel
theorem dX4_weave_32 : decode cX4_weave 32 = .ok (.getfield 26, 3) := by decide +kernel
theorem dX4_weave_35 : decode cX4_weave 35 = .ok (.aload_n 0, 1) := by decide +kernel
theorem dX4_weave_36 : decode cX4_weave 36 = .ok (.getfield 37, 3) := by decide +kernel
theorem dX4_weave_39 : decode cX4_weave 39 = .ok (.invokevirtual 112, 3) := by decide +kernel
theorem dX4_weave_42 : decode cX4_weave 42 = .ok (.aload_n 0, 1) := by decide +kernel
theorem dX4_weave_43 : decode cX4_weave 43 = .ok (.invokevirtual 115, 3) := by decide +kernel
theorem dX4_weave_46 : decode cX4_weave 46 = .ok (.aload_n 0, 1) := by decide +kernel
theorem dX4_weave_47 : decode cX4_weave 47 = .ok (.getfield 33, 3) := by decide +kernel
theorem dX4_weave_50 : decode cX4_weave 50 = .ok (.aload_n 0, 1) := by decide +kernel
theorem dX4_weave_51 : decode cX4_weave 51 = .ok (.getfield 51, 3) := by decide +kernel
theorem dX4_weave_54 : decode cX4_weave 54 = .ok (.invokevirtual 118, 3) := by decide +kernel
theorem dX4_weave_57 : decode cX4_weave 57 = .ok (.ireturn, 1) := by decide +kernel
set_option maxRecDepth 20000 in
theorem ggX4_shade_X4_needCell : GoodIn wsX4_shade wsX4_needCell := goodIn_ca (goodIn_r _ [5, 6, 7, 8, 9, 4, 10] (by decide +kernel) (by decide +kernel)) (goodIn_sub (fun _ h => List.mem_cons_of_mem _ (List.mem_append_right _ h)) (by decide +kernel))
set_option maxRecDepth 20000 in
theorem gX4_shade_X4_needCell : GoodIn wsX4_shade (va_wsS RX4 61 yX4_needCell wsX4_needCell) := goodIn_app (goodIn_of _ (by decide +kernel)) ggX4_shade_X4_needCell
set_option maxRecDepth 20000 in
theorem ggX4_shade_X1_at : GoodIn wsX4_shade wsX1_at := goodIn_r _ [15, 16, 9, 4, 10, 17, 18, 29] (by decide +kernel) (by decide +kernel)
set_option maxRecDepth 20000 in
theorem gX4_shade_X1_at : GoodIn wsX4_shade (wsV RX4 68 RX1 yX1_at wsX1_at) := goodIn_app (goodIn_of _ (by decide +kernel)) ggX4_shade_X1_at
theorem dX4_shade_0 : decode cX4_shade 0 = .ok (.iload_n 1, 1) := by decide +kernel
theorem dX4_shade_1 : decode cX4_shade 1 = .ok (.iload_n 2, 1) := by decide +kernel
theorem dX4_shade_2 : decode cX4_shade 2 = .ok (.invokestatic 61, 3) := by decide +kernel
theorem dX4_shade_5 : decode cX4_shade 5 = .ok (.aload_n 0, 1) := by decide +kernel
theorem dX4_shade_6 : decode cX4_shade 6 = .ok (.getfield 10, 3) := by decide +kernel
theorem dX4_shade_9 : decode cX4_shade 9 = .ok (.iload_n 1, 1) := by decide +kernel
theorem dX4_shade_10 : decode cX4_shade 10 = .ok (.iload_n 2, 1) := by decide +kernel
theorem dX4_shade_11 : decode cX4_shade 11 = .ok (.invokevirtual 68, 3) := by decide +kernel
theorem dX4_shade_14 : decode cX4_shade 14 = .ok (.ireturn, 1) := by decide +kernel
set_option maxRecDepth 20000 in
theorem ggX4_palette_X4_needColour : GoodIn wsX4_palette wsX4_needColour := goodIn_ca (goodIn_r _ [7, 8, 9, 6, 10, 11, 12] (by decide +kernel) (by decide +kernel)) (goodIn_sub (fun _ h => List.mem_cons_of_mem _ (List.mem_append_right _ h)) (by decide +kernel))
set_option maxRecDepth 20000 in
theorem gX4_palette_X4_needColour : GoodIn wsX4_palette (va_wsS RX4 92 yX4_needColour wsX4_needColour) := goodIn_app (goodIn_of _ (by decide +kernel)) ggX4_palette_X4_needColour
set_option maxRecDepth 20000 in
theorem ggX4_palette_X2_fit : GoodIn wsX4_palette wsX2_fit := goodIn_r _ [17, 18, 19, 20, 21, 22, 23, 16, 24, 25, 26, 6, 27, 28, 29, 30, 31, 32, 33, 34, 35, 36, 37, 38, 39, 40, 41, 42, 43, 44, 45, 46, 47, 48, 49, 50, 51, 52, 53, 54, 55, 56, 57, 58, 59, 60, 61, 62, 63, 64, 65, 66, 67, 68, 83, 84, 85, 86, 87, 88] (by decide +kernel) (by decide +kernel)
set_option maxRecDepth 20000 in
theorem gX4_palette_X2_fit : GoodIn wsX4_palette (wsV RX4 122 RX2 yX2_fit wsX2_fit) := goodIn_app (goodIn_of _ (by decide +kernel)) ggX4_palette_X2_fit
set_option maxRecDepth 20000 in
theorem ggX4_palette_X2_shadeOf : GoodIn wsX4_palette wsX2_shadeOf := goodIn_r _ [72, 18, 20, 36, 6, 37, 83, 84, 85, 86, 87] (by decide +kernel) (by decide +kernel)
set_option maxRecDepth 20000 in
theorem gX4_palette_X2_shadeOf : GoodIn wsX4_palette (wsV RX4 126 RX2 yX2_shadeOf wsX2_shadeOf) := goodIn_app (goodIn_of _ (by decide +kernel)) ggX4_palette_X2_shadeOf
theorem dX4_palette_0 : decode cX4_palette 0 = .ok (.iload_n 1, 1) := by decide +kernel
theorem dX4_palette_1 : decode cX4_palette 1 = .ok (.invokestatic 92, 3) := by decide +kernel
theorem dX4_palette_4 : decode cX4_palette 4 = .ok (.aload_n 0, 1) := by decide +kernel
theorem dX4_palette_5 : decode cX4_palette 5 = .ok (.getfield 19, 3) := by decide +kernel
theorem dX4_palette_8 : decode cX4_palette 8 = .ok (.aload_n 0, 1) := by decide +kernel
theorem dX4_palette_9 : decode cX4_palette 9 = .ok (.getfield 10, 3) := by decide +kernel
theorem dX4_palette_12 : decode cX4_palette 12 = .ok (.aload_n 0, 1) := by decide +kernel
theorem dX4_palette_13 : decode cX4_palette 13 = .ok (.getfield 40, 3) := by decide +kernel
theorem dX4_palette_16 : decode cX4_palette 16 = .ok (.invokevirtual 122, 3) := by decide +kernel
theorem dX4_palette_19 : decode cX4_palette 19 = .ok (.aload_n 0, 1) := by decide +kernel
theorem dX4_palette_20 : decode cX4_palette 20 = .ok (.getfield 19, 3) := by decide +kernel
theorem dX4_palette_23 : decode cX4_palette 23 = .ok (.iload_n 1, 1) := by decide +kernel
theorem dX4_palette_24 : decode cX4_palette 24 = .ok (.invokevirtual 126, 3) := by decide +kernel
theorem dX4_palette_27 : decode cX4_palette 27 = .ok (.ireturn, 1) := by decide +kernel
set_option maxRecDepth 20000 in
theorem ggX4_cell_X4_needCell : GoodIn wsX4_cell wsX4_needCell := goodIn_ca (goodIn_r _ [5, 6, 7, 8, 9, 4, 10] (by decide +kernel) (by decide +kernel)) (goodIn_sub (fun _ h => List.mem_cons_of_mem _ (List.mem_append_left _ (List.mem_append_right _ h))) (by decide +kernel))
set_option maxRecDepth 20000 in
theorem gX4_cell_X4_needCell : GoodIn wsX4_cell (va_wsS RX4 61 yX4_needCell wsX4_needCell) := goodIn_app (goodIn_of _ (by decide +kernel)) ggX4_cell_X4_needCell
set_option maxRecDepth 20000 in
theorem ggX4_cell_X4_needCloth : GoodIn wsX4_cell wsX4_needCloth := goodIn_ca (goodIn_r _ [14, 15, 16, 17, 18, 19, 4, 20, 21, 36, 37, 38, 39, 40, 41, 42, 43, 44, 45] (by decide +kernel) (by decide +kernel)) (goodIn_sub (fun _ h => List.mem_cons_of_mem _ (List.mem_append_right _ h)) (by decide +kernel))
set_option maxRecDepth 20000 in
theorem gX4_cell_X4_needCloth : GoodIn wsX4_cell (wsV RX4 129 RX4 yX4_needCloth wsX4_needCloth) := goodIn_app (goodIn_of _ (by decide +kernel)) ggX4_cell_X4_needCloth
