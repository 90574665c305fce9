theorem dX5_mean_24 : decode cX5_mean 24 = .ok (.aload_n 2, 1) := by decide +kernel
theorem dX5_mean_25 : decode cX5_mean 25 = .ok (.iload 4, 2) := by decide +kernel
theorem dX5_mean_27 : decode cX5_mean 27 = .ok (.iaload, 1) := by decide +kernel
theorem dX5_mean_28 : decode cX5_mean 28 = .ok (.istore 5, 2) := by decide +kernel
theorem dX5_mean_30 : decode cX5_mean 30 = .ok (.iload_n 1, 1) := by decide +kernel
theorem dX5_mean_31 : decode cX5_mean 31 = .ok (.iload 5, 2) := by decide +kernel
theorem dX5_mean_33 : decode cX5_mean 33 = .ok (.iadd, 1) := by decide +kernel
theorem dX5_mean_34 : decode cX5_mean 34 = .ok (.istore_n 1, 1) := by decide +kernel
theorem dX5_mean_35 : decode cX5_mean 35 = .ok (.iinc 4 1, 3) := by decide +kernel
theorem dX5_mean_38 : decode cX5_mean 38 = .ok (.goto (-20), 3) := by decide +kernel
theorem dX5_mean_41 : decode cX5_mean 41 = .ok (.iload_n 1, 1) := by decide +kernel
theorem dX5_mean_42 : decode cX5_mean 42 = .ok (.i2d, 1) := by decide +kernel
theorem dX5_mean_43 : decode cX5_mean 43 = .ok (.ldc2_w 170, 3) := by decide +kernel
theorem dX5_mean_46 : decode cX5_mean 46 = .ok (.ddiv, 1) := by decide +kernel
theorem dX5_mean_47 : decode cX5_mean 47 = .ok (.dreturn, 1) := by decide +kernel
set_option maxRecDepth 20000 in
theorem ggX5_digest_X5_counted : GoodIn wsX5_digest wsX5_counted := goodIn_r _ [14, 15, 16, 17, 18, 8, 5, 19, 9, 20, 21, 22, 13, 23, 24, 25, 26, 27, 28, 29, 30, 31, 32, 33, 34, 35, 36, 37, 38, 39, 40, 41, 42, 43, 44, 45, 46, 47, 48, 49, 50, 51, 52, 53, 54, 55, 56, 57, 58] (by decide +kernel) (by decide +kernel)
set_option maxRecDepth 20000 in
theorem gX5_digest_X5_counted : GoodIn wsX5_digest (wsV RX5 164 RX5 yX5_counted wsX5_counted) := goodIn_app (goodIn_of _ (by decide +kernel)) ggX5_digest_X5_counted
theorem dX5_digest_0 : decode cX5_digest 0 = .ok (.aload_n 0, 1) := by decide +kernel
theorem dX5_digest_1 : decode cX5_digest 1 = .ok (.iconst 0, 1) := by decide +kernel
theorem dX5_digest_2 : decode cX5_digest 2 = .ok (.putfield 44, 3) := by decide +kernel
theorem dX5_digest_5 : decode cX5_digest 5 = .ok (.ldc2_w 172, 3) := by decide +kernel
theorem dX5_digest_8 : decode cX5_digest 8 = .ok (.lstore_n 1, 1) := by decide +kernel
theorem dX5_digest_9 : decode cX5_digest 9 = .ok (.iconst 0, 1) := by decide +kernel
theorem dX5_digest_10 : decode cX5_digest 10 = .ok (.istore_n 3, 1) := by decide +kernel
theorem dX5_digest_11 : decode cX5_digest 11 = .ok (.iload_n 3, 1) := by decide +kernel
theorem dX5_digest_12 : decode cX5_digest 12 = .ok (.bipush 7, 2) := by decide +kernel
theorem dX5_digest_14 : decode cX5_digest 14 = .ok (.if_icmp .gt 22, 3) := by decide +kernel
theorem dX5_digest_17 : decode cX5_digest 17 = .ok (.lload_n 1, 1) := by decide +kernel
theorem dX5_digest_18 : decode cX5_digest 18 = .ok (.ldc2_w 174, 3) := by decide +kernel
theorem dX5_digest_21 : decode cX5_digest 21 = .ok (.lmul, 1) := by decide +kernel
theorem dX5_digest_22 : decode cX5_digest 22 = .ok (.aload_n 0, 1) := by decide +kernel
theorem dX5_digest_23 : decode cX5_digest 23 = .ok (.iload_n 3, 1) := by decide +kernel
theorem dX5_digest_24 : decode cX5_digest 24 = .ok (.invokevirtual 164, 3) := by decide +kernel
theorem dX5_digest_27 : decode cX5_digest 27 = .ok (.i2l, 1) := by decide +kernel
theorem dX5_digest_28 : decode cX5_digest 28 = .ok (.ladd, 1) := by decide +kernel
theorem dX5_digest_29 : decode cX5_digest 29 = .ok (.lstore_n 1, 1) := by decide +kernel
theorem dX5_digest_30 : decode cX5_digest 30 = .ok (.iinc 3 1, 3) := by decide +kernel
theorem dX5_digest_33 : decode cX5_digest 33 = .ok (.goto (-22), 3) := by decide +kernel
theorem dX5_digest_36 : decode cX5_digest 36 = .ok (.aload_n 0, 1) := by decide +kernel
theorem dX5_digest_37 : decode cX5_digest 37 = .ok (.getfield 9, 3) := by decide +kernel
theorem dX5_digest_40 : decode cX5_digest 40 = .ok (.astore_n 3, 1) := by decide +kernel
theorem dX5_digest_41 : decode cX5_digest 41 = .ok (.aload_n 3, 1) := by decide +kernel
theorem dX5_digest_42 : decode cX5_digest 42 = .ok (.arraylength, 1) := by decide +kernel
theorem dX5_digest_43 : decode cX5_digest 43 = .ok (.istore 4, 2) := by decide +kernel
theorem dX5_digest_45 : decode cX5_digest 45 = .ok (.iconst 0, 1) := by decide +kernel
theorem dX5_digest_46 : decode cX5_digest 46 = .ok (.istore 5, 2) := by decide +kernel
theorem dX5_digest_48 : decode cX5_digest 48 = .ok (.iload 5, 2) := by decide +kernel
theorem dX5_digest_50 : decode cX5_digest 50 = .ok (.iload 4, 2) := by decide +kernel
theorem dX5_digest_52 : decode cX5_digest 52 = .ok (.if_icmp .ge 25, 3) := by decide +kernel
theorem dX5_digest_55 : decode cX5_digest 55 = .ok (.aload_n 3, 1) := by decide +kernel
theorem dX5_digest_56 : decode cX5_digest 56 = .ok (.iload 5, 2) := by decide +kernel
theorem dX5_digest_58 : decode cX5_digest 58 = .ok (.iaload, 1) := by decide +kernel
theorem dX5_digest_59 : decode cX5_digest 59 = .ok (.istore 6, 2) := by decide +kernel
theorem dX5_digest_61 : decode cX5_digest 61 = .ok (.lload_n 1, 1) := by decide +kernel
theorem dX5_digest_62 : decode cX5_digest 62 = .ok (.ldc2_w 174, 3) := by decide +kernel
theorem dX5_digest_65 : decode cX5_digest 65 = .ok (.lmul, 1) := by decide +kernel
theorem dX5_digest_66 : decode cX5_digest 66 = .ok (.iload 6, 2) := by decide +kernel
theorem dX5_digest_68 : decode cX5_digest 68 = .ok (.i2l, 1) := by decide +kernel
theorem dX5_digest_69 : decode cX5_digest 69 = .ok (.ladd, 1) := by decide +kernel
theorem dX5_digest_70 : decode cX5_digest 70 = .ok (.lstore_n 1, 1) := by decide +kernel
theorem dX5_digest_71 : decode cX5_digest 71 = .ok (.iinc 5 1, 3) := by decide +kernel
theorem dX5_digest_74 : decode cX5_digest 74 = .ok (.goto (-26), 3) := by decide +kernel
theorem dX5_digest_77 : decode cX5_digest 77 = .ok (.aload_n 0, 1) := by decide +kernel
theorem dX5_digest_78 : decode cX5_digest 78 = .ok (.getfield 20, 3) := by decide +kernel
theorem dX5_digest_81 : decode cX5_digest 81 = .ok (.astore_n 3, 1) := by decide +kernel
theorem dX5_digest_82 : decode cX5_digest 82 = .ok (.aload_n 3, 1) := by decide +kernel
theorem dX5_digest_83 : decode cX5_digest 83 = .ok (.arraylength, 1) := by decide +kernel
theorem dX5_digest_84 : decode cX5_digest 84 = .ok (.istore 4, 2) := by decide +kernel
theorem dX5_digest_86 : decode cX5_digest 86 = .ok (.iconst 0, 1) := by decide +kernel
theorem dX5_digest_87 : decode cX5_digest 87 = .ok (.istore 5, 2) := by decide +kernel
theorem dX5_digest_89 : decode cX5_digest 89 = .ok (.iload 5, 2) := by decide +kernel
theorem dX5_digest_91 : decode cX5_digest 91 = .ok (.iload 4, 2) := by decide +kernel
theorem dX5_digest_93 : decode cX5_digest 93 = .ok (.if_icmp .ge 25, 3) := by decide +kernel
theorem dX5_digest_96 : decode cX5_digest 96 = .ok (.aload_n 3, 1) := by decide +kernel
theorem dX5_digest_97 : decode cX5_digest 97 = .ok (.iload 5, 2) := by decide +kernel
theorem dX5_digest_99 : decode cX5_digest 99 = .ok (.iaload, 1) := by decide +kernel
theorem dX5_digest_100 : decode cX5_digest 100 = .ok (.istore 6, 2) := by decide +kernel
theorem dX5_digest_102 : decode cX5_digest 102 = .ok (.lload_n 1, 1) := by decide +kernel
theorem dX5_digest_103 : decode cX5_digest 103 = .ok (.ldc2_w 174, 3) := by decide +kernel
theorem dX5_digest_106 : decode cX5_digest 106 = .ok (.lmul, 1) := by decide +kernel
theorem dX5_digest_107 : decode cX5_digest 107 = .ok (.iload 6, 2) := by decide +kernel
theorem dX5_digest_109 : decode cX5_digest 109 = .ok (.i2l, 1) := by decide +kernel
theorem dX5_digest_110 : decode cX5_digest 110 = .ok (.ladd, 1) := by decide +kernel
theorem dX5_digest_111 : decode cX5_digest 111 = .ok (.lstore_n 1, 1) := by decide +kernel
theorem dX5_digest_112 : decode cX5_digest 112 = .ok (.iinc 5 1, 3) := by decide +kernel
theorem dX5_digest_115 : decode cX5_digest 115 = .ok (.goto (-26), 3) := by decide +kernel
theorem dX5_digest_118 : decode cX5_digest 118 = .ok (.iconst 0, 1) := by decide +kernel
theorem dX5_digest_119 : decode cX5_digest 119 = .ok (.istore_n 3, 1) := by decide +kernel
theorem dX5_digest_120 : decode cX5_digest 120 = .ok (.iload_n 3, 1) := by decide +kernel
theorem dX5_digest_121 : decode cX5_digest 121 = .ok (.aload_n 0, 1) := by decide +kernel
theorem dX5_digest_122 : decode cX5_digest 122 = .ok (.getfield 138, 3) := by decide +kernel
theorem dX5_digest_125 : decode cX5_digest 125 = .ok (.if_icmp .ge 23, 3) := by decide +kernel
theorem dX5_digest_128 : decode cX5_digest 128 = .ok (.lload_n 1, 1) := by decide +kernel
theorem dX5_digest_129 : decode cX5_digest 129 = .ok (.ldc2_w 174, 3) := by decide +kernel
theorem dX5_digest_132 : decode cX5_digest 132 = .ok (.lmul, 1) := by decide +kernel
theorem dX5_digest_133 : decode cX5_digest 133 = .ok (.aload_n 0, 1) := by decide +kernel
theorem dX5_digest_134 : decode cX5_digest 134 = .ok (.getfield 38, 3) := by decide +kernel
theorem dX5_digest_137 : decode cX5_digest 137 = .ok (.iload_n 3, 1) := by decide +kernel
theorem dX5_digest_138 : decode cX5_digest 138 = .ok (.iaload, 1) := by decide +kernel
theorem dX5_digest_139 : decode cX5_digest 139 = .ok (.i2l, 1) := by decide +kernel
theorem dX5_digest_140 : decode cX5_digest 140 = .ok (.ladd, 1) := by decide +kernel
theorem dX5_digest_141 : decode cX5_digest 141 = .ok (.lstore_n 1, 1) := by decide +kernel
theorem dX5_digest_142 : decode cX5_digest 142 = .ok (.iinc 3 1, 3) := by decide +kernel
theorem dX5_digest_145 : decode cX5_digest 145 = .ok (.goto (-25), 3) := by decide +kernel
theorem dX5_digest_148 : decode cX5_digest 148 = .ok (.iconst 0, 1) := by decide +kernel
theorem dX5_digest_149 : decode cX5_digest 149 = .ok (.istore_n 3, 1) := by decide +kernel
theorem dX5_digest_150 : decode cX5_digest 150 = .ok (.iload_n 3, 1) := by decide +kernel
theorem dX5_digest_151 : decode cX5_digest 151 = .ok (.bipush 96, 2) := by decide +kernel
theorem dX5_digest_153 : decode cX5_digest 153 = .ok (.if_icmp .ge 30, 3) := by decide +kernel
theorem dX5_digest_156 : decode cX5_digest 156 = .ok (.aload_n 0, 1) := by decide +kernel
theorem dX5_digest_157 : decode cX5_digest 157 = .ok (.getfield 135, 3) := by decide +kernel
theorem dX5_digest_160 : decode cX5_digest 160 = .ok (.ifCond .le 23, 3) := by decide +kernel
theorem dX5_digest_163 : decode cX5_digest 163 = .ok (.lload_n 1, 1) := by decide +kernel
theorem dX5_digest_164 : decode cX5_digest 164 = .ok (.ldc2_w 174, 3) := by decide +kernel
theorem dX5_digest_167 : decode cX5_digest 167 = .ok (.lmul, 1) := by decide +kernel
theorem dX5_digest_168 : decode cX5_digest 168 = .ok (.aload_n 0, 1) := by decide +kernel
theorem dX5_digest_169 : decode cX5_digest 169 = .ok (.getfield 41, 3) := by decide +kernel
theorem dX5_digest_172 : decode cX5_digest 172 = .ok (.iload_n 3, 1) := by decide +kernel
theorem dX5_digest_173 : decode cX5_digest 173 = .ok (.iaload, 1) := by decide +kernel
theorem dX5_digest_174 : decode cX5_digest 174 = .ok (.i2l, 1) := by decide +kernel
theorem dX5_digest_175 : decode cX5_digest 175 = .ok (.ladd, 1) := by decide +kernel
theorem dX5_digest_176 : decode cX5_digest 176 = .ok (.lstore_n 1, 1) := by decide +kernel
theorem dX5_digest_177 : decode cX5_digest 177 = .ok (.iinc 3 1, 3) := by decide +kernel
theorem dX5_digest_180 : decode cX5_digest 180 = .ok (.goto (-30), 3) := by decide +kernel
theorem dX5_digest_183 : decode cX5_digest 183 = .ok (.lload_n 1, 1) := by decide +kernel
theorem dX5_digest_184 : decode cX5_digest 184 = .ok (.lreturn, 1) := by decide +kernel
theorem dJ9_abs_0f7a4_0 : decode cJ9_abs_0f7a4 0 = .ok (.iload_n 0, 1) := by decide +kernel
theorem dJ9_abs_0f7a4_1 : decode cJ9_abs_0f7a4 1 = .ok (.ifCond .ge 8, 3) := by decide +kernel
theorem dJ9_abs_0f7a4_4 : decode cJ9_abs_0f7a4 4 = .ok (.iload_n 0, 1) := by decide +kernel
theorem dJ9_abs_0f7a4_5 : decode cJ9_abs_0f7a4 5 = .ok (.ineg, 1) := by decide +kernel
theorem dJ9_abs_0f7a4_6 : decode cJ9_abs_0f7a4 6 = .ok (.goto 4, 3) := by decide +kernel
theorem dJ9_abs_0f7a4_9 : decode cJ9_abs_0f7a4 9 = .ok (.iload_n 0, 1) := by decide +kernel
theorem dJ9_abs_0f7a4_10 : decode cJ9_abs_0f7a4 10 = .ok (.ireturn, 1) := by decide +kernel
theorem dJ9_max_7cf53_0 : decode cJ9_max_7cf53 0 = .ok (.iload_n 0, 1) := by decide +kernel
theorem dJ9_max_7cf53_1 : decode cJ9_max_7cf53 1 = .ok (.iload_n 1, 1) := by decide +kernel
theorem dJ9_max_7cf53_2 : decode cJ9_max_7cf53 2 = .ok (.if_icmp .lt 7, 3) := by decide +kernel
theorem dJ9_max_7cf53_5 : decode cJ9_max_7cf53 5 = .ok (.iload_n 0, 1) := by decide +kernel
theorem dJ9_max_7cf53_6 : decode cJ9_max_7cf53 6 = .ok (.goto 4, 3) := by decide +kernel
theorem dJ9_max_7cf53_9 : decode cJ9_max_7cf53 9 = .ok (.iload_n 1, 1) := by decide +kernel
theorem dJ9_max_7cf53_10 : decode cJ9_max_7cf53 10 = .ok (.ireturn, 1) := by decide +kernel
theorem dJ9_min_7cf53_0 : decode cJ9_min_7cf53 0 = .ok (.iload_n 0, 1) := by decide +kernel
theorem dJ9_min_7cf53_1 : decode cJ9_min_7cf53 1 = .ok (.iload_n 1, 1) := by decide +kernel
theorem dJ9_min_7cf53_2 : decode cJ9_min_7cf53 2 = .ok (.if_icmp .gt 7, 3) := by decide +kernel
theorem dJ9_min_7cf53_5 : decode cJ9_min_7cf53 5 = .ok (.iload_n 0, 1) := by decide +kernel
theorem dJ9_min_7cf53_6 : decode cJ9_min_7cf53 6 = .ok (.goto 4, 3) := by decide +kernel
theorem dJ9_min_7cf53_9 : decode cJ9_min_7cf53 9 = .ok (.iload_n 1, 1) := by decide +kernel
theorem dJ9_min_7cf53_10 : decode cJ9_min_7cf53 10 = .ok (.ireturn, 1) := by decide +kernel
set_option maxRecDepth 20000 in
theorem ggL_set_X4_set : GoodIn wsL_set wsX4_set := goodIn_ca (goodIn_ca (goodIn_r _ [7, 8, 9, 10, 6, 11, 12, 13, 14, 15, 16, 17, 18, 19, 20, 21, 22, 23, 24, 25, 26, 27, 28, 29, 30, 31, 32, 33, 34, 35, 36, 37, 38, 39, 40, 41, 42, 43, 44, 45, 46, 47, 48, 49] (by decide +kernel) (by decide +kernel)) (goodIn_sub (fun _ h => List.mem_cons_of_mem _ (List.mem_append_left _ (List.mem_append_right _ h))) (by decide +kernel))) (goodIn_sub (fun _ h => List.mem_cons_of_mem _ (List.mem_append_right _ h)) (by decide +kernel))
set_option maxRecDepth 20000 in
theorem gL_set_X4_set : GoodIn wsL_set (wsV RL 7 RX4 yX4_set wsX4_set) := goodIn_app (goodIn_of _ (by decide +kernel)) ggL_set_X4_set
theorem dL_set_0 : decode cL_set 0 = .ok (.aload 4, 2) := by decide +kernel
theorem dL_set_2 : decode cL_set 2 = .ok (.iconst 0, 1) := by decide +kernel
theorem dL_set_3 : decode cL_set 3 = .ok (.aload_n 0, 1) := by decide +kernel
theorem dL_set_4 : decode cL_set 4 = .ok (.iload_n 1, 1) := by decide +kernel
theorem dL_set_5 : decode cL_set 5 = .ok (.iload_n 2, 1) := by decide +kernel
theorem dL_set_6 : decode cL_set 6 = .ok (.iload_n 3, 1) := by decide +kernel
theorem dL_set_7 : decode cL_set 7 = .ok (.invokevirtual 7, 3) := by decide +kernel
theorem dL_set_10 : decode cL_set 10 = .ok (.i2l, 1) := by decide +kernel
theorem dL_set_11 : decode cL_set 11 = .ok (.lastore, 1) := by decide +kernel
theorem dL_set_12 : decode cL_set 12 = .ok (.goto 11, 3) := by decide +kernel
theorem dL_set_15 : decode cL_set 15 = .ok (.astore 5, 2) := by decide +kernel
theorem dL_set_17 : decode cL_set 17 = .ok (.iconst 1, 1) := by decide +kernel
theorem dL_set_18 : decode cL_set 18 = .ok (.ireturn, 1) := by decide +kernel
theorem dL_set_19 : decode cL_set 19 = .ok (.astore 5, 2) := by decide +kernel
theorem dL_set_21 : decode cL_set 21 = .ok (.iconst 2, 1) := by decide +kernel
theorem dL_set_22 : decode cL_set 22 = .ok (.ireturn, 1) := by decide +kernel
theorem dL_set_23 : decode cL_set 23 = .ok (.iconst 0, 1) := by decide +kernel
theorem dL_set_24 : decode cL_set 24 = .ok (.ireturn, 1) := by decide +kernel
set_option maxRecDepth 20000 in
theorem ggL_row_X4_row : GoodIn wsL_row wsX4_row := goodIn_ca (goodIn_ca (goodIn_r _ [7, 8, 9, 10, 6, 11, 12, 13, 14, 15, 16, 17, 18, 19, 20, 21, 22, 23, 24, 25, 26, 27, 28, 29, 30, 31, 32, 33, 34, 35, 36, 37, 38, 39, 40, 41, 42, 43, 44, 45, 46, 47, 48, 49, 50, 51, 52, 53, 54, 55, 56, 57, 58, 59, 60, 61, 62, 63, 64] (by decide +kernel) (by decide +kernel)) (goodIn_sub (fun _ h => List.mem_cons_of_mem _ (List.mem_append_left _ (List.mem_append_right _ h))) (by decide +kernel))) (goodIn_sub (fun _ h => List.mem_cons_of_mem _ (List.mem_append_right _ h)) (by decide +kernel))
set_option maxRecDepth 20000 in
theorem gL_row_X4_row : GoodIn wsL_row (wsV RL 17 RX4 yX4_row wsX4_row) := goodIn_app (goodIn_of _ (by decide +kernel)) ggL_row_X4_row
theorem dL_row_0 : decode cL_row 0 = .ok (.aload 4, 2) := by decide +kernel
theorem dL_row_2 : decode cL_row 2 = .ok (.iconst 0, 1) := by decide +kernel
theorem dL_row_3 : decode cL_row 3 = .ok (.aload_n 0, 1) := by decide +kernel
theorem dL_row_4 : decode cL_row 4 = .ok (.iload_n 1, 1) := by decide +kernel
theorem dL_row_5 : decode cL_row 5 = .ok (.iload_n 2, 1) := by decide +kernel
theorem dL_row_6 : decode cL_row 6 = .ok (.iload_n 3, 1) := by decide +kernel
theorem dL_row_7 : decode cL_row 7 = .ok (.invokevirtual 17, 3) := by decide +kernel
theorem dL_row_10 : decode cL_row 10 = .ok (.i2l, 1) := by decide +kernel
theorem dL_row_11 : decode cL_row 11 = .ok (.lastore, 1) := by decide +kernel
theorem dL_row_12 : decode cL_row 12 = .ok (.goto 11, 3) := by decide +kernel
theorem dL_row_15 : decode cL_row 15 = .ok (.astore 5, 2) := by decide +kernel
theorem dL_row_17 : decode cL_row 17 = .ok (.iconst 1, 1) := by decide +kernel
theorem dL_row_18 : decode cL_row 18 = .ok (.ireturn, 1) := by decide +kernel
theorem dL_row_19 : decode cL_row 19 = .ok (.astore 5, 2) := by decide +kernel
theorem dL_row_21 : decode cL_row 21 = .ok (.iconst 2, 1) := by decide +kernel
theorem dL_row_22 : decode cL_row 22 = .ok (.ireturn, 1) := by decide +kernel
theorem dL_row_23 : decode cL_row 23 = .ok (.iconst 0, 1) := by decide +kernel
theorem dL_row_24 : decode cL_row 24 = .ok (.ireturn, 1) := by decide +kernel
set_option maxRecDepth 20000 in
theorem ggL_like_X4_like : GoodIn wsL_like wsX4_like := goodIn_ca (goodIn_r _ [6, 7, 8, 9, 5, 10, 11, 12, 13, 14, 15, 16, 17, 18, 19, 20, 21, 22, 23, 24, 25, 26, 27, 28, 29, 30, 31, 32, 33, 34, 35, 36, 37, 38, 39, 40, 41, 42] (by decide +kernel) (by decide +kernel)) (goodIn_sub (fun _ h => List.mem_cons_of_mem _ (List.mem_append_right _ h)) (by decide +kernel))
set_option maxRecDepth 20000 in
theorem gL_like_X4_like : GoodIn wsL_like (wsV RL 20 RX4 yX4_like wsX4_like) := goodIn_app (goodIn_of _ (by decide +kernel)) ggL_like_X4_like
theorem dL_like_0 : decode cL_like 0 = .ok (.aload_n 3, 1) := by decide +kernel
theorem dL_like_1 : decode cL_like 1 = .ok (.iconst 0, 1) := by decide +kernel
theorem dL_like_2 : decode cL_like 2 = .ok (.aload_n 0, 1) := by decide +kernel
theorem dL_like_3 : decode cL_like 3 = .ok (.iload_n 1, 1) := by decide +kernel
theorem dL_like_4 : decode cL_like 4 = .ok (.iload_n 2, 1) := by decide +kernel
theorem dL_like_5 : decode cL_like 5 = .ok (.invokevirtual 20, 3) := by decide +kernel
theorem dL_like_8 : decode cL_like 8 = .ok (.i2l, 1) := by decide +kernel
theorem dL_like_9 : decode cL_like 9 = .ok (.lastore, 1) := by decide +kernel
theorem dL_like_10 : decode cL_like 10 = .ok (.goto 7, 3) := by decide +kernel
theorem dL_like_13 : decode cL_like 13 = .ok (.astore 4, 2) := by decide +kernel
theorem dL_like_15 : decode cL_like 15 = .ok (.iconst 1, 1) := by decide +kernel
theorem dL_like_16 : decode cL_like 16 = .ok (.ireturn, 1) := by decide +kernel
theorem dL_like_17 : decode cL_like 17 = .ok (.iconst 0, 1) := by decide +kernel
theorem dL_like_18 : decode cL_like 18 = .ok (.ireturn, 1) := by decide +kernel
set_option maxRecDepth 20000 in
theorem ggL_setColours_X4_setColours : GoodIn wsL_setColours wsX4_setColours := goodIn_ca (goodIn_r _ [6, 7, 8, 9, 5, 10, 11, 12, 13, 14, 15, 16, 17, 18, 19, 20, 21, 22, 23, 24, 25] (by decide +kernel) (by decide +kernel)) (goodIn_sub (fun _ h => List.mem_cons_of_mem _ (List.mem_append_right _ h)) (by decide +kernel))
set_option maxRecDepth 20000 in
theorem gL_setColours_X4_setColours : GoodIn wsL_setColours (wsV RL 24 RX4 yX4_setColours wsX4_setColours) := goodIn_app (goodIn_of _ (by decide +kernel)) ggL_setColours_X4_setColours
theorem dL_setColours_0 : decode cL_setColours 0 = .ok (.aload_n 2, 1) := by decide +kernel
theorem dL_setColours_1 : decode cL_setColours 1 = .ok (.iconst 0, 1) := by decide +kernel
theorem dL_setColours_2 : decode cL_setColours 2 = .ok (.aload_n 0, 1) := by decide +kernel
theorem dL_setColours_3 : decode cL_setColours 3 = .ok (.iload_n 1, 1) := by decide +kernel
theorem dL_setColours_4 : decode cL_setColours 4 = .ok (.invokevirtual 24, 3) := by decide +kernel
theorem dL_setColours_7 : decode cL_setColours 7 = .ok (.i2l, 1) := by decide +kernel
theorem dL_setColours_8 : decode cL_setColours 8 = .ok (.lastore, 1) := by decide +kernel
theorem dL_setColours_9 : decode cL_setColours 9 = .ok (.goto 6, 3) := by decide +kernel
theorem dL_setColours_12 : decode cL_setColours 12 = .ok (.astore_n 3, 1) := by decide +kernel
theorem dL_setColours_13 : decode cL_setColours 13 = .ok (.iconst 1, 1) := by decide +kernel
theorem dL_setColours_14 : decode cL_setColours 14 = .ok (.ireturn, 1) := by decide +kernel
theorem dL_setColours_15 : decode cL_setColours 15 = .ok (.iconst 0, 1) := by decide +kernel
theorem dL_setColours_16 : decode cL_setColours 16 = .ok (.ireturn, 1) := by decide +kernel
set_option maxRecDepth 20000 in
theorem ggL_setCarry_X4_setCarry : GoodIn wsL_setCarry wsX4_setCarry := goodIn_ca (goodIn_r _ [6, 7, 8, 9, 5, 10, 11, 12, 13, 14, 15, 16, 17, 18, 19, 20, 21, 22] (by decide +kernel) (by decide +kernel)) (goodIn_sub (fun _ h => List.mem_cons_of_mem _ (List.mem_append_right _ h)) (by decide +kernel))
set_option maxRecDepth 20000 in
theorem gL_setCarry_X4_setCarry : GoodIn wsL_setCarry (wsV RL 28 RX4 yX4_setCarry wsX4_setCarry) := goodIn_app (goodIn_of _ (by decide +kernel)) ggL_setCarry_X4_setCarry
theorem dL_setCarry_0 : decode cL_setCarry 0 = .ok (.aload_n 2, 1) := by decide +kernel
theorem dL_setCarry_1 : decode cL_setCarry 1 = .ok (.iconst 0, 1) := by decide +kernel
theorem dL_setCarry_2 : decode cL_setCarry 2 = .ok (.aload_n 0, 1) := by decide +kernel
theorem dL_setCarry_3 : decode cL_setCarry 3 = .ok (.iload_n 1, 1) := by decide +kernel
theorem dL_setCarry_4 : decode cL_setCarry 4 = .ok (.invokevirtual 28, 3) := by decide +kernel
theorem dL_setCarry_7 : decode cL_setCarry 7 = .ok (.i2l, 1) := by decide +kernel
theorem dL_setCarry_8 : decode cL_setCarry 8 = .ok (.lastore, 1) := by decide +kernel
theorem dL_setCarry_9 : decode cL_setCarry 9 = .ok (.goto 6, 3) := by decide +kernel
theorem dL_setCarry_12 : decode cL_setCarry 12 = .ok (.astore_n 3, 1) := by decide +kernel
theorem dL_setCarry_13 : decode cL_setCarry 13 = .ok (.iconst 1, 1) := by decide +kernel
theorem dL_setCarry_14 : decode cL_setCarry 14 = .ok (.ireturn, 1) := by decide +kernel
theorem dL_setCarry_15 : decode cL_setCarry 15 = .ok (.iconst 0, 1) := by decide +kernel
theorem dL_setCarry_16 : decode cL_setCarry 16 = .ok (.ireturn, 1) := by decide +kernel
set_option maxRecDepth 20000 in
theorem ggL_wind_X4_wind : GoodIn wsL_wind wsX4_wind := goodIn_ca (goodIn_ca (goodIn_r _ [7, 8, 9, 10, 6, 11, 12, 13, 14, 15, 16, 17, 18, 19, 20, 21, 22, 23, 24, 25, 26, 27, 28, 29, 30, 31, 32, 33, 34, 35, 36, 37, 38, 39, 40, 41, 42, 43, 44, 45, 46, 47, 48, 49, 50, 51, 52, 53, 54] (by decide +kernel) (by decide +kernel)) (goodIn_sub (fun _ h => List.mem_cons_of_mem _ (List.mem_append_left _ (List.mem_append_right _ h))) (by decide +kernel))) (goodIn_sub (fun _ h => List.mem_cons_of_mem _ (List.mem_append_right _ h)) (by decide +kernel))
set_option maxRecDepth 20000 in
theorem gL_wind_X4_wind : GoodIn wsL_wind (wsV RL 31 RX4 yX4_wind wsX4_wind) := goodIn_app (goodIn_of _ (by decide +kernel)) ggL_wind_X4_wind
theorem dL_wind_0 : decode cL_wind 0 = .ok (.aload_n 3, 1) := by decide +kernel
theorem dL_wind_1 : decode cL_wind 1 = .ok (.iconst 0, 1) := by decide +kernel
theorem dL_wind_2 : decode cL_wind 2 = .ok (.aload_n 0, 1) := by decide +kernel
theorem dL_wind_3 : decode cL_wind 3 = .ok (.iload_n 1, 1) := by decide +kernel
theorem dL_wind_4 : decode cL_wind 4 = .ok (.iload_n 2, 1) := by decide +kernel
theorem dL_wind_5 : decode cL_wind 5 = .ok (.invokevirtual 31, 3) := by decide +kernel
theorem dL_wind_8 : decode cL_wind 8 = .ok (.i2l, 1) := by decide +kernel
theorem dL_wind_9 : decode cL_wind 9 = .ok (.lastore, 1) := by decide +kernel
theorem dL_wind_10 : decode cL_wind 10 = .ok (.goto 11, 3) := by decide +kernel
theorem dL_wind_13 : decode cL_wind 13 = .ok (.astore 4, 2) := by decide +kernel
theorem dL_wind_15 : decode cL_wind 15 = .ok (.iconst 1, 1) := by decide +kernel
theorem dL_wind_16 : decode cL_wind 16 = .ok (.ireturn, 1) := by decide +kernel
theorem dL_wind_17 : decode cL_wind 17 = .ok (.astore 4, 2) := by decide +kernel
theorem dL_wind_19 : decode cL_wind 19 = .ok (.iconst 2, 1) := by decide +kernel
theorem dL_wind_20 : decode cL_wind 20 = .ok (.ireturn, 1) := by decide +kernel
theorem dL_wind_21 : decode cL_wind 21 = .ok (.iconst 0, 1) := by decide +kernel
theorem dL_wind_22 : decode cL_wind 22 = .ok (.ireturn, 1) := by decide +kernel
set_option maxRecDepth 20000 in
theorem ggL_weave_X4_weave : GoodIn wsL_weave wsX4_weave := goodIn_ca (goodIn_r _ [6, 7, 8, 9, 10, 11, 12, 13, 14, 15, 16, 17, 18, 19, 20, 21, 22, 23, 24, 25, 26, 27, 28, 29, 30, 31, 32, 33, 34, 35, 36, 37, 5, 38, 39, 40, 41, 42, 43, 44, 45, 46, 47, 48, 49, 50, 51, 52, 53, 54, 55, 56, 57, 58, 59, 60, 61, 62, 63, 64, 65, 66, 67, 68, 69, 70, 71, 72, 73, 74, 75, 76, 77, 78, 79, 80, 81, 82, 83, 84, 85, 86, 87, 88, 89, 90, 91, 92, 93, 94, 95, 96, 97, 98, 99, 100, 101, 102, 103, 104, 105, 106, 107, 108, 109, 110, 111, 112, 113, 114, 115, 116, 117, 118, 119, 120, 121, 122, 123, 124, 125, 126, 127, 128, 129, 130, 131, 132, 133, 134, 135, 136, 137, 138, 139, 140, 141, 142, 143, 144, 145, 146, 147, 148, 149, 150, 151, 152, 153, 154, 155, 156, 157, 158, 159, 160, 161, 162, 163, 164, 165, 166, 167, 168, 169, 170, 171, 172, 173, 174, 175, 176, 177, 178, 179, 180, 181, 182, 183, 184, 185, 186, 187, 188, 189, 190, 191, 192, 193, 194] (by decide +kernel) (by decide +kernel)) (goodIn_sub (fun _ h => List.mem_cons_of_mem _ (List.mem_append_right _ h)) (by decide +kernel))
set_option maxRecDepth 20000 in
theorem gL_weave_X4_weave : GoodIn wsL_weave (wsV RL 34 RX4 yX4_weave wsX4_weave) := goodIn_app (goodIn_of _ (by decide +kernel)) ggL_weave_X4_weave
theorem dL_weave_0 : decode cL_weave 0 = .ok (.aload_n 1, 1) := by decide +kernel
theorem dL_weave_1 : decode cL_weave 1 = .ok (.iconst 0, 1) := by decide +kernel
theorem dL_weave_2 : decode cL_weave 2 = .ok (.aload_n 0, 1) := by decide +kernel
theorem dL_weave_3 : decode cL_weave 3 = .ok (.invokevirtual 34, 3) := by decide +kernel
theorem dL_weave_6 : decode cL_weave 6 = .ok (.i2l, 1) := by decide +kernel
theorem dL_weave_7 : decode cL_weave 7 = .ok (.lastore, 1) := by decide +kernel
theorem dL_weave_8 : decode cL_weave 8 = .ok (.goto 6, 3) := by decide +kernel
theorem dL_weave_11 : decode cL_weave 11 = .ok (.astore_n 2, 1) := by decide +kernel
theorem dL_weave_12 : decode cL_weave 12 = .ok (.iconst 1, 1) := by decide +kernel
theorem dL_weave_13 : decode cL_weave 13 = .ok (.ireturn, 1) := by decide +kernel
theorem dL_weave_14 : decode cL_weave 14 = .ok (.iconst 0, 1) := by decide +kernel
theorem dL_weave_15 : decode cL_weave 15 = .ok (.ireturn, 1) := by decide +kernel
set_option maxRecDepth 20000 in
theorem ggL_shade_X4_shade : GoodIn wsL_shade wsX4_shade := goodIn_ca (goodIn_r _ [6, 7, 8, 9, 5, 10, 11, 12, 13, 14, 15, 16, 17, 18, 19, 20, 21, 22, 23, 24, 25, 26, 27, 28, 29, 30, 31, 32, 33, 34] (by decide +kernel) (by decide +kernel)) (goodIn_sub (fun _ h => List.mem_cons_of_mem _ (List.mem_append_right _ h)) (by decide +kernel))
set_option maxRecDepth 20000 in
theorem gL_shade_X4_shade : GoodIn wsL_shade (wsV RL 40 RX4 yX4_shade wsX4_shade) := goodIn_app (goodIn_of _ (by decide +kernel)) ggL_shade_X4_shade
theorem dL_shade_0 : decode cL_shade 0 = .ok (.aload_n 3, 1) := by decide +kernel
theorem dL_shade_1 : decode cL_shade 1 = .ok (.iconst 0, 1) := by decide +kernel
theorem dL_shade_2 : decode cL_shade 2 = .ok (.aload_n 0, 1) := by decide +kernel
theorem dL_shade_3 : decode cL_shade 3 = .ok (.iload_n 1, 1) := by decide +kernel
theorem dL_shade_4 : decode cL_shade 4 = .ok (.iload_n 2, 1) := by decide +kernel
theorem dL_shade_5 : decode cL_shade 5 = .ok (.invokevirtual 40, 3) := by decide +kernel
theorem dL_shade_8 : decode cL_shade 8 = .ok (.i2l, 1) := by decide +kernel
theorem dL_shade_9 : decode cL_shade 9 = .ok (.lastore, 1) := by decide +kernel
theorem dL_shade_10 : decode cL_shade 10 = .ok (.goto 7, 3) := by decide +kernel
theorem dL_shade_13 : decode cL_shade 13 = .ok (.astore 4, 2) := by decide +kernel
theorem dL_shade_15 : decode cL_shade 15 = .ok (.iconst 1, 1) := by decide +kernel
theorem dL_shade_16 : decode cL_shade 16 = .ok (.ireturn, 1) := by decide +kernel
theorem dL_shade_17 : decode cL_shade 17 = .ok (.iconst 0, 1) := by decide +kernel
theorem dL_shade_18 : decode cL_shade 18 = .ok (.ireturn, 1) := by decide +kernel
set_option maxRecDepth 20000 in
theorem ggL_palette_X4_palette : GoodIn wsL_palette wsX4_palette := goodIn_ca (goodIn_r _ [6, 7, 8, 9, 10, 11, 5, 12, 13, 14, 15, 16, 17, 18, 19, 20, 21, 22, 23, 24, 25, 26, 27, 28, 29, 30, 31, 32, 33, 34, 35, 36, 37, 38, 39, 40, 41, 42, 43, 44, 45, 46, 47, 48, 49, 50, 51, 52, 53, 54, 55, 56, 57, 58, 59, 60, 61, 62, 63, 64, 65, 66, 67, 68, 69, 70, 71, 72, 73, 74, 75, 76, 77, 78, 79, 80, 81, 82, 83, 84, 85, 86, 87, 88, 89, 90, 91, 92, 93] (by decide +kernel) (by decide +kernel)) (goodIn_sub (fun _ h => List.mem_cons_of_mem _ (List.mem_append_right _ h)) (by decide +kernel))
set_option maxRecDepth 20000 in
theorem gL_palette_X4_palette : GoodIn wsL_palette (wsV RL 43 RX4 yX4_palette wsX4_palette) := goodIn_app (goodIn_of _ (by decide +kernel)) ggL_palette_X4_palette
theorem dL_palette_0 : decode cL_palette 0 = .ok (.aload_n 2, 1) := by decide +kernel
theorem dL_palette_1 : decode cL_palette 1 = .ok (.iconst 0, 1) := by decide +kernel
theorem dL_palette_2 : decode cL_palette 2 = .ok (.aload_n 0, 1) := by decide +kernel
theorem dL_palette_3 : decode cL_palette 3 = .ok (.iload_n 1, 1) := by decide +kernel
theorem dL_palette_4 : decode cL_palette 4 = .ok (.invokevirtual 43, 3) := by decide +kernel
theorem dL_palette_7 : decode cL_palette 7 = .ok (.i2l, 1) := by decide +kernel
theorem dL_palette_8 : decode cL_palette 8 = .ok (.lastore, 1) := by decide +kernel
theorem dL_palette_9 : decode cL_palette 9 = .ok (.goto 6, 3) := by decide +kernel
theorem dL_palette_12 : decode cL_palette 12 = .ok (.astore_n 3, 1) := by decide +kernel
theorem dL_palette_13 : decode cL_palette 13 = .ok (.iconst 1, 1) := by decide +kernel
theorem dL_palette_14 : decode cL_palette 14 = .ok (.ireturn, 1) := by decide +kernel
theorem dL_palette_15 : decode cL_palette 15 = .ok (.iconst 0, 1) := by decide +kernel
theorem dL_palette_16 : decode cL_palette 16 = .ok (.ireturn, 1) := by decide +kernel
set_option maxRecDepth 20000 in
theorem ggL_cell_X4_cell : GoodIn wsL_cell wsX4_cell := goodIn_ca (goodIn_ca (goodIn_r _ [7, 8, 9, 10, 6, 11, 12, 13, 14, 15, 16, 17, 18, 19, 20, 21, 22, 23, 24, 25, 26, 27, 28, 29, 30, 31, 32, 33, 34, 35, 36, 37, 38, 39, 40, 41, 42, 43, 44, 45, 46, 47, 48, 49, 50, 51, 52, 53, 54, 55, 56, 57, 58] (by decide +kernel) (by decide +kernel)) (goodIn_sub (fun _ h => List.mem_cons_of_mem _ (List.mem_append_left _ (List.mem_append_right _ h))) (by decide +kernel))) (goodIn_sub (fun _ h => List.mem_cons_of_mem _ (List.mem_append_right _ h)) (by decide +kernel))
set_option maxRecDepth 20000 in
theorem gL_cell_X4_cell : GoodIn wsL_cell (wsV RL 46 RX4 yX4_cell wsX4_cell) := goodIn_app (goodIn_of _ (by decide +kernel)) ggL_cell_X4_cell
theorem dL_cell_0 : decode cL_cell 0 = .ok (.aload_n 3, 1) := by decide +kernel
theorem dL_cell_1 : decode cL_cell 1 = .ok (.iconst 0, 1) := by decide +kernel
theorem dL_cell_2 : decode cL_cell 2 = .ok (.aload_n 0, 1) := by decide +kernel
theorem dL_cell_3 : decode cL_cell 3 = .ok (.iload_n 1, 1) := by decide +kernel
theorem dL_cell_4 : decode cL_cell 4 = .ok (.iload_n 2, 1) := by decide +kernel
theorem dL_cell_5 : decode cL_cell 5 = .ok (.invokevirtual 46, 3) := by decide +kernel
theorem dL_cell_8 : decode cL_cell 8 = .ok (.i2l, 1) := by decide +kernel
theorem dL_cell_9 : decode cL_cell 9 = .ok (.lastore, 1) := by decide +kernel
theorem dL_cell_10 : decode cL_cell 10 = .ok (.goto 11, 3) := by decide +kernel
theorem dL_cell_13 : decode cL_cell 13 = .ok (.astore 4, 2) := by decide +kernel
theorem dL_cell_15 : decode cL_cell 15 = .ok (.iconst 1, 1) := by decide +kernel
theorem dL_cell_16 : decode cL_cell 16 = .ok (.ireturn, 1) := by decide +kernel
theorem dL_cell_17 : decode cL_cell 17 = .ok (.astore 4, 2) := by decide +kernel
theorem dL_cell_19 : decode cL_cell 19 = .ok (.iconst 2, 1) := by decide +kernel
theorem dL_cell_20 : decode cL_cell 20 = .ok (.ireturn, 1) := by decide +kernel
theorem dL_cell_21 : decode cL_cell 21 = .ok (.iconst 0, 1) := by decide +kernel
theorem dL_cell_22 : decode cL_cell 22 = .ok (.ireturn, 1) := by decide +kernel
set_option maxRecDepth 20000 in
theorem ggL_run_X4_run : GoodIn wsL_run wsX4_run := goodIn_ca (goodIn_ca (goodIn_r _ [7, 8, 9, 10, 6, 11, 12, 13, 14, 15, 16, 17, 18, 19, 20, 21, 22, 23, 24, 25, 26, 27, 28, 29, 30, 31, 32, 33, 34, 35, 36, 37, 38, 39, 40, 41, 42, 43, 44, 45, 46, 47, 48, 49, 50, 51, 52, 53, 54, 55, 56, 57, 58, 59, 60, 61, 62, 63, 64, 65, 66, 67, 68, 69] (by decide +kernel) (by decide +kernel)) (goodIn_sub (fun _ h => List.mem_cons_of_mem _ (List.mem_append_left _ (List.mem_append_right _ h))) (by decide +kernel))) (goodIn_sub (fun _ h => List.mem_cons_of_mem _ (List.mem_append_right _ h)) (by decide +kernel))
set_option maxRecDepth 20000 in
theorem gL_run_X4_run : GoodIn wsL_run (wsV RL 49 RX4 yX4_run wsX4_run) := goodIn_app (goodIn_of _ (by decide +kernel)) ggL_run_X4_run
theorem dL_run_0 : decode cL_run 0 = .ok (.aload 4, 2) := by decide +kernel
theorem dL_run_2 : decode cL_run 2 = .ok (.iconst 0, 1) := by decide +kernel
theorem dL_run_3 : decode cL_run 3 = .ok (.aload_n 0, 1) := by decide +kernel
theorem dL_run_4 : decode cL_run 4 = .ok (.iload_n 1, 1) := by decide +kernel
theorem dL_run_5 : decode cL_run 5 = .ok (.iload_n 2, 1) := by decide +kernel
theorem dL_run_6 : decode cL_run 6 = .ok (.iload_n 3, 1) := by decide +kernel
theorem dL_run_7 : decode cL_run 7 = .ok (.invokevirtual 49, 3) := by decide +kernel
theorem dL_run_10 : decode cL_run 10 = .ok (.i2l, 1) := by decide +kernel
theorem dL_run_11 : decode cL_run 11 = .ok (.lastore, 1) := by decide +kernel
theorem dL_run_12 : decode cL_run 12 = .ok (.goto 11, 3) := by decide +kernel
theorem dL_run_15 : decode cL_run 15 = .ok (.astore 5, 2) := by decide +kernel
theorem dL_run_17 : decode cL_run 17 = .ok (.iconst 1, 1) := by decide +kernel
theorem dL_run_18 : decode cL_run 18 = .ok (.ireturn, 1) := by decide +kernel
theorem dL_run_19 : decode cL_run 19 = .ok (.astore 5, 2) := by decide +kernel
theorem dL_run_21 : decode cL_run 21 = .ok (.iconst 2, 1) := by decide +kernel
theorem dL_run_22 : decode cL_run 22 = .ok (.ireturn, 1) := by decide +kernel
theorem dL_run_23 : decode cL_run 23 = .ok (.iconst 0, 1) := by decide +kernel
theorem dL_run_24 : decode cL_run 24 = .ok (.ireturn, 1) := by decide +kernel
set_option maxRecDepth 20000 in
theorem ggL_knots_X4_knots : GoodIn wsL_knots wsX4_knots := goodIn_ca (goodIn_ca (goodIn_r _ [7, 8, 9, 10, 11, 6, 12, 13, 14, 15, 16, 17, 18, 19, 20, 21, 22, 23, 24, 25, 26, 27, 28, 29, 30, 31, 32, 33, 34, 35, 36, 37, 38, 39, 40, 41, 42, 43, 44, 45, 46, 47, 48, 49, 50, 51, 52, 53, 54, 55, 56, 57, 58, 59, 60, 61, 62, 63, 64, 65, 66, 67, 68, 69, 70] (by decide +kernel) (by decide +kernel)) (goodIn_sub (fun _ h => List.mem_cons_of_mem _ (List.mem_append_left _ (List.mem_append_right _ h))) (by decide +kernel))) (goodIn_sub (fun _ h => List.mem_cons_of_mem _ (List.mem_append_right _ h)) (by decide +kernel))
set_option maxRecDepth 20000 in
theorem gL_knots_X4_knots : GoodIn wsL_knots (wsV RL 52 RX4 yX4_knots wsX4_knots) := goodIn_app (goodIn_of _ (by decide +kernel)) ggL_knots_X4_knots
theorem dL_knots_0 : decode cL_knots 0 = .ok (.aload_n 2, 1) := by decide +kernel
theorem dL_knots_1 : decode cL_knots 1 = .ok (.iconst 0, 1) := by decide +kernel
theorem dL_knots_2 : decode cL_knots 2 = .ok (.aload_n 0, 1) := by decide +kernel
theorem dL_knots_3 : decode cL_knots 3 = .ok (.iload_n 1, 1) := by decide +kernel
theorem dL_knots_4 : decode cL_knots 4 = .ok (.invokevirtual 52, 3) := by decide +kernel
theorem dL_knots_7 : decode cL_knots 7 = .ok (.i2l, 1) := by decide +kernel
theorem dL_knots_8 : decode cL_knots 8 = .ok (.lastore, 1) := by decide +kernel
theorem dL_knots_9 : decode cL_knots 9 = .ok (.goto 9, 3) := by decide +kernel
theorem dL_knots_12 : decode cL_knots 12 = .ok (.astore_n 3, 1) := by decide +kernel
theorem dL_knots_13 : decode cL_knots 13 = .ok (.iconst 1, 1) := by decide +kernel
theorem dL_knots_14 : decode cL_knots 14 = .ok (.ireturn, 1) := by decide +kernel
theorem dL_knots_15 : decode cL_knots 15 = .ok (.astore_n 3, 1) := by decide +kernel
theorem dL_knots_16 : decode cL_knots 16 = .ok (.iconst 2, 1) := by decide +kernel
theorem dL_knots_17 : decode cL_knots 17 = .ok (.ireturn, 1) := by decide +kernel
theorem dL_knots_18 : decode cL_knots 18 = .ok (.iconst 0, 1) := by decide +kernel
theorem dL_knots_19 : decode cL_knots 19 = .ok (.ireturn, 1) := by decide +kernel
set_option maxRecDepth 20000 in
theorem ggL_thread_X4_thread : GoodIn wsL_thread wsX4_thread := goodIn_ca (goodIn_r _ [6, 7, 8, 9, 10, 5, 11, 12, 13, 14, 15, 16, 17, 18, 19, 20, 21, 22, 23, 24, 25, 26, 27, 28, 29, 30, 31, 32, 33, 34, 35, 36, 37, 38, 39, 40, 41, 42, 43, 44, 45, 46, 47, 48, 49, 50, 51, 52, 53, 54, 55, 56, 57, 58, 59, 60, 61, 62, 63, 64, 65, 66, 67, 68, 69] (by decide +kernel) (by decide +kernel)) (goodIn_sub (fun _ h => List.mem_cons_of_mem _ (List.mem_append_right _ h)) (by decide +kernel))
set_option maxRecDepth 20000 in
theorem gL_thread_X4_thread : GoodIn wsL_thread (wsV RL 55 RX4 yX4_thread wsX4_thread) := goodIn_app (goodIn_of _ (by decide +kernel)) ggL_thread_X4_thread
theorem dL_thread_0 : decode cL_thread 0 = .ok (.aload_n 3, 1) := by decide +kernel
theorem dL_thread_1 : decode cL_thread 1 = .ok (.iconst 0, 1) := by decide +kernel
theorem dL_thread_2 : decode cL_thread 2 = .ok (.aload_n 0, 1) := by decide +kernel
theorem dL_thread_3 : decode cL_thread 3 = .ok (.iload_n 1, 1) := by decide +kernel
theorem dL_thread_4 : decode cL_thread 4 = .ok (.iload_n 2, 1) := by decide +kernel
theorem dL_thread_5 : decode cL_thread 5 = .ok (.invokevirtual 55, 3) := by decide +kernel
theorem dL_thread_8 : decode cL_thread 8 = .ok (.i2l, 1) := by decide +kernel
theorem dL_thread_9 : decode cL_thread 9 = .ok (.lastore, 1) := by decide +kernel
theorem dL_thread_10 : decode cL_thread 10 = .ok (.goto 7, 3) := by decide +kernel
theorem dL_thread_13 : decode cL_thread 13 = .ok (.astore 4, 2) := by decide +kernel
theorem dL_thread_15 : decode cL_thread 15 = .ok (.iconst 1, 1) := by decide +kernel
theorem dL_thread_16 : decode cL_thread 16 = .ok (.ireturn, 1) := by decide +kernel
theorem dL_thread_17 : decode cL_thread 17 = .ok (.iconst 0, 1) := by decide +kernel
theorem dL_thread_18 : decode cL_thread 18 = .ok (.ireturn, 1) := by decide +kernel
set_option maxRecDepth 20000 in
theorem ggL_count_X4_count : GoodIn wsL_count wsX4_count := goodIn_ca (goodIn_r _ [6, 7, 8, 5, 9, 10, 11, 12, 13, 14, 15, 16, 17, 18, 19, 20, 21, 22, 23, 24, 25, 26, 27, 28, 29, 30, 31, 32, 33, 34, 35, 36, 37, 38, 39, 40, 41, 42, 43, 44, 45, 46, 47, 48, 49, 50, 51, 52, 53, 54, 55, 56, 57, 58, 59, 60, 61, 62, 63, 64, 65, 66, 67, 68, 69, 70, 71, 72, 73, 74, 75, 76, 77, 78, 79, 80, 81, 82, 83, 84, 85, 86, 87, 88] (by decide +kernel) (by decide +kernel)) (goodIn_sub (fun _ h => List.mem_cons_of_mem _ (List.mem_append_right _ h)) (by decide +kernel))
set_option maxRecDepth 20000 in
theorem gL_count_X4_count : GoodIn wsL_count (wsV RL 58 RX4 yX4_count wsX4_count) := goodIn_app (goodIn_of _ (by decide +kernel)) ggL_count_X4_count
theorem dL_count_0 : decode cL_count 0 = .ok (.aload_n 2, 1) := by decide +kernel
theorem dL_count_1 : decode cL_count 1 = .ok (.iconst 0, 1) := by decide +kernel
theorem dL_count_2 : decode cL_count 2 = .ok (.aload_n 0, 1) := by decide +kernel
theorem dL_count_3 : decode cL_count 3 = .ok (.iload_n 1, 1) := by decide +kernel
theorem dL_count_4 : decode cL_count 4 = .ok (.invokevirtual 58, 3) := by decide +kernel
theorem dL_count_7 : decode cL_count 7 = .ok (.i2l, 1) := by decide +kernel
theorem dL_count_8 : decode cL_count 8 = .ok (.lastore, 1) := by decide +kernel
theorem dL_count_9 : decode cL_count 9 = .ok (.goto 6, 3) := by decide +kernel
theorem dL_count_12 : decode cL_count 12 = .ok (.astore_n 3, 1) := by decide +kernel
theorem dL_count_13 : decode cL_count 13 = .ok (.iconst 1, 1) := by decide +kernel
theorem dL_count_14 : decode cL_count 14 = .ok (.ireturn, 1) := by decide +kernel
theorem dL_count_15 : decode cL_count 15 = .ok (.iconst 0, 1) := by decide +kernel
theorem dL_count_16 : decode cL_count 16 = .ok (.ireturn, 1) := by decide +kernel
set_option maxRecDepth 20000 in
theorem ggL_would_X4_would : GoodIn wsL_would wsX4_would := goodIn_ca (goodIn_ca (goodIn_r _ [7, 8, 9, 10, 11, 12, 13, 14, 6, 15, 16, 17, 18, 19, 20, 21, 22, 23, 24, 25, 26, 27, 28, 29, 30, 31, 32, 33, 34, 35, 36, 37, 38, 39, 40, 41, 42, 43, 44, 45, 46, 47, 48, 49, 50, 51, 52, 53, 54, 55, 56, 57, 58, 59, 60, 61, 62, 63, 64, 65, 66, 67, 68, 69, 70, 71, 72, 73, 74, 75, 76, 77, 78, 79, 80, 81, 82, 83, 84, 85, 86, 87, 88, 89, 90, 91, 92, 93, 94, 95, 96, 97, 98, 99, 100, 101, 102, 103, 104, 105, 106, 107, 108, 109, 110, 111, 112, 113, 114, 115, 116, 117, 118, 119, 120, 121, 122, 123, 124, 125, 126, 127, 128, 129, 130, 131, 132, 133, 134, 135, 136, 137, 138, 139, 140, 141, 142, 143, 144, 145, 146, 147, 148, 149, 150, 151, 152, 153, 154, 155, 156, 157, 158, 159, 160, 161, 162, 163, 164, 165, 166, 167, 168, 169, 170, 171, 172, 173, 174, 175, 176, 177, 178, 179, 180, 181, 182, 183, 184, 185, 186, 187] (by decide +kernel) (by decide +kernel)) (goodIn_sub (fun _ h => List.mem_cons_of_mem _ (List.mem_append_left _ (List.mem_append_right _ h))) (by decide +kernel))) (goodIn_sub (fun _ h => List.mem_cons_of_mem _ (List.mem_append_right _ h)) (by decide +kernel))
set_option maxRecDepth 20000 in
theorem gL_would_X4_would : GoodIn wsL_would (wsV RL 61 RX4 yX4_would wsX4_would) := goodIn_app (goodIn_of _ (by decide +kernel)) ggL_would_X4_would
theorem dL_would_0 : decode cL_would 0 = .ok (.aload_n 3, 1) := by decide +kernel
theorem dL_would_1 : decode cL_would 1 = .ok (.iconst 0, 1) := by decide +kernel
theorem dL_would_2 : decode cL_would 2 = .ok (.aload_n 0, 1) := by decide +kernel
theorem dL_would_3 : decode cL_would 3 = .ok (.iload_n 1, 1) := by decide +kernel
theorem dL_would_4 : decode cL_would 4 = .ok (.iload_n 2, 1) := by decide +kernel
theorem dL_would_5 : decode cL_would 5 = .ok (.invokevirtual 61, 3) := by decide +kernel
theorem dL_would_8 : decode cL_would 8 = .ok (.i2l, 1) := by decide +kernel
theorem dL_would_9 : decode cL_would 9 = .ok (.lastore, 1) := by decide +kernel
theorem dL_would_10 : decode cL_would 10 = .ok (.goto 11, 3) := by decide +kernel
theorem dL_would_13 : decode cL_would 13 = .ok (.astore 4, 2) := by decide +kernel
theorem dL_would_15 : decode cL_would 15 = .ok (.iconst 1, 1) := by decide +kernel
theorem dL_would_16 : decode cL_would 16 = .ok (.ireturn, 1) := by decide +kernel
theorem dL_would_17 : decode cL_would 17 = .ok (.astore 4, 2) := by decide +kernel
theorem dL_would_19 : decode cL_would 19 = .ok (.iconst 2, 1) := by decide +kernel
theorem dL_would_20 : decode cL_would 20 = .ok (.ireturn, 1) := by decide +kernel
theorem dL_would_21 : decode cL_would 21 = .ok (.iconst 0, 1) := by decide +kernel
theorem dL_would_22 : decode cL_would 22 = .ok (.ireturn, 1) := by decide +kernel
set_option maxRecDepth 20000 in
theorem ggL_advise_X4_advise : GoodIn wsL_advise wsX4_advise := goodIn_ca (goodIn_r _ [6, 7, 8, 9, 10, 11, 12, 13, 5, 14, 15, 16, 17, 18, 19, 20, 21, 22, 23, 24, 25, 26, 27, 28, 29, 30, 31, 32, 33, 34, 35, 36, 37, 38, 39, 40, 41, 42, 43, 44, 45, 46, 47, 48, 49, 50, 51, 52, 53, 54, 55, 56, 57, 58, 59, 60, 61, 62, 63, 64, 65, 66, 67, 68, 69, 70, 71, 72, 73, 74, 75, 76, 77, 78, 79, 80, 81, 82, 83, 84, 85, 86, 87, 88, 89, 90, 91, 92, 93, 94, 95, 96, 97, 98, 99, 100, 101, 102, 103, 104, 105, 106, 107, 108, 109, 110, 111, 112, 113, 114, 115, 116, 117, 118, 119, 120, 121, 122, 123, 124, 125, 126, 127, 128, 129, 130, 131, 132, 133, 134, 135, 136, 137, 138, 139, 140, 141, 142, 143, 144, 145, 146, 147, 148, 149, 150, 151, 152, 153, 154, 155, 156, 157, 158, 159, 160, 161, 162, 163, 164, 165, 166, 167, 168, 169, 170, 171, 172, 173] (by decide +kernel) (by decide +kernel)) (goodIn_sub (fun _ h => List.mem_cons_of_mem _ (List.mem_append_right _ h)) (by decide +kernel))
set_option maxRecDepth 20000 in
theorem gL_advise_X4_advise : GoodIn wsL_advise (wsV RL 64 RX4 yX4_advise wsX4_advise) := goodIn_app (goodIn_of _ (by decide +kernel)) ggL_advise_X4_advise
theorem dL_advise_0 : decode cL_advise 0 = .ok (.aload_n 2, 1) := by decide +kernel
theorem dL_advise_1 : decode cL_advise 1 = .ok (.iconst 0, 1) := by decide +kernel
theorem dL_advise_2 : decode cL_advise 2 = .ok (.aload_n 0, 1) := by decide +kernel
theorem dL_advise_3 : decode cL_advise 3 = .ok (.iload_n 1, 1) := by decide +kernel
theorem dL_advise_4 : decode cL_advise 4 = .ok (.invokevirtual 64, 3) := by decide +kernel
theorem dL_advise_7 : decode cL_advise 7 = .ok (.i2l, 1) := by decide +kernel
theorem dL_advise_8 : decode cL_advise 8 = .ok (.lastore, 1) := by decide +kernel
theorem dL_advise_9 : decode cL_advise 9 = .ok (.goto 6, 3) := by decide +kernel
theorem dL_advise_12 : decode cL_advise 12 = .ok (.astore_n 3, 1) := by decide +kernel
theorem dL_advise_13 : decode cL_advise 13 = .ok (.iconst 1, 1) := by decide +kernel
theorem dL_advise_14 : decode cL_advise 14 = .ok (.ireturn, 1) := by decide +kernel
theorem dL_advise_15 : decode cL_advise 15 = .ok (.iconst 0, 1) := by decide +kernel
theorem dL_advise_16 : decode cL_advise 16 = .ok (.ireturn, 1) := by decide +kernel
set_option maxRecDepth 20000 in
theorem ggL_law_X4_init : GoodIn wsL_law wsX4_init := goodIn_r _ [9, 10, 11, 12, 13, 14, 15, 16, 17, 18, 19, 20, 21, 22, 23, 24, 25, 26, 27, 28, 29, 30, 31, 32, 33, 34, 35, 36, 37, 38, 39, 40, 41, 42, 43, 44, 45, 46, 47, 48, 49, 50, 51, 52, 53, 2, 54, 55, 56, 57, 58, 59, 60, 61, 62, 63, 64, 65, 66, 67, 68, 69, 692, 663, 664, 665, 666, 667, 668, 669, 670, 671, 672, 693, 694, 695, 696, 697, 698, 699, 700, 701, 702, 703, 704] (by decide +kernel) (by decide +kernel)
set_option maxRecDepth 20000 in
theorem gL_law_X4_init : GoodIn wsL_law (wsX4_init) := ggL_law_X4_init
set_option maxRecDepth 20000 in
theorem ggL_law_X5_init : GoodIn wsL_law wsX5_init := goodIn_r _ [72, 73, 11, 12, 38, 74, 75, 76, 77, 78, 79, 80, 81, 82, 83, 84, 673, 674, 675, 676, 677, 678, 679, 680, 681, 682, 683, 684, 685, 686, 687, 688, 689, 690, 691] (by decide +kernel) (by decide +kernel)
set_option maxRecDepth 20000 in
theorem gL_law_X5_init : GoodIn wsL_law (wsX5_init) := ggL_law_X5_init
set_option maxRecDepth 20000 in
theorem ggL_law_L_set : GoodIn wsL_law wsL_set := goodIn_ca (goodIn_ca (goodIn_r _ [88, 89, 90, 91, 92, 93, 2, 94, 16, 95, 96, 97, 98, 99, 100, 101, 102, 103, 104, 105, 106, 107, 108, 109, 110, 111, 112, 113, 15, 114, 39, 115, 116, 117, 118, 119, 120, 121, 122, 663, 664, 665, 666, 667, 668, 669, 670, 671, 672, 692] (by decide +kernel) (by decide +kernel)) (goodIn_sub (fun _ h => List.mem_append_left _ (List.mem_append_left _ (List.mem_append_right _ h))) (by decide +kernel))) (goodIn_sub (fun _ h => List.mem_append_left _ (List.mem_append_right _ h)) (by decide +kernel))
set_option maxRecDepth 20000 in
theorem gL_law_L_set : GoodIn wsL_law (va_wsS RL 71 yL_set wsL_set) := goodIn_app (goodIn_of _ (by decide +kernel)) ggL_law_L_set
set_option maxRecDepth 20000 in
theorem ggL_law_X5_set : GoodIn wsL_law wsX5_set := goodIn_r _ [126, 127, 74, 128, 129, 5, 130, 131, 132, 133, 134, 135, 136, 137, 138, 139, 140, 141, 142, 143, 673, 674, 675, 676, 677, 678, 679, 680, 681, 682, 683, 684, 685, 686, 687, 688, 689, 690, 691] (by decide +kernel) (by decide +kernel)
set_option maxRecDepth 20000 in
theorem gL_law_X5_set : GoodIn wsL_law (wsV RL 76 RX5 yX5_set wsX5_set) := goodIn_app (goodIn_of _ (by decide +kernel)) ggL_law_X5_set
set_option maxRecDepth 20000 in
theorem ggL_law_X5_thrown : GoodIn wsL_law wsX5_thrown := goodIn_r _ [147, 127, 673, 674, 675, 676, 677, 678, 679, 680, 681, 682, 683, 684, 685, 686, 687, 688, 689, 690, 691] (by decide +kernel) (by decide +kernel)
set_option maxRecDepth 20000 in
theorem gL_law_X5_thrown : GoodIn wsL_law (wsV RL 77 RX5 yX5_thrown wsX5_thrown) := goodIn_app (goodIn_of _ (by decide +kernel)) ggL_law_X5_thrown
set_option maxRecDepth 20000 in
theorem ggL_law_L_row : GoodIn wsL_law wsL_row := goodIn_ca (goodIn_ca (goodIn_r _ [150, 89, 90, 151, 152, 153, 2, 154, 16, 155, 156, 157, 158, 159, 160, 98, 99, 103, 104, 105, 106, 107, 108, 109, 110, 161, 162, 163, 164, 165, 166, 167, 168, 169, 170, 171, 172, 173, 117, 118, 119, 15, 120, 39, 101, 102, 121, 122, 111, 112, 113, 114, 115, 116, 663, 664, 665, 666, 667, 668, 669, 670, 671, 672, 692] (by decide +kernel) (by decide +kernel)) (goodIn_sub (fun _ h => List.mem_append_left _ (List.mem_append_left _ (List.mem_append_right _ h))) (by decide +kernel))) (goodIn_sub (fun _ h => List.mem_append_left _ (List.mem_append_right _ h)) (by decide +kernel))
set_option maxRecDepth 20000 in
theorem gL_law_L_row : GoodIn wsL_law (va_wsS RL 80 yL_row wsL_row) := goodIn_app (goodIn_of _ (by decide +kernel)) ggL_law_L_row
set_option maxRecDepth 20000 in
theorem ggL_law_X5_row : GoodIn wsL_law wsX5_row := goodIn_r _ [177, 127, 74, 178, 168, 169, 170, 179, 172, 173, 134, 135, 5, 136, 131, 132, 133, 137, 138, 139, 140, 141, 142, 143, 673, 674, 675, 676, 677, 678, 679, 680, 681, 682, 683, 684, 685, 686, 687, 688, 689, 690, 691] (by decide +kernel) (by decide +kernel)
set_option maxRecDepth 20000 in
theorem gL_law_X5_row : GoodIn wsL_law (wsV RL 82 RX5 yX5_row wsX5_row) := goodIn_app (goodIn_of _ (by decide +kernel)) ggL_law_X5_row
set_option maxRecDepth 20000 in
theorem ggL_law_L_like : GoodIn wsL_law wsL_like := goodIn_ca (goodIn_r _ [182, 89, 183, 184, 185, 2, 186, 16, 155, 156, 157, 158, 159, 160, 98, 99, 111, 112, 113, 15, 114, 39, 101, 102, 115, 116, 117, 118, 119, 120, 121, 122, 663, 664, 665, 666, 667, 668, 669, 670, 671, 672, 692] (by decide +kernel) (by decide +kernel)) (goodIn_sub (fun _ h => List.mem_append_left _ (List.mem_append_left _ (List.mem_append_right _ h))) (by decide +kernel))
set_option maxRecDepth 20000 in
theorem gL_law_L_like : GoodIn wsL_law (va_wsS RL 83 yL_like wsL_like) := goodIn_app (goodIn_of _ (by decide +kernel)) ggL_law_L_like
set_option maxRecDepth 20000 in
theorem ggL_law_X5_like : GoodIn wsL_law wsX5_like := goodIn_r _ [190, 127, 74, 134, 135, 5, 136, 131, 132, 133, 137, 138, 139, 140, 141, 142, 143, 673, 674, 675, 676, 677, 678, 679, 680, 681, 682, 683, 684, 685, 686, 687, 688, 689, 690, 691] (by decide +kernel) (by decide +kernel)
set_option maxRecDepth 20000 in
theorem gL_law_X5_like : GoodIn wsL_law (wsV RL 86 RX5 yX5_like wsX5_like) := goodIn_app (goodIn_of _ (by decide +kernel)) ggL_law_X5_like
set_option maxRecDepth 20000 in
theorem ggL_law_L_setColours : GoodIn wsL_law wsL_setColours := goodIn_ca (goodIn_r _ [193, 90, 194, 195, 196, 2, 197, 30, 198, 199, 200, 106, 107, 108, 109, 110, 663, 664, 665, 666, 667, 668, 669, 670, 671, 672] (by decide +kernel) (by decide +kernel)) (goodIn_sub (fun _ h => List.mem_append_left _ (List.mem_append_right _ h)) (by decide +kernel))
set_option maxRecDepth 20000 in
theorem gL_law_L_setColours : GoodIn wsL_law (va_wsS RL 87 yL_setColours wsL_setColours) := goodIn_app (goodIn_of _ (by decide +kernel)) ggL_law_L_setColours
set_option maxRecDepth 20000 in
theorem ggL_law_X5_setColours : GoodIn wsL_law wsX5_setColours := goodIn_r _ [204, 127, 75, 131, 132, 5, 133, 137, 138, 139, 140, 673, 674, 675, 676, 677, 678, 679, 680, 681, 682, 683, 684, 685, 686, 687, 688, 689, 690, 691] (by decide +kernel) (by decide +kernel)
set_option maxRecDepth 20000 in
theorem gL_law_X5_setColours : GoodIn wsL_law (wsV RL 90 RX5 yX5_setColours wsX5_setColours) := goodIn_app (goodIn_of _ (by decide +kernel)) ggL_law_X5_setColours
set_option maxRecDepth 20000 in
theorem ggL_law_L_setCarry : GoodIn wsL_law wsL_setCarry := goodIn_ca (goodIn_r _ [207, 89, 208, 209, 210, 2, 211, 31, 158, 159, 160, 98, 99, 663, 664, 665, 666, 667, 668, 669, 670, 671, 672] (by decide +kernel) (by decide +kernel)) (goodIn_sub (fun _ h => List.mem_append_left _ (List.mem_append_left _ (List.mem_append_right _ h))) (by decide +kernel))
set_option maxRecDepth 20000 in
theorem gL_law_L_setCarry : GoodIn wsL_law (va_wsS RL 91 yL_setCarry wsL_setCarry) := goodIn_app (goodIn_of _ (by decide +kernel)) ggL_law_L_setCarry
set_option maxRecDepth 20000 in
theorem ggL_law_X5_setCarry : GoodIn wsL_law wsX5_setCarry := goodIn_r _ [215, 127, 76, 131, 132, 5, 133, 137, 138, 139, 140, 673, 674, 675, 676, 677, 678, 679, 680, 681, 682, 683, 684, 685, 686, 687, 688, 689, 690, 691] (by decide +kernel) (by decide +kernel)
set_option maxRecDepth 20000 in
theorem gL_law_X5_setCarry : GoodIn wsL_law (wsV RL 93 RX5 yX5_setCarry wsX5_setCarry) := goodIn_app (goodIn_of _ (by decide +kernel)) ggL_law_X5_setCarry
set_option maxRecDepth 20000 in
theorem ggL_law_X4_setTurning : GoodIn wsL_law wsX4_setTurning := goodIn_r _ [219, 32, 663, 664, 665, 666, 667, 668, 669, 670, 671, 672] (by decide +kernel) (by decide +kernel)
set_option maxRecDepth 20000 in
theorem gL_law_X4_setTurning : GoodIn wsL_law (wsV RL 94 RX4 yX4_setTurning wsX4_setTurning) := goodIn_app (goodIn_of _ (by decide +kernel)) ggL_law_X4_setTurning
set_option maxRecDepth 20000 in
theorem ggL_law_X5_setTurning : GoodIn wsL_law wsX5_setTurning := goodIn_r _ [223, 127, 224, 673, 674, 675, 676, 677, 678, 679, 680, 681, 682, 683, 684, 685, 686, 687, 688, 689, 690, 691] (by decide +kernel) (by decide +kernel)
set_option maxRecDepth 20000 in
theorem gL_law_X5_setTurning : GoodIn wsL_law (wsV RL 98 RX5 yX5_setTurning wsX5_setTurning) := goodIn_app (goodIn_of _ (by decide +kernel)) ggL_law_X5_setTurning
set_option maxRecDepth 20000 in
theorem ggL_law_X4_setPressing : GoodIn wsL_law wsX4_setPressing := goodIn_r _ [228, 33, 663, 664, 665, 666, 667, 668, 669, 670, 671, 672] (by decide +kernel) (by decide +kernel)
set_option maxRecDepth 20000 in
theorem gL_law_X4_setPressing : GoodIn wsL_law (wsV RL 99 RX4 yX4_setPressing wsX4_setPressing) := goodIn_app (goodIn_of _ (by decide +kernel)) ggL_law_X4_setPressing
set_option maxRecDepth 20000 in
theorem ggL_law_X5_setPressing : GoodIn wsL_law wsX5_setPressing := goodIn_r _ [232, 127, 233, 673, 674, 675, 676, 677, 678, 679, 680, 681, 682, 683, 684, 685, 686, 687, 688, 689, 690, 691] (by decide +kernel) (by decide +kernel)
set_option maxRecDepth 20000 in
theorem gL_law_X5_setPressing : GoodIn wsL_law (wsV RL 102 RX5 yX5_setPressing wsX5_setPressing) := goodIn_app (goodIn_of _ (by decide +kernel)) ggL_law_X5_setPressing
set_option maxRecDepth 20000 in
theorem ggL_law_L_wind : GoodIn wsL_law wsL_wind := goodIn_ca (goodIn_ca (goodIn_r _ [236, 89, 90, 237, 238, 239, 2, 240, 24, 241, 242, 243, 158, 159, 160, 98, 99, 244, 245, 246, 106, 107, 108, 109, 110, 247, 248, 249, 23, 250, 52, 251, 168, 169, 170, 252, 253, 254, 255, 115, 116, 121, 122, 256, 663, 664, 665, 666, 667, 668, 669, 670, 671, 672, 698] (by decide +kernel) (by decide +kernel)) (goodIn_sub (fun _ h => List.mem_append_left _ (List.mem_append_left _ (List.mem_append_right _ h))) (by decide +kernel))) (goodIn_sub (fun _ h => List.mem_append_left _ (List.mem_append_right _ h)) (by decide +kernel))
set_option maxRecDepth 20000 in
theorem gL_law_L_wind : GoodIn wsL_law (va_wsS RL 103 yL_wind wsL_wind) := goodIn_app (goodIn_of _ (by decide +kernel)) ggL_law_L_wind
set_option maxRecDepth 20000 in
theorem ggL_law_X5_wind : GoodIn wsL_law wsX5_wind := goodIn_r _ [260, 127, 77, 178, 168, 169, 170, 261, 262, 5, 263, 131, 132, 133, 137, 138, 139, 140, 673, 674, 675, 676, 677, 678, 679, 680, 681, 682, 683, 684, 685, 686, 687, 688, 689, 690, 691] (by decide +kernel) (by decide +kernel)
set_option maxRecDepth 20000 in
theorem gL_law_X5_wind : GoodIn wsL_law (wsV RL 105 RX5 yX5_wind wsX5_wind) := goodIn_app (goodIn_of _ (by decide +kernel)) ggL_law_X5_wind
set_option maxRecDepth 20000 in
theorem ggL_law_L_weave : GoodIn wsL_law wsL_weave := goodIn_ca (goodIn_r _ [266, 267, 268, 269, 270, 2, 271, 29, 16, 30, 31, 32, 24, 28, 33, 272, 273, 274, 27, 275, 59, 62, 64, 65, 276, 277, 278, 19, 279, 47, 45, 46, 280, 281, 282, 283, 43, 53, 54, 284, 112, 113, 15, 114, 39, 101, 102, 115, 116, 121, 122, 285, 286, 287, 288, 44, 289, 290, 291, 292, 293, 294, 295, 296, 297, 298, 299, 300, 301, 302, 303, 304, 305, 306, 307, 308, 309, 310, 311, 312, 313, 67, 68, 69, 314, 315, 316, 317, 61, 318, 319, 169, 320, 321, 322, 323, 324, 325, 326, 327, 328, 329, 330, 331, 332, 333, 334, 335, 336, 118, 119, 120, 337, 338, 339, 340, 341, 342, 343, 344, 345, 346, 347, 348, 349, 350, 63, 351, 352, 353, 354, 355, 356, 357, 358, 359, 23, 360, 361, 362, 363, 364, 252, 253, 254, 255, 52, 365, 366, 367, 368, 369, 370, 371, 372, 34, 373, 374, 375, 376, 377, 378, 379, 380, 381, 382, 383, 384, 385, 386, 387, 388, 663, 664, 665, 666, 667, 668, 669, 670, 671, 672, 699, 700, 701, 702, 703, 704, 693, 694, 695, 696, 697, 692, 698] (by decide +kernel) (by decide +kernel)) (goodIn_sub (fun _ h => List.mem_append_right _ h) (by decide +kernel))
set_option maxRecDepth 20000 in
theorem gL_law_L_weave : GoodIn wsL_law (va_wsS RL 106 yL_weave wsL_weave) := goodIn_app (goodIn_of _ (by decide +kernel)) ggL_law_L_weave
set_option maxRecDepth 20000 in
theorem ggL_law_X5_weave : GoodIn wsL_law wsX5_weave := goodIn_r _ [392, 127, 75, 80, 77, 393, 394, 395, 396, 397, 78, 83, 398, 399, 400, 401, 84, 402, 403, 404, 5, 405, 82, 81, 224, 74, 406, 319, 169, 320, 407, 408, 409, 410, 38, 79, 411, 412, 413, 414, 415, 416, 417, 418, 141, 142, 143, 419, 420, 421, 422, 423, 424, 425, 426, 76, 427, 428, 429, 128, 129, 130, 131, 132, 133, 430, 431, 432, 137, 138, 139, 140, 433, 434, 435, 436, 437, 438, 439, 440, 233, 441, 442, 443, 444, 445, 446, 447, 448, 449, 673, 674, 675, 676, 677, 678, 679, 680, 681, 682, 683, 684, 685, 686, 687, 688, 689, 690, 691] (by decide +kernel) (by decide +kernel)
set_option maxRecDepth 20000 in
theorem gL_law_X5_weave : GoodIn wsL_law (wsV RL 109 RX5 yX5_weave wsX5_weave) := goodIn_app (goodIn_of _ (by decide +kernel)) ggL_law_X5_weave
set_option maxRecDepth 20000 in
theorem ggL_law_L_shade : GoodIn wsL_law wsL_shade := goodIn_ca (goodIn_r _ [452, 89, 453, 454, 455, 2, 456, 16, 95, 96, 97, 98, 99, 100, 101, 102, 111, 112, 113, 15, 114, 39, 115, 116, 663, 664, 665, 666, 667, 668, 669, 670, 671, 672, 692] (by decide +kernel) (by decide +kernel)) (goodIn_sub (fun _ h => List.mem_append_left _ (List.mem_append_left _ (List.mem_append_right _ h))) (by decide +kernel))
set_option maxRecDepth 20000 in
theorem gL_law_L_shade : GoodIn wsL_law (va_wsS RL 110 yL_shade wsL_shade) := goodIn_app (goodIn_of _ (by decide +kernel)) ggL_law_L_shade
set_option maxRecDepth 20000 in
theorem ggL_law_X5_shade : GoodIn wsL_law wsX5_shade := goodIn_r _ [460, 127, 74, 128, 129, 5, 130, 131, 132, 133, 134, 135, 136, 141, 142, 143, 137, 138, 139, 140, 673, 674, 675, 676, 677, 678, 679, 680, 681, 682, 683, 684, 685, 686, 687, 688, 689, 690, 691] (by decide +kernel) (by decide +kernel)
set_option maxRecDepth 20000 in
theorem gL_law_X5_shade : GoodIn wsL_law (wsV RL 112 RX5 yX5_shade wsX5_shade) := goodIn_app (goodIn_of _ (by decide +kernel)) ggL_law_X5_shade
set_option maxRecDepth 20000 in
theorem ggL_law_L_palette : GoodIn wsL_law wsL_palette := goodIn_ca (goodIn_r _ [463, 89, 464, 465, 466, 2, 467, 20, 16, 30, 241, 242, 243, 158, 159, 160, 98, 99, 468, 277, 278, 19, 279, 47, 45, 46, 280, 281, 282, 283, 43, 53, 54, 284, 112, 113, 15, 114, 39, 101, 102, 115, 116, 121, 122, 285, 286, 287, 288, 44, 289, 290, 291, 292, 293, 294, 295, 296, 297, 298, 299, 300, 301, 302, 303, 304, 305, 306, 307, 308, 309, 310, 311, 312, 469, 332, 333, 334, 663, 664, 665, 666, 667, 668, 669, 670, 671, 672, 693, 694, 695, 696, 697, 692] (by decide +kernel) (by decide +kernel)) (goodIn_sub (fun _ h => List.mem_append_left _ (List.mem_append_left _ (List.mem_append_right _ h))) (by decide +kernel))
set_option maxRecDepth 20000 in
theorem gL_law_L_palette : GoodIn wsL_law (va_wsS RL 113 yL_palette wsL_palette) := goodIn_app (goodIn_of _ (by decide +kernel)) ggL_law_L_palette
set_option maxRecDepth 20000 in
theorem ggL_law_X5_palette : GoodIn wsL_law wsX5_palette := goodIn_r _ [473, 127, 261, 262, 5, 263, 131, 132, 133, 474, 475, 476, 477, 75, 394, 78, 407, 408, 409, 410, 38, 79, 411, 412, 413, 414, 74, 415, 416, 417, 418, 137, 138, 139, 140, 673, 674, 675, 676, 677, 678, 679, 680, 681, 682, 683, 684, 685, 686, 687, 688, 689, 690, 691] (by decide +kernel) (by decide +kernel)
set_option maxRecDepth 20000 in
theorem gL_law_X5_palette : GoodIn wsL_law (wsV RL 115 RX5 yX5_palette wsX5_palette) := goodIn_app (goodIn_of _ (by decide +kernel)) ggL_law_X5_palette
set_option maxRecDepth 20000 in
theorem ggL_law_L_cell : GoodIn wsL_law wsL_cell := goodIn_ca (goodIn_ca (goodIn_r _ [480, 89, 267, 481, 482, 483, 2, 484, 28, 95, 96, 97, 98, 99, 100, 101, 102, 485, 486, 487, 488, 355, 356, 489, 490, 491, 492, 34, 493, 494, 495, 27, 496, 61, 321, 112, 113, 15, 114, 39, 115, 116, 663, 664, 665, 666, 667, 668, 669, 670, 671, 672, 699, 700, 701, 702, 703, 704, 692] (by decide +kernel) (by decide +kernel)) (goodIn_sub (fun _ h => List.mem_append_left _ (List.mem_append_left _ (List.mem_append_right _ h))) (by decide +kernel))) (goodIn_sub (fun _ h => List.mem_append_right _ h) (by decide +kernel))
set_option maxRecDepth 20000 in
theorem gL_law_L_cell : GoodIn wsL_law (va_wsS RL 116 yL_cell wsL_cell) := goodIn_app (goodIn_of _ (by decide +kernel)) ggL_law_L_cell
set_option maxRecDepth 20000 in
theorem ggL_law_X5_cell : GoodIn wsL_law wsX5_cell := goodIn_r _ [500, 127, 393, 84, 128, 129, 5, 130, 131, 132, 133, 134, 135, 136, 137, 138, 139, 140, 141, 142, 143, 673, 674, 675, 676, 677, 678, 679, 680, 681, 682, 683, 684, 685, 686, 687, 688, 689, 690, 691] (by decide +kernel) (by decide +kernel)
set_option maxRecDepth 20000 in
theorem gL_law_X5_cell : GoodIn wsL_law (wsV RL 118 RX5 yX5_cell wsX5_cell) := goodIn_app (goodIn_of _ (by decide +kernel)) ggL_law_X5_cell
set_option maxRecDepth 20000 in
theorem ggL_law_L_run : GoodIn wsL_law wsL_run := goodIn_ca (goodIn_ca (goodIn_r _ [503, 89, 267, 504, 505, 506, 2, 507, 28, 155, 156, 157, 158, 159, 160, 98, 99, 485, 486, 487, 488, 355, 356, 489, 490, 491, 492, 34, 508, 386, 387, 27, 388, 63, 321, 112, 113, 15, 114, 39, 101, 102, 115, 116, 509, 510, 511, 512, 61, 513, 514, 515, 516, 663, 664, 665, 666, 667, 668, 669, 670, 671, 672, 699, 700, 701, 702, 703, 704, 692] (by decide +kernel) (by decide +kernel)) (goodIn_sub (fun _ h => List.mem_append_left _ (List.mem_append_left _ (List.mem_append_right _ h))) (by decide +kernel))) (goodIn_sub (fun _ h => List.mem_append_right _ h) (by decide +kernel))
set_option maxRecDepth 20000 in
theorem gL_law_L_run : GoodIn wsL_law (va_wsS RL 119 yL_run wsL_run) := goodIn_app (goodIn_of _ (by decide +kernel)) ggL_law_L_run
set_option maxRecDepth 20000 in
theorem ggL_law_X5_run : GoodIn wsL_law wsX5_run := goodIn_r _ [520, 127, 393, 84, 134, 135, 5, 136, 131, 132, 133, 137, 138, 139, 140, 444, 445, 446, 447, 448, 449, 141, 142, 143, 521, 522, 523, 524, 673, 674, 675, 676, 677, 678, 679, 680, 681, 682, 683, 684, 685, 686, 687, 688, 689, 690, 691] (by decide +kernel) (by decide +kernel)
set_option maxRecDepth 20000 in
theorem gL_law_X5_run : GoodIn wsL_law (wsV RL 121 RX5 yX5_run wsX5_run) := goodIn_app (goodIn_of _ (by decide +kernel)) ggL_law_X5_run
set_option maxRecDepth 20000 in
theorem ggL_law_L_knots : GoodIn wsL_law wsL_knots := goodIn_ca (goodIn_ca (goodIn_r _ [527, 89, 267, 528, 529, 530, 2, 531, 28, 33, 155, 156, 157, 158, 159, 160, 98, 99, 485, 486, 487, 488, 355, 356, 489, 490, 491, 492, 34, 532, 378, 379, 27, 380, 381, 382, 383, 384, 61, 321, 112, 113, 15, 114, 39, 101, 102, 115, 116, 385, 386, 387, 388, 63, 663, 664, 665, 666, 667, 668, 669, 670, 671, 672, 699, 700, 701, 702, 703, 704, 692] (by decide +kernel) (by decide +kernel)) (goodIn_sub (fun _ h => List.mem_append_left _ (List.mem_append_left _ (List.mem_append_right _ h))) (by decide +kernel))) (goodIn_sub (fun _ h => List.mem_append_right _ h) (by decide +kernel))
set_option maxRecDepth 20000 in
theorem gL_law_L_knots : GoodIn wsL_law (va_wsS RL 122 yL_knots wsL_knots) := goodIn_app (goodIn_of _ (by decide +kernel)) ggL_law_L_knots
set_option maxRecDepth 20000 in
theorem ggL_law_X5_knots : GoodIn wsL_law wsX5_knots := goodIn_r _ [536, 127, 393, 84, 134, 135, 5, 136, 131, 132, 133, 137, 138, 139, 140, 437, 438, 439, 440, 233, 441, 442, 443, 141, 142, 143, 444, 445, 446, 447, 448, 449, 673, 674, 675, 676, 677, 678, 679, 680, 681, 682, 683, 684, 685, 686, 687, 688, 689, 690, 691] (by decide +kernel) (by decide +kernel)
set_option maxRecDepth 20000 in
theorem gL_law_X5_knots : GoodIn wsL_law (wsV RL 124 RX5 yX5_knots wsX5_knots) := goodIn_app (goodIn_of _ (by decide +kernel)) ggL_law_X5_knots
set_option maxRecDepth 20000 in
theorem ggL_law_L_thread : GoodIn wsL_law wsL_thread := goodIn_ca (goodIn_r _ [539, 89, 540, 541, 542, 2, 543, 24, 28, 241, 242, 243, 158, 159, 160, 98, 99, 256, 253, 254, 23, 255, 52, 115, 116, 489, 490, 491, 492, 34, 544, 362, 363, 27, 364, 64, 545, 546, 547, 548, 59, 335, 332, 333, 19, 334, 47, 46, 663, 664, 665, 666, 667, 668, 669, 670, 671, 672, 698, 699, 700, 701, 702, 703, 704, 693, 694, 695, 696, 697] (by decide +kernel) (by decide +kernel)) (goodIn_sub (fun _ h => List.mem_append_left _ (List.mem_append_left _ (List.mem_append_right _ h))) (by decide +kernel))
set_option maxRecDepth 20000 in
theorem gL_law_L_thread : GoodIn wsL_law (va_wsS RL 125 yL_thread wsL_thread) := goodIn_app (goodIn_of _ (by decide +kernel)) ggL_law_L_thread
set_option maxRecDepth 20000 in
theorem ggL_law_X5_thread : GoodIn wsL_law wsX5_thread := goodIn_r _ [552, 127, 261, 262, 5, 263, 131, 132, 133, 553, 554, 555, 556, 77, 393, 84, 395, 83, 430, 431, 432, 137, 138, 139, 140, 673, 674, 675, 676, 677, 678, 679, 680, 681, 682, 683, 684, 685, 686, 687, 688, 689, 690, 691] (by decide +kernel) (by decide +kernel)
set_option maxRecDepth 20000 in
theorem gL_law_X5_thread : GoodIn wsL_law (wsV RL 127 RX5 yX5_thread wsX5_thread) := goodIn_app (goodIn_of _ (by decide +kernel)) ggL_law_X5_thread
set_option maxRecDepth 20000 in
theorem ggL_law_L_count : GoodIn wsL_law wsL_count := goodIn_ca (goodIn_r _ [559, 89, 560, 561, 562, 2, 563, 158, 159, 160, 98, 99, 564, 565, 566, 567, 30, 31, 32, 33, 34, 24, 28, 568, 569, 570, 23, 571, 252, 253, 254, 255, 52, 115, 116, 489, 490, 491, 492, 572, 573, 574, 27, 575, 65, 373, 374, 375, 376, 377, 378, 379, 380, 381, 382, 383, 384, 61, 321, 112, 113, 15, 114, 39, 101, 102, 385, 386, 387, 388, 63, 663, 664, 665, 666, 667, 668, 669, 670, 671, 672, 698, 699, 700, 701, 702, 703, 704, 692] (by decide +kernel) (by decide +kernel)) (goodIn_sub (fun _ h => List.mem_append_left _ (List.mem_append_left _ (List.mem_append_right _ h))) (by decide +kernel))
set_option maxRecDepth 20000 in
theorem gL_law_L_count : GoodIn wsL_law (va_wsS RL 128 yL_count wsL_count) := goodIn_app (goodIn_of _ (by decide +kernel)) ggL_law_L_count
set_option maxRecDepth 20000 in
theorem ggL_law_X5_count : GoodIn wsL_law wsX5_count := goodIn_r _ [579, 127, 131, 132, 5, 133, 580, 581, 582, 583, 75, 76, 224, 233, 393, 77, 397, 84, 433, 434, 435, 436, 437, 438, 439, 440, 441, 442, 443, 141, 142, 143, 444, 445, 446, 447, 448, 449, 137, 138, 139, 140, 673, 674, 675, 676, 677, 678, 679, 680, 681, 682, 683, 684, 685, 686, 687, 688, 689, 690, 691] (by decide +kernel) (by decide +kernel)
set_option maxRecDepth 20000 in
theorem gL_law_X5_count : GoodIn wsL_law (wsV RL 130 RX5 yX5_count wsX5_count) := goodIn_app (goodIn_of _ (by decide +kernel)) ggL_law_X5_count
set_option maxRecDepth 20000 in
theorem ggL_law_L_would : GoodIn wsL_law wsL_would := goodIn_ca (goodIn_ca (goodIn_r _ [586, 90, 89, 587, 588, 589, 2, 590, 29, 16, 31, 32, 33, 198, 199, 200, 106, 107, 108, 109, 110, 158, 159, 160, 98, 99, 272, 273, 274, 27, 275, 59, 62, 64, 65, 276, 277, 278, 19, 279, 47, 45, 46, 280, 281, 282, 283, 43, 53, 54, 284, 112, 113, 15, 114, 39, 101, 102, 115, 116, 121, 122, 285, 286, 287, 288, 44, 289, 290, 291, 292, 293, 294, 295, 296, 297, 298, 299, 300, 301, 302, 303, 304, 305, 306, 307, 308, 309, 310, 311, 312, 313, 67, 68, 69, 314, 315, 316, 317, 61, 318, 319, 169, 320, 321, 322, 323, 324, 325, 326, 327, 328, 329, 330, 331, 332, 333, 334, 335, 336, 118, 119, 120, 337, 338, 339, 340, 341, 342, 343, 344, 345, 346, 347, 348, 349, 350, 63, 591, 592, 593, 594, 595, 596, 597, 598, 572, 573, 574, 575, 373, 374, 375, 376, 377, 378, 379, 380, 381, 382, 383, 384, 385, 386, 387, 388, 663, 664, 665, 666, 667, 668, 669, 670, 671, 672, 699, 700, 701, 702, 703, 704, 693, 694, 695, 696, 697, 692] (by decide +kernel) (by decide +kernel)) (goodIn_sub (fun _ h => List.mem_append_left _ (List.mem_append_right _ h)) (by decide +kernel))) (goodIn_sub (fun _ h => List.mem_append_left _ (List.mem_append_left _ (List.mem_append_right _ h))) (by decide +kernel))
set_option maxRecDepth 20000 in
theorem gL_law_L_would : GoodIn wsL_law (va_wsS RL 131 yL_would wsL_would) := goodIn_app (goodIn_of _ (by decide +kernel)) ggL_law_L_would
set_option maxRecDepth 20000 in
theorem ggL_law_X5_would : GoodIn wsL_law wsX5_would := goodIn_r _ [602, 127, 131, 132, 5, 133, 137, 138, 139, 140, 603, 604, 605, 606, 394, 396, 80, 402, 403, 404, 405, 82, 81, 224, 74, 78, 406, 319, 169, 320, 407, 408, 409, 410, 38, 79, 411, 412, 413, 414, 415, 416, 417, 418, 141, 142, 143, 419, 420, 421, 422, 423, 424, 425, 426, 76, 427, 428, 429, 128, 129, 130, 433, 434, 435, 436, 437, 438, 439, 440, 233, 441, 442, 443, 444, 445, 446, 447, 448, 449, 673, 674, 675, 676, 677, 678, 679, 680, 681, 682, 683, 684, 685, 686, 687, 688, 689, 690, 691] (by decide +kernel) (by decide +kernel)
set_option maxRecDepth 20000 in
theorem gL_law_X5_would : GoodIn wsL_law (wsV RL 133 RX5 yX5_would wsX5_would) := goodIn_app (goodIn_of _ (by decide +kernel)) ggL_law_X5_would
set_option maxRecDepth 20000 in
theorem ggL_law_L_advise : GoodIn wsL_law wsL_advise := goodIn_ca (goodIn_r _ [609, 90, 610, 611, 612, 2, 613, 29, 16, 31, 32, 33, 614, 615, 616, 106, 107, 108, 109, 110, 272, 273, 274, 27, 275, 59, 62, 64, 65, 276, 277, 278, 19, 279, 47, 45, 46, 280, 281, 282, 283, 43, 53, 54, 284, 112, 113, 15, 114, 39, 101, 102, 115, 116, 121, 122, 285, 286, 287, 288, 44, 289, 290, 291, 292, 293, 294, 295, 296, 297, 298, 299, 300, 301, 302, 303, 304, 305, 306, 307, 308, 309, 310, 311, 312, 313, 67, 68, 69, 314, 315, 316, 317, 61, 318, 319, 169, 320, 321, 322, 323, 324, 325, 326, 327, 328, 329, 330, 331, 332, 333, 334, 335, 336, 118, 119, 120, 337, 338, 339, 340, 341, 342, 343, 344, 345, 346, 347, 348, 349, 350, 63, 373, 374, 375, 376, 377, 378, 379, 380, 381, 382, 383, 384, 385, 386, 387, 388, 572, 573, 574, 575, 663, 664, 665, 666, 667, 668, 669, 670, 671, 672, 699, 700, 701, 702, 703, 704, 693, 694, 695, 696, 697, 692] (by decide +kernel) (by decide +kernel)) (goodIn_sub (fun _ h => List.mem_append_left _ (List.mem_append_right _ h)) (by decide +kernel))
set_option maxRecDepth 20000 in
theorem gL_law_L_advise : GoodIn wsL_law (va_wsS RL 134 yL_advise wsL_advise) := goodIn_app (goodIn_of _ (by decide +kernel)) ggL_law_L_advise
set_option maxRecDepth 20000 in
theorem ggL_law_X5_advise : GoodIn wsL_law wsX5_advise := goodIn_r _ [620, 127, 80, 396, 131, 132, 5, 133, 137, 138, 139, 140, 402, 403, 404, 405, 82, 81, 224, 74, 78, 406, 319, 169, 320, 407, 408, 409, 410, 38, 394, 79, 411, 412, 413, 414, 415, 416, 417, 418, 141, 142, 143, 419, 420, 421, 422, 423, 424, 425, 426, 76, 427, 428, 429, 128, 129, 130, 433, 434, 435, 436, 437, 438, 439, 440, 233, 441, 442, 443, 444, 445, 446, 447, 448, 449, 673, 674, 675, 676, 677, 678, 679, 680, 681, 682, 683, 684, 685, 686, 687, 688, 689, 690, 691] (by decide +kernel) (by decide +kernel)
set_option maxRecDepth 20000 in
theorem gL_law_X5_advise : GoodIn wsL_law (wsV RL 136 RX5 yX5_advise wsX5_advise) := goodIn_app (goodIn_of _ (by decide +kernel)) ggL_law_X5_advise
set_option maxRecDepth 20000 in
theorem ggL_law_X4_mean : GoodIn wsL_law wsX4_mean := goodIn_r _ [624, 16, 625, 111, 112, 113, 15, 114, 39, 101, 2, 102, 115, 116, 663, 664, 665, 666, 667, 668, 669, 670, 671, 672, 692] (by decide +kernel) (by decide +kernel)
set_option maxRecDepth 20000 in
theorem gL_law_X4_mean : GoodIn wsL_law (wsV RL 137 RX4 yX4_mean wsX4_mean) := goodIn_app (goodIn_of _ (by decide +kernel)) ggL_law_X4_mean
set_option maxRecDepth 20000 in
theorem ggL_law_X5_mean : GoodIn wsL_law wsX5_mean := goodIn_r _ [629, 127, 74, 630, 673, 674, 675, 676, 677, 678, 679, 680, 681, 682, 683, 684, 685, 686, 687, 688, 689, 690, 691] (by decide +kernel) (by decide +kernel)
set_option maxRecDepth 20000 in
theorem gL_law_X5_mean : GoodIn wsL_law (wsV RL 141 RX5 yX5_mean wsX5_mean) := goodIn_app (goodIn_of _ (by decide +kernel)) ggL_law_X5_mean
set_option maxRecDepth 20000 in
theorem ggL_law_X4_digest : GoodIn wsL_law wsX4_digest := goodIn_r _ [634, 635, 636, 16, 24, 28, 564, 565, 566, 2, 567, 30, 31, 32, 33, 34, 568, 569, 570, 23, 571, 252, 253, 254, 255, 52, 115, 116, 489, 490, 491, 492, 572, 573, 574, 27, 575, 65, 373, 374, 375, 376, 377, 378, 379, 380, 381, 382, 383, 384, 61, 321, 112, 113, 15, 114, 39, 101, 102, 385, 386, 387, 388, 63, 637, 638, 639, 640, 641, 642, 643, 644, 645, 646, 647, 648, 649, 650, 651, 59, 652, 653, 654, 19, 655, 46, 47, 656, 663, 664, 665, 666, 667, 668, 669, 670, 671, 672, 698, 699, 700, 701, 702, 703, 704, 692, 693, 694, 695, 696, 697] (by decide +kernel) (by decide +kernel)
set_option maxRecDepth 20000 in
theorem gL_law_X4_digest : GoodIn wsL_law (wsV RL 142 RX4 yX4_digest wsX4_digest) := goodIn_app (goodIn_of _ (by decide +kernel)) ggL_law_X4_digest
set_option maxRecDepth 20000 in
theorem ggL_law_X5_digest : GoodIn wsL_law wsX5_digest := goodIn_r _ [660, 127, 661, 662, 74, 77, 395, 83, 393, 84, 580, 581, 582, 5, 583, 75, 76, 224, 233, 397, 433, 434, 435, 436, 437, 438, 439, 440, 441, 442, 443, 141, 142, 143, 444, 445, 446, 447, 448, 449, 673, 674, 675, 676, 677, 678, 679, 680, 681, 682, 683, 684, 685, 686, 687, 688, 689, 690, 691] (by decide +kernel) (by decide +kernel)
set_option maxRecDepth 20000 in
theorem gL_law_X5_digest : GoodIn wsL_law (wsV RL 146 RX5 yX5_digest wsX5_digest) := goodIn_app (goodIn_of _ (by decide +kernel)) ggL_law_X5_digest
theorem dL_law_0 : decode cL_law 0 = .ok (.new 8, 3) := by decide +kernel
theorem dL_law_3 : decode cL_law 3 = .ok (.dup, 1) := by decide +kernel
theorem dL_law_4 : decode cL_law 4 = .ok (.invokespecial 67, 3) := by decide +kernel
theorem dL_law_7 : decode cL_law 7 = .ok (.astore_n 1, 1) := by decide +kernel
theorem dL_law_8 : decode cL_law 8 = .ok (.new 68, 3) := by decide +kernel
theorem dL_law_11 : decode cL_law 11 = .ok (.dup, 1) := by decide +kernel
theorem dL_law_12 : decode cL_law 12 = .ok (.invokespecial 70, 3) := by decide +kernel
theorem dL_law_15 : decode cL_law 15 = .ok (.astore_n 2, 1) := by decide +kernel
theorem dL_law_16 : decode cL_law 16 = .ok (.iconst 1, 1) := by decide +kernel
theorem dL_law_17 : decode cL_law 17 = .ok (.newarray .long, 2) := by decide +kernel
theorem dL_law_19 : decode cL_law 19 = .ok (.astore_n 3, 1) := by decide +kernel
theorem dL_law_20 : decode cL_law 20 = .ok (.iconst 0, 1) := by decide +kernel
theorem dL_law_21 : decode cL_law 21 = .ok (.istore 4, 2) := by decide +kernel
theorem dL_law_23 : decode cL_law 23 = .ok (.iload 4, 2) := by decide +kernel
theorem dL_law_25 : decode cL_law 25 = .ok (.aload_n 0, 1) := by decide +kernel
theorem dL_law_26 : decode cL_law 26 = .ok (.arraylength, 1) := by decide +kernel
theorem dL_law_27 : decode cL_law 27 = .ok (.iconst 4, 1) := by decide +kernel
theorem dL_law_28 : decode cL_law 28 = .ok (.isub, 1) := by decide +kernel
theorem dL_law_29 : decode cL_law 29 = .ok (.if_icmp .gt 1274, 3) := by decide +kernel
theorem dL_law_32 : decode cL_law 32 = .ok (.aload_n 0, 1) := by decide +kernel
theorem dL_law_33 : decode cL_law 33 = .ok (.iload 4, 2) := by decide +kernel
theorem dL_law_35 : decode cL_law 35 = .ok (.iaload, 1) := by decide +kernel
theorem dL_law_36 : decode cL_law 36 = .ok (.bipush 31, 2) := by decide +kernel
theorem dL_law_38 : decode cL_law 38 = .ok (.iand, 1) := by decide +kernel
theorem dL_law_39 : decode cL_law 39 = .ok (.tableswitch 1258 0 19 #[93, 173, 253, 321, 377, 433, 474, 515, 583, 627, 695, 751, 819, 899, 955, 1023, 1079, 1147, 1203, 1244], 93) := by decide +kernel
theorem dL_law_132 : decode cL_law 132 = .ok (.aload_n 1, 1) := by decide +kernel
theorem dL_law_133 : decode cL_law 133 = .ok (.aload_n 0, 1) := by decide +kernel
theorem dL_law_134 : decode cL_law 134 = .ok (.iload 4, 2) := by decide +kernel
theorem dL_law_136 : decode cL_law 136 = .ok (.iconst 1, 1) := by decide +kernel
theorem dL_law_137 : decode cL_law 137 = .ok (.iadd, 1) := by decide +kernel
theorem dL_law_138 : decode cL_law 138 = .ok (.iaload, 1) := by decide +kernel
theorem dL_law_139 : decode cL_law 139 = .ok (.aload_n 0, 1) := by decide +kernel
theorem dL_law_140 : decode cL_law 140 = .ok (.iload 4, 2) := by decide +kernel
theorem dL_law_142 : decode cL_law 142 = .ok (.iconst 2, 1) := by decide +kernel
theorem dL_law_143 : decode cL_law 143 = .ok (.iadd, 1) := by decide +kernel
theorem dL_law_144 : decode cL_law 144 = .ok (.iaload, 1) := by decide +kernel
theorem dL_law_145 : decode cL_law 145 = .ok (.aload_n 0, 1) := by decide +kernel
theorem dL_law_146 : decode cL_law 146 = .ok (.iload 4, 2) := by decide +kernel
theorem dL_law_148 : decode cL_law 148 = .ok (.iconst 3, 1) := by decide +kernel
theorem dL_law_149 : decode cL_law 149 = .ok (.iadd, 1) := by decide +kernel
theorem dL_law_150 : decode cL_law 150 = .ok (.iaload, 1) := by decide +kernel
theorem dL_law_151 : decode cL_law 151 = .ok (.aload_n 3, 1) := by decide +kernel
theorem dL_law_152 : decode cL_law 152 = .ok (.invokestatic 71, 3) := by decide +kernel
theorem dL_law_155 : decode cL_law 155 = .ok (.istore 5, 2) := by decide +kernel
theorem dL_law_157 : decode cL_law 157 = .ok (.aload_n 2, 1) := by decide +kernel
theorem dL_law_158 : decode cL_law 158 = .ok (.aload_n 0, 1) := by decide +kernel
theorem dL_law_159 : decode cL_law 159 = .ok (.iload 4, 2) := by decide +kernel
theorem dL_law_161 : decode cL_law 161 = .ok (.iconst 1, 1) := by decide +kernel
theorem dL_law_162 : decode cL_law 162 = .ok (.iadd, 1) := by decide +kernel
theorem dL_law_163 : decode cL_law 163 = .ok (.iaload, 1) := by decide +kernel
theorem dL_law_164 : decode cL_law 164 = .ok (.aload_n 0, 1) := by decide +kernel
theorem dL_law_165 : decode cL_law 165 = .ok (.iload 4, 2) := by decide +kernel
theorem dL_law_167 : decode cL_law 167 = .ok (.iconst 2, 1) := by decide +kernel
theorem dL_law_168 : decode cL_law 168 = .ok (.iadd, 1) := by decide +kernel
theorem dL_law_169 : decode cL_law 169 = .ok (.iaload, 1) := by decide +kernel
theorem dL_law_170 : decode cL_law 170 = .ok (.aload_n 0, 1) := by decide +kernel
theorem dL_law_171 : decode cL_law 171 = .ok (.iload 4, 2) := by decide +kernel
theorem dL_law_173 : decode cL_law 173 = .ok (.iconst 3, 1) := by decide +kernel
theorem dL_law_174 : decode cL_law 174 = .ok (.iadd, 1) := by decide +kernel
theorem dL_law_175 : decode cL_law 175 = .ok (.iaload, 1) := by decide +kernel
theorem dL_law_176 : decode cL_law 176 = .ok (.invokevirtual 76, 3) := by decide +kernel
theorem dL_law_179 : decode cL_law 179 = .ok (.istore 6, 2) := by decide +kernel
theorem dL_law_181 : decode cL_law 181 = .ok (.aload_n 2, 1) := by decide +kernel
theorem dL_law_182 : decode cL_law 182 = .ok (.invokevirtual 77, 3) := by decide +kernel
theorem dL_law_185 : decode cL_law 185 = .ok (.iload 5, 2) := by decide +kernel
theorem dL_law_187 : decode cL_law 187 = .ok (.if_icmp .eq 5, 3) := by decide +kernel
theorem dL_law_190 : decode cL_law 190 = .ok (.iconst 0, 1) := by decide +kernel
theorem dL_law_191 : decode cL_law 191 = .ok (.ireturn, 1) := by decide +kernel
theorem dL_law_192 : decode cL_law 192 = .ok (.iload 5, 2) := by decide +kernel
theorem dL_law_194 : decode cL_law 194 = .ok (.ifCond .ne 15, 3) := by decide +kernel
theorem dL_law_197 : decode cL_law 197 = .ok (.aload_n 3, 1) := by decide +kernel
theorem dL_law_198 : decode cL_law 198 = .ok (.iconst 0, 1) := by decide +kernel
theorem dL_law_199 : decode cL_law 199 = .ok (.laload, 1) := by decide +kernel
theorem dL_law_200 : decode cL_law 200 = .ok (.iload 6, 2) := by decide +kernel
theorem dL_law_202 : decode cL_law 202 = .ok (.i2l, 1) := by decide +kernel
theorem dL_law_203 : decode cL_law 203 = .ok (.lcmp, 1) := by decide +kernel
theorem dL_law_204 : decode cL_law 204 = .ok (.ifCond .eq 5, 3) := by decide +kernel
theorem dL_law_207 : decode cL_law 207 = .ok (.iconst 0, 1) := by decide +kernel
theorem dL_law_208 : decode cL_law 208 = .ok (.ireturn, 1) := by decide +kernel
theorem dL_law_209 : decode cL_law 209 = .ok (.goto 1088, 3) := by decide +kernel
theorem dL_law_212 : decode cL_law 212 = .ok (.aload_n 1, 1) := by decide +kernel
theorem dL_law_213 : decode cL_law 213 = .ok (.aload_n 0, 1) := by decide +kernel
theorem dL_law_214 : decode cL_law 214 = .ok (.iload 4, 2) := by decide +kernel
theorem dL_law_216 : decode cL_law 216 = .ok (.iconst 1, 1) := by decide +kernel
theorem dL_law_217 : decode cL_law 217 = .ok (.iadd, 1) := by decide +kernel
theorem dL_law_218 : decode cL_law 218 = .ok (.iaload, 1) := by decide +kernel
theorem dL_law_219 : decode cL_law 219 = .ok (.aload_n 0, 1) := by decide +kernel
theorem dL_law_220 : decode cL_law 220 = .ok (.iload 4, 2) := by decide +kernel
theorem dL_law_222 : decode cL_law 222 = .ok (.iconst 2, 1) := by decide +kernel
theorem dL_law_223 : decode cL_law 223 = .ok (.iadd, 1) := by decide +kernel
theorem dL_law_224 : decode cL_law 224 = .ok (.iaload, 1) := by decide +kernel
theorem dL_law_225 : decode cL_law 225 = .ok (.aload_n 0, 1) := by decide +kernel
theorem dL_law_226 : decode cL_law 226 = .ok (.iload 4, 2) := by decide +kernel
theorem dL_law_228 : decode cL_law 228 = .ok (.iconst 3, 1) := by decide +kernel
theorem dL_law_229 : decode cL_law 229 = .ok (.iadd, 1) := by decide +kernel
theorem dL_law_230 : decode cL_law 230 = .ok (.iaload, 1) := by decide +kernel
theorem dL_law_231 : decode cL_law 231 = .ok (.aload_n 3, 1) := by decide +kernel
theorem dL_law_232 : decode cL_law 232 = .ok (.invokestatic 80, 3) := by decide +kernel
theorem dL_law_235 : decode cL_law 235 = .ok (.istore 5, 2) := by decide +kernel
theorem dL_law_237 : decode cL_law 237 = .ok (.aload_n 2, 1) := by decide +kernel
theorem dL_law_238 : decode cL_law 238 = .ok (.aload_n 0, 1) := by decide +kernel
theorem dL_law_239 : decode cL_law 239 = .ok (.iload 4, 2) := by decide +kernel
theorem dL_law_241 : decode cL_law 241 = .ok (.iconst 1, 1) := by decide +kernel
theorem dL_law_242 : decode cL_law 242 = .ok (.iadd, 1) := by decide +kernel
theorem dL_law_243 : decode cL_law 243 = .ok (.iaload, 1) := by decide +kernel
theorem dL_law_244 : decode cL_law 244 = .ok (.aload_n 0, 1) := by decide +kernel
theorem dL_law_245 : decode cL_law 245 = .ok (.iload 4, 2) := by decide +kernel
theorem dL_law_247 : decode cL_law 247 = .ok (.iconst 2, 1) := by decide +kernel
theorem dL_law_248 : decode cL_law 248 = .ok (.iadd, 1) := by decide +kernel
theorem dL_law_249 : decode cL_law 249 = .ok (.iaload, 1) := by decide +kernel
theorem dL_law_250 : decode cL_law 250 = .ok (.aload_n 0, 1) := by decide +kernel
theorem dL_law_251 : decode cL_law 251 = .ok (.iload 4, 2) := by decide +kernel
theorem dL_law_253 : decode cL_law 253 = .ok (.iconst 3, 1) := by decide +kernel
theorem dL_law_254 : decode cL_law 254 = .ok (.iadd, 1) := by decide +kernel
theorem dL_law_255 : decode cL_law 255 = .ok (.iaload, 1) := by decide +kernel
theorem dL_law_256 : decode cL_law 256 = .ok (.invokevirtual 82, 3) := by decide +kernel
theorem dL_law_259 : decode cL_law 259 = .ok (.istore 6, 2) := by decide +kernel
theorem dL_law_261 : decode cL_law 261 = .ok (.aload_n 2, 1) := by decide +kernel
theorem dL_law_262 : decode cL_law 262 = .ok (.invokevirtual 77, 3) := by decide +kernel
theorem dL_law_265 : decode cL_law 265 = .ok (.iload 5, 2) := by decide +kernel
theorem dL_law_267 : decode cL_law 267 = .ok (.if_icmp .eq 5, 3) := by decide +kernel
theorem dL_law_270 : decode cL_law 270 = .ok (.iconst 0, 1) := by decide +kernel
theorem dL_law_271 : decode cL_law 271 = .ok (.ireturn, 1) := by decide +kernel
theorem dL_law_272 : decode cL_law 272 = .ok (.iload 5, 2) := by decide +kernel
theorem dL_law_274 : decode cL_law 274 = .ok (.ifCond .ne 15, 3) := by decide +kernel
theorem dL_law_277 : decode cL_law 277 = .ok (.aload_n 3, 1) := by decide +kernel
theorem dL_law_278 : decode cL_law 278 = .ok (.iconst 0, 1) := by decide +kernel
theorem dL_law_279 : decode cL_law 279 = .ok (.laload, 1) := by decide +kernel
theorem dL_law_280 : decode cL_law 280 = .ok (.iload 6, 2) := by decide +kernel
theorem dL_law_282 : decode cL_law 282 = .ok (.i2l, 1) := by decide +kernel
theorem dL_law_283 : decode cL_law 283 = .ok (.lcmp, 1) := by decide +kernel
theorem dL_law_284 : decode cL_law 284 = .ok (.ifCond .eq 5, 3) := by decide +kernel
theorem dL_law_287 : decode cL_law 287 = .ok (.iconst 0, 1) := by decide +kernel
theorem dL_law_288 : decode cL_law 288 = .ok (.ireturn, 1) := by decide +kernel
theorem dL_law_289 : decode cL_law 289 = .ok (.goto 1008, 3) := by decide +kernel
theorem dL_law_292 : decode cL_law 292 = .ok (.aload_n 1, 1) := by decide +kernel
theorem dL_law_293 : decode cL_law 293 = .ok (.aload_n 0, 1) := by decide +kernel
theorem dL_law_294 : decode cL_law 294 = .ok (.iload 4, 2) := by decide +kernel
theorem dL_law_296 : decode cL_law 296 = .ok (.iconst 1, 1) := by decide +kernel
theorem dL_law_297 : decode cL_law 297 = .ok (.iadd, 1) := by decide +kernel
theorem dL_law_298 : decode cL_law 298 = .ok (.iaload, 1) := by decide +kernel
theorem dL_law_299 : decode cL_law 299 = .ok (.aload_n 0, 1) := by decide +kernel
theorem dL_law_300 : decode cL_law 300 = .ok (.iload 4, 2) := by decide +kernel
theorem dL_law_302 : decode cL_law 302 = .ok (.iconst 2, 1) := by decide +kernel
theorem dL_law_303 : decode cL_law 303 = .ok (.iadd, 1) := by decide +kernel
theorem dL_law_304 : decode cL_law 304 = .ok (.iaload, 1) := by decide +kernel
theorem dL_law_305 : decode cL_law 305 = .ok (.aload_n 3, 1) := by decide +kernel
theorem dL_law_306 : decode cL_law 306 = .ok (.invokestatic 83, 3) := by decide +kernel
theorem dL_law_309 : decode cL_law 309 = .ok (.istore 5, 2) := by decide +kernel
theorem dL_law_311 : decode cL_law 311 = .ok (.aload_n 2, 1) := by decide +kernel
theorem dL_law_312 : decode cL_law 312 = .ok (.aload_n 0, 1) := by decide +kernel
theorem dL_law_313 : decode cL_law 313 = .ok (.iload 4, 2) := by decide +kernel
theorem dL_law_315 : decode cL_law 315 = .ok (.iconst 1, 1) := by decide +kernel
theorem dL_law_316 : decode cL_law 316 = .ok (.iadd, 1) := by decide +kernel
theorem dL_law_317 : decode cL_law 317 = .ok (.iaload, 1) := by decide +kernel
theorem dL_law_318 : decode cL_law 318 = .ok (.aload_n 0, 1) := by decide +kernel
theorem dL_law_319 : decode cL_law 319 = .ok (.iload 4, 2) := by decide +kernel
theorem dL_law_321 : decode cL_law 321 = .ok (.iconst 2, 1) := by decide +kernel
theorem dL_law_322 : decode cL_law 322 = .ok (.iadd, 1) := by decide +kernel
theorem dL_law_323 : decode cL_law 323 = .ok (.iaload, 1) := by decide +kernel
theorem dL_law_324 : decode cL_law 324 = .ok (.invokevirtual 86, 3) := by decide +kernel
theorem dL_law_327 : decode cL_law 327 = .ok (.istore 6, 2) := by decide +kernel
theorem dL_law_329 : decode cL_law 329 = .ok (.aload_n 2, 1) := by decide +kernel
theorem dL_law_330 : decode cL_law 330 = .ok (.invokevirtual 77, 3) := by decide +kernel
theorem dL_law_333 : decode cL_law 333 = .ok (.iload 5, 2) := by decide +kernel
theorem dL_law_335 : decode cL_law 335 = .ok (.if_icmp .eq 5, 3) := by decide +kernel
theorem dL_law_338 : decode cL_law 338 = .ok (.iconst 0, 1) := by decide +kernel
theorem dL_law_339 : decode cL_law 339 = .ok (.ireturn, 1) := by decide +kernel
theorem dL_law_340 : decode cL_law 340 = .ok (.iload 5, 2) := by decide +kernel
theorem dL_law_342 : decode cL_law 342 = .ok (.ifCond .ne 15, 3) := by decide +kernel
theorem dL_law_345 : decode cL_law 345 = .ok (.aload_n 3, 1) := by decide +kernel
theorem dL_law_346 : decode cL_law 346 = .ok (.iconst 0, 1) := by decide +kernel
theorem dL_law_347 : decode cL_law 347 = .ok (.laload, 1) := by decide +kernel
theorem dL_law_348 : decode cL_law 348 = .ok (.iload 6, 2) := by decide +kernel
theorem dL_law_350 : decode cL_law 350 = .ok (.i2l, 1) := by decide +kernel
