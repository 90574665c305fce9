theorem dX5_at_4 : decode cX5_at 4 = .ok (.iload_n 0, 1) := by decide +kernel
theorem dX5_at_5 : decode cX5_at 5 = .ok (.iadd, 1) := by decide +kernel
theorem dX5_at_6 : decode cX5_at 6 = .ok (.ireturn, 1) := by decide +kernel
theorem dX5_sort_0 : decode cX5_sort 0 = .ok (.iconst 0, 1) := by decide +kernel
theorem dX5_sort_1 : decode cX5_sort 1 = .ok (.istore_n 1, 1) := by decide +kernel
theorem dX5_sort_2 : decode cX5_sort 2 = .ok (.iconst 0, 1) := by decide +kernel
theorem dX5_sort_3 : decode cX5_sort 3 = .ok (.istore_n 2, 1) := by decide +kernel
theorem dX5_sort_4 : decode cX5_sort 4 = .ok (.iload_n 2, 1) := by decide +kernel
theorem dX5_sort_5 : decode cX5_sort 5 = .ok (.sipush 255, 3) := by decide +kernel
theorem dX5_sort_8 : decode cX5_sort 8 = .ok (.if_icmp .gt 59, 3) := by decide +kernel
theorem dX5_sort_11 : decode cX5_sort 11 = .ok (.aload_n 0, 1) := by decide +kernel
theorem dX5_sort_12 : decode cX5_sort 12 = .ok (.getfield 9, 3) := by decide +kernel
theorem dX5_sort_15 : decode cX5_sort 15 = .ok (.astore_n 3, 1) := by decide +kernel
theorem dX5_sort_16 : decode cX5_sort 16 = .ok (.aload_n 3, 1) := by decide +kernel
theorem dX5_sort_17 : decode cX5_sort 17 = .ok (.arraylength, 1) := by decide +kernel
theorem dX5_sort_18 : decode cX5_sort 18 = .ok (.istore 4, 2) := by decide +kernel
theorem dX5_sort_20 : decode cX5_sort 20 = .ok (.iconst 0, 1) := by decide +kernel
theorem dX5_sort_21 : decode cX5_sort 21 = .ok (.istore 5, 2) := by decide +kernel
theorem dX5_sort_23 : decode cX5_sort 23 = .ok (.iload 5, 2) := by decide +kernel
theorem dX5_sort_25 : decode cX5_sort 25 = .ok (.iload 4, 2) := by decide +kernel
theorem dX5_sort_27 : decode cX5_sort 27 = .ok (.if_icmp .ge 34, 3) := by decide +kernel
theorem dX5_sort_30 : decode cX5_sort 30 = .ok (.aload_n 3, 1) := by decide +kernel
theorem dX5_sort_31 : decode cX5_sort 31 = .ok (.iload 5, 2) := by decide +kernel
theorem dX5_sort_33 : decode cX5_sort 33 = .ok (.iaload, 1) := by decide +kernel
theorem dX5_sort_34 : decode cX5_sort 34 = .ok (.istore 6, 2) := by decide +kernel
theorem dX5_sort_36 : decode cX5_sort 36 = .ok (.iload 6, 2) := by decide +kernel
theorem dX5_sort_38 : decode cX5_sort 38 = .ok (.iload_n 2, 1) := by decide +kernel
theorem dX5_sort_39 : decode cX5_sort 39 = .ok (.if_icmp .eq 6, 3) := by decide +kernel
theorem dX5_sort_42 : decode cX5_sort 42 = .ok (.goto 13, 3) := by decide +kernel
theorem dX5_sort_45 : decode cX5_sort 45 = .ok (.aload_n 0, 1) := by decide +kernel
theorem dX5_sort_46 : decode cX5_sort 46 = .ok (.getfield 26, 3) := by decide +kernel
theorem dX5_sort_49 : decode cX5_sort 49 = .ok (.iload_n 1, 1) := by decide +kernel
theorem dX5_sort_50 : decode cX5_sort 50 = .ok (.iload_n 2, 1) := by decide +kernel
theorem dX5_sort_51 : decode cX5_sort 51 = .ok (.iastore, 1) := by decide +kernel
theorem dX5_sort_52 : decode cX5_sort 52 = .ok (.iinc 1 1, 3) := by decide +kernel
theorem dX5_sort_55 : decode cX5_sort 55 = .ok (.iinc 5 1, 3) := by decide +kernel
theorem dX5_sort_58 : decode cX5_sort 58 = .ok (.goto (-35), 3) := by decide +kernel
theorem dX5_sort_61 : decode cX5_sort 61 = .ok (.iinc 2 1, 3) := by decide +kernel
theorem dX5_sort_64 : decode cX5_sort 64 = .ok (.goto (-60), 3) := by decide +kernel
theorem dX5_sort_67 : decode cX5_sort 67 = .ok (.return_, 1) := by decide +kernel
set_option maxRecDepth 20000 in
theorem ggX5_look_X5_sort : GoodIn wsX5_look wsX5_sort := goodIn_r _ [9, 10, 3, 15, 16, 17, 18, 19, 20, 21, 22, 23, 24, 25, 26, 27, 28, 29, 30, 31, 32, 33] (by decide +kernel) (by decide +kernel)
set_option maxRecDepth 20000 in
theorem gX5_look_X5_sort : GoodIn wsX5_look (wsV RX5 51 RX5 yX5_sort wsX5_sort) := goodIn_app (goodIn_of _ (by decide +kernel)) ggX5_look_X5_sort
set_option maxRecDepth 20000 in
theorem ggX5_look_X5_wide : GoodIn wsX5_look wsX5_wide := goodIn_r _ [14, 3, 15, 16, 17, 18, 19, 20, 21, 22, 23, 24, 25, 26, 27, 28, 29, 30, 31, 32, 33] (by decide +kernel) (by decide +kernel)
set_option maxRecDepth 20000 in
theorem gX5_look_X5_wide : GoodIn wsX5_look (wsV RX5 57 RX5 yX5_wide wsX5_wide) := goodIn_app (goodIn_of _ (by decide +kernel)) ggX5_look_X5_wide
theorem dX5_look_0 : decode cX5_look 0 = .ok (.aload_n 0, 1) := by decide +kernel
theorem dX5_look_1 : decode cX5_look 1 = .ok (.invokevirtual 51, 3) := by decide +kernel
theorem dX5_look_4 : decode cX5_look 4 = .ok (.iload_n 1, 1) := by decide +kernel
theorem dX5_look_5 : decode cX5_look 5 = .ok (.iconst 1, 1) := by decide +kernel
theorem dX5_look_6 : decode cX5_look 6 = .ok (.iadd, 1) := by decide +kernel
theorem dX5_look_7 : decode cX5_look 7 = .ok (.newarray .int, 2) := by decide +kernel
theorem dX5_look_9 : decode cX5_look 9 = .ok (.astore_n 2, 1) := by decide +kernel
theorem dX5_look_10 : decode cX5_look 10 = .ok (.aload_n 2, 1) := by decide +kernel
theorem dX5_look_11 : decode cX5_look 11 = .ok (.iconst 1, 1) := by decide +kernel
theorem dX5_look_12 : decode cX5_look 12 = .ok (.bipush 96, 2) := by decide +kernel
theorem dX5_look_14 : decode cX5_look 14 = .ok (.iastore, 1) := by decide +kernel
theorem dX5_look_15 : decode cX5_look 15 = .ok (.aload_n 0, 1) := by decide +kernel
theorem dX5_look_16 : decode cX5_look 16 = .ok (.iconst 1, 1) := by decide +kernel
theorem dX5_look_17 : decode cX5_look 17 = .ok (.putfield 54, 3) := by decide +kernel
theorem dX5_look_20 : decode cX5_look 20 = .ok (.aload_n 0, 1) := by decide +kernel
theorem dX5_look_21 : decode cX5_look 21 = .ok (.getfield 54, 3) := by decide +kernel
theorem dX5_look_24 : decode cX5_look 24 = .ok (.iload_n 1, 1) := by decide +kernel
theorem dX5_look_25 : decode cX5_look 25 = .ok (.if_icmp .ge 115, 3) := by decide +kernel
theorem dX5_look_28 : decode cX5_look 28 = .ok (.iconst 0, 1) := by decide +kernel
theorem dX5_look_29 : decode cX5_look 29 = .ok (.istore_n 3, 1) := by decide +kernel
theorem dX5_look_30 : decode cX5_look 30 = .ok (.iconst 1, 1) := by decide +kernel
theorem dX5_look_31 : decode cX5_look 31 = .ok (.istore 4, 2) := by decide +kernel
theorem dX5_look_33 : decode cX5_look 33 = .ok (.iload 4, 2) := by decide +kernel
theorem dX5_look_35 : decode cX5_look 35 = .ok (.aload_n 0, 1) := by decide +kernel
theorem dX5_look_36 : decode cX5_look 36 = .ok (.getfield 54, 3) := by decide +kernel
theorem dX5_look_39 : decode cX5_look 39 = .ok (.if_icmp .ge 28, 3) := by decide +kernel
theorem dX5_look_42 : decode cX5_look 42 = .ok (.aload_n 0, 1) := by decide +kernel
theorem dX5_look_43 : decode cX5_look 43 = .ok (.aload_n 2, 1) := by decide +kernel
theorem dX5_look_44 : decode cX5_look 44 = .ok (.iload 4, 2) := by decide +kernel
theorem dX5_look_46 : decode cX5_look 46 = .ok (.invokevirtual 57, 3) := by decide +kernel
theorem dX5_look_49 : decode cX5_look 49 = .ok (.aload_n 0, 1) := by decide +kernel
theorem dX5_look_50 : decode cX5_look 50 = .ok (.aload_n 2, 1) := by decide +kernel
theorem dX5_look_51 : decode cX5_look 51 = .ok (.iload_n 3, 1) := by decide +kernel
theorem dX5_look_52 : decode cX5_look 52 = .ok (.invokevirtual 57, 3) := by decide +kernel
theorem dX5_look_55 : decode cX5_look 55 = .ok (.if_icmp .le 6, 3) := by decide +kernel
theorem dX5_look_58 : decode cX5_look 58 = .ok (.iload 4, 2) := by decide +kernel
theorem dX5_look_60 : decode cX5_look 60 = .ok (.istore_n 3, 1) := by decide +kernel
theorem dX5_look_61 : decode cX5_look 61 = .ok (.iinc 4 1, 3) := by decide +kernel
theorem dX5_look_64 : decode cX5_look 64 = .ok (.goto (-31), 3) := by decide +kernel
theorem dX5_look_67 : decode cX5_look 67 = .ok (.aload_n 0, 1) := by decide +kernel
theorem dX5_look_68 : decode cX5_look 68 = .ok (.aload_n 2, 1) := by decide +kernel
theorem dX5_look_69 : decode cX5_look 69 = .ok (.iload_n 3, 1) := by decide +kernel
theorem dX5_look_70 : decode cX5_look 70 = .ok (.invokevirtual 57, 3) := by decide +kernel
theorem dX5_look_73 : decode cX5_look 73 = .ok (.ifCond .ne 6, 3) := by decide +kernel
theorem dX5_look_76 : decode cX5_look 76 = .ok (.goto 64, 3) := by decide +kernel
theorem dX5_look_79 : decode cX5_look 79 = .ok (.aload_n 0, 1) := by decide +kernel
theorem dX5_look_80 : decode cX5_look 80 = .ok (.getfield 54, 3) := by decide +kernel
theorem dX5_look_83 : decode cX5_look 83 = .ok (.istore 4, 2) := by decide +kernel
theorem dX5_look_85 : decode cX5_look 85 = .ok (.iload 4, 2) := by decide +kernel
theorem dX5_look_87 : decode cX5_look 87 = .ok (.iload_n 3, 1) := by decide +kernel
theorem dX5_look_88 : decode cX5_look 88 = .ok (.if_icmp .le 19, 3) := by decide +kernel
theorem dX5_look_91 : decode cX5_look 91 = .ok (.aload_n 2, 1) := by decide +kernel
theorem dX5_look_92 : decode cX5_look 92 = .ok (.iload 4, 2) := by decide +kernel
theorem dX5_look_94 : decode cX5_look 94 = .ok (.iconst 1, 1) := by decide +kernel
theorem dX5_look_95 : decode cX5_look 95 = .ok (.iadd, 1) := by decide +kernel
theorem dX5_look_96 : decode cX5_look 96 = .ok (.aload_n 2, 1) := by decide +kernel
theorem dX5_look_97 : decode cX5_look 97 = .ok (.iload 4, 2) := by decide +kernel
theorem dX5_look_99 : decode cX5_look 99 = .ok (.iaload, 1) := by decide +kernel
theorem dX5_look_100 : decode cX5_look 100 = .ok (.iastore, 1) := by decide +kernel
theorem dX5_look_101 : decode cX5_look 101 = .ok (.iinc 4 (-1), 3) := by decide +kernel
theorem dX5_look_104 : decode cX5_look 104 = .ok (.goto (-19), 3) := by decide +kernel
theorem dX5_look_107 : decode cX5_look 107 = .ok (.aload_n 2, 1) := by decide +kernel
theorem dX5_look_108 : decode cX5_look 108 = .ok (.iload_n 3, 1) := by decide +kernel
theorem dX5_look_109 : decode cX5_look 109 = .ok (.iconst 1, 1) := by decide +kernel
theorem dX5_look_110 : decode cX5_look 110 = .ok (.iadd, 1) := by decide +kernel
theorem dX5_look_111 : decode cX5_look 111 = .ok (.aload_n 2, 1) := by decide +kernel
theorem dX5_look_112 : decode cX5_look 112 = .ok (.iload_n 3, 1) := by decide +kernel
theorem dX5_look_113 : decode cX5_look 113 = .ok (.iaload, 1) := by decide +kernel
theorem dX5_look_114 : decode cX5_look 114 = .ok (.aload_n 2, 1) := by decide +kernel
theorem dX5_look_115 : decode cX5_look 115 = .ok (.iload_n 3, 1) := by decide +kernel
theorem dX5_look_116 : decode cX5_look 116 = .ok (.iconst 2, 1) := by decide +kernel
theorem dX5_look_117 : decode cX5_look 117 = .ok (.iadd, 1) := by decide +kernel
theorem dX5_look_118 : decode cX5_look 118 = .ok (.iaload, 1) := by decide +kernel
theorem dX5_look_119 : decode cX5_look 119 = .ok (.aload_n 2, 1) := by decide +kernel
theorem dX5_look_120 : decode cX5_look 120 = .ok (.iload_n 3, 1) := by decide +kernel
theorem dX5_look_121 : decode cX5_look 121 = .ok (.iaload, 1) := by decide +kernel
theorem dX5_look_122 : decode cX5_look 122 = .ok (.isub, 1) := by decide +kernel
theorem dX5_look_123 : decode cX5_look 123 = .ok (.iconst 2, 1) := by decide +kernel
theorem dX5_look_124 : decode cX5_look 124 = .ok (.idiv, 1) := by decide +kernel
theorem dX5_look_125 : decode cX5_look 125 = .ok (.iadd, 1) := by decide +kernel
theorem dX5_look_126 : decode cX5_look 126 = .ok (.iastore, 1) := by decide +kernel
theorem dX5_look_127 : decode cX5_look 127 = .ok (.aload_n 0, 1) := by decide +kernel
theorem dX5_look_128 : decode cX5_look 128 = .ok (.dup, 1) := by decide +kernel
theorem dX5_look_129 : decode cX5_look 129 = .ok (.getfield 54, 3) := by decide +kernel
theorem dX5_look_132 : decode cX5_look 132 = .ok (.iconst 1, 1) := by decide +kernel
theorem dX5_look_133 : decode cX5_look 133 = .ok (.iadd, 1) := by decide +kernel
theorem dX5_look_134 : decode cX5_look 134 = .ok (.putfield 54, 3) := by decide +kernel
theorem dX5_look_137 : decode cX5_look 137 = .ok (.goto (-117), 3) := by decide +kernel
theorem dX5_look_140 : decode cX5_look 140 = .ok (.iconst 0, 1) := by decide +kernel
theorem dX5_look_141 : decode cX5_look 141 = .ok (.istore_n 3, 1) := by decide +kernel
theorem dX5_look_142 : decode cX5_look 142 = .ok (.iload_n 3, 1) := by decide +kernel
theorem dX5_look_143 : decode cX5_look 143 = .ok (.aload_n 0, 1) := by decide +kernel
theorem dX5_look_144 : decode cX5_look 144 = .ok (.getfield 54, 3) := by decide +kernel
theorem dX5_look_147 : decode cX5_look 147 = .ok (.if_icmp .ge 63, 3) := by decide +kernel
theorem dX5_look_150 : decode cX5_look 150 = .ok (.iconst 0, 1) := by decide +kernel
theorem dX5_look_151 : decode cX5_look 151 = .ok (.istore 4, 2) := by decide +kernel
theorem dX5_look_153 : decode cX5_look 153 = .ok (.aload_n 2, 1) := by decide +kernel
theorem dX5_look_154 : decode cX5_look 154 = .ok (.iload_n 3, 1) := by decide +kernel
theorem dX5_look_155 : decode cX5_look 155 = .ok (.iaload, 1) := by decide +kernel
theorem dX5_look_156 : decode cX5_look 156 = .ok (.istore 5, 2) := by decide +kernel
theorem dX5_look_158 : decode cX5_look 158 = .ok (.iload 5, 2) := by decide +kernel
theorem dX5_look_160 : decode cX5_look 160 = .ok (.aload_n 2, 1) := by decide +kernel
theorem dX5_look_161 : decode cX5_look 161 = .ok (.iload_n 3, 1) := by decide +kernel
theorem dX5_look_162 : decode cX5_look 162 = .ok (.iconst 1, 1) := by decide +kernel
theorem dX5_look_163 : decode cX5_look 163 = .ok (.iadd, 1) := by decide +kernel
theorem dX5_look_164 : decode cX5_look 164 = .ok (.iaload, 1) := by decide +kernel
theorem dX5_look_165 : decode cX5_look 165 = .ok (.if_icmp .ge 21, 3) := by decide +kernel
theorem dX5_look_168 : decode cX5_look 168 = .ok (.iload 4, 2) := by decide +kernel
theorem dX5_look_170 : decode cX5_look 170 = .ok (.aload_n 0, 1) := by decide +kernel
theorem dX5_look_171 : decode cX5_look 171 = .ok (.getfield 26, 3) := by decide +kernel
theorem dX5_look_174 : decode cX5_look 174 = .ok (.iload 5, 2) := by decide +kernel
theorem dX5_look_176 : decode cX5_look 176 = .ok (.iaload, 1) := by decide +kernel
theorem dX5_look_177 : decode cX5_look 177 = .ok (.iadd, 1) := by decide +kernel
theorem dX5_look_178 : decode cX5_look 178 = .ok (.istore 4, 2) := by decide +kernel
theorem dX5_look_180 : decode cX5_look 180 = .ok (.iinc 5 1, 3) := by decide +kernel
theorem dX5_look_183 : decode cX5_look 183 = .ok (.goto (-25), 3) := by decide +kernel
theorem dX5_look_186 : decode cX5_look 186 = .ok (.aload_n 0, 1) := by decide +kernel
theorem dX5_look_187 : decode cX5_look 187 = .ok (.getfield 23, 3) := by decide +kernel
theorem dX5_look_190 : decode cX5_look 190 = .ok (.iload_n 3, 1) := by decide +kernel
theorem dX5_look_191 : decode cX5_look 191 = .ok (.iload 4, 2) := by decide +kernel
theorem dX5_look_193 : decode cX5_look 193 = .ok (.aload_n 2, 1) := by decide +kernel
theorem dX5_look_194 : decode cX5_look 194 = .ok (.iload_n 3, 1) := by decide +kernel
theorem dX5_look_195 : decode cX5_look 195 = .ok (.iconst 1, 1) := by decide +kernel
theorem dX5_look_196 : decode cX5_look 196 = .ok (.iadd, 1) := by decide +kernel
theorem dX5_look_197 : decode cX5_look 197 = .ok (.iaload, 1) := by decide +kernel
theorem dX5_look_198 : decode cX5_look 198 = .ok (.aload_n 2, 1) := by decide +kernel
theorem dX5_look_199 : decode cX5_look 199 = .ok (.iload_n 3, 1) := by decide +kernel
theorem dX5_look_200 : decode cX5_look 200 = .ok (.iaload, 1) := by decide +kernel
theorem dX5_look_201 : decode cX5_look 201 = .ok (.isub, 1) := by decide +kernel
theorem dX5_look_202 : decode cX5_look 202 = .ok (.idiv, 1) := by decide +kernel
theorem dX5_look_203 : decode cX5_look 203 = .ok (.iastore, 1) := by decide +kernel
theorem dX5_look_204 : decode cX5_look 204 = .ok (.iinc 3 1, 3) := by decide +kernel
theorem dX5_look_207 : decode cX5_look 207 = .ok (.goto (-65), 3) := by decide +kernel
theorem dX5_look_210 : decode cX5_look 210 = .ok (.return_, 1) := by decide +kernel
theorem dX5_wide_0 : decode cX5_wide 0 = .ok (.aload_n 0, 1) := by decide +kernel
theorem dX5_wide_1 : decode cX5_wide 1 = .ok (.getfield 26, 3) := by decide +kernel
theorem dX5_wide_4 : decode cX5_wide 4 = .ok (.aload_n 1, 1) := by decide +kernel
theorem dX5_wide_5 : decode cX5_wide 5 = .ok (.iload_n 2, 1) := by decide +kernel
theorem dX5_wide_6 : decode cX5_wide 6 = .ok (.iconst 1, 1) := by decide +kernel
theorem dX5_wide_7 : decode cX5_wide 7 = .ok (.iadd, 1) := by decide +kernel
theorem dX5_wide_8 : decode cX5_wide 8 = .ok (.iaload, 1) := by decide +kernel
theorem dX5_wide_9 : decode cX5_wide 9 = .ok (.iconst 1, 1) := by decide +kernel
theorem dX5_wide_10 : decode cX5_wide 10 = .ok (.isub, 1) := by decide +kernel
theorem dX5_wide_11 : decode cX5_wide 11 = .ok (.iaload, 1) := by decide +kernel
theorem dX5_wide_12 : decode cX5_wide 12 = .ok (.aload_n 0, 1) := by decide +kernel
theorem dX5_wide_13 : decode cX5_wide 13 = .ok (.getfield 26, 3) := by decide +kernel
theorem dX5_wide_16 : decode cX5_wide 16 = .ok (.aload_n 1, 1) := by decide +kernel
theorem dX5_wide_17 : decode cX5_wide 17 = .ok (.iload_n 2, 1) := by decide +kernel
theorem dX5_wide_18 : decode cX5_wide 18 = .ok (.iaload, 1) := by decide +kernel
theorem dX5_wide_19 : decode cX5_wide 19 = .ok (.iaload, 1) := by decide +kernel
theorem dX5_wide_20 : decode cX5_wide 20 = .ok (.isub, 1) := by decide +kernel
theorem dX5_wide_21 : decode cX5_wide 21 = .ok (.ireturn, 1) := by decide +kernel
theorem dX5_nearest_0 : decode cX5_nearest 0 = .ok (.iconst 0, 1) := by decide +kernel
theorem dX5_nearest_1 : decode cX5_nearest 1 = .ok (.istore_n 2, 1) := by decide +kernel
theorem dX5_nearest_2 : decode cX5_nearest 2 = .ok (.iconst 1, 1) := by decide +kernel
theorem dX5_nearest_3 : decode cX5_nearest 3 = .ok (.istore_n 3, 1) := by decide +kernel
theorem dX5_nearest_4 : decode cX5_nearest 4 = .ok (.iload_n 3, 1) := by decide +kernel
theorem dX5_nearest_5 : decode cX5_nearest 5 = .ok (.aload_n 0, 1) := by decide +kernel
theorem dX5_nearest_6 : decode cX5_nearest 6 = .ok (.getfield 54, 3) := by decide +kernel
theorem dX5_nearest_9 : decode cX5_nearest 9 = .ok (.if_icmp .ge 36, 3) := by decide +kernel
theorem dX5_nearest_12 : decode cX5_nearest 12 = .ok (.iload_n 1, 1) := by decide +kernel
theorem dX5_nearest_13 : decode cX5_nearest 13 = .ok (.aload_n 0, 1) := by decide +kernel
theorem dX5_nearest_14 : decode cX5_nearest 14 = .ok (.getfield 23, 3) := by decide +kernel
theorem dX5_nearest_17 : decode cX5_nearest 17 = .ok (.iload_n 3, 1) := by decide +kernel
theorem dX5_nearest_18 : decode cX5_nearest 18 = .ok (.iaload, 1) := by decide +kernel
theorem dX5_nearest_19 : decode cX5_nearest 19 = .ok (.isub, 1) := by decide +kernel
theorem dX5_nearest_20 : decode cX5_nearest 20 = .ok (.invokestatic 61, 3) := by decide +kernel
theorem dX5_nearest_23 : decode cX5_nearest 23 = .ok (.iload_n 1, 1) := by decide +kernel
theorem dX5_nearest_24 : decode cX5_nearest 24 = .ok (.aload_n 0, 1) := by decide +kernel
theorem dX5_nearest_25 : decode cX5_nearest 25 = .ok (.getfield 23, 3) := by decide +kernel
theorem dX5_nearest_28 : decode cX5_nearest 28 = .ok (.iload_n 2, 1) := by decide +kernel
theorem dX5_nearest_29 : decode cX5_nearest 29 = .ok (.iaload, 1) := by decide +kernel
theorem dX5_nearest_30 : decode cX5_nearest 30 = .ok (.isub, 1) := by decide +kernel
theorem dX5_nearest_31 : decode cX5_nearest 31 = .ok (.invokestatic 61, 3) := by decide +kernel
theorem dX5_nearest_34 : decode cX5_nearest 34 = .ok (.if_icmp .ge 5, 3) := by decide +kernel
theorem dX5_nearest_37 : decode cX5_nearest 37 = .ok (.iload_n 3, 1) := by decide +kernel
theorem dX5_nearest_38 : decode cX5_nearest 38 = .ok (.istore_n 2, 1) := by decide +kernel
theorem dX5_nearest_39 : decode cX5_nearest 39 = .ok (.iinc 3 1, 3) := by decide +kernel
theorem dX5_nearest_42 : decode cX5_nearest 42 = .ok (.goto (-38), 3) := by decide +kernel
theorem dX5_nearest_45 : decode cX5_nearest 45 = .ok (.iload_n 2, 1) := by decide +kernel
theorem dX5_nearest_46 : decode cX5_nearest 46 = .ok (.ireturn, 1) := by decide +kernel
set_option maxRecDepth 20000 in
theorem ggX5_add_X5_isX : GoodIn wsX5_add wsX5_isX := goodIn_r _ [4, 5, 6, 3, 7] (by decide +kernel) (by decide +kernel)
set_option maxRecDepth 20000 in
theorem gX5_add_X5_isX : GoodIn wsX5_add (va_wsS RX5 67 yX5_isX wsX5_isX) := goodIn_app (goodIn_of _ (by decide +kernel)) ggX5_add_X5_isX
theorem dX5_add_0 : decode cX5_add 0 = .ok (.iload_n 1, 1) := by decide +kernel
theorem dX5_add_1 : decode cX5_add 1 = .ok (.invokestatic 67, 3) := by decide +kernel
theorem dX5_add_4 : decode cX5_add 4 = .ok (.ifCond .eq 10, 3) := by decide +kernel
theorem dX5_add_7 : decode cX5_add 7 = .ok (.aload_n 0, 1) := by decide +kernel
theorem dX5_add_8 : decode cX5_add 8 = .ok (.iload_n 1, 1) := by decide +kernel
theorem dX5_add_9 : decode cX5_add 9 = .ok (.dup2, 1) := by decide +kernel
theorem dX5_add_10 : decode cX5_add 10 = .ok (.iaload, 1) := by decide +kernel
theorem dX5_add_11 : decode cX5_add 11 = .ok (.iload_n 2, 1) := by decide +kernel
theorem dX5_add_12 : decode cX5_add 12 = .ok (.iadd, 1) := by decide +kernel
theorem dX5_add_13 : decode cX5_add 13 = .ok (.iastore, 1) := by decide +kernel
theorem dX5_add_14 : decode cX5_add 14 = .ok (.return_, 1) := by decide +kernel
set_option maxRecDepth 20000 in
theorem ggX5_carryOn_X5_add : GoodIn wsX5_carryOn wsX5_add := goodIn_r _ [7, 8, 9, 6, 10, 11, 12, 13] (by decide +kernel) (by decide +kernel)
set_option maxRecDepth 20000 in
theorem gX5_carryOn_X5_add : GoodIn wsX5_carryOn (va_wsS RX5 71 yX5_add wsX5_add) := goodIn_app (goodIn_of _ (by decide +kernel)) ggX5_carryOn_X5_add
theorem dX5_carryOn_0 : decode cX5_carryOn 0 = .ok (.aload_n 0, 1) := by decide +kernel
theorem dX5_carryOn_1 : decode cX5_carryOn 1 = .ok (.getfield 17, 3) := by decide +kernel
theorem dX5_carryOn_4 : decode cX5_carryOn 4 = .ok (.ifCond .ne 4, 3) := by decide +kernel
theorem dX5_carryOn_7 : decode cX5_carryOn 7 = .ok (.return_, 1) := by decide +kernel
theorem dX5_carryOn_8 : decode cX5_carryOn 8 = .ok (.aload_n 0, 1) := by decide +kernel
theorem dX5_carryOn_9 : decode cX5_carryOn 9 = .ok (.getfield 17, 3) := by decide +kernel
theorem dX5_carryOn_12 : decode cX5_carryOn 12 = .ok (.iconst 1, 1) := by decide +kernel
theorem dX5_carryOn_13 : decode cX5_carryOn 13 = .ok (.if_icmp .ne 15, 3) := by decide +kernel
theorem dX5_carryOn_16 : decode cX5_carryOn 16 = .ok (.aload_n 0, 1) := by decide +kernel
theorem dX5_carryOn_17 : decode cX5_carryOn 17 = .ok (.getfield 32, 3) := by decide +kernel
theorem dX5_carryOn_20 : decode cX5_carryOn 20 = .ok (.iload_n 1, 1) := by decide +kernel
theorem dX5_carryOn_21 : decode cX5_carryOn 21 = .ok (.iload_n 2, 1) := by decide +kernel
theorem dX5_carryOn_22 : decode cX5_carryOn 22 = .ok (.iadd, 1) := by decide +kernel
theorem dX5_carryOn_23 : decode cX5_carryOn 23 = .ok (.iload_n 3, 1) := by decide +kernel
theorem dX5_carryOn_24 : decode cX5_carryOn 24 = .ok (.invokestatic 71, 3) := by decide +kernel
theorem dX5_carryOn_27 : decode cX5_carryOn 27 = .ok (.return_, 1) := by decide +kernel
theorem dX5_carryOn_28 : decode cX5_carryOn 28 = .ok (.iload_n 3, 1) := by decide +kernel
theorem dX5_carryOn_29 : decode cX5_carryOn 29 = .ok (.bipush 7, 2) := by decide +kernel
theorem dX5_carryOn_31 : decode cX5_carryOn 31 = .ok (.imul, 1) := by decide +kernel
theorem dX5_carryOn_32 : decode cX5_carryOn 32 = .ok (.bipush 16, 2) := by decide +kernel
theorem dX5_carryOn_34 : decode cX5_carryOn 34 = .ok (.idiv, 1) := by decide +kernel
theorem dX5_carryOn_35 : decode cX5_carryOn 35 = .ok (.istore 4, 2) := by decide +kernel
theorem dX5_carryOn_37 : decode cX5_carryOn 37 = .ok (.iload_n 3, 1) := by decide +kernel
theorem dX5_carryOn_38 : decode cX5_carryOn 38 = .ok (.iconst 3, 1) := by decide +kernel
theorem dX5_carryOn_39 : decode cX5_carryOn 39 = .ok (.imul, 1) := by decide +kernel
theorem dX5_carryOn_40 : decode cX5_carryOn 40 = .ok (.bipush 16, 2) := by decide +kernel
theorem dX5_carryOn_42 : decode cX5_carryOn 42 = .ok (.idiv, 1) := by decide +kernel
theorem dX5_carryOn_43 : decode cX5_carryOn 43 = .ok (.istore 5, 2) := by decide +kernel
theorem dX5_carryOn_45 : decode cX5_carryOn 45 = .ok (.iload_n 3, 1) := by decide +kernel
theorem dX5_carryOn_46 : decode cX5_carryOn 46 = .ok (.iconst 5, 1) := by decide +kernel
theorem dX5_carryOn_47 : decode cX5_carryOn 47 = .ok (.imul, 1) := by decide +kernel
theorem dX5_carryOn_48 : decode cX5_carryOn 48 = .ok (.bipush 16, 2) := by decide +kernel
theorem dX5_carryOn_50 : decode cX5_carryOn 50 = .ok (.idiv, 1) := by decide +kernel
theorem dX5_carryOn_51 : decode cX5_carryOn 51 = .ok (.istore 6, 2) := by decide +kernel
theorem dX5_carryOn_53 : decode cX5_carryOn 53 = .ok (.aload_n 0, 1) := by decide +kernel
theorem dX5_carryOn_54 : decode cX5_carryOn 54 = .ok (.getfield 32, 3) := by decide +kernel
theorem dX5_carryOn_57 : decode cX5_carryOn 57 = .ok (.iload_n 1, 1) := by decide +kernel
theorem dX5_carryOn_58 : decode cX5_carryOn 58 = .ok (.iload_n 2, 1) := by decide +kernel
theorem dX5_carryOn_59 : decode cX5_carryOn 59 = .ok (.iadd, 1) := by decide +kernel
theorem dX5_carryOn_60 : decode cX5_carryOn 60 = .ok (.iload 4, 2) := by decide +kernel
theorem dX5_carryOn_62 : decode cX5_carryOn 62 = .ok (.invokestatic 71, 3) := by decide +kernel
theorem dX5_carryOn_65 : decode cX5_carryOn 65 = .ok (.aload_n 0, 1) := by decide +kernel
theorem dX5_carryOn_66 : decode cX5_carryOn 66 = .ok (.getfield 35, 3) := by decide +kernel
theorem dX5_carryOn_69 : decode cX5_carryOn 69 = .ok (.iload_n 1, 1) := by decide +kernel
theorem dX5_carryOn_70 : decode cX5_carryOn 70 = .ok (.iload_n 2, 1) := by decide +kernel
theorem dX5_carryOn_71 : decode cX5_carryOn 71 = .ok (.isub, 1) := by decide +kernel
theorem dX5_carryOn_72 : decode cX5_carryOn 72 = .ok (.iload 5, 2) := by decide +kernel
theorem dX5_carryOn_74 : decode cX5_carryOn 74 = .ok (.invokestatic 71, 3) := by decide +kernel
theorem dX5_carryOn_77 : decode cX5_carryOn 77 = .ok (.aload_n 0, 1) := by decide +kernel
theorem dX5_carryOn_78 : decode cX5_carryOn 78 = .ok (.getfield 35, 3) := by decide +kernel
theorem dX5_carryOn_81 : decode cX5_carryOn 81 = .ok (.iload_n 1, 1) := by decide +kernel
theorem dX5_carryOn_82 : decode cX5_carryOn 82 = .ok (.iload 6, 2) := by decide +kernel
theorem dX5_carryOn_84 : decode cX5_carryOn 84 = .ok (.invokestatic 71, 3) := by decide +kernel
theorem dX5_carryOn_87 : decode cX5_carryOn 87 = .ok (.aload_n 0, 1) := by decide +kernel
theorem dX5_carryOn_88 : decode cX5_carryOn 88 = .ok (.getfield 35, 3) := by decide +kernel
theorem dX5_carryOn_91 : decode cX5_carryOn 91 = .ok (.iload_n 1, 1) := by decide +kernel
theorem dX5_carryOn_92 : decode cX5_carryOn 92 = .ok (.iload_n 2, 1) := by decide +kernel
theorem dX5_carryOn_93 : decode cX5_carryOn 93 = .ok (.iadd, 1) := by decide +kernel
theorem dX5_carryOn_94 : decode cX5_carryOn 94 = .ok (.iload_n 3, 1) := by decide +kernel
theorem dX5_carryOn_95 : decode cX5_carryOn 95 = .ok (.iload 4, 2) := by decide +kernel
theorem dX5_carryOn_97 : decode cX5_carryOn 97 = .ok (.isub, 1) := by decide +kernel
theorem dX5_carryOn_98 : decode cX5_carryOn 98 = .ok (.iload 5, 2) := by decide +kernel
theorem dX5_carryOn_100 : decode cX5_carryOn 100 = .ok (.isub, 1) := by decide +kernel
theorem dX5_carryOn_101 : decode cX5_carryOn 101 = .ok (.iload 6, 2) := by decide +kernel
theorem dX5_carryOn_103 : decode cX5_carryOn 103 = .ok (.isub, 1) := by decide +kernel
theorem dX5_carryOn_104 : decode cX5_carryOn 104 = .ok (.invokestatic 71, 3) := by decide +kernel
theorem dX5_carryOn_107 : decode cX5_carryOn 107 = .ok (.return_, 1) := by decide +kernel
set_option maxRecDepth 20000 in
theorem ggX5_weaveOn_X5_look : GoodIn wsX5_weaveOn wsX5_look := goodIn_r _ [16, 17, 18, 19, 7, 20, 21, 22, 15, 23, 5, 24, 25, 26, 27, 49, 50, 51, 52, 53, 54, 55, 56, 57, 58, 59, 60, 61, 62, 63, 64, 65, 66, 67] (by decide +kernel) (by decide +kernel)
set_option maxRecDepth 20000 in
theorem gX5_weaveOn_X5_look : GoodIn wsX5_weaveOn (wsV RX5 75 RX5 yX5_look wsX5_look) := goodIn_app (goodIn_of _ (by decide +kernel)) ggX5_weaveOn_X5_look
set_option maxRecDepth 20000 in
theorem ggX5_weaveOn_X5_at : GoodIn wsX5_weaveOn wsX5_at := goodIn_r _ [30] (by decide +kernel) (by decide +kernel)
set_option maxRecDepth 20000 in
theorem gX5_weaveOn_X5_at : GoodIn wsX5_weaveOn (va_wsS RX5 86 yX5_at wsX5_at) := goodIn_app (goodIn_of _ (by decide +kernel)) ggX5_weaveOn_X5_at
set_option maxRecDepth 20000 in
theorem ggX5_weaveOn_X5_nearest : GoodIn wsX5_weaveOn wsX5_nearest := goodIn_r _ [34, 18, 7, 8, 9, 10, 11, 49, 50, 51, 52, 53, 54, 55, 56, 57, 58, 59, 60, 61, 62, 63, 64, 65, 66, 67] (by decide +kernel) (by decide +kernel)
set_option maxRecDepth 20000 in
theorem gX5_weaveOn_X5_nearest : GoodIn wsX5_weaveOn (wsV RX5 90 RX5 yX5_nearest wsX5_nearest) := goodIn_app (goodIn_of _ (by decide +kernel)) ggX5_weaveOn_X5_nearest
set_option maxRecDepth 20000 in
theorem ggX5_weaveOn_X5_carryOn : GoodIn wsX5_weaveOn wsX5_carryOn := goodIn_r _ [38, 39, 3, 2, 40, 41, 15, 42, 43, 44, 45, 46, 47, 48, 49, 50, 51, 52, 53, 54, 55, 56, 57, 58, 59, 60, 61, 62, 63, 64, 65, 66, 67] (by decide +kernel) (by decide +kernel)
set_option maxRecDepth 20000 in
theorem gX5_weaveOn_X5_carryOn : GoodIn wsX5_weaveOn (wsV RX5 93 RX5 yX5_carryOn wsX5_carryOn) := goodIn_app (goodIn_of _ (by decide +kernel)) ggX5_weaveOn_X5_carryOn
theorem dX5_weaveOn_0 : decode cX5_weaveOn 0 = .ok (.aload_n 0, 1) := by decide +kernel
theorem dX5_weaveOn_1 : decode cX5_weaveOn 1 = .ok (.iload_n 1, 1) := by decide +kernel
theorem dX5_weaveOn_2 : decode cX5_weaveOn 2 = .ok (.invokevirtual 75, 3) := by decide +kernel
theorem dX5_weaveOn_5 : decode cX5_weaveOn 5 = .ok (.aload_n 0, 1) := by decide +kernel
theorem dX5_weaveOn_6 : decode cX5_weaveOn 6 = .ok (.iconst 0, 1) := by decide +kernel
theorem dX5_weaveOn_7 : decode cX5_weaveOn 7 = .ok (.putfield 79, 3) := by decide +kernel
theorem dX5_weaveOn_10 : decode cX5_weaveOn 10 = .ok (.iconst 0, 1) := by decide +kernel
theorem dX5_weaveOn_11 : decode cX5_weaveOn 11 = .ok (.istore_n 2, 1) := by decide +kernel
theorem dX5_weaveOn_12 : decode cX5_weaveOn 12 = .ok (.iload_n 2, 1) := by decide +kernel
theorem dX5_weaveOn_13 : decode cX5_weaveOn 13 = .ok (.bipush 12, 2) := by decide +kernel
theorem dX5_weaveOn_15 : decode cX5_weaveOn 15 = .ok (.if_icmp .ge 16, 3) := by decide +kernel
theorem dX5_weaveOn_18 : decode cX5_weaveOn 18 = .ok (.aload_n 0, 1) := by decide +kernel
theorem dX5_weaveOn_19 : decode cX5_weaveOn 19 = .ok (.getfield 35, 3) := by decide +kernel
theorem dX5_weaveOn_22 : decode cX5_weaveOn 22 = .ok (.iload_n 2, 1) := by decide +kernel
theorem dX5_weaveOn_23 : decode cX5_weaveOn 23 = .ok (.iconst 0, 1) := by decide +kernel
theorem dX5_weaveOn_24 : decode cX5_weaveOn 24 = .ok (.iastore, 1) := by decide +kernel
theorem dX5_weaveOn_25 : decode cX5_weaveOn 25 = .ok (.iinc 2 1, 3) := by decide +kernel
theorem dX5_weaveOn_28 : decode cX5_weaveOn 28 = .ok (.goto (-16), 3) := by decide +kernel
theorem dX5_weaveOn_31 : decode cX5_weaveOn 31 = .ok (.iconst 0, 1) := by decide +kernel
theorem dX5_weaveOn_32 : decode cX5_weaveOn 32 = .ok (.istore_n 2, 1) := by decide +kernel
theorem dX5_weaveOn_33 : decode cX5_weaveOn 33 = .ok (.iload_n 2, 1) := by decide +kernel
theorem dX5_weaveOn_34 : decode cX5_weaveOn 34 = .ok (.bipush 8, 2) := by decide +kernel
theorem dX5_weaveOn_36 : decode cX5_weaveOn 36 = .ok (.if_icmp .ge 192, 3) := by decide +kernel
theorem dX5_weaveOn_39 : decode cX5_weaveOn 39 = .ok (.iconst 0, 1) := by decide +kernel
theorem dX5_weaveOn_40 : decode cX5_weaveOn 40 = .ok (.istore_n 3, 1) := by decide +kernel
theorem dX5_weaveOn_41 : decode cX5_weaveOn 41 = .ok (.iload_n 3, 1) := by decide +kernel
theorem dX5_weaveOn_42 : decode cX5_weaveOn 42 = .ok (.bipush 12, 2) := by decide +kernel
theorem dX5_weaveOn_44 : decode cX5_weaveOn 44 = .ok (.if_icmp .ge 28, 3) := by decide +kernel
theorem dX5_weaveOn_47 : decode cX5_weaveOn 47 = .ok (.aload_n 0, 1) := by decide +kernel
theorem dX5_weaveOn_48 : decode cX5_weaveOn 48 = .ok (.getfield 32, 3) := by decide +kernel
theorem dX5_weaveOn_51 : decode cX5_weaveOn 51 = .ok (.iload_n 3, 1) := by decide +kernel
theorem dX5_weaveOn_52 : decode cX5_weaveOn 52 = .ok (.aload_n 0, 1) := by decide +kernel
theorem dX5_weaveOn_53 : decode cX5_weaveOn 53 = .ok (.getfield 35, 3) := by decide +kernel
theorem dX5_weaveOn_56 : decode cX5_weaveOn 56 = .ok (.iload_n 3, 1) := by decide +kernel
theorem dX5_weaveOn_57 : decode cX5_weaveOn 57 = .ok (.iaload, 1) := by decide +kernel
theorem dX5_weaveOn_58 : decode cX5_weaveOn 58 = .ok (.iastore, 1) := by decide +kernel
theorem dX5_weaveOn_59 : decode cX5_weaveOn 59 = .ok (.aload_n 0, 1) := by decide +kernel
theorem dX5_weaveOn_60 : decode cX5_weaveOn 60 = .ok (.getfield 35, 3) := by decide +kernel
theorem dX5_weaveOn_63 : decode cX5_weaveOn 63 = .ok (.iload_n 3, 1) := by decide +kernel
theorem dX5_weaveOn_64 : decode cX5_weaveOn 64 = .ok (.iconst 0, 1) := by decide +kernel
theorem dX5_weaveOn_65 : decode cX5_weaveOn 65 = .ok (.iastore, 1) := by decide +kernel
theorem dX5_weaveOn_66 : decode cX5_weaveOn 66 = .ok (.iinc 3 1, 3) := by decide +kernel
theorem dX5_weaveOn_69 : decode cX5_weaveOn 69 = .ok (.goto (-28), 3) := by decide +kernel
theorem dX5_weaveOn_72 : decode cX5_weaveOn 72 = .ok (.aload_n 0, 1) := by decide +kernel
theorem dX5_weaveOn_73 : decode cX5_weaveOn 73 = .ok (.getfield 82, 3) := by decide +kernel
theorem dX5_weaveOn_76 : decode cX5_weaveOn 76 = .ok (.ifCond .eq 14, 3) := by decide +kernel
theorem dX5_weaveOn_79 : decode cX5_weaveOn 79 = .ok (.iload_n 2, 1) := by decide +kernel
theorem dX5_weaveOn_80 : decode cX5_weaveOn 80 = .ok (.iconst 2, 1) := by decide +kernel
theorem dX5_weaveOn_81 : decode cX5_weaveOn 81 = .ok (.irem, 1) := by decide +kernel
theorem dX5_weaveOn_82 : decode cX5_weaveOn 82 = .ok (.iconst 1, 1) := by decide +kernel
theorem dX5_weaveOn_83 : decode cX5_weaveOn 83 = .ok (.if_icmp .ne 7, 3) := by decide +kernel
theorem dX5_weaveOn_86 : decode cX5_weaveOn 86 = .ok (.iconst 1, 1) := by decide +kernel
theorem dX5_weaveOn_87 : decode cX5_weaveOn 87 = .ok (.goto 4, 3) := by decide +kernel
theorem dX5_weaveOn_90 : decode cX5_weaveOn 90 = .ok (.iconst 0, 1) := by decide +kernel
theorem dX5_weaveOn_91 : decode cX5_weaveOn 91 = .ok (.istore_n 3, 1) := by decide +kernel
theorem dX5_weaveOn_92 : decode cX5_weaveOn 92 = .ok (.iconst 0, 1) := by decide +kernel
theorem dX5_weaveOn_93 : decode cX5_weaveOn 93 = .ok (.istore 4, 2) := by decide +kernel
theorem dX5_weaveOn_95 : decode cX5_weaveOn 95 = .ok (.iload 4, 2) := by decide +kernel
theorem dX5_weaveOn_97 : decode cX5_weaveOn 97 = .ok (.bipush 12, 2) := by decide +kernel
theorem dX5_weaveOn_99 : decode cX5_weaveOn 99 = .ok (.if_icmp .ge 123, 3) := by decide +kernel
theorem dX5_weaveOn_102 : decode cX5_weaveOn 102 = .ok (.iload_n 3, 1) := by decide +kernel
theorem dX5_weaveOn_103 : decode cX5_weaveOn 103 = .ok (.ifCond .eq 11, 3) := by decide +kernel
theorem dX5_weaveOn_106 : decode cX5_weaveOn 106 = .ok (.bipush 11, 2) := by decide +kernel
theorem dX5_weaveOn_108 : decode cX5_weaveOn 108 = .ok (.iload 4, 2) := by decide +kernel
theorem dX5_weaveOn_110 : decode cX5_weaveOn 110 = .ok (.isub, 1) := by decide +kernel
theorem dX5_weaveOn_111 : decode cX5_weaveOn 111 = .ok (.goto 5, 3) := by decide +kernel
theorem dX5_weaveOn_114 : decode cX5_weaveOn 114 = .ok (.iload 4, 2) := by decide +kernel
theorem dX5_weaveOn_116 : decode cX5_weaveOn 116 = .ok (.istore 5, 2) := by decide +kernel
theorem dX5_weaveOn_118 : decode cX5_weaveOn 118 = .ok (.aload_n 0, 1) := by decide +kernel
theorem dX5_weaveOn_119 : decode cX5_weaveOn 119 = .ok (.getfield 9, 3) := by decide +kernel
theorem dX5_weaveOn_122 : decode cX5_weaveOn 122 = .ok (.iload 5, 2) := by decide +kernel
theorem dX5_weaveOn_124 : decode cX5_weaveOn 124 = .ok (.iload_n 2, 1) := by decide +kernel
theorem dX5_weaveOn_125 : decode cX5_weaveOn 125 = .ok (.invokestatic 86, 3) := by decide +kernel
theorem dX5_weaveOn_128 : decode cX5_weaveOn 128 = .ok (.iaload, 1) := by decide +kernel
theorem dX5_weaveOn_129 : decode cX5_weaveOn 129 = .ok (.aload_n 0, 1) := by decide +kernel
theorem dX5_weaveOn_130 : decode cX5_weaveOn 130 = .ok (.getfield 32, 3) := by decide +kernel
theorem dX5_weaveOn_133 : decode cX5_weaveOn 133 = .ok (.iload 5, 2) := by decide +kernel
theorem dX5_weaveOn_135 : decode cX5_weaveOn 135 = .ok (.iaload, 1) := by decide +kernel
theorem dX5_weaveOn_136 : decode cX5_weaveOn 136 = .ok (.iadd, 1) := by decide +kernel
theorem dX5_weaveOn_137 : decode cX5_weaveOn 137 = .ok (.istore 6, 2) := by decide +kernel
theorem dX5_weaveOn_139 : decode cX5_weaveOn 139 = .ok (.aload_n 0, 1) := by decide +kernel
theorem dX5_weaveOn_140 : decode cX5_weaveOn 140 = .ok (.iload 6, 2) := by decide +kernel
theorem dX5_weaveOn_142 : decode cX5_weaveOn 142 = .ok (.invokevirtual 90, 3) := by decide +kernel
theorem dX5_weaveOn_145 : decode cX5_weaveOn 145 = .ok (.istore 7, 2) := by decide +kernel
theorem dX5_weaveOn_147 : decode cX5_weaveOn 147 = .ok (.aload_n 0, 1) := by decide +kernel
theorem dX5_weaveOn_148 : decode cX5_weaveOn 148 = .ok (.getfield 29, 3) := by decide +kernel
theorem dX5_weaveOn_151 : decode cX5_weaveOn 151 = .ok (.iload 5, 2) := by decide +kernel
theorem dX5_weaveOn_153 : decode cX5_weaveOn 153 = .ok (.iload_n 2, 1) := by decide +kernel
theorem dX5_weaveOn_154 : decode cX5_weaveOn 154 = .ok (.invokestatic 86, 3) := by decide +kernel
theorem dX5_weaveOn_157 : decode cX5_weaveOn 157 = .ok (.iload 7, 2) := by decide +kernel
theorem dX5_weaveOn_159 : decode cX5_weaveOn 159 = .ok (.iastore, 1) := by decide +kernel
theorem dX5_weaveOn_160 : decode cX5_weaveOn 160 = .ok (.aload_n 0, 1) := by decide +kernel
theorem dX5_weaveOn_161 : decode cX5_weaveOn 161 = .ok (.dup, 1) := by decide +kernel
theorem dX5_weaveOn_162 : decode cX5_weaveOn 162 = .ok (.getfield 79, 3) := by decide +kernel
theorem dX5_weaveOn_165 : decode cX5_weaveOn 165 = .ok (.aload_n 0, 1) := by decide +kernel
theorem dX5_weaveOn_166 : decode cX5_weaveOn 166 = .ok (.getfield 23, 3) := by decide +kernel
theorem dX5_weaveOn_169 : decode cX5_weaveOn 169 = .ok (.iload 7, 2) := by decide +kernel
theorem dX5_weaveOn_171 : decode cX5_weaveOn 171 = .ok (.iaload, 1) := by decide +kernel
theorem dX5_weaveOn_172 : decode cX5_weaveOn 172 = .ok (.aload_n 0, 1) := by decide +kernel
theorem dX5_weaveOn_173 : decode cX5_weaveOn 173 = .ok (.getfield 9, 3) := by decide +kernel
theorem dX5_weaveOn_176 : decode cX5_weaveOn 176 = .ok (.iload 5, 2) := by decide +kernel
theorem dX5_weaveOn_178 : decode cX5_weaveOn 178 = .ok (.iload_n 2, 1) := by decide +kernel
theorem dX5_weaveOn_179 : decode cX5_weaveOn 179 = .ok (.invokestatic 86, 3) := by decide +kernel
theorem dX5_weaveOn_182 : decode cX5_weaveOn 182 = .ok (.iaload, 1) := by decide +kernel
theorem dX5_weaveOn_183 : decode cX5_weaveOn 183 = .ok (.isub, 1) := by decide +kernel
theorem dX5_weaveOn_184 : decode cX5_weaveOn 184 = .ok (.invokestatic 61, 3) := by decide +kernel
theorem dX5_weaveOn_187 : decode cX5_weaveOn 187 = .ok (.iadd, 1) := by decide +kernel
theorem dX5_weaveOn_188 : decode cX5_weaveOn 188 = .ok (.putfield 79, 3) := by decide +kernel
theorem dX5_weaveOn_191 : decode cX5_weaveOn 191 = .ok (.aload_n 0, 1) := by decide +kernel
theorem dX5_weaveOn_192 : decode cX5_weaveOn 192 = .ok (.iload 5, 2) := by decide +kernel
theorem dX5_weaveOn_194 : decode cX5_weaveOn 194 = .ok (.iload_n 3, 1) := by decide +kernel
theorem dX5_weaveOn_195 : decode cX5_weaveOn 195 = .ok (.ifCond .eq 7, 3) := by decide +kernel
theorem dX5_weaveOn_198 : decode cX5_weaveOn 198 = .ok (.iconst (-1), 1) := by decide +kernel
theorem dX5_weaveOn_199 : decode cX5_weaveOn 199 = .ok (.goto 4, 3) := by decide +kernel
theorem dX5_weaveOn_202 : decode cX5_weaveOn 202 = .ok (.iconst 1, 1) := by decide +kernel
theorem dX5_weaveOn_203 : decode cX5_weaveOn 203 = .ok (.iload 6, 2) := by decide +kernel
theorem dX5_weaveOn_205 : decode cX5_weaveOn 205 = .ok (.aload_n 0, 1) := by decide +kernel
theorem dX5_weaveOn_206 : decode cX5_weaveOn 206 = .ok (.getfield 23, 3) := by decide +kernel
theorem dX5_weaveOn_209 : decode cX5_weaveOn 209 = .ok (.iload 7, 2) := by decide +kernel
theorem dX5_weaveOn_211 : decode cX5_weaveOn 211 = .ok (.iaload, 1) := by decide +kernel
theorem dX5_weaveOn_212 : decode cX5_weaveOn 212 = .ok (.isub, 1) := by decide +kernel
theorem dX5_weaveOn_213 : decode cX5_weaveOn 213 = .ok (.invokevirtual 93, 3) := by decide +kernel
theorem dX5_weaveOn_216 : decode cX5_weaveOn 216 = .ok (.iinc 4 1, 3) := by decide +kernel
theorem dX5_weaveOn_219 : decode cX5_weaveOn 219 = .ok (.goto (-124), 3) := by decide +kernel
theorem dX5_weaveOn_222 : decode cX5_weaveOn 222 = .ok (.iinc 2 1, 3) := by decide +kernel
theorem dX5_weaveOn_225 : decode cX5_weaveOn 225 = .ok (.goto (-192), 3) := by decide +kernel
theorem dX5_weaveOn_228 : decode cX5_weaveOn 228 = .ok (.return_, 1) := by decide +kernel
set_option maxRecDepth 20000 in
theorem ggX5_isLikeAbove_X5_at : GoodIn wsX5_isLikeAbove wsX5_at := goodIn_r _ [4] (by decide +kernel) (by decide +kernel)
set_option maxRecDepth 20000 in
theorem gX5_isLikeAbove_X5_at : GoodIn wsX5_isLikeAbove (va_wsS RX5 86 yX5_at wsX5_at) := goodIn_app (goodIn_of _ (by decide +kernel)) ggX5_isLikeAbove_X5_at
theorem dX5_isLikeAbove_0 : decode cX5_isLikeAbove 0 = .ok (.iload_n 1, 1) := by decide +kernel
theorem dX5_isLikeAbove_1 : decode cX5_isLikeAbove 1 = .ok (.ifCond .ne 5, 3) := by decide +kernel
theorem dX5_isLikeAbove_4 : decode cX5_isLikeAbove 4 = .ok (.iconst 0, 1) := by decide +kernel
theorem dX5_isLikeAbove_5 : decode cX5_isLikeAbove 5 = .ok (.ireturn, 1) := by decide +kernel
theorem dX5_isLikeAbove_6 : decode cX5_isLikeAbove 6 = .ok (.iconst 0, 1) := by decide +kernel
theorem dX5_isLikeAbove_7 : decode cX5_isLikeAbove 7 = .ok (.istore_n 2, 1) := by decide +kernel
theorem dX5_isLikeAbove_8 : decode cX5_isLikeAbove 8 = .ok (.iload_n 2, 1) := by decide +kernel
theorem dX5_isLikeAbove_9 : decode cX5_isLikeAbove 9 = .ok (.bipush 12, 2) := by decide +kernel
theorem dX5_isLikeAbove_11 : decode cX5_isLikeAbove 11 = .ok (.if_icmp .ge 30, 3) := by decide +kernel
theorem dX5_isLikeAbove_14 : decode cX5_isLikeAbove 14 = .ok (.aload_n 0, 1) := by decide +kernel
theorem dX5_isLikeAbove_15 : decode cX5_isLikeAbove 15 = .ok (.iload_n 2, 1) := by decide +kernel
theorem dX5_isLikeAbove_16 : decode cX5_isLikeAbove 16 = .ok (.iload_n 1, 1) := by decide +kernel
theorem dX5_isLikeAbove_17 : decode cX5_isLikeAbove 17 = .ok (.invokestatic 86, 3) := by decide +kernel
theorem dX5_isLikeAbove_20 : decode cX5_isLikeAbove 20 = .ok (.iaload, 1) := by decide +kernel
theorem dX5_isLikeAbove_21 : decode cX5_isLikeAbove 21 = .ok (.aload_n 0, 1) := by decide +kernel
theorem dX5_isLikeAbove_22 : decode cX5_isLikeAbove 22 = .ok (.iload_n 2, 1) := by decide +kernel
theorem dX5_isLikeAbove_23 : decode cX5_isLikeAbove 23 = .ok (.iload_n 1, 1) := by decide +kernel
theorem dX5_isLikeAbove_24 : decode cX5_isLikeAbove 24 = .ok (.iconst 1, 1) := by decide +kernel
theorem dX5_isLikeAbove_25 : decode cX5_isLikeAbove 25 = .ok (.isub, 1) := by decide +kernel
theorem dX5_isLikeAbove_26 : decode cX5_isLikeAbove 26 = .ok (.invokestatic 86, 3) := by decide +kernel
theorem dX5_isLikeAbove_29 : decode cX5_isLikeAbove 29 = .ok (.iaload, 1) := by decide +kernel
theorem dX5_isLikeAbove_30 : decode cX5_isLikeAbove 30 = .ok (.if_icmp .eq 5, 3) := by decide +kernel
theorem dX5_isLikeAbove_33 : decode cX5_isLikeAbove 33 = .ok (.iconst 0, 1) := by decide +kernel
theorem dX5_isLikeAbove_34 : decode cX5_isLikeAbove 34 = .ok (.ireturn, 1) := by decide +kernel
theorem dX5_isLikeAbove_35 : decode cX5_isLikeAbove 35 = .ok (.iinc 2 1, 3) := by decide +kernel
theorem dX5_isLikeAbove_38 : decode cX5_isLikeAbove 38 = .ok (.goto (-30), 3) := by decide +kernel
theorem dX5_isLikeAbove_41 : decode cX5_isLikeAbove 41 = .ok (.iconst 1, 1) := by decide +kernel
theorem dX5_isLikeAbove_42 : decode cX5_isLikeAbove 42 = .ok (.ireturn, 1) := by decide +kernel
set_option maxRecDepth 20000 in
theorem ggX5_endOf_X5_at : GoodIn wsX5_endOf wsX5_at := goodIn_r _ [4] (by decide +kernel) (by decide +kernel)
set_option maxRecDepth 20000 in
theorem gX5_endOf_X5_at : GoodIn wsX5_endOf (va_wsS RX5 86 yX5_at wsX5_at) := goodIn_app (goodIn_of _ (by decide +kernel)) ggX5_endOf_X5_at
theorem dX5_endOf_0 : decode cX5_endOf 0 = .ok (.iload_n 1, 1) := by decide +kernel
theorem dX5_endOf_1 : decode cX5_endOf 1 = .ok (.iconst 1, 1) := by decide +kernel
theorem dX5_endOf_2 : decode cX5_endOf 2 = .ok (.iadd, 1) := by decide +kernel
theorem dX5_endOf_3 : decode cX5_endOf 3 = .ok (.istore_n 3, 1) := by decide +kernel
theorem dX5_endOf_4 : decode cX5_endOf 4 = .ok (.iload_n 3, 1) := by decide +kernel
theorem dX5_endOf_5 : decode cX5_endOf 5 = .ok (.bipush 12, 2) := by decide +kernel
theorem dX5_endOf_7 : decode cX5_endOf 7 = .ok (.if_icmp .ge 34, 3) := by decide +kernel
theorem dX5_endOf_10 : decode cX5_endOf 10 = .ok (.iload_n 3, 1) := by decide +kernel
theorem dX5_endOf_11 : decode cX5_endOf 11 = .ok (.iload_n 1, 1) := by decide +kernel
theorem dX5_endOf_12 : decode cX5_endOf 12 = .ok (.isub, 1) := by decide +kernel
theorem dX5_endOf_13 : decode cX5_endOf 13 = .ok (.bipush 9, 2) := by decide +kernel
theorem dX5_endOf_15 : decode cX5_endOf 15 = .ok (.if_icmp .ge 26, 3) := by decide +kernel
theorem dX5_endOf_18 : decode cX5_endOf 18 = .ok (.aload_n 0, 1) := by decide +kernel
theorem dX5_endOf_19 : decode cX5_endOf 19 = .ok (.iload_n 3, 1) := by decide +kernel
theorem dX5_endOf_20 : decode cX5_endOf 20 = .ok (.iload_n 2, 1) := by decide +kernel
theorem dX5_endOf_21 : decode cX5_endOf 21 = .ok (.invokestatic 86, 3) := by decide +kernel
theorem dX5_endOf_24 : decode cX5_endOf 24 = .ok (.iaload, 1) := by decide +kernel
theorem dX5_endOf_25 : decode cX5_endOf 25 = .ok (.aload_n 0, 1) := by decide +kernel
theorem dX5_endOf_26 : decode cX5_endOf 26 = .ok (.iload_n 1, 1) := by decide +kernel
theorem dX5_endOf_27 : decode cX5_endOf 27 = .ok (.iload_n 2, 1) := by decide +kernel
theorem dX5_endOf_28 : decode cX5_endOf 28 = .ok (.invokestatic 86, 3) := by decide +kernel
theorem dX5_endOf_31 : decode cX5_endOf 31 = .ok (.iaload, 1) := by decide +kernel
theorem dX5_endOf_32 : decode cX5_endOf 32 = .ok (.if_icmp .ne 9, 3) := by decide +kernel
theorem dX5_endOf_35 : decode cX5_endOf 35 = .ok (.iinc 3 1, 3) := by decide +kernel
theorem dX5_endOf_38 : decode cX5_endOf 38 = .ok (.goto (-34), 3) := by decide +kernel
theorem dX5_endOf_41 : decode cX5_endOf 41 = .ok (.iload_n 3, 1) := by decide +kernel
theorem dX5_endOf_42 : decode cX5_endOf 42 = .ok (.ireturn, 1) := by decide +kernel
set_option maxRecDepth 20000 in
theorem ggX5_runs_X5_endOf : GoodIn wsX5_runs wsX5_endOf := goodIn_r _ [4, 5, 6, 3, 7] (by decide +kernel) (by decide +kernel)
set_option maxRecDepth 20000 in
theorem gX5_runs_X5_endOf : GoodIn wsX5_runs (va_wsS RX5 97 yX5_endOf wsX5_endOf) := goodIn_app (goodIn_of _ (by decide +kernel)) ggX5_runs_X5_endOf
theorem dX5_runs_0 : decode cX5_runs 0 = .ok (.iconst 0, 1) := by decide +kernel
theorem dX5_runs_1 : decode cX5_runs 1 = .ok (.istore_n 2, 1) := by decide +kernel
theorem dX5_runs_2 : decode cX5_runs 2 = .ok (.iconst 0, 1) := by decide +kernel
theorem dX5_runs_3 : decode cX5_runs 3 = .ok (.istore_n 3, 1) := by decide +kernel
theorem dX5_runs_4 : decode cX5_runs 4 = .ok (.iload_n 3, 1) := by decide +kernel
theorem dX5_runs_5 : decode cX5_runs 5 = .ok (.bipush 12, 2) := by decide +kernel
theorem dX5_runs_7 : decode cX5_runs 7 = .ok (.if_icmp .ge 16, 3) := by decide +kernel
theorem dX5_runs_10 : decode cX5_runs 10 = .ok (.iinc 2 1, 3) := by decide +kernel
theorem dX5_runs_13 : decode cX5_runs 13 = .ok (.aload_n 0, 1) := by decide +kernel
theorem dX5_runs_14 : decode cX5_runs 14 = .ok (.iload_n 3, 1) := by decide +kernel
theorem dX5_runs_15 : decode cX5_runs 15 = .ok (.iload_n 1, 1) := by decide +kernel
theorem dX5_runs_16 : decode cX5_runs 16 = .ok (.invokestatic 97, 3) := by decide +kernel
theorem dX5_runs_19 : decode cX5_runs 19 = .ok (.istore_n 3, 1) := by decide +kernel
theorem dX5_runs_20 : decode cX5_runs 20 = .ok (.goto (-16), 3) := by decide +kernel
theorem dX5_runs_23 : decode cX5_runs 23 = .ok (.iload_n 2, 1) := by decide +kernel
theorem dX5_runs_24 : decode cX5_runs 24 = .ok (.ireturn, 1) := by decide +kernel
set_option maxRecDepth 20000 in
theorem ggX5_knotsOf_X5_isLikeAbove : GoodIn wsX5_knotsOf wsX5_isLikeAbove := goodIn_r _ [5, 6, 7, 4, 8] (by decide +kernel) (by decide +kernel)
set_option maxRecDepth 20000 in
theorem gX5_knotsOf_X5_isLikeAbove : GoodIn wsX5_knotsOf (va_wsS RX5 104 yX5_isLikeAbove wsX5_isLikeAbove) := goodIn_app (goodIn_of _ (by decide +kernel)) ggX5_knotsOf_X5_isLikeAbove
set_option maxRecDepth 20000 in
theorem ggX5_knotsOf_X5_runs : GoodIn wsX5_knotsOf wsX5_runs := goodIn_r _ [11, 12, 13, 4, 14, 6, 7, 8] (by decide +kernel) (by decide +kernel)
set_option maxRecDepth 20000 in
theorem gX5_knotsOf_X5_runs : GoodIn wsX5_knotsOf (va_wsS RX5 108 yX5_runs wsX5_runs) := goodIn_app (goodIn_of _ (by decide +kernel)) ggX5_knotsOf_X5_runs
theorem dX5_knotsOf_0 : decode cX5_knotsOf 0 = .ok (.aload_n 0, 1) := by decide +kernel
theorem dX5_knotsOf_1 : decode cX5_knotsOf 1 = .ok (.getfield 101, 3) := by decide +kernel
theorem dX5_knotsOf_4 : decode cX5_knotsOf 4 = .ok (.ifCond .eq 15, 3) := by decide +kernel
theorem dX5_knotsOf_7 : decode cX5_knotsOf 7 = .ok (.aload_n 1, 1) := by decide +kernel
theorem dX5_knotsOf_8 : decode cX5_knotsOf 8 = .ok (.iload_n 2, 1) := by decide +kernel
theorem dX5_knotsOf_9 : decode cX5_knotsOf 9 = .ok (.invokestatic 104, 3) := by decide +kernel
theorem dX5_knotsOf_12 : decode cX5_knotsOf 12 = .ok (.ifCond .eq 7, 3) := by decide +kernel
theorem dX5_knotsOf_15 : decode cX5_knotsOf 15 = .ok (.iconst 1, 1) := by decide +kernel
theorem dX5_knotsOf_16 : decode cX5_knotsOf 16 = .ok (.goto 8, 3) := by decide +kernel
theorem dX5_knotsOf_19 : decode cX5_knotsOf 19 = .ok (.aload_n 1, 1) := by decide +kernel
theorem dX5_knotsOf_20 : decode cX5_knotsOf 20 = .ok (.iload_n 2, 1) := by decide +kernel
theorem dX5_knotsOf_21 : decode cX5_knotsOf 21 = .ok (.invokestatic 108, 3) := by decide +kernel
theorem dX5_knotsOf_24 : decode cX5_knotsOf 24 = .ok (.ireturn, 1) := by decide +kernel
set_option maxRecDepth 20000 in
theorem ggX5_allKnots_X5_knotsOf : GoodIn wsX5_allKnots wsX5_knotsOf := goodIn_r _ [5, 6, 7, 8, 4, 9, 10, 11, 12, 13, 14, 15, 16, 17, 18, 19, 20, 21, 22, 23, 24, 25, 26, 27, 28, 29, 30, 31, 32, 33, 34, 35, 36, 37] (by decide +kernel) (by decide +kernel)
set_option maxRecDepth 20000 in
theorem gX5_allKnots_X5_knotsOf : GoodIn wsX5_allKnots (wsV RX5 111 RX5 yX5_knotsOf wsX5_knotsOf) := goodIn_app (goodIn_of _ (by decide +kernel)) ggX5_allKnots_X5_knotsOf
theorem dX5_allKnots_0 : decode cX5_allKnots 0 = .ok (.iconst 0, 1) := by decide +kernel
theorem dX5_allKnots_1 : decode cX5_allKnots 1 = .ok (.istore_n 2, 1) := by decide +kernel
theorem dX5_allKnots_2 : decode cX5_allKnots 2 = .ok (.iconst 0, 1) := by decide +kernel
theorem dX5_allKnots_3 : decode cX5_allKnots 3 = .ok (.istore_n 3, 1) := by decide +kernel
theorem dX5_allKnots_4 : decode cX5_allKnots 4 = .ok (.iload_n 3, 1) := by decide +kernel
theorem dX5_allKnots_5 : decode cX5_allKnots 5 = .ok (.bipush 8, 2) := by decide +kernel
theorem dX5_allKnots_7 : decode cX5_allKnots 7 = .ok (.if_icmp .ge 18, 3) := by decide +kernel
theorem dX5_allKnots_10 : decode cX5_allKnots 10 = .ok (.iload_n 2, 1) := by decide +kernel
theorem dX5_allKnots_11 : decode cX5_allKnots 11 = .ok (.aload_n 0, 1) := by decide +kernel
theorem dX5_allKnots_12 : decode cX5_allKnots 12 = .ok (.aload_n 1, 1) := by decide +kernel
theorem dX5_allKnots_13 : decode cX5_allKnots 13 = .ok (.iload_n 3, 1) := by decide +kernel
theorem dX5_allKnots_14 : decode cX5_allKnots 14 = .ok (.invokevirtual 111, 3) := by decide +kernel
theorem dX5_allKnots_17 : decode cX5_allKnots 17 = .ok (.iadd, 1) := by decide +kernel
theorem dX5_allKnots_18 : decode cX5_allKnots 18 = .ok (.istore_n 2, 1) := by decide +kernel
theorem dX5_allKnots_19 : decode cX5_allKnots 19 = .ok (.iinc 3 1, 3) := by decide +kernel
theorem dX5_allKnots_22 : decode cX5_allKnots 22 = .ok (.goto (-18), 3) := by decide +kernel
theorem dX5_allKnots_25 : decode cX5_allKnots 25 = .ok (.iload_n 2, 1) := by decide +kernel
theorem dX5_allKnots_26 : decode cX5_allKnots 26 = .ok (.ireturn, 1) := by decide +kernel
theorem dX5_cellsOf_0 : decode cX5_cellsOf 0 = .ok (.iconst 0, 1) := by decide +kernel
theorem dX5_cellsOf_1 : decode cX5_cellsOf 1 = .ok (.istore_n 2, 1) := by decide +kernel
theorem dX5_cellsOf_2 : decode cX5_cellsOf 2 = .ok (.aload_n 0, 1) := by decide +kernel
theorem dX5_cellsOf_3 : decode cX5_cellsOf 3 = .ok (.astore_n 3, 1) := by decide +kernel
theorem dX5_cellsOf_4 : decode cX5_cellsOf 4 = .ok (.aload_n 3, 1) := by decide +kernel
theorem dX5_cellsOf_5 : decode cX5_cellsOf 5 = .ok (.arraylength, 1) := by decide +kernel
theorem dX5_cellsOf_6 : decode cX5_cellsOf 6 = .ok (.istore 4, 2) := by decide +kernel
theorem dX5_cellsOf_8 : decode cX5_cellsOf 8 = .ok (.iconst 0, 1) := by decide +kernel
theorem dX5_cellsOf_9 : decode cX5_cellsOf 9 = .ok (.istore 5, 2) := by decide +kernel
theorem dX5_cellsOf_11 : decode cX5_cellsOf 11 = .ok (.iload 5, 2) := by decide +kernel
theorem dX5_cellsOf_13 : decode cX5_cellsOf 13 = .ok (.iload 4, 2) := by decide +kernel
theorem dX5_cellsOf_15 : decode cX5_cellsOf 15 = .ok (.if_icmp .ge 29, 3) := by decide +kernel
theorem dX5_cellsOf_18 : decode cX5_cellsOf 18 = .ok (.aload_n 3, 1) := by decide +kernel
theorem dX5_cellsOf_19 : decode cX5_cellsOf 19 = .ok (.iload 5, 2) := by decide +kernel
theorem dX5_cellsOf_21 : decode cX5_cellsOf 21 = .ok (.iaload, 1) := by decide +kernel
theorem dX5_cellsOf_22 : decode cX5_cellsOf 22 = .ok (.istore 6, 2) := by decide +kernel
theorem dX5_cellsOf_24 : decode cX5_cellsOf 24 = .ok (.iload_n 2, 1) := by decide +kernel
theorem dX5_cellsOf_25 : decode cX5_cellsOf 25 = .ok (.iload 6, 2) := by decide +kernel
theorem dX5_cellsOf_27 : decode cX5_cellsOf 27 = .ok (.iload_n 1, 1) := by decide +kernel
theorem dX5_cellsOf_28 : decode cX5_cellsOf 28 = .ok (.if_icmp .ne 7, 3) := by decide +kernel
theorem dX5_cellsOf_31 : decode cX5_cellsOf 31 = .ok (.iconst 1, 1) := by decide +kernel
theorem dX5_cellsOf_32 : decode cX5_cellsOf 32 = .ok (.goto 4, 3) := by decide +kernel
theorem dX5_cellsOf_35 : decode cX5_cellsOf 35 = .ok (.iconst 0, 1) := by decide +kernel
theorem dX5_cellsOf_36 : decode cX5_cellsOf 36 = .ok (.iadd, 1) := by decide +kernel
theorem dX5_cellsOf_37 : decode cX5_cellsOf 37 = .ok (.istore_n 2, 1) := by decide +kernel
theorem dX5_cellsOf_38 : decode cX5_cellsOf 38 = .ok (.iinc 5 1, 3) := by decide +kernel
theorem dX5_cellsOf_41 : decode cX5_cellsOf 41 = .ok (.goto (-30), 3) := by decide +kernel
theorem dX5_cellsOf_44 : decode cX5_cellsOf 44 = .ok (.iload_n 2, 1) := by decide +kernel
theorem dX5_cellsOf_45 : decode cX5_cellsOf 45 = .ok (.ireturn, 1) := by decide +kernel
set_option maxRecDepth 20000 in
theorem ggX5_set_X5_isX : GoodIn wsX5_set wsX5_isX := goodIn_r _ [6, 7, 8, 5, 9] (by decide +kernel) (by decide +kernel)
set_option maxRecDepth 20000 in
theorem gX5_set_X5_isX : GoodIn wsX5_set (va_wsS RX5 67 yX5_isX wsX5_isX) := goodIn_app (goodIn_of _ (by decide +kernel)) ggX5_set_X5_isX
set_option maxRecDepth 20000 in
theorem ggX5_set_X5_isY : GoodIn wsX5_set wsX5_isY := goodIn_r _ [12, 7, 8, 5, 9] (by decide +kernel) (by decide +kernel)
set_option maxRecDepth 20000 in
theorem gX5_set_X5_isY : GoodIn wsX5_set (va_wsS RX5 114 yX5_isY wsX5_isY) := goodIn_app (goodIn_of _ (by decide +kernel)) ggX5_set_X5_isY
set_option maxRecDepth 20000 in
theorem ggX5_set_X5_no : GoodIn wsX5_set wsX5_no := goodIn_r _ [16, 1, 20, 21, 22, 23, 24, 25, 26, 27, 28, 29, 30, 31, 32, 33, 34, 35, 36, 37, 38] (by decide +kernel) (by decide +kernel)
set_option maxRecDepth 20000 in
theorem gX5_set_X5_no : GoodIn wsX5_set (wsV RX5 117 RX5 yX5_no wsX5_no) := goodIn_app (goodIn_of _ (by decide +kernel)) ggX5_set_X5_no
set_option maxRecDepth 20000 in
theorem ggX5_set_X5_isIn : GoodIn wsX5_set wsX5_isIn := goodIn_r _ [9] (by decide +kernel) (by decide +kernel)
set_option maxRecDepth 20000 in
theorem gX5_set_X5_isIn : GoodIn wsX5_set (va_wsS RX5 47 yX5_isIn wsX5_isIn) := goodIn_app (goodIn_of _ (by decide +kernel)) ggX5_set_X5_isIn
set_option maxRecDepth 20000 in
theorem ggX5_set_X5_at : GoodIn wsX5_set wsX5_at := goodIn_r _ [19] (by decide +kernel) (by decide +kernel)
set_option maxRecDepth 20000 in
theorem gX5_set_X5_at : GoodIn wsX5_set (va_wsS RX5 86 yX5_at wsX5_at) := goodIn_app (goodIn_of _ (by decide +kernel)) ggX5_set_X5_at
theorem dX5_set_0 : decode cX5_set 0 = .ok (.aload_n 0, 1) := by decide +kernel
theorem dX5_set_1 : decode cX5_set 1 = .ok (.iconst 0, 1) := by decide +kernel
theorem dX5_set_2 : decode cX5_set 2 = .ok (.putfield 44, 3) := by decide +kernel
theorem dX5_set_5 : decode cX5_set 5 = .ok (.iload_n 1, 1) := by decide +kernel
theorem dX5_set_6 : decode cX5_set 6 = .ok (.invokestatic 67, 3) := by decide +kernel
theorem dX5_set_9 : decode cX5_set 9 = .ok (.ifCond .eq 10, 3) := by decide +kernel
theorem dX5_set_12 : decode cX5_set 12 = .ok (.iload_n 2, 1) := by decide +kernel
theorem dX5_set_13 : decode cX5_set 13 = .ok (.invokestatic 114, 3) := by decide +kernel
theorem dX5_set_16 : decode cX5_set 16 = .ok (.ifCond .ne 9, 3) := by decide +kernel
theorem dX5_set_19 : decode cX5_set 19 = .ok (.aload_n 0, 1) := by decide +kernel
theorem dX5_set_20 : decode cX5_set 20 = .ok (.iconst 1, 1) := by decide +kernel
theorem dX5_set_21 : decode cX5_set 21 = .ok (.invokevirtual 117, 3) := by decide +kernel
theorem dX5_set_24 : decode cX5_set 24 = .ok (.ireturn, 1) := by decide +kernel
theorem dX5_set_25 : decode cX5_set 25 = .ok (.iload_n 3, 1) := by decide +kernel
theorem dX5_set_26 : decode cX5_set 26 = .ok (.iconst 0, 1) := by decide +kernel
theorem dX5_set_27 : decode cX5_set 27 = .ok (.sipush 255, 3) := by decide +kernel
theorem dX5_set_30 : decode cX5_set 30 = .ok (.invokestatic 47, 3) := by decide +kernel
theorem dX5_set_33 : decode cX5_set 33 = .ok (.ifCond .ne 9, 3) := by decide +kernel
theorem dX5_set_36 : decode cX5_set 36 = .ok (.aload_n 0, 1) := by decide +kernel
theorem dX5_set_37 : decode cX5_set 37 = .ok (.iconst 2, 1) := by decide +kernel
theorem dX5_set_38 : decode cX5_set 38 = .ok (.invokevirtual 117, 3) := by decide +kernel
theorem dX5_set_41 : decode cX5_set 41 = .ok (.ireturn, 1) := by decide +kernel
theorem dX5_set_42 : decode cX5_set 42 = .ok (.aload_n 0, 1) := by decide +kernel
theorem dX5_set_43 : decode cX5_set 43 = .ok (.getfield 9, 3) := by decide +kernel
theorem dX5_set_46 : decode cX5_set 46 = .ok (.iload_n 1, 1) := by decide +kernel
theorem dX5_set_47 : decode cX5_set 47 = .ok (.iload_n 2, 1) := by decide +kernel
theorem dX5_set_48 : decode cX5_set 48 = .ok (.invokestatic 86, 3) := by decide +kernel
theorem dX5_set_51 : decode cX5_set 51 = .ok (.iaload, 1) := by decide +kernel
theorem dX5_set_52 : decode cX5_set 52 = .ok (.istore 4, 2) := by decide +kernel
theorem dX5_set_54 : decode cX5_set 54 = .ok (.aload_n 0, 1) := by decide +kernel
theorem dX5_set_55 : decode cX5_set 55 = .ok (.getfield 9, 3) := by decide +kernel
theorem dX5_set_58 : decode cX5_set 58 = .ok (.iload_n 1, 1) := by decide +kernel
theorem dX5_set_59 : decode cX5_set 59 = .ok (.iload_n 2, 1) := by decide +kernel
theorem dX5_set_60 : decode cX5_set 60 = .ok (.invokestatic 86, 3) := by decide +kernel
theorem dX5_set_63 : decode cX5_set 63 = .ok (.iload_n 3, 1) := by decide +kernel
theorem dX5_set_64 : decode cX5_set 64 = .ok (.iastore, 1) := by decide +kernel
theorem dX5_set_65 : decode cX5_set 65 = .ok (.iload 4, 2) := by decide +kernel
theorem dX5_set_67 : decode cX5_set 67 = .ok (.ireturn, 1) := by decide +kernel
set_option maxRecDepth 20000 in
theorem ggX5_row_X5_isY : GoodIn wsX5_row wsX5_isY := goodIn_r _ [13, 14, 15, 12, 16] (by decide +kernel) (by decide +kernel)
set_option maxRecDepth 20000 in
theorem gX5_row_X5_isY : GoodIn wsX5_row (va_wsS RX5 114 yX5_isY wsX5_isY) := goodIn_app (goodIn_of _ (by decide +kernel)) ggX5_row_X5_isY
set_option maxRecDepth 20000 in
theorem ggX5_row_X5_no : GoodIn wsX5_row wsX5_no := goodIn_r _ [20, 1, 24, 25, 26, 27, 28, 29, 30, 31, 32, 33, 34, 35, 36, 37, 38, 39, 40, 41, 42] (by decide +kernel) (by decide +kernel)
set_option maxRecDepth 20000 in
theorem gX5_row_X5_no : GoodIn wsX5_row (wsV RX5 117 RX5 yX5_no wsX5_no) := goodIn_app (goodIn_of _ (by decide +kernel)) ggX5_row_X5_no
set_option maxRecDepth 20000 in
theorem ggX5_row_X5_isIn : GoodIn wsX5_row wsX5_isIn := goodIn_r _ [16] (by decide +kernel) (by decide +kernel)
set_option maxRecDepth 20000 in
theorem gX5_row_X5_isIn : GoodIn wsX5_row (va_wsS RX5 47 yX5_isIn wsX5_isIn) := goodIn_app (goodIn_of _ (by decide +kernel)) ggX5_row_X5_isIn
set_option maxRecDepth 20000 in
theorem ggX5_row_X5_at : GoodIn wsX5_row wsX5_at := goodIn_r _ [23] (by decide +kernel) (by decide +kernel)
set_option maxRecDepth 20000 in
theorem gX5_row_X5_at : GoodIn wsX5_row (va_wsS RX5 86 yX5_at wsX5_at) := goodIn_app (goodIn_of _ (by decide +kernel)) ggX5_row_X5_at
theorem dX5_row_0 : decode cX5_row 0 = .ok (.aload_n 0, 1) := by decide +kernel
theorem dX5_row_1 : decode cX5_row 1 = .ok (.iconst 0, 1) := by decide +kernel
theorem dX5_row_2 : decode cX5_row 2 = .ok (.putfield 44, 3) := by decide +kernel
theorem dX5_row_5 : decode cX5_row 5 = .ok (.iload_n 1, 1) := by decide +kernel
theorem dX5_row_6 : decode cX5_row 6 = .ok (.invokestatic 114, 3) := by decide +kernel
theorem dX5_row_9 : decode cX5_row 9 = .ok (.ifCond .ne 9, 3) := by decide +kernel
theorem dX5_row_12 : decode cX5_row 12 = .ok (.aload_n 0, 1) := by decide +kernel
theorem dX5_row_13 : decode cX5_row 13 = .ok (.iconst 1, 1) := by decide +kernel
theorem dX5_row_14 : decode cX5_row 14 = .ok (.invokevirtual 117, 3) := by decide +kernel
theorem dX5_row_17 : decode cX5_row 17 = .ok (.ireturn, 1) := by decide +kernel
theorem dX5_row_18 : decode cX5_row 18 = .ok (.iload_n 2, 1) := by decide +kernel
theorem dX5_row_19 : decode cX5_row 19 = .ok (.iconst 0, 1) := by decide +kernel
theorem dX5_row_20 : decode cX5_row 20 = .ok (.sipush 255, 3) := by decide +kernel
theorem dX5_row_23 : decode cX5_row 23 = .ok (.invokestatic 47, 3) := by decide +kernel
theorem dX5_row_26 : decode cX5_row 26 = .ok (.ifCond .eq 14, 3) := by decide +kernel
theorem dX5_row_29 : decode cX5_row 29 = .ok (.iload_n 3, 1) := by decide +kernel
theorem dX5_row_30 : decode cX5_row 30 = .ok (.bipush (-60), 2) := by decide +kernel
theorem dX5_row_32 : decode cX5_row 32 = .ok (.bipush 60, 2) := by decide +kernel
theorem dX5_row_34 : decode cX5_row 34 = .ok (.invokestatic 47, 3) := by decide +kernel
theorem dX5_row_37 : decode cX5_row 37 = .ok (.ifCond .ne 9, 3) := by decide +kernel
theorem dX5_row_40 : decode cX5_row 40 = .ok (.aload_n 0, 1) := by decide +kernel
theorem dX5_row_41 : decode cX5_row 41 = .ok (.iconst 2, 1) := by decide +kernel
theorem dX5_row_42 : decode cX5_row 42 = .ok (.invokevirtual 117, 3) := by decide +kernel
theorem dX5_row_45 : decode cX5_row 45 = .ok (.ireturn, 1) := by decide +kernel
theorem dX5_row_46 : decode cX5_row 46 = .ok (.iconst 0, 1) := by decide +kernel
theorem dX5_row_47 : decode cX5_row 47 = .ok (.istore 4, 2) := by decide +kernel
theorem dX5_row_49 : decode cX5_row 49 = .ok (.iload 4, 2) := by decide +kernel
theorem dX5_row_51 : decode cX5_row 51 = .ok (.bipush 12, 2) := by decide +kernel
theorem dX5_row_53 : decode cX5_row 53 = .ok (.if_icmp .ge 36, 3) := by decide +kernel
theorem dX5_row_56 : decode cX5_row 56 = .ok (.aload_n 0, 1) := by decide +kernel
theorem dX5_row_57 : decode cX5_row 57 = .ok (.getfield 9, 3) := by decide +kernel
theorem dX5_row_60 : decode cX5_row 60 = .ok (.iload 4, 2) := by decide +kernel
theorem dX5_row_62 : decode cX5_row 62 = .ok (.iload_n 1, 1) := by decide +kernel
theorem dX5_row_63 : decode cX5_row 63 = .ok (.invokestatic 86, 3) := by decide +kernel
theorem dX5_row_66 : decode cX5_row 66 = .ok (.iconst 0, 1) := by decide +kernel
theorem dX5_row_67 : decode cX5_row 67 = .ok (.sipush 255, 3) := by decide +kernel
theorem dX5_row_70 : decode cX5_row 70 = .ok (.iload_n 2, 1) := by decide +kernel
theorem dX5_row_71 : decode cX5_row 71 = .ok (.iload_n 3, 1) := by decide +kernel
theorem dX5_row_72 : decode cX5_row 72 = .ok (.iload 4, 2) := by decide +kernel
theorem dX5_row_74 : decode cX5_row 74 = .ok (.imul, 1) := by decide +kernel
theorem dX5_row_75 : decode cX5_row 75 = .ok (.iadd, 1) := by decide +kernel
theorem dX5_row_76 : decode cX5_row 76 = .ok (.invokestatic 120, 3) := by decide +kernel
theorem dX5_row_79 : decode cX5_row 79 = .ok (.invokestatic 123, 3) := by decide +kernel
theorem dX5_row_82 : decode cX5_row 82 = .ok (.iastore, 1) := by decide +kernel
theorem dX5_row_83 : decode cX5_row 83 = .ok (.iinc 4 1, 3) := by decide +kernel
theorem dX5_row_86 : decode cX5_row 86 = .ok (.goto (-37), 3) := by decide +kernel
theorem dX5_row_89 : decode cX5_row 89 = .ok (.aload_n 0, 1) := by decide +kernel
theorem dX5_row_90 : decode cX5_row 90 = .ok (.getfield 9, 3) := by decide +kernel
theorem dX5_row_93 : decode cX5_row 93 = .ok (.bipush 11, 2) := by decide +kernel
theorem dX5_row_95 : decode cX5_row 95 = .ok (.iload_n 1, 1) := by decide +kernel
theorem dX5_row_96 : decode cX5_row 96 = .ok (.invokestatic 86, 3) := by decide +kernel
theorem dX5_row_99 : decode cX5_row 99 = .ok (.iaload, 1) := by decide +kernel
theorem dX5_row_100 : decode cX5_row 100 = .ok (.ireturn, 1) := by decide +kernel
set_option maxRecDepth 20000 in
theorem ggX5_like_X5_isY : GoodIn wsX5_like wsX5_isY := goodIn_r _ [6, 7, 8, 5, 9] (by decide +kernel) (by decide +kernel)
set_option maxRecDepth 20000 in
theorem gX5_like_X5_isY : GoodIn wsX5_like (va_wsS RX5 114 yX5_isY wsX5_isY) := goodIn_app (goodIn_of _ (by decide +kernel)) ggX5_like_X5_isY
set_option maxRecDepth 20000 in
theorem ggX5_like_X5_no : GoodIn wsX5_like wsX5_no := goodIn_r _ [13, 1, 17, 18, 19, 20, 21, 22, 23, 24, 25, 26, 27, 28, 29, 30, 31, 32, 33, 34, 35] (by decide +kernel) (by decide +kernel)
set_option maxRecDepth 20000 in
theorem gX5_like_X5_no : GoodIn wsX5_like (wsV RX5 117 RX5 yX5_no wsX5_no) := goodIn_app (goodIn_of _ (by decide +kernel)) ggX5_like_X5_no
set_option maxRecDepth 20000 in
theorem ggX5_like_X5_at : GoodIn wsX5_like wsX5_at := goodIn_r _ [16] (by decide +kernel) (by decide +kernel)
set_option maxRecDepth 20000 in
theorem gX5_like_X5_at : GoodIn wsX5_like (va_wsS RX5 86 yX5_at wsX5_at) := goodIn_app (goodIn_of _ (by decide +kernel)) ggX5_like_X5_at
theorem dX5_like_0 : decode cX5_like 0 = .ok (.aload_n 0, 1) := by decide +kernel
theorem dX5_like_1 : decode cX5_like 1 = .ok (.iconst 0, 1) := by decide +kernel
theorem dX5_like_2 : decode cX5_like 2 = .ok (.putfield 44, 3) := by decide +kernel
theorem dX5_like_5 : decode cX5_like 5 = .ok (.iload_n 1, 1) := by decide +kernel
theorem dX5_like_6 : decode cX5_like 6 = .ok (.invokestatic 114, 3) := by decide +kernel
theorem dX5_like_9 : decode cX5_like 9 = .ok (.ifCond .eq 10, 3) := by decide +kernel
theorem dX5_like_12 : decode cX5_like 12 = .ok (.iload_n 2, 1) := by decide +kernel
theorem dX5_like_13 : decode cX5_like 13 = .ok (.invokestatic 114, 3) := by decide +kernel
theorem dX5_like_16 : decode cX5_like 16 = .ok (.ifCond .ne 9, 3) := by decide +kernel
theorem dX5_like_19 : decode cX5_like 19 = .ok (.aload_n 0, 1) := by decide +kernel
theorem dX5_like_20 : decode cX5_like 20 = .ok (.iconst 1, 1) := by decide +kernel
theorem dX5_like_21 : decode cX5_like 21 = .ok (.invokevirtual 117, 3) := by decide +kernel
theorem dX5_like_24 : decode cX5_like 24 = .ok (.ireturn, 1) := by decide +kernel
theorem dX5_like_25 : decode cX5_like 25 = .ok (.iconst 0, 1) := by decide +kernel
theorem dX5_like_26 : decode cX5_like 26 = .ok (.istore_n 3, 1) := by decide +kernel
theorem dX5_like_27 : decode cX5_like 27 = .ok (.iconst 0, 1) := by decide +kernel
theorem dX5_like_28 : decode cX5_like 28 = .ok (.istore 4, 2) := by decide +kernel
theorem dX5_like_30 : decode cX5_like 30 = .ok (.iload 4, 2) := by decide +kernel
theorem dX5_like_32 : decode cX5_like 32 = .ok (.bipush 12, 2) := by decide +kernel
theorem dX5_like_34 : decode cX5_like 34 = .ok (.if_icmp .ge 64, 3) := by decide +kernel
theorem dX5_like_37 : decode cX5_like 37 = .ok (.iload_n 3, 1) := by decide +kernel
theorem dX5_like_38 : decode cX5_like 38 = .ok (.aload_n 0, 1) := by decide +kernel
theorem dX5_like_39 : decode cX5_like 39 = .ok (.getfield 9, 3) := by decide +kernel
theorem dX5_like_42 : decode cX5_like 42 = .ok (.iload 4, 2) := by decide +kernel
theorem dX5_like_44 : decode cX5_like 44 = .ok (.iload_n 1, 1) := by decide +kernel
theorem dX5_like_45 : decode cX5_like 45 = .ok (.invokestatic 86, 3) := by decide +kernel
theorem dX5_like_48 : decode cX5_like 48 = .ok (.iaload, 1) := by decide +kernel
theorem dX5_like_49 : decode cX5_like 49 = .ok (.aload_n 0, 1) := by decide +kernel
theorem dX5_like_50 : decode cX5_like 50 = .ok (.getfield 9, 3) := by decide +kernel
theorem dX5_like_53 : decode cX5_like 53 = .ok (.iload 4, 2) := by decide +kernel
theorem dX5_like_55 : decode cX5_like 55 = .ok (.iload_n 2, 1) := by decide +kernel
theorem dX5_like_56 : decode cX5_like 56 = .ok (.invokestatic 86, 3) := by decide +kernel
theorem dX5_like_59 : decode cX5_like 59 = .ok (.iaload, 1) := by decide +kernel
theorem dX5_like_60 : decode cX5_like 60 = .ok (.if_icmp .ne 7, 3) := by decide +kernel
theorem dX5_like_63 : decode cX5_like 63 = .ok (.iconst 0, 1) := by decide +kernel
theorem dX5_like_64 : decode cX5_like 64 = .ok (.goto 4, 3) := by decide +kernel
theorem dX5_like_67 : decode cX5_like 67 = .ok (.iconst 1, 1) := by decide +kernel
theorem dX5_like_68 : decode cX5_like 68 = .ok (.iadd, 1) := by decide +kernel
theorem dX5_like_69 : decode cX5_like 69 = .ok (.istore_n 3, 1) := by decide +kernel
theorem dX5_like_70 : decode cX5_like 70 = .ok (.aload_n 0, 1) := by decide +kernel
theorem dX5_like_71 : decode cX5_like 71 = .ok (.getfield 9, 3) := by decide +kernel
theorem dX5_like_74 : decode cX5_like 74 = .ok (.iload 4, 2) := by decide +kernel
theorem dX5_like_76 : decode cX5_like 76 = .ok (.iload_n 1, 1) := by decide +kernel
theorem dX5_like_77 : decode cX5_like 77 = .ok (.invokestatic 86, 3) := by decide +kernel
theorem dX5_like_80 : decode cX5_like 80 = .ok (.aload_n 0, 1) := by decide +kernel
theorem dX5_like_81 : decode cX5_like 81 = .ok (.getfield 9, 3) := by decide +kernel
theorem dX5_like_84 : decode cX5_like 84 = .ok (.iload 4, 2) := by decide +kernel
theorem dX5_like_86 : decode cX5_like 86 = .ok (.iload_n 2, 1) := by decide +kernel
