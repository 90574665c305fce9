set_option maxRecDepth 20000 in
theorem gL_build_L_act : GoodIn wsL_build (va_wsS RL 94 yL_act wsL_act) := goodIn_app (goodIn_of _ (by decide +kernel)) ggL_build_L_act
theorem dL_build_0 : decode cL_build 0 = .ok (.new 16, 3) := by decide +kernel
theorem dL_build_3 : decode cL_build 3 = .ok (.dup, 1) := by decide +kernel
theorem dL_build_4 : decode cL_build 4 = .ok (.invokespecial 88, 3) := by decide +kernel
theorem dL_build_7 : decode cL_build 7 = .ok (.astore_n 2, 1) := by decide +kernel
theorem dL_build_8 : decode cL_build 8 = .ok (.iconst 0, 1) := by decide +kernel
theorem dL_build_9 : decode cL_build 9 = .ok (.istore_n 3, 1) := by decide +kernel
theorem dL_build_10 : decode cL_build 10 = .ok (.iload_n 3, 1) := by decide +kernel
theorem dL_build_11 : decode cL_build 11 = .ok (.bipush 30, 2) := by decide +kernel
theorem dL_build_13 : decode cL_build 13 = .ok (.if_icmp .ge 69, 3) := by decide +kernel
theorem dL_build_16 : decode cL_build 16 = .ok (.aload_n 1, 1) := by decide +kernel
theorem dL_build_17 : decode cL_build 17 = .ok (.iload_n 3, 1) := by decide +kernel
theorem dL_build_18 : decode cL_build 18 = .ok (.bipush 16, 2) := by decide +kernel
theorem dL_build_20 : decode cL_build 20 = .ok (.irem, 1) := by decide +kernel
theorem dL_build_21 : decode cL_build 21 = .ok (.invokestatic 89, 3) := by decide +kernel
theorem dL_build_24 : decode cL_build 24 = .ok (.iload_n 3, 1) := by decide +kernel
theorem dL_build_25 : decode cL_build 25 = .ok (.bipush 16, 2) := by decide +kernel
theorem dL_build_27 : decode cL_build 27 = .ok (.idiv, 1) := by decide +kernel
theorem dL_build_28 : decode cL_build 28 = .ok (.iconst 4, 1) := by decide +kernel
theorem dL_build_29 : decode cL_build 29 = .ok (.imul, 1) := by decide +kernel
theorem dL_build_30 : decode cL_build 30 = .ok (.ishr, 1) := by decide +kernel
theorem dL_build_31 : decode cL_build 31 = .ok (.bipush 47, 2) := by decide +kernel
theorem dL_build_33 : decode cL_build 33 = .ok (.iload_n 3, 1) := by decide +kernel
theorem dL_build_34 : decode cL_build 34 = .ok (.imul, 1) := by decide +kernel
theorem dL_build_35 : decode cL_build 35 = .ok (.iadd, 1) := by decide +kernel
theorem dL_build_36 : decode cL_build 36 = .ok (.istore 4, 2) := by decide +kernel
theorem dL_build_38 : decode cL_build 38 = .ok (.iload_n 3, 1) := by decide +kernel
theorem dL_build_39 : decode cL_build 39 = .ok (.bipush 8, 2) := by decide +kernel
theorem dL_build_41 : decode cL_build 41 = .ok (.if_icmp .ge 23, 3) := by decide +kernel
theorem dL_build_44 : decode cL_build 44 = .ok (.bipush 14, 2) := by decide +kernel
theorem dL_build_46 : decode cL_build 46 = .ok (.iload 4, 2) := by decide +kernel
theorem dL_build_48 : decode cL_build 48 = .ok (.iconst 2, 1) := by decide +kernel
theorem dL_build_49 : decode cL_build 49 = .ok (.ishr, 1) := by decide +kernel
theorem dL_build_50 : decode cL_build 50 = .ok (.ldc 93, 2) := by decide +kernel
theorem dL_build_52 : decode cL_build 52 = .ok (.invokestatic 9, 3) := by decide +kernel
theorem dL_build_55 : decode cL_build 55 = .ok (.imul, 1) := by decide +kernel
theorem dL_build_56 : decode cL_build 56 = .ok (.iconst 2, 1) := by decide +kernel
theorem dL_build_57 : decode cL_build 57 = .ok (.iadd, 1) := by decide +kernel
theorem dL_build_58 : decode cL_build 58 = .ok (.iload_n 3, 1) := by decide +kernel
theorem dL_build_59 : decode cL_build 59 = .ok (.iconst 3, 1) := by decide +kernel
theorem dL_build_60 : decode cL_build 60 = .ok (.irem, 1) := by decide +kernel
theorem dL_build_61 : decode cL_build 61 = .ok (.iadd, 1) := by decide +kernel
theorem dL_build_62 : decode cL_build 62 = .ok (.istore 4, 2) := by decide +kernel
theorem dL_build_64 : decode cL_build 64 = .ok (.aload_n 0, 1) := by decide +kernel
theorem dL_build_65 : decode cL_build 65 = .ok (.aload_n 2, 1) := by decide +kernel
theorem dL_build_66 : decode cL_build 66 = .ok (.iload 4, 2) := by decide +kernel
theorem dL_build_68 : decode cL_build 68 = .ok (.invokestatic 94, 3) := by decide +kernel
theorem dL_build_71 : decode cL_build 71 = .ok (.ifCond .ne 5, 3) := by decide +kernel
theorem dL_build_74 : decode cL_build 74 = .ok (.aconst_null, 1) := by decide +kernel
theorem dL_build_75 : decode cL_build 75 = .ok (.areturn, 1) := by decide +kernel
theorem dL_build_76 : decode cL_build 76 = .ok (.iinc 3 1, 3) := by decide +kernel
theorem dL_build_79 : decode cL_build 79 = .ok (.goto (-69), 3) := by decide +kernel
theorem dL_build_82 : decode cL_build 82 = .ok (.aload_n 2, 1) := by decide +kernel
theorem dL_build_83 : decode cL_build 83 = .ok (.areturn, 1) := by decide +kernel
set_option maxRecDepth 20000 in
theorem ggL_law_X4_init : GoodIn wsL_law wsX4_init := goodIn_r _ [14, 15, 16, 17, 18, 19, 20, 21, 22, 23, 24, 25, 26, 27, 28, 29, 30, 31, 32, 33, 34, 35, 36, 37, 38, 39, 40, 41, 42, 43, 44, 45, 46, 47, 48, 49, 50, 51, 52, 53, 54, 55, 56, 57, 58, 2, 59, 60, 61, 62, 63, 64, 65, 66, 67, 68, 69, 70, 71, 72, 73, 74, 514, 504, 505, 506, 507, 508, 509, 510, 511, 512, 513, 515, 516, 517, 518, 519, 520, 521, 522, 523, 524, 525, 526] (by decide +kernel) (by decide +kernel)
set_option maxRecDepth 20000 in
theorem gL_law_X4_init : GoodIn wsL_law (wsX4_init) := ggL_law_X4_init
