theorem dL_act_561 : decode cL_act 561 = .ok (.iload 5, 2) := by decide +kernel
theorem dL_act_563 : decode cL_act 563 = .ok (.iaload, 1) := by decide +kernel
theorem dL_act_564 : decode cL_act 564 = .ok (.iload 6, 2) := by decide +kernel
theorem dL_act_566 : decode cL_act 566 = .ok (.iadd, 1) := by decide +kernel
theorem dL_act_567 : decode cL_act 567 = .ok (.invokestatic 27, 3) := by decide +kernel
theorem dL_act_570 : decode cL_act 570 = .ok (.iastore, 1) := by decide +kernel
theorem dL_act_571 : decode cL_act 571 = .ok (.aload_n 0, 1) := by decide +kernel
theorem dL_act_572 : decode cL_act 572 = .ok (.iload 5, 2) := by decide +kernel
theorem dL_act_574 : decode cL_act 574 = .ok (.iload 6, 2) := by decide +kernel
theorem dL_act_576 : decode cL_act 576 = .ok (.invokevirtual 78, 3) := by decide +kernel
theorem dL_act_579 : decode cL_act 579 = .ok (.aload_n 1, 1) := by decide +kernel
theorem dL_act_580 : decode cL_act 580 = .ok (.getfield 75, 3) := by decide +kernel
theorem dL_act_583 : decode cL_act 583 = .ok (.iload 5, 2) := by decide +kernel
theorem dL_act_585 : decode cL_act 585 = .ok (.iaload, 1) := by decide +kernel
theorem dL_act_586 : decode cL_act 586 = .ok (.if_icmp .ne 7, 3) := by decide +kernel
theorem dL_act_589 : decode cL_act 589 = .ok (.iconst 1, 1) := by decide +kernel
theorem dL_act_590 : decode cL_act 590 = .ok (.goto 4, 3) := by decide +kernel
theorem dL_act_593 : decode cL_act 593 = .ok (.iconst 0, 1) := by decide +kernel
theorem dL_act_594 : decode cL_act 594 = .ok (.ireturn, 1) := by decide +kernel
theorem dL_act_595 : decode cL_act 595 = .ok (.aload_n 1, 1) := by decide +kernel
theorem dL_act_596 : decode cL_act 596 = .ok (.invokevirtual 81, 3) := by decide +kernel
theorem dL_act_599 : decode cL_act 599 = .ok (.istore 5, 2) := by decide +kernel
theorem dL_act_601 : decode cL_act 601 = .ok (.aload_n 0, 1) := by decide +kernel
theorem dL_act_602 : decode cL_act 602 = .ok (.invokevirtual 85, 3) := by decide +kernel
theorem dL_act_605 : decode cL_act 605 = .ok (.istore 4, 2) := by decide +kernel
theorem dL_act_607 : decode cL_act 607 = .ok (.goto 8, 3) := by decide +kernel
theorem dL_act_610 : decode cL_act 610 = .ok (.astore 6, 2) := by decide +kernel
theorem dL_act_612 : decode cL_act 612 = .ok (.iconst (-1), 1) := by decide +kernel
theorem dL_act_613 : decode cL_act 613 = .ok (.istore 4, 2) := by decide +kernel
theorem dL_act_615 : decode cL_act 615 = .ok (.iload 4, 2) := by decide +kernel
theorem dL_act_617 : decode cL_act 617 = .ok (.iload 5, 2) := by decide +kernel
theorem dL_act_619 : decode cL_act 619 = .ok (.if_icmp .ne 7, 3) := by decide +kernel
theorem dL_act_622 : decode cL_act 622 = .ok (.iconst 1, 1) := by decide +kernel
theorem dL_act_623 : decode cL_act 623 = .ok (.goto 4, 3) := by decide +kernel
theorem dL_act_626 : decode cL_act 626 = .ok (.iconst 0, 1) := by decide +kernel
theorem dL_act_627 : decode cL_act 627 = .ok (.ireturn, 1) := by decide +kernel
set_option maxRecDepth 20000 in
theorem ggL_build_X5_init : GoodIn wsL_build wsX5_init := goodIn_r _ [7, 8, 9, 10, 11, 12, 13, 14, 15, 16, 17, 18, 19, 339, 340, 341, 342, 343, 344, 345, 346, 347, 348] (by decide +kernel) (by decide +kernel)
set_option maxRecDepth 20000 in
theorem gL_build_X5_init : GoodIn wsL_build (wsX5_init) := ggL_build_X5_init
set_option maxRecDepth 20000 in
theorem ggL_build_L_cell : GoodIn wsL_build wsL_cell := goodIn_r _ [23, 24] (by decide +kernel) (by decide +kernel)
set_option maxRecDepth 20000 in
theorem gL_build_L_cell : GoodIn wsL_build (va_wsS RL 89 yL_cell wsL_cell) := goodIn_app (goodIn_of _ (by decide +kernel)) ggL_build_L_cell
set_option maxRecDepth 20000 in
theorem ggL_build_L_below : GoodIn wsL_build wsL_below := goodIn_r _ [27, 28] (by decide +kernel) (by decide +kernel)
set_option maxRecDepth 20000 in
theorem gL_build_L_below : GoodIn wsL_build (va_wsS RL 9 yL_below wsL_below) := goodIn_app (goodIn_of _ (by decide +kernel)) ggL_build_L_below
