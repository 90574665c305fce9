set_option maxRecDepth 20000 in
theorem gL_law_L_build : GoodIn wsL_law (va_wsS RL 99 yL_build wsL_build) := goodIn_app (goodIn_of _ (by decide +kernel)) ggL_law_L_build
set_option maxRecDepth 20000 in
theorem ggL_law_L_cell : GoodIn wsL_law wsL_cell := goodIn_r _ [97, 98] (by decide +kernel) (by decide +kernel)
set_option maxRecDepth 20000 in
theorem gL_law_L_cell : GoodIn wsL_law (va_wsS RL 89 yL_cell wsL_cell) := goodIn_app (goodIn_of _ (by decide +kernel)) ggL_law_L_cell
set_option maxRecDepth 20000 in
theorem ggL_law_X4_count : GoodIn wsL_law wsX4_count := goodIn_ca (goodIn_r _ [377, 158, 159, 2, 160, 126, 127, 378, 379, 380, 381, 35, 36, 37, 38, 39, 29, 33, 382, 383, 384, 28, 385, 207, 208, 209, 210, 57, 143, 144, 386, 387, 388, 389, 390, 391, 392, 32, 393, 70, 358, 359, 360, 361, 362, 363, 364, 365, 366, 367, 368, 369, 66, 306, 140, 141, 20, 142, 44, 129, 130, 370, 371, 372, 373, 68, 504, 505, 506, 507, 508, 509, 510, 511, 512, 513, 520, 521, 522, 523, 524, 525, 526, 514] (by decide +kernel) (by decide +kernel)) (goodIn_sub (fun _ h => List.mem_append_left _ (List.mem_append_left _ (List.mem_append_right _ h))) (by decide +kernel))
set_option maxRecDepth 20000 in
theorem gL_law_X4_count : GoodIn wsL_law (wsV RL 103 RX4 yX4_count wsX4_count) := goodIn_app (goodIn_of _ (by decide +kernel)) ggL_law_X4_count
