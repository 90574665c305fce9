set_option maxRecDepth 20000 in
theorem gL_law_L_act : GoodIn wsL_law (va_wsS RL 94 yL_act wsL_act) := goodIn_app (goodIn_of _ (by decide +kernel)) ggL_law_L_act
set_option maxRecDepth 20000 in
theorem ggL_law_X4_digest : GoodIn wsL_law wsX4_digest := goodIn_r _ [397, 398, 399, 21, 29, 33, 378, 379, 380, 2, 381, 35, 36, 37, 38, 39, 382, 383, 384, 28, 385, 207, 208, 209, 210, 57, 143, 144, 386, 387, 388, 389, 390, 391, 392, 32, 393, 70, 358, 359, 360, 361, 362, 363, 364, 365, 366, 367, 368, 369, 66, 306, 140, 141, 20, 142, 44, 129, 130, 370, 371, 372, 373, 68, 400, 401, 402, 403, 404, 405, 406, 407, 408, 409, 410, 411, 412, 413, 414, 64, 415, 416, 417, 24, 418, 51, 52, 419, 504, 505, 506, 507, 508, 509, 510, 511, 512, 513, 520, 521, 522, 523, 524, 525, 526, 514, 515, 516, 517, 518, 519] (by decide +kernel) (by decide +kernel)
set_option maxRecDepth 20000 in
theorem gL_law_X4_digest : GoodIn wsL_law (wsV RL 106 RX4 yX4_digest wsX4_digest) := goodIn_app (goodIn_of _ (by decide +kernel)) ggL_law_X4_digest
set_option maxRecDepth 20000 in
theorem ggL_law_X4_shade : GoodIn wsL_law wsX4_shade := goodIn_ca (goodIn_r _ [423, 21, 123, 124, 2, 125, 126, 127, 128, 129, 130, 139, 140, 141, 20, 142, 44, 143, 144, 504, 505, 506, 507, 508, 509, 510, 511, 512, 513, 514] (by decide +kernel) (by decide +kernel)) (goodIn_sub (fun _ h => List.mem_append_left _ (List.mem_append_left _ (List.mem_append_right _ h))) (by decide +kernel))
set_option maxRecDepth 20000 in
theorem gL_law_X4_shade : GoodIn wsL_law (wsV RL 110 RX4 yX4_shade wsX4_shade) := goodIn_app (goodIn_of _ (by decide +kernel)) ggL_law_X4_shade
set_option maxRecDepth 20000 in
theorem ggL_law_X4_palette : GoodIn wsL_law wsX4_palette := goodIn_ca (goodIn_r _ [427, 25, 21, 35, 196, 197, 2, 198, 158, 159, 160, 126, 127, 428, 264, 265, 24, 266, 52, 50, 51, 267, 268, 269, 270, 48, 58, 59, 271, 140, 141, 20, 142, 44, 129, 130, 143, 144, 149, 150, 272, 273, 274, 275, 49, 276, 277, 278, 279, 280, 281, 282, 283, 284, 285, 286, 287, 288, 289, 290, 291, 292, 293, 294, 295, 296, 297, 298, 299, 429, 317, 318, 319, 504, 505, 506, 507, 508, 509, 510, 511, 512, 513, 515, 516, 517, 518, 519, 514] (by decide +kernel) (by decide +kernel)) (goodIn_sub (fun _ h => List.mem_append_left _ (List.mem_append_left _ (List.mem_append_right _ h))) (by decide +kernel))
set_option maxRecDepth 20000 in
theorem gL_law_X4_palette : GoodIn wsL_law (wsV RL 113 RX4 yX4_palette wsX4_palette) := goodIn_app (goodIn_of _ (by decide +kernel)) ggL_law_X4_palette
set_option maxRecDepth 20000 in
theorem ggL_law_X4_would : GoodIn wsL_law wsX4_would := goodIn_ca (goodIn_ca (goodIn_r _ [433, 34, 21, 36, 37, 38, 177, 178, 2, 179, 134, 135, 136, 137, 138, 158, 159, 160, 126, 127, 259, 260, 261, 32, 262, 64, 67, 69, 70, 263, 264, 265, 24, 266, 52, 50, 51, 267, 268, 269, 270, 48, 58, 59, 271, 140, 141, 20, 142, 44, 129, 130, 143, 144, 149, 150, 272, 273, 274, 275, 49, 276, 277, 278, 279, 280, 281, 282, 283, 284, 285, 286, 287, 288, 289, 290, 291, 292, 293, 294, 295, 296, 297, 298, 299, 300, 72, 73, 74, 301, 302, 303, 304, 66, 305, 231, 6, 232, 306, 307, 308, 309, 310, 311, 312, 313, 314, 315, 316, 317, 318, 319, 320, 321, 146, 147, 148, 322, 323, 324, 325, 326, 327, 328, 329, 330, 331, 332, 333, 334, 335, 68, 434, 435, 436, 437, 438, 439, 440, 441, 390, 391, 392, 393, 358, 359, 360, 361, 362, 363, 364, 365, 366, 367, 368, 369, 370, 371, 372, 373, 504, 505, 506, 507, 508, 509, 510, 511, 512, 513, 521, 522, 523, 524, 525, 526, 515, 516, 517, 518, 519, 514] (by decide +kernel) (by decide +kernel)) (goodIn_sub (fun _ h => List.mem_append_left _ (List.mem_append_right _ h)) (by decide +kernel))) (goodIn_sub (fun _ h => List.mem_append_left _ (List.mem_append_left _ (List.mem_append_right _ h))) (by decide +kernel))
set_option maxRecDepth 20000 in
theorem gL_law_X4_would : GoodIn wsL_law (wsV RL 116 RX4 yX4_would wsX4_would) := goodIn_app (goodIn_of _ (by decide +kernel)) ggL_law_X4_would
set_option maxRecDepth 20000 in
theorem ggL_law_X4_mean : GoodIn wsL_law wsX4_mean := goodIn_r _ [445, 21, 446, 139, 140, 141, 20, 142, 44, 129, 2, 130, 143, 144, 504, 505, 506, 507, 508, 509, 510, 511, 512, 513, 514] (by decide +kernel) (by decide +kernel)
set_option maxRecDepth 20000 in
theorem gL_law_X4_mean : GoodIn wsL_law (wsV RL 119 RX4 yX4_mean wsX4_mean) := goodIn_app (goodIn_of _ (by decide +kernel)) ggL_law_X4_mean
set_option maxRecDepth 20000 in
theorem ggL_law_L_below : GoodIn wsL_law wsL_below := goodIn_r _ [101, 102] (by decide +kernel) (by decide +kernel)
set_option maxRecDepth 20000 in
theorem gL_law_L_below : GoodIn wsL_law (va_wsS RL 9 yL_below wsL_below) := goodIn_app (goodIn_of _ (by decide +kernel)) ggL_law_L_below
set_option maxRecDepth 20000 in
theorem ggL_law_X4_advise : GoodIn wsL_law wsX4_advise := goodIn_ca (goodIn_r _ [450, 34, 21, 36, 37, 38, 451, 452, 2, 453, 134, 135, 136, 137, 138, 259, 260, 261, 32, 262, 64, 67, 69, 70, 263, 264, 265, 24, 266, 52, 50, 51, 267, 268, 269, 270, 48, 58, 59, 271, 140, 141, 20, 142, 44, 129, 130, 143, 144, 149, 150, 272, 273, 274, 275, 49, 276, 277, 278, 279, 280, 281, 282, 283, 284, 285, 286, 287, 288, 289, 290, 291, 292, 293, 294, 295, 296, 297, 298, 299, 300, 72, 73, 74, 301, 302, 303, 304, 66, 305, 231, 6, 232, 306, 307, 308, 309, 310, 311, 312, 313, 314, 315, 316, 317, 318, 319, 320, 321, 146, 147, 148, 322, 323, 324, 325, 326, 327, 328, 329, 330, 331, 332, 333, 334, 335, 68, 358, 359, 360, 361, 362, 363, 364, 365, 366, 367, 368, 369, 370, 371, 372, 373, 390, 391, 392, 393, 504, 505, 506, 507, 508, 509, 510, 511, 512, 513, 521, 522, 523, 524, 525, 526, 515, 516, 517, 518, 519, 514] (by decide +kernel) (by decide +kernel)) (goodIn_sub (fun _ h => List.mem_append_left _ (List.mem_append_right _ h)) (by decide +kernel))
set_option maxRecDepth 20000 in
theorem gL_law_X4_advise : GoodIn wsL_law (wsV RL 125 RX4 yX4_advise wsX4_advise) := goodIn_app (goodIn_of _ (by decide +kernel)) ggL_law_X4_advise
set_option maxRecDepth 20000 in
theorem ggL_law_X4_thread : GoodIn wsL_law wsX4_thread := goodIn_ca (goodIn_r _ [457, 29, 33, 196, 197, 2, 198, 158, 159, 160, 126, 127, 211, 208, 209, 28, 210, 57, 143, 144, 386, 387, 388, 389, 39, 458, 347, 348, 32, 349, 69, 459, 460, 461, 462, 64, 320, 317, 318, 24, 319, 52, 51, 504, 505, 506, 507, 508, 509, 510, 511, 512, 513, 520, 521, 522, 523, 524, 525, 526, 515, 516, 517, 518, 519] (by decide +kernel) (by decide +kernel)) (goodIn_sub (fun _ h => List.mem_append_left _ (List.mem_append_left _ (List.mem_append_right _ h))) (by decide +kernel))
set_option maxRecDepth 20000 in
theorem gL_law_X4_thread : GoodIn wsL_law (wsV RL 128 RX4 yX4_thread wsX4_thread) := goodIn_app (goodIn_of _ (by decide +kernel)) ggL_law_X4_thread
set_option maxRecDepth 20000 in
theorem ggL_law_X4_knots : GoodIn wsL_law wsX4_knots := goodIn_ca (goodIn_ca (goodIn_r _ [466, 33, 38, 155, 156, 2, 157, 158, 159, 160, 126, 127, 467, 468, 469, 470, 340, 341, 386, 387, 388, 389, 39, 471, 363, 364, 32, 365, 366, 367, 368, 369, 66, 306, 140, 141, 20, 142, 44, 129, 130, 143, 144, 370, 371, 372, 373, 68, 504, 505, 506, 507, 508, 509, 510, 511, 512, 513, 521, 522, 523, 524, 525, 526, 514] (by decide +kernel) (by decide +kernel)) (goodIn_sub (fun _ h => List.mem_append_left _ (List.mem_append_left _ (List.mem_append_right _ h))) (by decide +kernel))) (goodIn_sub (fun _ h => List.mem_append_right _ h) (by decide +kernel))
set_option maxRecDepth 20000 in
theorem gL_law_X4_knots : GoodIn wsL_law (wsV RL 131 RX4 yX4_knots wsX4_knots) := goodIn_app (goodIn_of _ (by decide +kernel)) ggL_law_X4_knots
