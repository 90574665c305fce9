set_option maxRecDepth 20000 in
theorem ggL_law_X5_isSame__l0 : ∀ w ∈ (wsX5_isSame__r1 : List Cond), w ∈ wsL_law := wsL_sub [91, 94, 92, 43, 89, 90, 229, 248, 216, 217, 88, 476, 477, 455, 456, 2, 457, 29, 33, 196, 197, 198, 158, 159] rfl
set_option maxRecDepth 20000 in
theorem ggL_law_X5_isSame__l1 : ∀ w ∈ (wsX5_isSame__r2 : List Cond), w ∈ wsL_law := wsL_sub [160, 126, 127, 211, 208, 209, 28, 210, 57, 143, 144, 386, 387, 388, 389, 39, 458, 347, 348, 32, 349, 69, 459, 460] rfl
set_option maxRecDepth 20000 in
theorem ggL_law_X5_isSame__l2 : ∀ w ∈ (wsX5_isSame__r3 : List Cond), w ∈ wsL_law := wsL_sub [461, 462, 64, 320, 317, 318, 24, 319, 52, 51, 233, 234, 81, 235, 240, 241, 242, 243, 244, 245, 246, 247, 249, 250] rfl
set_option maxRecDepth 20000 in
theorem ggL_law_X5_isSame__l3 : ∀ w ∈ (wsX5_isSame__r4 : List Cond), w ∈ wsL_law := wsL_sub [251, 252, 253, 254, 222, 223, 224, 478, 375, 376, 377, 378, 379, 380, 381, 35, 36, 37, 38, 382, 383, 384, 385, 207] rfl
set_option maxRecDepth 20000 in
theorem ggL_law_X5_isSame__l4 : ∀ w ∈ (wsX5_isSame__r5 : List Cond), w ∈ wsL_law := wsL_sub [390, 391, 392, 393, 70, 358, 359, 360, 361, 362, 363, 364, 365, 366, 367, 368, 369, 66, 306, 140, 141, 20, 142, 44] rfl
set_option maxRecDepth 20000 in
theorem ggL_law_X5_isSame__l5 : ∀ w ∈ (wsX5_isSame__r6 : List Cond), w ∈ wsL_law := wsL_sub [129, 130, 370, 371, 372, 373, 68, 479, 421, 422, 423, 21, 123, 124, 125, 128, 139, 480, 481, 482, 483, 467, 468, 469] rfl
set_option maxRecDepth 20000 in
theorem ggL_law_X5_isSame__l6 : ∀ w ∈ (wsX5_isSame__r7 : List Cond), w ∈ wsL_law := wsL_sub [470, 340, 341, 484, 485, 486, 487, 488, 489, 490, 491, 155, 156, 157, 492, 493, 494, 495, 496, 497, 498, 499, 500, 501] rfl
set_option maxRecDepth 20000 in
theorem ggL_law_X5_isSame__l7 : ∀ w ∈ (wsX5_isSame__r8 : List Cond), w ∈ wsL_law := wsL_sub [464, 465, 466, 471, 218, 219, 220, 221, 93, 502, 425, 426, 427, 25, 428, 264, 265, 266, 50, 267, 268, 269, 270, 48] rfl
set_option maxRecDepth 20000 in
theorem ggL_law_X5_isSame__l8 : ∀ w ∈ (wsX5_isSame__r9 : List Cond), w ∈ wsL_law := wsL_sub [58, 59, 271, 149, 150, 272, 273, 274, 275, 49, 276, 277, 278, 279, 280, 281, 282, 283, 284, 285, 286, 287, 288, 289] rfl
set_option maxRecDepth 20000 in
theorem ggL_law_X5_isSame__l9 : ∀ w ∈ (wsX5_isSame__r10 : List Cond), w ∈ wsL_law := wsL_sub [290, 291, 292, 293, 294, 295, 296, 297, 298, 299, 429, 503, 443, 444, 445, 446] rfl
set_option maxRecDepth 20000 in
theorem ggL_law_X5_isSame__l10 : ∀ w ∈ (wsX50 : List Cond), w ∈ wsL_law := wsL_sub [527, 528, 529, 530, 531, 532, 533, 534, 535, 536] rfl
set_option maxRecDepth 20000 in
theorem ggL_law_X5_isSame__l11 : ∀ w ∈ (wsX40 : List Cond), w ∈ wsL_law := wsL_sub [504, 505, 506, 507, 508, 509, 510, 511, 512, 513] rfl
set_option maxRecDepth 20000 in
theorem ggL_law_X5_isSame__l12 : ∀ w ∈ (wsX30 : List Cond), w ∈ wsL_law := wsL_sub [520] rfl
set_option maxRecDepth 20000 in
theorem ggL_law_X5_isSame__l13 : ∀ w ∈ (wsX00 : List Cond), w ∈ wsL_law := wsL_sub [521, 522, 523, 524, 525, 526] rfl
set_option maxRecDepth 20000 in
theorem ggL_law_X5_isSame__l14 : ∀ w ∈ (wsX20 : List Cond), w ∈ wsL_law := wsL_sub [515, 516, 517, 518, 519] rfl
set_option maxRecDepth 20000 in
theorem ggL_law_X5_isSame__l15 : ∀ w ∈ (wsX10 : List Cond), w ∈ wsL_law := wsL_sub [514] rfl
set_option maxRecDepth 20000 in
theorem ggL_law_X5_isSame__h : wsL_law[475]? = some (.code yX5_isSame_ cX5_isSame_ 8 (some .boolean)) := rfl
set_option maxRecDepth 20000 in
theorem ggL_law_X5_isSame_ : GoodIn wsL_law wsX5_isSame_ := goodIn_ca (goodIn_ca (goodIn_sub (List.forall_mem_cons.mpr ⟨List.mem_of_getElem? ggL_law_X5_isSame__h, List.forall_mem_append.mpr ⟨List.forall_mem_append.mpr ⟨List.forall_mem_append.mpr ⟨List.forall_mem_append.mpr ⟨List.forall_mem_append.mpr ⟨List.forall_mem_append.mpr ⟨List.forall_mem_append.mpr ⟨ggL_law_X5_isSame__l0, List.forall_mem_append.mpr ⟨ggL_law_X5_isSame__l1, List.forall_mem_append.mpr ⟨ggL_law_X5_isSame__l2, List.forall_mem_append.mpr ⟨ggL_law_X5_isSame__l3, List.forall_mem_append.mpr ⟨ggL_law_X5_isSame__l4, List.forall_mem_append.mpr ⟨ggL_law_X5_isSame__l5, List.forall_mem_append.mpr ⟨ggL_law_X5_isSame__l6, List.forall_mem_append.mpr ⟨ggL_law_X5_isSame__l7, List.forall_mem_append.mpr ⟨ggL_law_X5_isSame__l8, ggL_law_X5_isSame__l9⟩⟩⟩⟩⟩⟩⟩⟩⟩, ggL_law_X5_isSame__l10⟩, ggL_law_X5_isSame__l11⟩, ggL_law_X5_isSame__l12⟩, ggL_law_X5_isSame__l13⟩, ggL_law_X5_isSame__l14⟩, ggL_law_X5_isSame__l15⟩⟩) (by decide +kernel)) (goodIn_sub (fun _ h => List.mem_append_left _ (List.mem_append_left _ (List.mem_append_right _ h))) (by decide +kernel))) (goodIn_sub (fun _ h => List.mem_append_right _ h) (by decide +kernel))
