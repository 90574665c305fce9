set_option maxRecDepth 20000 in
theorem ggL_law_L_build_l0 : ∀ w ∈ (wsL_build_r1 : List Cond), w ∈ wsL_law := wsL_sub [79, 80, 81, 82, 83, 84, 85, 86, 16, 17, 87, 43, 88, 89, 90, 91, 92, 93, 94, 95, 96, 77, 97, 98] rfl
set_option maxRecDepth 20000 in
theorem ggL_law_L_build_l1 : ∀ w ∈ (wsL_build_r2 : List Cond), w ∈ wsL_law := wsL_sub [99, 100, 101, 102, 103, 104, 105, 106, 107, 4, 5, 6, 7, 8, 9, 10, 108, 109, 110, 111, 112, 113, 114, 115] rfl
set_option maxRecDepth 20000 in
theorem ggL_law_L_build_l2 : ∀ w ∈ (wsL_build_r3 : List Cond), w ∈ wsL_law := wsL_sub [116, 117, 118, 119, 120, 121, 2, 122, 21, 123, 124, 125, 126, 127, 128, 129, 130, 131, 132, 133, 134, 135, 136, 137] rfl
set_option maxRecDepth 20000 in
theorem ggL_law_L_build_l3 : ∀ w ∈ (wsL_build_r4 : List Cond), w ∈ wsL_law := wsL_sub [138, 139, 140, 141, 20, 142, 44, 143, 144, 145, 146, 147, 148, 149, 150, 151, 152, 153, 154, 155, 156, 157, 158, 159] rfl
set_option maxRecDepth 20000 in
theorem ggL_law_L_build_l4 : ∀ w ∈ (wsL_build_r5 : List Cond), w ∈ wsL_law := wsL_sub [160, 161, 162, 163, 164, 165, 166, 167, 168, 169, 170, 171, 172, 173, 174, 175, 176, 35, 177, 178, 179, 180, 181, 182] rfl
set_option maxRecDepth 20000 in
theorem ggL_law_L_build_l5 : ∀ w ∈ (wsL_build_r6 : List Cond), w ∈ wsL_law := wsL_sub [183, 36, 184, 185, 186, 187, 37, 188, 189, 190, 191, 38, 192, 193, 194, 195, 29, 196, 197, 198, 199, 200, 201, 202] rfl
set_option maxRecDepth 20000 in
theorem ggL_law_L_build_l6 : ∀ w ∈ (wsL_build_r7 : List Cond), w ∈ wsL_law := wsL_sub [203, 204, 28, 205, 57, 206, 207, 208, 209, 210, 211, 212, 213, 214, 215, 216, 217, 218, 219, 220, 221, 222, 223, 224] rfl
set_option maxRecDepth 20000 in
theorem ggL_law_L_build_l7 : ∀ w ∈ (wsL_build_r8 : List Cond), w ∈ wsL_law := wsL_sub [225, 226, 227, 228, 229, 230, 231, 232, 233, 234, 235, 236, 237, 238, 239, 240, 241, 242, 243, 244, 245, 246, 247, 248] rfl
set_option maxRecDepth 20000 in
theorem ggL_law_L_build_l8 : ∀ w ∈ (wsL_build_r9 : List Cond), w ∈ wsL_law := wsL_sub [249, 250, 251, 252, 253, 254, 255, 256, 257, 258, 34, 33, 259, 260, 261, 32, 262, 64, 67, 69, 70, 263, 264, 265] rfl
set_option maxRecDepth 20000 in
theorem ggL_law_L_build_l9 : ∀ w ∈ (wsL_build_r10 : List Cond), w ∈ wsL_law := wsL_sub [24, 266, 52, 50, 51, 267, 268, 269, 270, 48, 58, 59, 271, 272, 273, 274, 275, 49, 276, 277, 278, 279, 280, 281] rfl
set_option maxRecDepth 20000 in
theorem ggL_law_L_build_l10 : ∀ w ∈ (wsL_build_r11 : List Cond), w ∈ wsL_law := wsL_sub [282, 283, 284, 285, 286, 287, 288, 289, 290, 291, 292, 293, 294, 295, 296, 297, 298, 299, 300, 72, 73, 74, 301, 302] rfl
set_option maxRecDepth 20000 in
theorem ggL_law_L_build_l11 : ∀ w ∈ (wsL_build_r12 : List Cond), w ∈ wsL_law := wsL_sub [303, 304, 66, 305, 306, 307, 308, 309, 310, 311, 312, 313, 314, 315, 316, 317, 318, 319, 320, 321, 322, 323, 324, 325] rfl
set_option maxRecDepth 20000 in
theorem ggL_law_L_build_l12 : ∀ w ∈ (wsL_build_r13 : List Cond), w ∈ wsL_law := wsL_sub [326, 327, 328, 329, 330, 331, 332, 333, 334, 335, 68, 336, 337, 338, 339, 340, 341, 342, 343, 344, 345, 346, 347, 348] rfl
set_option maxRecDepth 20000 in
theorem ggL_law_L_build_l13 : ∀ w ∈ (wsL_build_r14 : List Cond), w ∈ wsL_law := wsL_sub [349, 350, 351, 352, 353, 354, 355, 356, 357, 39, 358, 359, 360, 361, 362, 363, 364, 365, 366, 367, 368, 369, 370, 371] rfl
set_option maxRecDepth 20000 in
theorem ggL_law_L_build_l14 : ∀ w ∈ (wsL_build_r15 : List Cond), w ∈ wsL_law := wsL_sub [372, 373] rfl
set_option maxRecDepth 20000 in
theorem ggL_law_L_build_l15 : ∀ w ∈ (wsX50 : List Cond), w ∈ wsL_law := wsL_sub [527, 528, 529, 530, 531, 532, 533, 534, 535, 536] rfl
set_option maxRecDepth 20000 in
theorem ggL_law_L_build_l16 : ∀ w ∈ (wsX40 : List Cond), w ∈ wsL_law := wsL_sub [504, 505, 506, 507, 508, 509, 510, 511, 512, 513] rfl
set_option maxRecDepth 20000 in
theorem ggL_law_L_build_l17 : ∀ w ∈ (wsX10 : List Cond), w ∈ wsL_law := wsL_sub [514] rfl
set_option maxRecDepth 20000 in
theorem ggL_law_L_build_l18 : ∀ w ∈ (wsX30 : List Cond), w ∈ wsL_law := wsL_sub [520] rfl
set_option maxRecDepth 20000 in
theorem ggL_law_L_build_l19 : ∀ w ∈ (wsX00 : List Cond), w ∈ wsL_law := wsL_sub [521, 522, 523, 524, 525, 526] rfl
set_option maxRecDepth 20000 in
theorem ggL_law_L_build_l20 : ∀ w ∈ (wsX20 : List Cond), w ∈ wsL_law := wsL_sub [515, 516, 517, 518, 519] rfl
theorem ggL_law_L_build_h : wsL_law[78]? = some (.code yL_build cL_build 5 (some (.object "TapestryRunsLaw$Sim"))) := rfl
set_option maxRecDepth 20000 in
theorem ggL_law_L_build : GoodIn wsL_law wsL_build := goodIn_ca (goodIn_ca (goodIn_ca (goodIn_sub (List.forall_mem_cons.mpr ⟨List.mem_of_getElem? ggL_law_L_build_h, List.forall_mem_append.mpr ⟨List.forall_mem_append.mpr ⟨List.forall_mem_append.mpr ⟨List.forall_mem_append.mpr ⟨List.forall_mem_append.mpr ⟨List.forall_mem_append.mpr ⟨List.forall_mem_append.mpr ⟨ggL_law_L_build_l0, List.forall_mem_append.mpr ⟨ggL_law_L_build_l1, List.forall_mem_append.mpr ⟨ggL_law_L_build_l2, List.forall_mem_append.mpr ⟨ggL_law_L_build_l3, List.forall_mem_append.mpr ⟨ggL_law_L_build_l4, List.forall_mem_append.mpr ⟨ggL_law_L_build_l5, List.forall_mem_append.mpr ⟨ggL_law_L_build_l6, List.forall_mem_append.mpr ⟨ggL_law_L_build_l7, List.forall_mem_append.mpr ⟨ggL_law_L_build_l8, List.forall_mem_append.mpr ⟨ggL_law_L_build_l9, List.forall_mem_append.mpr ⟨ggL_law_L_build_l10, List.forall_mem_append.mpr ⟨ggL_law_L_build_l11, List.forall_mem_append.mpr ⟨ggL_law_L_build_l12, List.forall_mem_append.mpr ⟨ggL_law_L_build_l13, ggL_law_L_build_l14⟩⟩⟩⟩⟩⟩⟩⟩⟩⟩⟩⟩⟩⟩, ggL_law_L_build_l15⟩, ggL_law_L_build_l16⟩, ggL_law_L_build_l17⟩, ggL_law_L_build_l18⟩, ggL_law_L_build_l19⟩, ggL_law_L_build_l20⟩⟩) (by decide +kernel)) (goodIn_sub (fun _ h => List.mem_append_left _ (List.mem_append_left _ (List.mem_append_right _ h))) (by decide +kernel))) (goodIn_sub (fun _ h => List.mem_append_left _ (List.mem_append_right _ h)) (by decide +kernel))) (goodIn_sub (fun _ h => List.mem_append_right _ h) (by decide +kernel))
