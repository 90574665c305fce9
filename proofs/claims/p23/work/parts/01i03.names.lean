set_option maxRecDepth 20000 in
theorem ggL_build_L_act_l0 : ∀ w ∈ (wsL_act_r1 : List Cond), w ∈ wsL_build := wsL_sub [32, 33, 34, 35, 36, 37, 38, 39, 40, 41, 42, 43, 44, 45, 46, 47, 48, 49, 50, 51, 25, 26, 22, 27] rfl
set_option maxRecDepth 20000 in
theorem ggL_build_L_act_l1 : ∀ w ∈ (wsL_act_r2 : List Cond), w ∈ wsL_build := wsL_sub [28, 52, 53, 54, 55, 56, 57, 58, 59, 60, 61, 62, 63, 64, 65, 66, 67, 68, 69, 70, 71, 72, 73, 74] rfl
set_option maxRecDepth 20000 in
theorem ggL_build_L_act_l2 : ∀ w ∈ (wsL_act_r3 : List Cond), w ∈ wsL_build := wsL_sub [75, 76, 77, 78, 79, 80, 81, 82, 83, 84, 85, 86, 87, 88, 89, 90, 91, 92, 93, 94, 95, 96, 97, 98] rfl
set_option maxRecDepth 20000 in
theorem ggL_build_L_act_l3 : ∀ w ∈ (wsL_act_r4 : List Cond), w ∈ wsL_build := wsL_sub [99, 100, 101, 102, 103, 104, 105, 106, 107, 108, 109, 110, 111, 112, 113, 114, 115, 116, 117, 118, 119, 120, 121, 122] rfl
set_option maxRecDepth 20000 in
theorem ggL_build_L_act_l4 : ∀ w ∈ (wsL_act_r5 : List Cond), w ∈ wsL_build := wsL_sub [123, 124, 125, 126, 127, 128, 129, 130, 131, 132, 133, 134, 135, 136, 137, 138, 139, 140, 141, 142, 143, 144, 145, 146] rfl
set_option maxRecDepth 20000 in
theorem ggL_build_L_act_l5 : ∀ w ∈ (wsL_act_r6 : List Cond), w ∈ wsL_build := wsL_sub [147, 148, 149, 150, 151, 152, 153, 154, 155, 156, 157, 158, 3, 159, 14, 16, 160, 17, 19, 161, 162, 163, 164, 165] rfl
set_option maxRecDepth 20000 in
theorem ggL_build_L_act_l6 : ∀ w ∈ (wsL_act_r7 : List Cond), w ∈ wsL_build := wsL_sub [12, 13, 18, 166, 167, 168, 169, 170, 171, 172, 11, 173, 174, 175, 176, 15, 177, 178, 179, 180, 181, 182, 183, 184] rfl
set_option maxRecDepth 20000 in
theorem ggL_build_L_act_l7 : ∀ w ∈ (wsL_act_r8 : List Cond), w ∈ wsL_build := wsL_sub [185, 186, 187, 188, 189, 190, 191, 192, 193, 194, 195, 196, 197, 198, 199, 200, 201, 202, 203, 204, 205, 206, 207, 208] rfl
set_option maxRecDepth 20000 in
theorem ggL_build_L_act_l8 : ∀ w ∈ (wsL_act_r9 : List Cond), w ∈ wsL_build := wsL_sub [209, 210, 211, 212, 213, 214, 215, 216, 217, 218, 219, 220, 221, 222, 223, 224, 225, 226, 227, 228, 229, 230, 231, 232] rfl
set_option maxRecDepth 20000 in
theorem ggL_build_L_act_l9 : ∀ w ∈ (wsL_act_r10 : List Cond), w ∈ wsL_build := wsL_sub [233, 234, 235, 236, 237, 238, 239, 240, 241, 242, 243, 244, 245, 246, 247, 248, 249, 250, 251, 252, 253, 254, 255, 256] rfl
set_option maxRecDepth 20000 in
theorem ggL_build_L_act_l10 : ∀ w ∈ (wsL_act_r11 : List Cond), w ∈ wsL_build := wsL_sub [257, 258, 259, 260, 261, 262, 263, 264, 265, 266, 267, 268, 269, 270, 271, 272, 273, 274, 275, 276, 277, 278, 279, 280] rfl
set_option maxRecDepth 20000 in
theorem ggL_build_L_act_l11 : ∀ w ∈ (wsL_act_r12 : List Cond), w ∈ wsL_build := wsL_sub [281, 282, 283, 284, 285, 286, 287, 288, 289, 290, 291, 292, 293, 294, 295, 296, 297, 298, 299, 300, 301, 302, 303, 304] rfl
set_option maxRecDepth 20000 in
theorem ggL_build_L_act_l12 : ∀ w ∈ (wsL_act_r13 : List Cond), w ∈ wsL_build := wsL_sub [305, 306, 307, 308, 309, 310, 311, 312, 313, 314, 315, 316, 317, 318, 319, 320, 321, 322, 323, 324, 325, 326, 327, 328] rfl
set_option maxRecDepth 20000 in
theorem ggL_build_L_act_l13 : ∀ w ∈ (wsL_act_r14 : List Cond), w ∈ wsL_build := wsL_sub [329, 330, 331, 332, 333, 334, 335, 336, 337, 338] rfl
set_option maxRecDepth 20000 in
theorem ggL_build_L_act_l14 : ∀ w ∈ (wsX50 : List Cond), w ∈ wsL_build := wsL_sub [339, 340, 341, 342, 343, 344, 345, 346, 347, 348] rfl
set_option maxRecDepth 20000 in
theorem ggL_build_L_act_l15 : ∀ w ∈ (wsX40 : List Cond), w ∈ wsL_build := wsL_sub [349, 350, 351, 352, 353, 354, 355, 356, 357, 358] rfl
set_option maxRecDepth 20000 in
theorem ggL_build_L_act_l16 : ∀ w ∈ (wsX10 : List Cond), w ∈ wsL_build := wsL_sub [359] rfl
set_option maxRecDepth 20000 in
theorem ggL_build_L_act_l17 : ∀ w ∈ (wsX30 : List Cond), w ∈ wsL_build := wsL_sub [360] rfl
set_option maxRecDepth 20000 in
theorem ggL_build_L_act_l18 : ∀ w ∈ (wsX00 : List Cond), w ∈ wsL_build := wsL_sub [361, 362, 363, 364, 365, 366] rfl
set_option maxRecDepth 20000 in
theorem ggL_build_L_act_l19 : ∀ w ∈ (wsX20 : List Cond), w ∈ wsL_build := wsL_sub [367, 368, 369, 370, 371] rfl
theorem ggL_build_L_act_h : wsL_build[31]? = some (.codeWith yL_act cL_act 8 (some .boolean) [(601, 607, 610, 86)]) := rfl
set_option maxRecDepth 20000 in
theorem ggL_build_L_act : GoodIn wsL_build wsL_act := goodIn_ca (goodIn_ca (goodIn_ca (goodIn_sub (List.forall_mem_cons.mpr ⟨List.mem_of_getElem? ggL_build_L_act_h, List.forall_mem_append.mpr ⟨List.forall_mem_append.mpr ⟨List.forall_mem_append.mpr ⟨List.forall_mem_append.mpr ⟨List.forall_mem_append.mpr ⟨List.forall_mem_append.mpr ⟨List.forall_mem_append.mpr ⟨ggL_build_L_act_l0, List.forall_mem_append.mpr ⟨ggL_build_L_act_l1, List.forall_mem_append.mpr ⟨ggL_build_L_act_l2, List.forall_mem_append.mpr ⟨ggL_build_L_act_l3, List.forall_mem_append.mpr ⟨ggL_build_L_act_l4, List.forall_mem_append.mpr ⟨ggL_build_L_act_l5, List.forall_mem_append.mpr ⟨ggL_build_L_act_l6, List.forall_mem_append.mpr ⟨ggL_build_L_act_l7, List.forall_mem_append.mpr ⟨ggL_build_L_act_l8, List.forall_mem_append.mpr ⟨ggL_build_L_act_l9, List.forall_mem_append.mpr ⟨ggL_build_L_act_l10, List.forall_mem_append.mpr ⟨ggL_build_L_act_l11, List.forall_mem_append.mpr ⟨ggL_build_L_act_l12, ggL_build_L_act_l13⟩⟩⟩⟩⟩⟩⟩⟩⟩⟩⟩⟩⟩, ggL_build_L_act_l14⟩, ggL_build_L_act_l15⟩, ggL_build_L_act_l16⟩, ggL_build_L_act_l17⟩, ggL_build_L_act_l18⟩, ggL_build_L_act_l19⟩⟩) (by decide +kernel)) (goodIn_sub (fun _ h => List.mem_cons_of_mem _ (List.mem_append_left _ (List.mem_append_left _ (List.mem_append_right _ h)))) (by decide +kernel))) (goodIn_sub (fun _ h => List.mem_cons_of_mem _ (List.mem_append_left _ (List.mem_append_right _ h))) (by decide +kernel))) (goodIn_sub (fun _ h => List.mem_cons_of_mem _ (List.mem_append_right _ h)) (by decide +kernel))
