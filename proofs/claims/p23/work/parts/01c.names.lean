theorem wsL_sub {big l : List Cond} (is : List Nat) (h : is.map (fun i => big[i]?) = l.map some) : ∀ w ∈ l, w ∈ big := by
  intro w hw
  have h1 : some w ∈ is.map (fun i => big[i]?) := by rw [h]; exact List.mem_map_of_mem hw
  obtain ⟨i, -, hi⟩ := List.mem_map.mp h1
  exact List.mem_of_getElem? hi
set_option maxRecDepth 20000 in
theorem wsL_in_r1 : ∀ w ∈ wsL_law0_r1, w ∈ lw_tbl := wsL_sub [33, 34, 20, 719, 577, 578, 31, 579, 580, 581, 582, 718, 35, 36, 37, 38, 39, 40, 41, 42, 21, 121, 52, 53] rfl
set_option maxRecDepth 20000 in
theorem wsL_in_r2 : ∀ w ∈ wsL_law0_r2, w ∈ lw_tbl := wsL_sub [22, 122, 74, 75, 23, 123, 87, 88, 24, 124, 125, 126, 127, 128, 129, 130, 44, 45, 46, 51, 47, 55, 56, 57] rfl
set_option maxRecDepth 20000 in
theorem wsL_in_r3 : ∀ w ∈ wsL_law0_r3, w ∈ lw_tbl := wsL_sub [58, 59, 60, 61, 62, 76, 77, 78, 79, 83, 81, 82, 90, 91, 92, 93, 97, 95, 98, 99, 100, 101, 102, 116] rfl
set_option maxRecDepth 20000 in
theorem wsL_in_r4 : ∀ w ∈ wsL_law0_r4, w ∈ lw_tbl := wsL_sub [117, 118, 119, 671, 672, 19, 673, 674, 675, 25, 717, 676, 677, 678, 679, 643, 680, 682, 684, 690, 693, 552, 694, 561] rfl
set_option maxRecDepth 20000 in
theorem wsL_in_r5 : ∀ w ∈ wsL_law0_r5, w ∈ lw_tbl := wsL_sub [562, 563, 564, 557, 558, 559, 560, 565, 566, 567, 568, 681, 595, 596, 597, 598, 599, 601, 683, 685, 686, 688, 691, 569] rfl
set_option maxRecDepth 20000 in
theorem wsL_in_r6 : ∀ w ∈ wsL_law0_r6, w ∈ lw_tbl := wsL_sub [570, 571, 572, 156, 157, 158, 162, 29, 159, 160, 161, 573, 574, 575, 387, 388, 389, 390, 30, 230, 231, 232, 233, 236] rfl
set_option maxRecDepth 20000 in
theorem wsL_in_r7 : ∀ w ∈ wsL_law0_r7, w ∈ lw_tbl := wsL_sub [237, 576, 430, 431, 432, 261, 262, 583, 584, 585, 586, 299, 300, 301, 245, 246, 247, 587, 588, 589, 590, 591, 592, 593] rfl
set_option maxRecDepth 20000 in
theorem wsL_in_r8 : ∀ w ∈ wsL_law0_r8, w ∈ lw_tbl := wsL_sub [594, 602, 603, 604, 605, 606, 607, 608, 609, 384, 385, 386, 610, 611, 612, 613, 614, 615, 616, 617, 618, 619, 620, 621] rfl
set_option maxRecDepth 20000 in
theorem wsL_in_r9 : ∀ w ∈ wsL_law0_r9, w ∈ lw_tbl := wsL_sub [622, 623, 624, 625, 242, 243, 244, 626, 627, 628, 629, 630, 631, 632, 633, 370, 344, 345, 346, 343, 635, 636, 637, 638] rfl
set_option maxRecDepth 20000 in
theorem wsL_in_r10 : ∀ w ∈ wsL_law0_r10, w ∈ lw_tbl := wsL_sub [692, 695, 548, 549, 550, 551, 521, 522, 523, 639, 640, 641, 642, 687, 644, 427, 428, 504, 505, 506, 645, 646, 647, 648] rfl
set_option maxRecDepth 20000 in
theorem wsL_in_r11 : ∀ w ∈ wsL_law0_r11, w ∈ lw_tbl := wsL_sub [507, 508, 509, 510, 511, 512, 513, 514, 689, 515, 516, 517, 518, 519, 520, 649, 650, 651, 652, 406, 407, 408, 409, 410] rfl
set_option maxRecDepth 20000 in
theorem wsL_in_r12 : ∀ w ∈ wsL_law0_r12, w ∈ lw_tbl := wsL_sub [250, 251, 252, 253, 255, 1, 256, 258, 263, 265, 2, 266, 267, 269, 3, 270, 271, 273, 4, 274, 275, 277, 5, 278] rfl
set_option maxRecDepth 20000 in
theorem wsL_in_r13 : ∀ w ∈ wsL_law0_r13, w ∈ lw_tbl := wsL_sub [279, 281, 6, 282, 283, 285, 7, 286, 287, 289, 8, 290, 411, 413, 415, 13, 416, 435, 334, 417, 418, 419, 420, 421] rfl
set_option maxRecDepth 20000 in
theorem wsL_in_r14 : ∀ w ∈ wsL_law0_r14, w ∈ lw_tbl := wsL_sub [423, 14, 424, 426, 425, 292, 293, 294, 357, 429, 436, 438, 15, 439, 440, 441, 442, 443, 444, 445, 446, 448, 16, 449] rfl
set_option maxRecDepth 20000 in
theorem wsL_in_r15 : ∀ w ∈ wsL_law0_r15, w ∈ lw_tbl := wsL_sub [653, 655, 17, 656, 310, 32, 657, 658, 659, 660, 661, 349, 350, 351, 663, 664, 665, 666, 667, 669, 18, 670, 375, 376] rfl
set_option maxRecDepth 20000 in
theorem wsL_in_r16 : ∀ w ∈ wsL_law0_r16, w ∈ lw_tbl := wsL_sub [377, 378, 379, 327, 328, 329, 330, 332, 11, 333, 335, 336, 337, 338, 358, 359, 360, 361, 362, 364, 12, 365, 366, 367] rfl
set_option maxRecDepth 20000 in
theorem wsL_in_r17 : ∀ w ∈ wsL_law0_r17, w ∈ lw_tbl := wsL_sub [368, 369, 306, 308, 10, 309, 371, 372, 373, 374, 470, 471, 472, 473, 474, 475, 476, 477, 478, 479, 481, 482, 483, 484] rfl
set_option maxRecDepth 20000 in
theorem wsL_in_r18 : ∀ w ∈ wsL_law0_r18, w ∈ lw_tbl := wsL_sub [485, 486, 487, 489, 490, 491, 492, 493, 494, 495, 496, 498, 152, 153, 154, 155, 238, 239, 240, 241, 249, 291, 380, 381] rfl
set_option maxRecDepth 20000 in
theorem wsL_in_r19 : ∀ w ∈ wsL_law0_r19, w ∈ lw_tbl := wsL_sub [382, 383, 450, 451, 452, 453, 454, 455, 456, 457, 465, 466, 467, 468, 469, 458, 459, 460, 461, 462, 463, 464, 339, 340] rfl
set_option maxRecDepth 20000 in
theorem wsL_in_r20 : ∀ w ∈ wsL_law0_r20, w ∈ lw_tbl := wsL_sub [341, 342, 348, 353, 354, 355, 356, 295, 296, 297, 298, 302, 304, 9, 305, 326, 499, 500, 501, 502, 556, 503, 524, 525] rfl
set_option maxRecDepth 20000 in
theorem wsL_in_r21 : ∀ w ∈ wsL_law0_r21, w ∈ lw_tbl := wsL_sub [526, 527, 528, 529, 530, 531, 532, 533, 534, 535, 536, 537, 538, 539, 540, 541, 542, 543, 544, 545, 546, 547, 554, 555] rfl
set_option maxRecDepth 20000 in
theorem wsL_in_wsX40 : ∀ w ∈ wsX40, w ∈ lw_tbl := wsL_sub [131, 133, 135, 137, 139, 141, 143, 145, 147, 149] rfl
set_option maxRecDepth 20000 in
theorem wsL_in_wsX10 : ∀ w ∈ wsX10, w ∈ lw_tbl := wsL_sub [48] rfl
set_option maxRecDepth 20000 in
theorem wsL_in_wsX20 : ∀ w ∈ wsX20, w ∈ lw_tbl := wsL_sub [63, 65, 67, 69, 71] rfl
set_option maxRecDepth 20000 in
theorem wsL_in_wsX30 : ∀ w ∈ wsX30, w ∈ lw_tbl := wsL_sub [84] rfl
set_option maxRecDepth 20000 in
theorem wsL_in_wsX00 : ∀ w ∈ wsX00, w ∈ lw_tbl := wsL_sub [103, 105, 107, 109, 111, 113] rfl
set_option maxRecDepth 20000 in
theorem wsL_in_wsX50 : ∀ w ∈ wsX50, w ∈ lw_tbl := wsL_sub [696, 698, 700, 702, 704, 706, 708, 710, 712, 714] rfl
theorem wsL_law_in0 : ∀ w ∈ wsL_law0, w ∈ lw_tbl := List.forall_mem_append.mpr ⟨List.forall_mem_append.mpr ⟨List.forall_mem_append.mpr ⟨List.forall_mem_append.mpr ⟨List.forall_mem_append.mpr ⟨List.forall_mem_append.mpr ⟨List.forall_mem_append.mpr ⟨List.forall_mem_append.mpr ⟨wsL_in_r1, List.forall_mem_append.mpr ⟨wsL_in_r2, List.forall_mem_append.mpr ⟨wsL_in_r3, List.forall_mem_append.mpr ⟨wsL_in_r4, List.forall_mem_append.mpr ⟨wsL_in_r5, List.forall_mem_append.mpr ⟨wsL_in_r6, List.forall_mem_append.mpr ⟨wsL_in_r7, List.forall_mem_append.mpr ⟨wsL_in_r8, List.forall_mem_append.mpr ⟨wsL_in_r9, List.forall_mem_append.mpr ⟨wsL_in_r10, List.forall_mem_append.mpr ⟨wsL_in_r11, List.forall_mem_append.mpr ⟨wsL_in_r12, List.forall_mem_append.mpr ⟨wsL_in_r13, List.forall_mem_append.mpr ⟨wsL_in_r14, List.forall_mem_append.mpr ⟨wsL_in_r15, List.forall_mem_append.mpr ⟨wsL_in_r16, List.forall_mem_append.mpr ⟨wsL_in_r17, List.forall_mem_append.mpr ⟨wsL_in_r18, List.forall_mem_append.mpr ⟨wsL_in_r19, List.forall_mem_append.mpr ⟨wsL_in_r20, wsL_in_r21⟩⟩⟩⟩⟩⟩⟩⟩⟩⟩⟩⟩⟩⟩⟩⟩⟩⟩⟩⟩, wsL_in_wsX40⟩, wsL_in_wsX10⟩, wsL_in_wsX20⟩, wsL_in_wsX30⟩, wsL_in_wsX00⟩, wsL_in_wsX50⟩, fun _ h => absurd h List.not_mem_nil⟩
