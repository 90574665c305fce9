theorem wsL_sub {big l : List Cond} (is : List Nat) (h : is.map (fun i => big[i]?) = l.map some) : ∀ w ∈ l, w ∈ big := by
  intro w hw
  have h1 : some w ∈ is.map (fun i => big[i]?) := by rw [h]; exact List.mem_map_of_mem hw
  obtain ⟨i, -, hi⟩ := List.mem_map.mp h1
  exact List.mem_of_getElem? hi
set_option maxRecDepth 20000 in
theorem wsL_in_r1 : ∀ w ∈ wsL_law0_r1, w ∈ lw_tbl := wsL_sub [48, 49, 34, 665, 666, 39, 908, 50, 51, 52, 53, 54, 55, 56, 57, 35, 136, 67, 68, 36, 137, 89, 90, 37] rfl
set_option maxRecDepth 20000 in
theorem wsL_in_r2 : ∀ w ∈ wsL_law0_r2, w ∈ lw_tbl := wsL_sub [138, 102, 103, 38, 139, 140, 141, 142, 143, 144, 145, 59, 60, 61, 66, 62, 70, 71, 72, 73, 74, 75, 76, 77] rfl
set_option maxRecDepth 20000 in
theorem wsL_in_r3 : ∀ w ∈ wsL_law0_r3, w ∈ lw_tbl := wsL_sub [91, 92, 93, 94, 98, 96, 97, 105, 106, 107, 108, 112, 110, 113, 114, 115, 116, 117, 131, 132, 133, 134, 667, 668] rfl
set_option maxRecDepth 20000 in
theorem wsL_in_r4 : ∀ w ∈ wsL_law0_r4, w ∈ lw_tbl := wsL_sub [669, 670, 672, 673, 674, 677, 679, 680, 681, 683, 684, 688, 689, 257, 258, 33, 259, 260, 261, 262, 263, 264, 265, 266] rfl
set_option maxRecDepth 20000 in
theorem wsL_in_r5 : ∀ w ∈ wsL_law0_r5, w ∈ lw_tbl := wsL_sub [267, 268, 270, 43, 269, 184, 185, 338, 339, 340, 341, 342, 343, 344, 44, 179, 180, 181, 182, 187, 188, 360, 361, 362] rfl
set_option maxRecDepth 20000 in
theorem wsL_in_r6 : ∀ w ∈ wsL_law0_r6, w ∈ lw_tbl := wsL_sub [363, 365, 366, 733, 734, 735, 736, 671, 737, 738, 739, 740, 741, 742, 743, 744, 745, 746, 748, 19, 749, 750, 751, 752] rfl
set_option maxRecDepth 20000 in
theorem wsL_in_r7 : ∀ w ∈ wsL_law0_r7, w ∈ lw_tbl := wsL_sub [729, 730, 731, 732, 367, 368, 369, 370, 371, 372, 373, 374, 375, 376, 377, 378, 379, 381, 382, 383, 384, 385, 386, 387] rfl
set_option maxRecDepth 20000 in
theorem wsL_in_r8 : ∀ w ∈ wsL_law0_r8, w ∈ lw_tbl := wsL_sub [388, 45, 389, 390, 391, 392, 753, 754, 755, 756, 757, 758, 393, 394, 395, 396, 397, 398, 399, 759, 760, 761, 762, 400] rfl
set_option maxRecDepth 20000 in
theorem wsL_in_r9 : ∀ w ∈ wsL_law0_r9, w ∈ lw_tbl := wsL_sub [401, 402, 403, 404, 405, 406, 407, 408, 409, 763, 764, 765, 766, 410, 411, 412, 413, 414, 415, 416, 767, 768, 769, 770] rfl
set_option maxRecDepth 20000 in
theorem wsL_in_r10 : ∀ w ∈ wsL_law0_r10, w ∈ lw_tbl := wsL_sub [167, 168, 169, 170, 771, 772, 773, 774, 675, 171, 172, 173, 174, 775, 776, 777, 778, 676, 417, 418, 419, 420, 421, 422] rfl
set_option maxRecDepth 20000 in
theorem wsL_in_r11 : ∀ w ∈ wsL_law0_r11, w ∈ lw_tbl := wsL_sub [423, 424, 425, 426, 427, 428, 429, 430, 431, 432, 433, 434, 204, 205, 206, 207, 436, 779, 780, 781, 782, 783, 784, 785] rfl
set_option maxRecDepth 20000 in
theorem wsL_in_r12 : ∀ w ∈ wsL_law0_r12, w ∈ lw_tbl := wsL_sub [437, 438, 439, 440, 441, 442, 443, 444, 445, 446, 447, 448, 449, 450, 451, 452, 453, 455, 4, 456, 458, 461, 463, 5] rfl
set_option maxRecDepth 20000 in
theorem wsL_in_r13 : ∀ w ∈ wsL_law0_r13, w ∈ lw_tbl := wsL_sub [464, 465, 467, 6, 468, 469, 471, 7, 472, 473, 475, 8, 476, 477, 479, 9, 480, 481, 483, 10, 484, 485, 487, 11] rfl
set_option maxRecDepth 20000 in
theorem wsL_in_r14 : ∀ w ∈ wsL_law0_r14, w ∈ lw_tbl := wsL_sub [488, 489, 491, 493, 12, 494, 514, 508, 509, 229, 495, 496, 497, 498, 499, 501, 13, 502, 507, 503, 504, 505, 506, 510] rfl
set_option maxRecDepth 20000 in
theorem wsL_in_r15 : ∀ w ∈ wsL_law0_r15, w ∈ lw_tbl := wsL_sub [511, 515, 517, 14, 518, 519, 520, 521, 522, 523, 524, 525, 527, 15, 528, 529, 531, 16, 532, 541, 46, 533, 534, 535] rfl
set_option maxRecDepth 20000 in
theorem wsL_in_r16 : ∀ w ∈ wsL_law0_r16, w ∈ lw_tbl := wsL_sub [536, 537, 538, 539, 540, 557, 558, 559, 560, 561, 563, 17, 564, 217, 218, 219, 220, 221, 222, 223, 224, 225, 227, 2] rfl
set_option maxRecDepth 20000 in
theorem wsL_in_r17 : ∀ w ∈ wsL_law0_r17, w ∈ lw_tbl := wsL_sub [228, 230, 231, 232, 233, 786, 787, 788, 789, 685, 678, 686, 682, 687, 821, 823, 822, 47, 790, 792, 20, 793, 810, 794] rfl
set_option maxRecDepth 20000 in
theorem wsL_in_r18 : ∀ w ∈ wsL_law0_r18, w ∈ lw_tbl := wsL_sub [796, 21, 797, 798, 800, 22, 801, 802, 804, 23, 805, 806, 808, 24, 809, 811, 813, 25, 814, 815, 816, 817, 818, 819] rfl
set_option maxRecDepth 20000 in
theorem wsL_in_r19 : ∀ w ∈ wsL_law0_r19, w ∈ lw_tbl := wsL_sub [820, 824, 826, 26, 827, 828, 830, 27, 831, 832, 833, 834, 835, 836, 837, 838, 839, 840, 565, 566, 567, 568, 569, 570] rfl
set_option maxRecDepth 20000 in
theorem wsL_in_r20 : ∀ w ∈ wsL_law0_r20, w ∈ lw_tbl := wsL_sub [571, 841, 842, 843, 844, 572, 573, 574, 575, 576, 577, 578, 579, 580, 845, 846, 847, 848, 849, 851, 28, 852, 581, 582] rfl
set_option maxRecDepth 20000 in
theorem wsL_in_r21 : ∀ w ∈ wsL_law0_r21, w ∈ lw_tbl := wsL_sub [583, 584, 585, 586, 587, 588, 590, 18, 591, 209, 211, 1, 212, 593, 594, 595, 596, 853, 854, 855, 856, 597, 598, 599] rfl
set_option maxRecDepth 20000 in
theorem wsL_in_r22 : ∀ w ∈ wsL_law0_r22, w ∈ lw_tbl := wsL_sub [600, 601, 602, 603, 604, 605, 606, 607, 608, 609, 610, 611, 612, 857, 858, 859, 860, 861, 863, 29, 864, 613, 614, 615] rfl
set_option maxRecDepth 20000 in
theorem wsL_in_r23 : ∀ w ∈ wsL_law0_r23, w ∈ lw_tbl := wsL_sub [616, 617, 618, 619, 620, 865, 866, 867, 868, 621, 622, 623, 624, 625, 626, 627, 628, 629, 630, 631, 632, 869, 870, 871] rfl
set_option maxRecDepth 20000 in
theorem wsL_in_r24 : ∀ w ∈ wsL_law0_r24, w ∈ lw_tbl := wsL_sub [872, 873, 875, 30, 876, 633, 634, 635, 636, 637, 638, 639, 196, 198, 0, 199, 200, 201, 202, 203, 213, 214, 215, 216] rfl
set_option maxRecDepth 20000 in
theorem wsL_in_r25 : ∀ w ∈ wsL_law0_r25, w ∈ lw_tbl := wsL_sub [877, 878, 879, 880, 881, 883, 31, 884, 640, 641, 642, 643, 644, 645, 646, 647, 648, 649, 650, 651, 652, 653, 654, 885] rfl
set_option maxRecDepth 20000 in
theorem wsL_in_r26 : ∀ w ∈ wsL_law0_r26, w ∈ lw_tbl := wsL_sub [886, 887, 888, 889, 891, 32, 892, 655, 656, 657, 658, 659, 660, 661, 662, 663, 664, 893, 894, 895, 896, 175, 176, 177] rfl
set_option maxRecDepth 20000 in
theorem wsL_in_r27 : ∀ w ∈ wsL_law0_r27, w ∈ lw_tbl := wsL_sub [178, 189, 897, 898, 899, 900, 901, 190, 191, 192, 193, 194, 195, 234, 235, 236, 237, 239, 240, 241, 242, 243, 244, 245] rfl
set_option maxRecDepth 20000 in
theorem wsL_in_r28 : ∀ w ∈ wsL_law0_r28, w ∈ lw_tbl := wsL_sub [247, 248, 249, 250, 251, 252, 253, 254, 256, 902, 903, 904, 905, 906, 907] rfl
set_option maxRecDepth 20000 in
theorem wsL_in_wsX40 : ∀ w ∈ wsX40, w ∈ lw_tbl := wsL_sub [146, 148, 150, 152, 154, 156, 158, 160, 162, 164] rfl
set_option maxRecDepth 20000 in
theorem wsL_in_wsX50 : ∀ w ∈ wsX50, w ∈ lw_tbl := wsL_sub [690, 692, 694, 696, 698, 700, 702, 704, 706, 708, 710, 712, 714, 716, 718, 720, 722, 724, 726] rfl
set_option maxRecDepth 20000 in
theorem wsL_in_wsX10 : ∀ w ∈ wsX10, w ∈ lw_tbl := wsL_sub [63] rfl
set_option maxRecDepth 20000 in
theorem wsL_in_wsX20 : ∀ w ∈ wsX20, w ∈ lw_tbl := wsL_sub [78, 80, 82, 84, 86] rfl
set_option maxRecDepth 20000 in
theorem wsL_in_wsX30 : ∀ w ∈ wsX30, w ∈ lw_tbl := wsL_sub [99] rfl
set_option maxRecDepth 20000 in
theorem wsL_in_wsX00 : ∀ w ∈ wsX00, w ∈ lw_tbl := wsL_sub [118, 120, 122, 124, 126, 128] rfl
theorem wsL_law_in0 : ∀ w ∈ wsL_law0, w ∈ lw_tbl := List.forall_mem_append.mpr ⟨List.forall_mem_append.mpr ⟨List.forall_mem_append.mpr ⟨List.forall_mem_append.mpr ⟨List.forall_mem_append.mpr ⟨List.forall_mem_append.mpr ⟨List.forall_mem_append.mpr ⟨List.forall_mem_append.mpr ⟨wsL_in_r1, List.forall_mem_append.mpr ⟨wsL_in_r2, List.forall_mem_append.mpr ⟨wsL_in_r3, List.forall_mem_append.mpr ⟨wsL_in_r4, List.forall_mem_append.mpr ⟨wsL_in_r5, List.forall_mem_append.mpr ⟨wsL_in_r6, List.forall_mem_append.mpr ⟨wsL_in_r7, List.forall_mem_append.mpr ⟨wsL_in_r8, List.forall_mem_append.mpr ⟨wsL_in_r9, List.forall_mem_append.mpr ⟨wsL_in_r10, List.forall_mem_append.mpr ⟨wsL_in_r11, List.forall_mem_append.mpr ⟨wsL_in_r12, List.forall_mem_append.mpr ⟨wsL_in_r13, List.forall_mem_append.mpr ⟨wsL_in_r14, List.forall_mem_append.mpr ⟨wsL_in_r15, List.forall_mem_append.mpr ⟨wsL_in_r16, List.forall_mem_append.mpr ⟨wsL_in_r17, List.forall_mem_append.mpr ⟨wsL_in_r18, List.forall_mem_append.mpr ⟨wsL_in_r19, List.forall_mem_append.mpr ⟨wsL_in_r20, List.forall_mem_append.mpr ⟨wsL_in_r21, List.forall_mem_append.mpr ⟨wsL_in_r22, List.forall_mem_append.mpr ⟨wsL_in_r23, List.forall_mem_append.mpr ⟨wsL_in_r24, List.forall_mem_append.mpr ⟨wsL_in_r25, List.forall_mem_append.mpr ⟨wsL_in_r26, List.forall_mem_append.mpr ⟨wsL_in_r27, wsL_in_r28⟩⟩⟩⟩⟩⟩⟩⟩⟩⟩⟩⟩⟩⟩⟩⟩⟩⟩⟩⟩⟩⟩⟩⟩⟩⟩⟩, wsL_in_wsX40⟩, wsL_in_wsX50⟩, wsL_in_wsX10⟩, wsL_in_wsX20⟩, wsL_in_wsX30⟩, wsL_in_wsX00⟩, fun _ h => absurd h List.not_mem_nil⟩
