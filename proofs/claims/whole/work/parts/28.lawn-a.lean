/-! the law's names -/
theorem mem_idx {big : List Cond} (ws : List Cond) (ps : List Nat) (hp : ws = ps.filterMap (fun i => big[i]?)) : ∀ w ∈ ws, w ∈ big := fun w hw => by
  rw [hp] at hw
  obtain ⟨i, -, hi⟩ := List.mem_filterMap.mp hw
  exact List.mem_of_getElem? hi
set_option maxRecDepth 20000 in
theorem lwi_r1 : ∀ w ∈ wsL_law_r1, w ∈ lw_tbl := mem_idx _ [55, 56, 45, 618, 619, 48, 57, 58, 59, 60, 61, 62, 63, 98, 65, 99, 67, 100, 83, 101, 69, 70, 46, 102] (by decide +kernel)
set_option maxRecDepth 20000 in
theorem lwi_r2 : ∀ w ∈ wsL_law_r2, w ∈ lw_tbl := mem_idx _ [85, 86, 47, 103, 107, 108, 72, 73, 74, 75, 84, 76, 88, 89, 90, 91, 93, 620, 621, 622, 623, 625, 626, 627] (by decide +kernel)
set_option maxRecDepth 20000 in
theorem lwi_r3 : ∀ w ∈ wsL_law_r3, w ∈ lw_tbl := mem_idx _ [628, 629, 630, 631, 632, 633, 634, 635, 637, 638, 639, 640, 643, 644, 645, 646, 647, 648, 649, 650, 132, 133, 134, 135] (by decide +kernel)
set_option maxRecDepth 20000 in
theorem lwi_r4 : ∀ w ∈ wsL_law_r4, w ∈ lw_tbl := mem_idx _ [104, 136, 49, 138, 139, 140, 163, 164, 165, 141, 142, 50, 168, 170, 144, 145, 146, 147, 149, 706, 707, 708, 709, 624] (by decide +kernel)
set_option maxRecDepth 20000 in
theorem lwi_r5 : ∀ w ∈ wsL_law_r5, w ∈ lw_tbl := mem_idx _ [197, 198, 199, 200, 173, 179, 201, 203, 0, 204, 205, 206, 207, 208, 209, 210, 211, 154, 212, 214, 1, 215, 105, 331] (by decide +kernel)
set_option maxRecDepth 20000 in
theorem lwi_r6 : ∀ w ∈ wsL_law_r6, w ∈ lw_tbl := mem_idx _ [216, 217, 218, 219, 172, 177, 710, 711, 712, 713, 721, 714, 716, 16, 717, 718, 719, 720, 722, 724, 17, 725, 636, 726] (by decide +kernel)
set_option maxRecDepth 20000 in
theorem lwi_r7 : ∀ w ∈ wsL_law_r7, w ∈ lw_tbl := mem_idx _ [728, 18, 729, 220, 221, 222, 223, 730, 731, 732, 733, 224, 225, 226, 227, 228, 229, 230, 231, 232, 233, 234, 235, 237] (by decide +kernel)
set_option maxRecDepth 20000 in
theorem lwi_r8 : ∀ w ∈ wsL_law_r8, w ∈ lw_tbl := mem_idx _ [238, 239, 240, 51, 241, 242, 243, 244, 734, 735, 736, 737, 738, 740, 19, 741, 742, 744, 20, 745, 746, 747, 748, 245] (by decide +kernel)
set_option maxRecDepth 20000 in
theorem lwi_r9 : ∀ w ∈ wsL_law_r9, w ∈ lw_tbl := mem_idx _ [246, 247, 248, 249, 175, 167, 749, 750, 751, 752, 753, 250, 251, 252, 253, 254, 255, 256, 257, 174, 166, 258, 260, 2] (by decide +kernel)
set_option maxRecDepth 20000 in
theorem lwi_r10 : ∀ w ∈ wsL_law_r10, w ∈ lw_tbl := mem_idx _ [261, 178, 266, 262, 264, 3, 265, 754, 755, 756, 757, 758, 760, 21, 761, 267, 268, 269, 270, 77, 762, 763, 764, 765] (by decide +kernel)
set_option maxRecDepth 20000 in
theorem lwi_r11 : ∀ w ∈ wsL_law_r11, w ∈ lw_tbl := mem_idx _ [271, 272, 273, 274, 155, 275, 277, 4, 278, 169, 171, 279, 280, 281, 282, 153, 283, 284, 285, 286, 287, 288, 289, 290] (by decide +kernel)
set_option maxRecDepth 20000 in
theorem lwi_r12 : ∀ w ∈ wsL_law_r12, w ∈ lw_tbl := mem_idx _ [291, 292, 293, 766, 767, 768, 769, 773, 770, 771, 772, 294, 295, 296, 297, 774, 775, 776, 777, 298, 299, 300, 301, 151] (by decide +kernel)
set_option maxRecDepth 20000 in
theorem lwi_r13 : ∀ w ∈ wsL_law_r13, w ∈ lw_tbl := mem_idx _ [302, 303, 304, 305, 778, 779, 780, 781, 782, 784, 22, 785, 786, 788, 23, 789, 306, 307, 308, 309, 148, 310, 311, 790] (by decide +kernel)
set_option maxRecDepth 20000 in
theorem lwi_r14 : ∀ w ∈ wsL_law_r14, w ∈ lw_tbl := mem_idx _ [791, 792, 793, 312, 313, 314, 315, 325, 52, 316, 318, 5, 319, 320, 321, 322, 323, 330, 332, 333, 326, 327, 328, 329] (by decide +kernel)
set_option maxRecDepth 20000 in
theorem lwi_r15 : ∀ w ∈ wsL_law_r15, w ∈ lw_tbl := mem_idx _ [334, 794, 795, 796, 797, 345, 346, 347, 348, 335, 349, 351, 6, 352, 798, 799, 800, 801, 802, 804, 24, 805, 353, 354] (by decide +kernel)
set_option maxRecDepth 20000 in
theorem lwi_r16 : ∀ w ∈ wsL_law_r16, w ∈ lw_tbl := mem_idx _ [355, 356, 106, 357, 53, 359, 360, 361, 362, 364, 806, 807, 808, 809, 642, 373, 374, 375, 376, 377, 379, 7, 380, 381] (by decide +kernel)
set_option maxRecDepth 20000 in
theorem lwi_r17 : ∀ w ∈ wsL_law_r17, w ∈ lw_tbl := mem_idx _ [382, 383, 384, 366, 402, 405, 385, 386, 387, 388, 389, 390, 367, 365, 395, 396, 54, 391, 392, 393, 394, 409, 397, 398] (by decide +kernel)
