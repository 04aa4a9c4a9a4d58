set_option maxRecDepth 20000 in
theorem lwi_r18 : ∀ w ∈ wsL_law_r18, w ∈ lw_tbl := mem_idx _ [399, 400, 401, 404, 407, 810, 811, 812, 813, 814, 816, 25, 817, 818, 820, 26, 821, 822, 824, 27, 825, 826, 828, 28] (by decide +kernel)
set_option maxRecDepth 20000 in
theorem lwi_r19 : ∀ w ∈ wsL_law_r19, w ∈ lw_tbl := mem_idx _ [829, 830, 832, 29, 833, 641, 425, 426, 427, 428, 834, 835, 836, 837, 838, 429, 430, 431, 432, 839, 840, 841, 842, 433] (by decide +kernel)
set_option maxRecDepth 20000 in
theorem lwi_r20 : ∀ w ∈ wsL_law_r20, w ∈ lw_tbl := mem_idx _ [434, 435, 436, 403, 406, 437, 439, 8, 440, 843, 844, 845, 846, 847, 849, 30, 850, 441, 442, 443, 444, 851, 852, 853] (by decide +kernel)
set_option maxRecDepth 20000 in
theorem lwi_r21 : ∀ w ∈ wsL_law_r21, w ∈ lw_tbl := mem_idx _ [854, 445, 446, 447, 448, 411, 413, 855, 856, 857, 858, 859, 449, 450, 451, 452, 453, 454, 455, 456, 457, 458, 459, 460] (by decide +kernel)
set_option maxRecDepth 20000 in
theorem lwi_r22 : ∀ w ∈ wsL_law_r22, w ∈ lw_tbl := mem_idx _ [461, 462, 463, 464, 465, 466, 468, 9, 469, 475, 476, 477, 408, 470, 471, 472, 473, 412, 474, 478, 479, 480, 481, 482] (by decide +kernel)
set_option maxRecDepth 20000 in
theorem lwi_r23 : ∀ w ∈ wsL_law_r23, w ∈ lw_tbl := mem_idx _ [483, 484, 485, 860, 861, 862, 863, 864, 866, 31, 867, 868, 870, 32, 871, 872, 874, 33, 875, 876, 878, 34, 879, 880] (by decide +kernel)
set_option maxRecDepth 20000 in
theorem lwi_r24 : ∀ w ∈ wsL_law_r24, w ∈ lw_tbl := mem_idx _ [882, 35, 883, 884, 885, 886, 887, 889, 36, 890, 486, 487, 488, 489, 490, 891, 892, 893, 894, 491, 492, 493, 494, 495] (by decide +kernel)
set_option maxRecDepth 20000 in
theorem lwi_r25 : ∀ w ∈ wsL_law_r25, w ∈ lw_tbl := mem_idx _ [496, 497, 498, 499, 500, 501, 502, 503, 895, 896, 897, 898, 899, 901, 37, 902, 504, 505, 506, 507, 508, 903, 904, 905] (by decide +kernel)
set_option maxRecDepth 20000 in
theorem lwi_r26 : ∀ w ∈ wsL_law_r26, w ∈ lw_tbl := mem_idx _ [906, 509, 510, 511, 512, 513, 514, 515, 516, 410, 907, 908, 909, 910, 911, 913, 38, 914, 517, 518, 519, 520, 521, 523] (by decide +kernel)
set_option maxRecDepth 20000 in
theorem lwi_r27 : ∀ w ∈ wsL_law_r27, w ∈ lw_tbl := mem_idx _ [10, 524, 525, 526, 527, 528, 529, 530, 915, 916, 917, 918, 919, 921, 39, 922, 531, 532, 533, 534, 535, 536, 923, 924] (by decide +kernel)
set_option maxRecDepth 20000 in
theorem lwi_r28 : ∀ w ∈ wsL_law_r28, w ∈ lw_tbl := mem_idx _ [925, 926, 927, 928, 929, 537, 538, 539, 540, 94, 541, 542, 543, 544, 152, 545, 547, 11, 548, 555, 549, 550, 551, 552] (by decide +kernel)
set_option maxRecDepth 20000 in
theorem lwi_r29 : ∀ w ∈ wsL_law_r29, w ∈ lw_tbl := mem_idx _ [553, 554, 556, 557, 558, 150, 559, 561, 12, 562, 563, 930, 931, 932, 933, 934, 936, 40, 937, 938, 939, 941, 41, 942] (by decide +kernel)
set_option maxRecDepth 20000 in
theorem lwi_r30 : ∀ w ∈ wsL_law_r30, w ∈ lw_tbl := mem_idx _ [943, 945, 42, 946, 947, 949, 43, 950, 564, 565, 566, 567, 568, 569, 570, 571, 572, 574, 13, 575, 951, 952, 953, 954] (by decide +kernel)
set_option maxRecDepth 20000 in
theorem lwi_r31 : ∀ w ∈ wsL_law_r31, w ∈ lw_tbl := mem_idx _ [576, 577, 578, 579, 580, 582, 14, 583, 584, 586, 15, 587, 955, 956, 957, 958, 588, 589, 590, 591, 592, 593, 594, 595] (by decide +kernel)
set_option maxRecDepth 20000 in
theorem lwi_r32 : ∀ w ∈ wsL_law_r32, w ∈ lw_tbl := mem_idx _ [596, 176, 598, 599, 600, 601, 602, 603, 604, 606, 607, 608, 609, 610, 612, 613, 614, 615, 616, 959, 960, 961, 962, 963] (by decide +kernel)
set_option maxRecDepth 20000 in
theorem lwi_r33 : ∀ w ∈ wsL_law_r33, w ∈ lw_tbl := mem_idx _ [964] (by decide +kernel)
set_option maxRecDepth 20000 in
theorem lwi_X7 : ∀ w ∈ wsX70, w ∈ lw_tbl := mem_idx _ [109, 111, 113, 115, 117, 119, 121, 123, 125, 127, 129] (by decide +kernel)
set_option maxRecDepth 20000 in
theorem lwi_X8 : ∀ w ∈ wsX80, w ∈ lw_tbl := mem_idx _ [651, 653, 655, 657, 659, 661, 663, 665, 667, 669, 671, 673, 675, 677, 679, 681, 683, 685, 687, 689, 691, 693, 695, 697, 699, 701, 703] (by decide +kernel)
set_option maxRecDepth 20000 in
theorem lwi_X4 : ∀ w ∈ wsX40, w ∈ lw_tbl := mem_idx _ [78, 80] (by decide +kernel)
set_option maxRecDepth 20000 in
theorem lwi_X3 : ∀ w ∈ wsX30, w ∈ lw_tbl := mem_idx _ [95] (by decide +kernel)
set_option maxRecDepth 20000 in
theorem lwi_X1 : ∀ w ∈ wsX10, w ∈ lw_tbl := mem_idx _ [180, 182, 184, 186, 188, 190, 192, 194] (by decide +kernel)
set_option maxRecDepth 20000 in
theorem lwi_X2 : ∀ w ∈ wsX20, w ∈ lw_tbl := mem_idx _ [156, 158, 160] (by decide +kernel)
set_option maxRecDepth 20000 in
theorem lwi_X6 : ∀ w ∈ wsX60, w ∈ lw_tbl := mem_idx _ [336, 338, 340, 342] (by decide +kernel)
set_option maxRecDepth 20000 in
theorem lwi_X0 : ∀ w ∈ wsX00, w ∈ lw_tbl := mem_idx _ [368, 370] (by decide +kernel)
set_option maxRecDepth 20000 in
theorem lwi_X5 : ∀ w ∈ wsX50, w ∈ lw_tbl := mem_idx _ [414, 416, 418, 420, 422] (by decide +kernel)
theorem wsL_law_in : ∀ w ∈ wsL_law, w ∈ lw_tbl := List.forall_mem_append.mpr ⟨(List.forall_mem_append.mpr ⟨(List.forall_mem_append.mpr ⟨(List.forall_mem_append.mpr ⟨(List.forall_mem_append.mpr ⟨(List.forall_mem_append.mpr ⟨(List.forall_mem_append.mpr ⟨(List.forall_mem_append.mpr ⟨(List.forall_mem_append.mpr ⟨(List.forall_mem_append.mpr ⟨(List.forall_mem_append.mpr ⟨lwi_r1, (List.forall_mem_append.mpr ⟨lwi_r2, (List.forall_mem_append.mpr ⟨lwi_r3, (List.forall_mem_append.mpr ⟨lwi_r4, (List.forall_mem_append.mpr ⟨lwi_r5, (List.forall_mem_append.mpr ⟨lwi_r6, (List.forall_mem_append.mpr ⟨lwi_r7, (List.forall_mem_append.mpr ⟨lwi_r8, (List.forall_mem_append.mpr ⟨lwi_r9, (List.forall_mem_append.mpr ⟨lwi_r10, (List.forall_mem_append.mpr ⟨lwi_r11, (List.forall_mem_append.mpr ⟨lwi_r12, (List.forall_mem_append.mpr ⟨lwi_r13, (List.forall_mem_append.mpr ⟨lwi_r14, (List.forall_mem_append.mpr ⟨lwi_r15, (List.forall_mem_append.mpr ⟨lwi_r16, (List.forall_mem_append.mpr ⟨lwi_r17, (List.forall_mem_append.mpr ⟨lwi_r18, (List.forall_mem_append.mpr ⟨lwi_r19, (List.forall_mem_append.mpr ⟨lwi_r20, (List.forall_mem_append.mpr ⟨lwi_r21, (List.forall_mem_append.mpr ⟨lwi_r22, (List.forall_mem_append.mpr ⟨lwi_r23, (List.forall_mem_append.mpr ⟨lwi_r24, (List.forall_mem_append.mpr ⟨lwi_r25, (List.forall_mem_append.mpr ⟨lwi_r26, (List.forall_mem_append.mpr ⟨lwi_r27, (List.forall_mem_append.mpr ⟨lwi_r28, (List.forall_mem_append.mpr ⟨lwi_r29, (List.forall_mem_append.mpr ⟨lwi_r30, (List.forall_mem_append.mpr ⟨lwi_r31, (List.forall_mem_append.mpr ⟨lwi_r32, lwi_r33⟩)⟩)⟩)⟩)⟩)⟩)⟩)⟩)⟩)⟩)⟩)⟩)⟩)⟩)⟩)⟩)⟩)⟩)⟩)⟩)⟩)⟩)⟩)⟩)⟩)⟩)⟩)⟩)⟩)⟩)⟩)⟩), lwi_X7⟩), lwi_X8⟩), lwi_X4⟩), lwi_X3⟩), lwi_X1⟩), lwi_X2⟩), lwi_X6⟩), lwi_X0⟩), lwi_X5⟩), fun _ h => absurd h List.not_mem_nil⟩
theorem inlX0 : ∀ w ∈ wsX00, w ∈ wsL_law := fun _ h => List.mem_append_left _ (List.mem_append_left _ (List.mem_append_right _ h))
theorem inX0 : ∀ w ∈ wsX00, w ∈ lw_tbl := fun w h => wsL_law_in w (inlX0 w h)
theorem inlX1 : ∀ w ∈ wsX10, w ∈ wsL_law := fun _ h => List.mem_append_left _ (List.mem_append_left _ (List.mem_append_left _ (List.mem_append_left _ (List.mem_append_left _ (List.mem_append_right _ h)))))
theorem inX1 : ∀ w ∈ wsX10, w ∈ lw_tbl := fun w h => wsL_law_in w (inlX1 w h)
theorem inlX2 : ∀ w ∈ wsX20, w ∈ wsL_law := fun _ h => List.mem_append_left _ (List.mem_append_left _ (List.mem_append_left _ (List.mem_append_left _ (List.mem_append_right _ h))))
theorem inX2 : ∀ w ∈ wsX20, w ∈ lw_tbl := fun w h => wsL_law_in w (inlX2 w h)
theorem inlX3 : ∀ w ∈ wsX30, w ∈ wsL_law := fun _ h => List.mem_append_left _ (List.mem_append_left _ (List.mem_append_left _ (List.mem_append_left _ (List.mem_append_left _ (List.mem_append_left _ (List.mem_append_right _ h))))))
theorem inX3 : ∀ w ∈ wsX30, w ∈ lw_tbl := fun w h => wsL_law_in w (inlX3 w h)
theorem inlX4 : ∀ w ∈ wsX40, w ∈ wsL_law := fun _ h => List.mem_append_left _ (List.mem_append_left _ (List.mem_append_left _ (List.mem_append_left _ (List.mem_append_left _ (List.mem_append_left _ (List.mem_append_left _ (List.mem_append_right _ h)))))))
theorem inX4 : ∀ w ∈ wsX40, w ∈ lw_tbl := fun w h => wsL_law_in w (inlX4 w h)
theorem inlX5 : ∀ w ∈ wsX50, w ∈ wsL_law := fun _ h => List.mem_append_left _ (List.mem_append_right _ h)
theorem inX5 : ∀ w ∈ wsX50, w ∈ lw_tbl := fun w h => wsL_law_in w (inlX5 w h)
theorem inlX6 : ∀ w ∈ wsX60, w ∈ wsL_law := fun _ h => List.mem_append_left _ (List.mem_append_left _ (List.mem_append_left _ (List.mem_append_right _ h)))
theorem inX6 : ∀ w ∈ wsX60, w ∈ lw_tbl := fun w h => wsL_law_in w (inlX6 w h)
theorem inlX7 : ∀ w ∈ wsX70, w ∈ wsL_law := fun _ h => List.mem_append_left _ (List.mem_append_left _ (List.mem_append_left _ (List.mem_append_left _ (List.mem_append_left _ (List.mem_append_left _ (List.mem_append_left _ (List.mem_append_left _ (List.mem_append_left _ (List.mem_append_right _ h)))))))))
theorem inX7 : ∀ w ∈ wsX70, w ∈ lw_tbl := fun w h => wsL_law_in w (inlX7 w h)
theorem inlX8 : ∀ w ∈ wsX80, w ∈ wsL_law := fun _ h => List.mem_append_left _ (List.mem_append_left _ (List.mem_append_left _ (List.mem_append_left _ (List.mem_append_left _ (List.mem_append_left _ (List.mem_append_left _ (List.mem_append_left _ (List.mem_append_right _ h))))))))
theorem inX8 : ∀ w ∈ wsX80, w ∈ lw_tbl := fun w h => wsL_law_in w (inlX8 w h)
