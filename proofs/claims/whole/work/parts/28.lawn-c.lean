set_option maxRecDepth 20000 in
theorem ggL_law_X7_init : GoodIn wsL_law wsX7_init := goodIn_r _ [8, 9, 10, 11, 12, 13, 14, 15, 16, 17, 18, 19, 20, 21, 22, 23, 24, 25, 26, 27, 28, 29, 30, 31, 32, 33, 34, 35, 36, 37, 38, 39, 40, 769, 770, 771, 772, 773, 774, 775, 776, 777, 778, 779, 807, 808, 809] (by decide +kernel) (by decide +kernel)
set_option maxRecDepth 20000 in
theorem gL_law_X7_init : GoodIn wsL_law (wsX7_init) := ggL_law_X7_init
set_option maxRecDepth 20000 in
theorem ggL_law_X8_init : GoodIn wsL_law wsX8_init := goodIn_r _ [43, 44, 10, 11, 18, 45, 46, 47, 48, 49, 50, 34, 51, 52, 53, 54, 55, 56, 57, 58, 59, 60, 61, 62, 63, 64, 65, 66, 67, 780, 781, 782, 783, 784, 785, 786, 787, 788, 789, 790, 791, 792, 793, 794, 795, 796, 797, 798, 799, 800, 801, 802, 803, 804, 805, 806] (by decide +kernel) (by decide +kernel)
set_option maxRecDepth 20000 in
theorem gL_law_X8_init : GoodIn wsL_law (wsX8_init) := ggL_law_X8_init
set_option maxRecDepth 20000 in
theorem ggL_law_X7_hole : GoodIn wsL_law wsX7_hole := goodIn_r _ [71, 72, 13, 12, 73, 74, 75, 76, 77, 10, 11, 18, 78, 79, 80, 81, 82, 83, 84, 85, 86, 87, 88, 89, 90, 769, 770, 771, 772, 773, 774, 775, 776, 777, 778, 779, 810, 811, 812, 813, 814, 815, 816, 817, 818, 819, 820] (by decide +kernel) (by decide +kernel)
set_option maxRecDepth 20000 in
theorem gL_law_X7_hole : GoodIn wsL_law (wsV RL 13 RX7 yX7_hole wsX7_hole) := goodIn_app (goodIn_of _ (by decide +kernel)) ggL_law_X7_hole
set_option maxRecDepth 20000 in
theorem ggL_law_X8_hole : GoodIn wsL_law wsX8_hole := goodIn_r _ [94, 95, 780, 781, 782, 783, 784, 785, 786, 787, 788, 789, 790, 791, 792, 793, 794, 795, 796, 797, 798, 799, 800, 801, 802, 803, 804, 805, 806] (by decide +kernel) (by decide +kernel)
set_option maxRecDepth 20000 in
theorem gL_law_X8_hole : GoodIn wsL_law (wsV RL 17 RX8 yX8_hole wsX8_hole) := goodIn_app (goodIn_of _ (by decide +kernel)) ggL_law_X8_hole
set_option maxRecDepth 20000 in
theorem ggL_law_X7_run : GoodIn wsL_law wsX7_run := goodIn_r _ [99, 100, 101, 102, 103, 104, 2, 105, 72, 13, 106, 107, 108, 109, 110, 111, 74, 112, 84, 113, 85, 114, 115, 116, 117, 118, 15, 119, 120, 121, 122, 123, 78, 124, 79, 125, 810, 811, 812, 813, 814, 815, 816, 817, 769, 770, 771, 772, 773, 774, 775, 776, 777, 778, 779, 818, 819, 820, 821, 822, 823, 824] (by decide +kernel) (by decide +kernel)
set_option maxRecDepth 20000 in
theorem gL_law_X7_run : GoodIn wsL_law (wsV RL 18 RX7 yX7_run wsX7_run) := goodIn_app (goodIn_of _ (by decide +kernel)) ggL_law_X7_run
set_option maxRecDepth 20000 in
theorem ggL_law_X8_run : GoodIn wsL_law wsX8_run := goodIn_r _ [129, 130, 45, 46, 47, 131, 132, 133, 5, 134, 95, 135, 136, 137, 138, 139, 140, 141, 52, 142, 56, 143, 144, 145, 146, 780, 781, 782, 783, 784, 785, 786, 787, 788, 789, 790, 791, 792, 793, 794, 795, 796, 797, 798, 799, 800, 801, 802, 803, 804, 805, 806] (by decide +kernel) (by decide +kernel)
set_option maxRecDepth 20000 in
theorem gL_law_X8_run : GoodIn wsL_law (wsV RL 22 RX8 yX8_run wsX8_run) := goodIn_app (goodIn_of _ (by decide +kernel)) ggL_law_X8_run
set_option maxRecDepth 20000 in
theorem ggL_law_X7_end : GoodIn wsL_law wsX7_end := goodIn_r _ [150, 101, 102, 103, 104, 2, 105, 72, 13, 810, 811, 812, 813, 814, 815, 816, 817, 769, 770, 771, 772, 773, 774, 775, 776, 777, 778, 779] (by decide +kernel) (by decide +kernel)
set_option maxRecDepth 20000 in
theorem gL_law_X7_end : GoodIn wsL_law (wsV RL 23 RX7 yX7_end wsX7_end) := goodIn_app (goodIn_of _ (by decide +kernel)) ggL_law_X7_end
set_option maxRecDepth 20000 in
theorem ggL_law_X8_end : GoodIn wsL_law wsX8_end := goodIn_r _ [154, 131, 132, 133, 5, 134, 95, 135, 136, 137, 143, 144, 145, 146, 45, 46, 780, 781, 782, 783, 784, 785, 786, 787, 788, 789, 790, 791, 792, 793, 794, 795, 796, 797, 798, 799, 800, 801, 802, 803, 804, 805, 806] (by decide +kernel) (by decide +kernel)
set_option maxRecDepth 20000 in
theorem gL_law_X8_end : GoodIn wsL_law (wsV RL 27 RX8 yX8_end wsX8_end) := goodIn_app (goodIn_of _ (by decide +kernel)) ggL_law_X8_end
set_option maxRecDepth 20000 in
theorem ggL_law_X7_recovered : GoodIn wsL_law wsX7_recovered := goodIn_r _ [158, 102, 103, 104, 2, 105, 72, 13, 159, 160, 161, 74, 162, 125, 163, 164, 165, 166, 124, 79, 78, 167, 168, 169, 170, 171, 172, 173, 174, 175, 769, 770, 771, 772, 773, 774, 775, 776, 777, 778, 779, 810, 811, 812, 813, 814, 815, 816, 817] (by decide +kernel) (by decide +kernel)
set_option maxRecDepth 20000 in
theorem gL_law_X7_recovered : GoodIn wsL_law (wsV RL 28 RX7 yX7_recovered wsX7_recovered) := goodIn_app (goodIn_of _ (by decide +kernel)) ggL_law_X7_recovered
set_option maxRecDepth 20000 in
theorem ggL_law_X8_recovered : GoodIn wsL_law wsX8_recovered := goodIn_r _ [179, 131, 132, 133, 5, 134, 95, 135, 136, 137, 180, 181, 182, 183, 143, 144, 145, 146, 45, 46, 184, 185, 186, 187, 47, 188, 189, 190, 780, 781, 782, 783, 784, 785, 786, 787, 788, 789, 790, 791, 792, 793, 794, 795, 796, 797, 798, 799, 800, 801, 802, 803, 804, 805, 806] (by decide +kernel) (by decide +kernel)
set_option maxRecDepth 20000 in
theorem gL_law_X8_recovered : GoodIn wsL_law (wsV RL 31 RX8 yX8_recovered wsX8_recovered) := goodIn_app (goodIn_of _ (by decide +kernel)) ggL_law_X8_recovered
set_option maxRecDepth 20000 in
theorem ggL_law_X7_mark : GoodIn wsL_law wsX7_mark := goodIn_r _ [194, 195, 196, 197, 102, 103, 104, 2, 105, 72, 13, 106, 107, 108, 810, 811, 812, 813, 814, 815, 816, 817, 769, 770, 771, 772, 773, 774, 775, 776, 777, 778, 779] (by decide +kernel) (by decide +kernel)
set_option maxRecDepth 20000 in
theorem gL_law_X7_mark : GoodIn wsL_law (wsV RL 32 RX7 yX7_mark wsX7_mark) := goodIn_app (goodIn_of _ (by decide +kernel)) ggL_law_X7_mark
set_option maxRecDepth 20000 in
theorem ggL_law_X8_mark : GoodIn wsL_law wsX8_mark := goodIn_r _ [201, 202, 48, 49, 131, 132, 133, 5, 134, 95, 135, 136, 137, 780, 781, 782, 783, 784, 785, 786, 787, 788, 789, 790, 791, 792, 793, 794, 795, 796, 797, 798, 799, 800, 801, 802, 803, 804, 805, 806] (by decide +kernel) (by decide +kernel)
set_option maxRecDepth 20000 in
theorem gL_law_X8_mark : GoodIn wsL_law (wsV RL 36 RX8 yX8_mark wsX8_mark) := goodIn_app (goodIn_of _ (by decide +kernel)) ggL_law_X8_mark
set_option maxRecDepth 20000 in
theorem ggL_law_X7_wrong : GoodIn wsL_law wsX7_wrong := goodIn_r _ [206, 196, 23, 102, 103, 104, 2, 105, 72, 13, 207, 208, 209, 22, 210, 211, 35, 212, 33, 213, 214, 215, 216, 217, 218, 174, 171, 175, 219, 220, 221, 222, 810, 811, 812, 813, 814, 815, 816, 817, 769, 770, 771, 772, 773, 774, 775, 776, 777, 778, 779, 807, 808] (by decide +kernel) (by decide +kernel)
set_option maxRecDepth 20000 in
theorem gL_law_X7_wrong : GoodIn wsL_law (wsV RL 37 RX7 yX7_wrong wsX7_wrong) := goodIn_app (goodIn_of _ (by decide +kernel)) ggL_law_X7_wrong
set_option maxRecDepth 20000 in
theorem ggL_law_X8_wrong : GoodIn wsL_law wsX8_wrong := goodIn_r _ [226, 48, 131, 132, 133, 5, 134, 95, 135, 136, 137, 227, 228, 229, 230, 49, 50, 51, 143, 144, 145, 146, 45, 46, 780, 781, 782, 783, 784, 785, 786, 787, 788, 789, 790, 791, 792, 793, 794, 795, 796, 797, 798, 799, 800, 801, 802, 803, 804, 805, 806] (by decide +kernel) (by decide +kernel)
set_option maxRecDepth 20000 in
theorem gL_law_X8_wrong : GoodIn wsL_law (wsV RL 40 RX8 yX8_wrong wsX8_wrong) := goodIn_app (goodIn_of _ (by decide +kernel)) ggL_law_X8_wrong
set_option maxRecDepth 20000 in
theorem ggL_law_X7_isWrong : GoodIn wsL_law wsX7_isWrong := goodIn_r _ [234, 196, 23, 235, 102, 103, 104, 2, 105, 72, 13, 207, 208, 209, 22, 210, 211, 35, 212, 33, 213, 214, 215, 216, 217, 218, 174, 171, 175, 219, 220, 221, 222, 810, 811, 812, 813, 814, 815, 816, 817, 769, 770, 771, 772, 773, 774, 775, 776, 777, 778, 779, 807, 808] (by decide +kernel) (by decide +kernel)
set_option maxRecDepth 20000 in
theorem gL_law_X7_isWrong : GoodIn wsL_law (wsV RL 41 RX7 yX7_isWrong wsX7_isWrong) := goodIn_app (goodIn_of _ (by decide +kernel)) ggL_law_X7_isWrong
set_option maxRecDepth 20000 in
theorem ggL_law_X8_isWrong : GoodIn wsL_law wsX8_isWrong := goodIn_r _ [239, 48, 51, 131, 132, 133, 5, 134, 95, 135, 136, 137, 227, 228, 229, 230, 49, 50, 143, 144, 145, 146, 45, 46, 780, 781, 782, 783, 784, 785, 786, 787, 788, 789, 790, 791, 792, 793, 794, 795, 796, 797, 798, 799, 800, 801, 802, 803, 804, 805, 806] (by decide +kernel) (by decide +kernel)
set_option maxRecDepth 20000 in
theorem gL_law_X8_isWrong : GoodIn wsL_law (wsV RL 44 RX8 yX8_isWrong wsX8_isWrong) := goodIn_app (goodIn_of _ (by decide +kernel)) ggL_law_X8_isWrong
set_option maxRecDepth 20000 in
theorem ggL_law_X7_layer : GoodIn wsL_law wsX7_layer := goodIn_r _ [243, 101, 244, 102, 103, 104, 2, 105, 72, 13, 245, 246, 247, 248, 249, 250, 251, 252, 253, 83, 254, 255, 256, 257, 258, 259, 89, 106, 107, 108, 260, 261, 262, 263, 264, 265, 266, 90, 810, 811, 812, 813, 814, 815, 816, 817, 818, 819, 820, 769, 770, 771, 772, 773, 774, 775, 776, 777, 778, 779] (by decide +kernel) (by decide +kernel)
set_option maxRecDepth 20000 in
theorem gL_law_X7_layer : GoodIn wsL_law (wsV RL 45 RX7 yX7_layer wsX7_layer) := goodIn_app (goodIn_of _ (by decide +kernel)) ggL_law_X7_layer
set_option maxRecDepth 20000 in
theorem ggL_law_X8_layer : GoodIn wsL_law wsX8_layer := goodIn_r _ [270, 52, 53, 271, 54, 131, 132, 133, 5, 134, 95, 135, 136, 137, 272, 273, 274, 143, 144, 145, 146, 45, 46, 780, 781, 782, 783, 784, 785, 786, 787, 788, 789, 790, 791, 792, 793, 794, 795, 796, 797, 798, 799, 800, 801, 802, 803, 804, 805, 806] (by decide +kernel) (by decide +kernel)
set_option maxRecDepth 20000 in
theorem gL_law_X8_layer : GoodIn wsL_law (wsV RL 49 RX8 yX8_layer wsX8_layer) := goodIn_app (goodIn_of _ (by decide +kernel)) ggL_law_X8_layer
set_option maxRecDepth 20000 in
theorem ggL_law_X7_code : GoodIn wsL_law wsX7_code := goodIn_r _ [278, 19, 260, 261, 2, 262, 106, 107, 108, 769, 770, 771, 772, 773, 774, 775, 776, 777, 778, 779] (by decide +kernel) (by decide +kernel)
set_option maxRecDepth 20000 in
theorem gL_law_X7_code : GoodIn wsL_law (wsV RL 50 RX7 yX7_code wsX7_code) := goodIn_app (goodIn_of _ (by decide +kernel)) ggL_law_X7_code
set_option maxRecDepth 20000 in
theorem ggL_law_X8_code : GoodIn wsL_law wsX8_code := goodIn_r _ [282, 271, 55, 135, 136, 5, 137, 780, 781, 782, 783, 784, 785, 786, 787, 788, 789, 790, 791, 792, 793, 794, 795, 796, 797, 798, 799, 800, 801, 802, 803, 804, 805, 806] (by decide +kernel) (by decide +kernel)
set_option maxRecDepth 20000 in
theorem gL_law_X8_code : GoodIn wsL_law (wsV RL 53 RX8 yX8_code wsX8_code) := goodIn_app (goodIn_of _ (by decide +kernel)) ggL_law_X8_code
