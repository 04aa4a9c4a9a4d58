set_option maxRecDepth 20000 in
theorem ggL_law_X7_grade : GoodIn wsL_law wsX7_grade := goodIn_r _ [621, 346, 347, 348, 2, 349, 118, 15, 622, 623, 624, 625, 362, 17, 28, 29, 383, 384, 385, 364, 386, 387, 369, 388, 389, 500, 501, 502, 503, 504, 497, 498, 499, 405, 505, 506, 507, 508, 509, 510, 511, 512, 513, 514, 171, 515, 516, 517, 518, 519, 400, 520, 521, 522, 174, 175, 523, 524, 525, 526, 527, 528, 529, 530, 626, 627, 628, 629, 630, 631, 769, 770, 771, 772, 773, 774, 775, 776, 777, 778, 779, 825, 826, 827, 828, 829, 830, 831] (by decide +kernel) (by decide +kernel)
set_option maxRecDepth 20000 in
theorem gL_law_X7_grade : GoodIn wsL_law (wsV RL 118 RX7 yX7_grade wsX7_grade) := goodIn_app (goodIn_of _ (by decide +kernel)) ggL_law_X7_grade
set_option maxRecDepth 20000 in
theorem ggL_law_X8_grade : GoodIn wsL_law wsX8_grade := goodIn_r _ [635, 354, 355, 356, 5, 357, 142, 135, 136, 137, 636, 637, 638, 639, 374, 425, 426, 427, 428, 60, 61, 62, 539, 540, 541, 542, 535, 536, 537, 538, 64, 543, 544, 545, 546, 547, 548, 549, 550, 63, 66, 130, 551, 552, 553, 554, 65, 555, 556, 557, 558, 559, 560, 561, 780, 781, 782, 783, 784, 785, 786, 787, 788, 789, 790, 791, 792, 793, 794, 795, 796, 797, 798, 799, 800, 801, 802, 803, 804, 805, 806] (by decide +kernel) (by decide +kernel)
set_option maxRecDepth 20000 in
theorem gL_law_X8_grade : GoodIn wsL_law (wsV RL 121 RX8 yX8_grade wsX8_grade) := goodIn_app (goodIn_of _ (by decide +kernel)) ggL_law_X8_grade
set_option maxRecDepth 20000 in
theorem ggL_law_X7_composite : GoodIn wsL_law wsX7_composite := goodIn_r _ [643, 644, 195, 645, 118, 15, 169, 170, 171, 172, 102, 103, 104, 2, 105, 72, 13, 159, 160, 161, 74, 162, 125, 106, 107, 108, 325, 326, 327, 320, 328, 329, 330, 331, 167, 168, 173, 174, 175, 622, 623, 624, 625, 362, 17, 28, 29, 383, 384, 385, 364, 386, 387, 369, 388, 389, 500, 501, 502, 503, 504, 497, 498, 499, 405, 505, 506, 507, 508, 509, 510, 511, 512, 513, 514, 515, 516, 517, 518, 519, 400, 520, 521, 522, 523, 524, 525, 526, 527, 528, 529, 530, 626, 627, 628, 629, 630, 631, 769, 770, 771, 772, 773, 774, 775, 776, 777, 778, 779, 810, 811, 812, 813, 814, 815, 816, 817, 821, 822, 823, 824, 825, 826, 827, 828, 829, 830, 831] (by decide +kernel) (by decide +kernel)
set_option maxRecDepth 20000 in
theorem gL_law_X7_composite : GoodIn wsL_law (wsV RL 122 RX7 yX7_composite wsX7_composite) := goodIn_app (goodIn_of _ (by decide +kernel)) ggL_law_X7_composite
set_option maxRecDepth 20000 in
theorem ggL_law_X8_composite : GoodIn wsL_law wsX8_composite := goodIn_r _ [649, 650, 202, 651, 652, 142, 56, 57, 58, 131, 132, 133, 5, 134, 95, 135, 136, 137, 180, 181, 182, 183, 143, 144, 145, 146, 45, 46, 636, 637, 638, 639, 374, 425, 426, 427, 428, 60, 61, 62, 539, 540, 541, 542, 535, 536, 537, 538, 64, 543, 544, 545, 546, 547, 548, 549, 550, 63, 66, 130, 551, 552, 553, 554, 65, 555, 556, 557, 558, 559, 560, 561, 188, 189, 190, 780, 781, 782, 783, 784, 785, 786, 787, 788, 789, 790, 791, 792, 793, 794, 795, 796, 797, 798, 799, 800, 801, 802, 803, 804, 805, 806] (by decide +kernel) (by decide +kernel)
set_option maxRecDepth 20000 in
theorem gL_law_X8_composite : GoodIn wsL_law (wsV RL 126 RX8 yX8_composite wsX8_composite) := goodIn_app (goodIn_of _ (by decide +kernel)) ggL_law_X8_composite
set_option maxRecDepth 20000 in
theorem ggL_law_X7_cost : GoodIn wsL_law wsX7_cost := goodIn_r _ [656, 27, 249, 19, 657, 102, 103, 104, 2, 105, 72, 13, 658, 659, 660, 26, 661, 662, 40, 663, 664, 665, 666, 667, 170, 171, 172, 668, 252, 253, 83, 254, 255, 256, 257, 258, 259, 89, 669, 670, 671, 672, 673, 674, 675, 676, 677, 678, 679, 680, 681, 682, 514, 515, 769, 770, 771, 772, 773, 774, 775, 776, 777, 778, 779, 810, 811, 812, 813, 814, 815, 816, 817, 809, 818, 819, 820] (by decide +kernel) (by decide +kernel)
set_option maxRecDepth 20000 in
theorem gL_law_X7_cost : GoodIn wsL_law (wsV RL 127 RX7 yX7_cost wsX7_cost) := goodIn_app (goodIn_of _ (by decide +kernel)) ggL_law_X7_cost
set_option maxRecDepth 20000 in
theorem ggL_law_X8_cost : GoodIn wsL_law wsX8_cost := goodIn_r _ [686, 67, 131, 132, 133, 5, 134, 95, 135, 136, 137, 687, 688, 689, 690, 52, 691, 692, 693, 694, 695, 53, 296, 297, 298, 299, 696, 697, 698, 699, 300, 301, 302, 303, 55, 54, 700, 701, 702, 703, 555, 556, 557, 780, 781, 782, 783, 784, 785, 786, 787, 788, 789, 790, 791, 792, 793, 794, 795, 796, 797, 798, 799, 800, 801, 802, 803, 804, 805, 806] (by decide +kernel) (by decide +kernel)
set_option maxRecDepth 20000 in
theorem gL_law_X8_cost : GoodIn wsL_law (wsV RL 130 RX8 yX8_cost wsX8_cost) := goodIn_app (goodIn_of _ (by decide +kernel)) ggL_law_X8_cost
set_option maxRecDepth 20000 in
theorem ggL_law_X7_matched : GoodIn wsL_law wsX7_matched := goodIn_r _ [707, 249, 244, 27, 19, 102, 103, 104, 2, 105, 72, 13, 658, 659, 660, 26, 661, 662, 40, 663, 664, 665, 666, 667, 170, 171, 172, 668, 252, 253, 83, 254, 255, 256, 257, 258, 259, 89, 669, 670, 671, 672, 673, 674, 675, 676, 677, 678, 679, 680, 681, 682, 514, 515, 708, 709, 710, 711, 712, 713, 714, 715, 810, 811, 812, 813, 814, 815, 816, 817, 818, 819, 820, 769, 770, 771, 772, 773, 774, 775, 776, 777, 778, 779, 809] (by decide +kernel) (by decide +kernel)
set_option maxRecDepth 20000 in
theorem gL_law_X7_matched : GoodIn wsL_law (wsV RL 131 RX7 yX7_matched wsX7_matched) := goodIn_app (goodIn_of _ (by decide +kernel)) ggL_law_X7_matched
set_option maxRecDepth 20000 in
theorem ggL_law_X8_matched : GoodIn wsL_law wsX8_matched := goodIn_r _ [719, 52, 67, 131, 132, 133, 5, 134, 95, 135, 136, 137, 687, 688, 689, 690, 691, 692, 693, 694, 695, 53, 296, 297, 298, 299, 696, 697, 698, 699, 300, 301, 302, 303, 55, 54, 700, 701, 702, 703, 555, 556, 557, 780, 781, 782, 783, 784, 785, 786, 787, 788, 789, 790, 791, 792, 793, 794, 795, 796, 797, 798, 799, 800, 801, 802, 803, 804, 805, 806] (by decide +kernel) (by decide +kernel)
set_option maxRecDepth 20000 in
theorem gL_law_X8_matched : GoodIn wsL_law (wsV RL 134 RX8 yX8_matched wsX8_matched) := goodIn_app (goodIn_of _ (by decide +kernel)) ggL_law_X8_matched
set_option maxRecDepth 20000 in
theorem ggL_law_X7_count : GoodIn wsL_law wsX7_count := goodIn_r _ [723, 72, 118, 362, 724, 725, 726, 2, 727, 15, 345, 728, 729, 730, 731, 17, 28, 29, 500, 501, 502, 364, 503, 504, 497, 498, 499, 387, 369, 405, 505, 506, 507, 508, 509, 510, 511, 512, 388, 389, 513, 514, 171, 515, 516, 517, 518, 519, 400, 520, 521, 522, 174, 175, 523, 524, 525, 526, 527, 528, 529, 530, 769, 770, 771, 772, 773, 774, 775, 776, 777, 778, 779, 821, 822, 823, 824, 825, 826, 827, 828, 829, 830, 831] (by decide +kernel) (by decide +kernel)
set_option maxRecDepth 20000 in
theorem gL_law_X7_count : GoodIn wsL_law (wsV RL 135 RX7 yX7_count wsX7_count) := goodIn_app (goodIn_of _ (by decide +kernel)) ggL_law_X7_count
set_option maxRecDepth 20000 in
theorem ggL_law_X8_count : GoodIn wsL_law wsX8_count := goodIn_r _ [735, 95, 142, 374, 437, 539, 540, 541, 5, 542, 535, 536, 537, 538, 60, 64, 543, 544, 545, 546, 547, 548, 549, 550, 61, 62, 63, 66, 130, 551, 552, 553, 554, 65, 555, 556, 557, 558, 559, 560, 561, 780, 781, 782, 783, 784, 785, 786, 787, 788, 789, 790, 791, 792, 793, 794, 795, 796, 797, 798, 799, 800, 801, 802, 803, 804, 805, 806] (by decide +kernel) (by decide +kernel)
set_option maxRecDepth 20000 in
theorem gL_law_X8_count : GoodIn wsL_law (wsV RL 138 RX8 yX8_count wsX8_count) := goodIn_app (goodIn_of _ (by decide +kernel)) ggL_law_X8_count
set_option maxRecDepth 20000 in
theorem ggL_law_X7_digest : GoodIn wsL_law wsX7_digest := goodIn_r _ [739, 740, 72, 13, 19, 118, 15, 362, 17, 28, 29, 741, 742, 743, 74, 744, 124, 78, 79, 745, 80, 85, 84, 746, 2, 747, 748, 749, 750, 751, 83, 752, 255, 89, 90, 753, 754, 755, 756, 320, 757, 329, 330, 331, 336, 758, 759, 760, 364, 761, 387, 369, 762, 606, 607, 400, 608, 410, 411, 412, 609, 521, 769, 770, 771, 772, 773, 774, 775, 776, 777, 778, 779, 810, 811, 812, 813, 814, 815, 816, 817, 818, 819, 820, 821, 822, 823, 824, 825, 826, 827, 828, 829, 830, 831] (by decide +kernel) (by decide +kernel)
set_option maxRecDepth 20000 in
theorem gL_law_X7_digest : GoodIn wsL_law (wsV RL 139 RX7 yX7_digest wsX7_digest) := goodIn_app (goodIn_of _ (by decide +kernel)) ggL_law_X7_digest
set_option maxRecDepth 20000 in
theorem ggL_law_X8_digest : GoodIn wsL_law wsX8_digest := goodIn_r _ [766, 767, 95, 45, 768, 46, 47, 48, 49, 52, 53, 54, 55, 142, 56, 57, 58, 59, 374, 60, 66, 614, 615, 616, 5, 617, 61, 62, 63, 64, 65, 780, 781, 782, 783, 784, 785, 786, 787, 788, 789, 790, 791, 792, 793, 794, 795, 796, 797, 798, 799, 800, 801, 802, 803, 804, 805, 806] (by decide +kernel) (by decide +kernel)
set_option maxRecDepth 20000 in
theorem gL_law_X8_digest : GoodIn wsL_law (wsV RL 143 RX8 yX8_digest wsX8_digest) := goodIn_app (goodIn_of _ (by decide +kernel)) ggL_law_X8_digest
