set_option maxRecDepth 20000 in
theorem ggL_law_X7_rock : GoodIn wsL_law wsX7_rock := goodIn_r _ [286, 19, 287, 245, 246, 247, 2, 248, 249, 250, 102, 103, 104, 105, 72, 13, 288, 289, 290, 83, 291, 255, 89, 256, 257, 258, 259, 769, 770, 771, 772, 773, 774, 775, 776, 777, 778, 779, 818, 819, 820, 810, 811, 812, 813, 814, 815, 816, 817] (by decide +kernel) (by decide +kernel)
set_option maxRecDepth 20000 in
theorem gL_law_X7_rock : GoodIn wsL_law (wsV RL 54 RX7 yX7_rock wsX7_rock) := goodIn_app (goodIn_of _ (by decide +kernel)) ggL_law_X7_rock
set_option maxRecDepth 20000 in
theorem ggL_law_X8_rock : GoodIn wsL_law wsX8_rock := goodIn_r _ [295, 52, 53, 131, 132, 133, 5, 134, 95, 135, 136, 137, 272, 273, 274, 296, 297, 298, 299, 300, 301, 302, 303, 55, 54, 780, 781, 782, 783, 784, 785, 786, 787, 788, 789, 790, 791, 792, 793, 794, 795, 796, 797, 798, 799, 800, 801, 802, 803, 804, 805, 806] (by decide +kernel) (by decide +kernel)
set_option maxRecDepth 20000 in
theorem gL_law_X8_rock : GoodIn wsL_law (wsV RL 57 RX8 yX8_rock wsX8_rock) := goodIn_app (goodIn_of _ (by decide +kernel)) ggL_law_X8_rock
set_option maxRecDepth 20000 in
theorem ggL_law_X7_agree : GoodIn wsL_law wsX7_agree := goodIn_r _ [307, 249, 250, 244, 19, 287, 308, 102, 103, 104, 2, 105, 72, 13, 309, 257, 258, 83, 259, 89, 310, 167, 168, 169, 170, 171, 172, 173, 174, 175, 810, 811, 812, 813, 814, 815, 816, 817, 818, 819, 820, 769, 770, 771, 772, 773, 774, 775, 776, 777, 778, 779] (by decide +kernel) (by decide +kernel)
set_option maxRecDepth 20000 in
theorem gL_law_X7_agree : GoodIn wsL_law (wsV RL 58 RX7 yX7_agree wsX7_agree) := goodIn_app (goodIn_of _ (by decide +kernel)) ggL_law_X7_agree
set_option maxRecDepth 20000 in
theorem ggL_law_X8_agree : GoodIn wsL_law wsX8_agree := goodIn_r _ [314, 52, 53, 131, 132, 133, 5, 134, 95, 135, 136, 137, 300, 301, 302, 303, 55, 54, 296, 297, 298, 299, 188, 189, 190, 780, 781, 782, 783, 784, 785, 786, 787, 788, 789, 790, 791, 792, 793, 794, 795, 796, 797, 798, 799, 800, 801, 802, 803, 804, 805, 806] (by decide +kernel) (by decide +kernel)
set_option maxRecDepth 20000 in
theorem gL_law_X8_agree : GoodIn wsL_law (wsV RL 61 RX8 yX8_agree wsX8_agree) := goodIn_app (goodIn_of _ (by decide +kernel)) ggL_law_X8_agree
set_option maxRecDepth 20000 in
theorem ggL_law_X7_sample : GoodIn wsL_law wsX7_sample := goodIn_r _ [318, 118, 15, 14, 319, 320, 102, 103, 104, 2, 105, 72, 13, 159, 160, 161, 74, 162, 125, 321, 322, 323, 324, 325, 326, 327, 328, 329, 330, 331, 167, 168, 169, 170, 171, 172, 173, 174, 175, 163, 164, 165, 166, 124, 79, 78, 332, 333, 334, 335, 10, 11, 336, 769, 770, 771, 772, 773, 774, 775, 776, 777, 778, 779, 821, 822, 823, 824, 810, 811, 812, 813, 814, 815, 816, 817] (by decide +kernel) (by decide +kernel)
set_option maxRecDepth 20000 in
theorem gL_law_X7_sample : GoodIn wsL_law (wsV RL 62 RX7 yX7_sample wsX7_sample) := goodIn_app (goodIn_of _ (by decide +kernel)) ggL_law_X7_sample
set_option maxRecDepth 20000 in
theorem ggL_law_X8_sample : GoodIn wsL_law wsX8_sample := goodIn_r _ [340, 142, 56, 57, 58, 59, 131, 132, 133, 5, 134, 95, 135, 136, 137, 180, 181, 182, 183, 143, 144, 145, 146, 45, 46, 184, 185, 186, 187, 47, 188, 189, 190, 780, 781, 782, 783, 784, 785, 786, 787, 788, 789, 790, 791, 792, 793, 794, 795, 796, 797, 798, 799, 800, 801, 802, 803, 804, 805, 806] (by decide +kernel) (by decide +kernel)
set_option maxRecDepth 20000 in
theorem gL_law_X8_sample : GoodIn wsL_law (wsV RL 65 RX8 yX8_sample wsX8_sample) := goodIn_app (goodIn_of _ (by decide +kernel)) ggL_law_X8_sample
set_option maxRecDepth 20000 in
theorem ggL_law_X7_left : GoodIn wsL_law wsX7_left := goodIn_r _ [344, 345, 346, 347, 348, 2, 349, 118, 15, 821, 822, 823, 824, 769, 770, 771, 772, 773, 774, 775, 776, 777, 778, 779] (by decide +kernel) (by decide +kernel)
set_option maxRecDepth 20000 in
theorem gL_law_X7_left : GoodIn wsL_law (wsV RL 66 RX7 yX7_left wsX7_left) := goodIn_app (goodIn_of _ (by decide +kernel)) ggL_law_X7_left
set_option maxRecDepth 20000 in
theorem ggL_law_X8_left : GoodIn wsL_law wsX8_left := goodIn_r _ [353, 59, 354, 355, 356, 5, 357, 142, 135, 136, 137, 780, 781, 782, 783, 784, 785, 786, 787, 788, 789, 790, 791, 792, 793, 794, 795, 796, 797, 798, 799, 800, 801, 802, 803, 804, 805, 806] (by decide +kernel) (by decide +kernel)
set_option maxRecDepth 20000 in
theorem gL_law_X8_left : GoodIn wsL_law (wsV RL 69 RX8 yX8_left wsX8_left) := goodIn_app (goodIn_of _ (by decide +kernel)) ggL_law_X8_left
set_option maxRecDepth 20000 in
theorem ggL_law_X7_batch : GoodIn wsL_law wsX7_batch := goodIn_r _ [361, 362, 17, 16, 363, 364, 365, 366, 367, 10, 11, 368, 369, 769, 770, 771, 772, 773, 774, 775, 776, 777, 778, 779, 825, 826] (by decide +kernel) (by decide +kernel)
set_option maxRecDepth 20000 in
theorem gL_law_X7_batch : GoodIn wsL_law (wsV RL 70 RX7 yX7_batch wsX7_batch) := goodIn_app (goodIn_of _ (by decide +kernel)) ggL_law_X7_batch
set_option maxRecDepth 20000 in
theorem ggL_law_X8_batch : GoodIn wsL_law wsX8_batch := goodIn_r _ [373, 374, 780, 781, 782, 783, 784, 785, 786, 787, 788, 789, 790, 791, 792, 793, 794, 795, 796, 797, 798, 799, 800, 801, 802, 803, 804, 805, 806] (by decide +kernel) (by decide +kernel)
set_option maxRecDepth 20000 in
theorem gL_law_X8_batch : GoodIn wsL_law (wsV RL 73 RX8 yX8_batch wsX8_batch) := goodIn_app (goodIn_of _ (by decide +kernel)) ggL_law_X8_batch
set_option maxRecDepth 20000 in
theorem ggL_law_X7_put : GoodIn wsL_law wsX7_put := goodIn_r _ [378, 379, 380, 381, 2, 382, 362, 17, 346, 347, 348, 349, 118, 15, 383, 384, 385, 364, 386, 387, 369, 388, 389, 390, 391, 392, 345, 393, 394, 395, 396, 397, 398, 399, 400, 401, 402, 403, 404, 405, 406, 407, 408, 409, 10, 11, 410, 411, 412, 769, 770, 771, 772, 773, 774, 775, 776, 777, 778, 779, 825, 826, 827, 828, 829, 830, 831, 821, 822, 823, 824] (by decide +kernel) (by decide +kernel)
set_option maxRecDepth 20000 in
theorem gL_law_X7_put : GoodIn wsL_law (wsV RL 74 RX7 yX7_put wsX7_put) := goodIn_app (goodIn_of _ (by decide +kernel)) ggL_law_X7_put
set_option maxRecDepth 20000 in
theorem ggL_law_X8_put : GoodIn wsL_law wsX8_put := goodIn_r _ [416, 59, 417, 418, 419, 5, 420, 374, 135, 136, 137, 354, 355, 356, 357, 142, 421, 422, 423, 424, 60, 64, 425, 426, 427, 428, 61, 62, 429, 430, 431, 432, 63, 433, 434, 435, 436, 437, 780, 781, 782, 783, 784, 785, 786, 787, 788, 789, 790, 791, 792, 793, 794, 795, 796, 797, 798, 799, 800, 801, 802, 803, 804, 805, 806] (by decide +kernel) (by decide +kernel)
set_option maxRecDepth 20000 in
theorem gL_law_X8_put : GoodIn wsL_law (wsV RL 77 RX8 yX8_put wsX8_put) := goodIn_app (goodIn_of _ (by decide +kernel)) ggL_law_X8_put
set_option maxRecDepth 20000 in
theorem ggL_law_X7_standard : GoodIn wsL_law wsX7_standard := goodIn_r _ [441, 195, 379, 380, 381, 2, 382, 362, 17, 106, 107, 108, 393, 394, 395, 396, 397, 398, 399, 400, 401, 402, 403, 364, 404, 387, 369, 405, 406, 407, 408, 409, 10, 11, 410, 411, 412, 769, 770, 771, 772, 773, 774, 775, 776, 777, 778, 779, 825, 826, 827, 828, 829, 830, 831] (by decide +kernel) (by decide +kernel)
set_option maxRecDepth 20000 in
theorem gL_law_X7_standard : GoodIn wsL_law (wsV RL 78 RX7 yX7_standard wsX7_standard) := goodIn_app (goodIn_of _ (by decide +kernel)) ggL_law_X7_standard
set_option maxRecDepth 20000 in
theorem ggL_law_X8_standard : GoodIn wsL_law wsX8_standard := goodIn_r _ [445, 202, 446, 417, 418, 419, 5, 420, 374, 135, 136, 137, 421, 422, 423, 424, 60, 64, 429, 430, 431, 432, 61, 62, 63, 780, 781, 782, 783, 784, 785, 786, 787, 788, 789, 790, 791, 792, 793, 794, 795, 796, 797, 798, 799, 800, 801, 802, 803, 804, 805, 806] (by decide +kernel) (by decide +kernel)
set_option maxRecDepth 20000 in
theorem gL_law_X8_standard : GoodIn wsL_law (wsV RL 81 RX8 yX8_standard wsX8_standard) := goodIn_app (goodIn_of _ (by decide +kernel)) ggL_law_X8_standard
set_option maxRecDepth 20000 in
theorem ggL_law_X7_blank : GoodIn wsL_law wsX7_blank := goodIn_r _ [450, 379, 380, 381, 2, 382, 362, 17, 393, 394, 395, 396, 397, 398, 399, 400, 401, 402, 403, 364, 404, 387, 369, 405, 406, 407, 408, 409, 10, 11, 410, 411, 412, 769, 770, 771, 772, 773, 774, 775, 776, 777, 778, 779, 825, 826, 827, 828, 829, 830, 831] (by decide +kernel) (by decide +kernel)
set_option maxRecDepth 20000 in
theorem gL_law_X7_blank : GoodIn wsL_law (wsV RL 82 RX7 yX7_blank wsX7_blank) := goodIn_app (goodIn_of _ (by decide +kernel)) ggL_law_X7_blank
set_option maxRecDepth 20000 in
theorem ggL_law_X8_blank : GoodIn wsL_law wsX8_blank := goodIn_r _ [454, 417, 418, 419, 5, 420, 374, 135, 136, 137, 421, 422, 423, 424, 60, 64, 429, 430, 431, 432, 61, 62, 63, 780, 781, 782, 783, 784, 785, 786, 787, 788, 789, 790, 791, 792, 793, 794, 795, 796, 797, 798, 799, 800, 801, 802, 803, 804, 805, 806] (by decide +kernel) (by decide +kernel)
set_option maxRecDepth 20000 in
theorem gL_law_X8_blank : GoodIn wsL_law (wsV RL 85 RX8 yX8_blank wsX8_blank) := goodIn_app (goodIn_of _ (by decide +kernel)) ggL_law_X8_blank
