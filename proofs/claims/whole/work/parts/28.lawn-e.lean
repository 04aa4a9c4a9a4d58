set_option maxRecDepth 20000 in
theorem ggL_law_X7_twice : GoodIn wsL_law wsX7_twice := goodIn_r _ [458, 459, 460, 379, 380, 381, 2, 382, 362, 17, 461, 462, 463, 464, 396, 397, 346, 347, 348, 349, 118, 15, 390, 391, 392, 345, 393, 394, 395, 398, 399, 400, 401, 402, 403, 364, 404, 387, 369, 405, 406, 407, 408, 409, 10, 11, 410, 411, 412, 827, 828, 829, 830, 831, 769, 770, 771, 772, 773, 774, 775, 776, 777, 778, 779, 825, 826, 821, 822, 823, 824] (by decide +kernel) (by decide +kernel)
set_option maxRecDepth 20000 in
theorem gL_law_X7_twice : GoodIn wsL_law (wsV RL 86 RX7 yX7_twice wsX7_twice) := goodIn_app (goodIn_of _ (by decide +kernel)) ggL_law_X7_twice
set_option maxRecDepth 20000 in
theorem ggL_law_X8_twice : GoodIn wsL_law wsX8_twice := goodIn_r _ [468, 61, 62, 59, 469, 470, 471, 5, 472, 60, 417, 418, 419, 420, 374, 135, 136, 137, 421, 422, 423, 424, 64, 429, 430, 431, 432, 63, 433, 434, 435, 436, 437, 780, 781, 782, 783, 784, 785, 786, 787, 788, 789, 790, 791, 792, 793, 794, 795, 796, 797, 798, 799, 800, 801, 802, 803, 804, 805, 806] (by decide +kernel) (by decide +kernel)
set_option maxRecDepth 20000 in
theorem gL_law_X8_twice : GoodIn wsL_law (wsV RL 89 RX8 yX8_twice wsX8_twice) := goodIn_app (goodIn_of _ (by decide +kernel)) ggL_law_X8_twice
set_option maxRecDepth 20000 in
theorem ggL_law_X7_law : GoodIn wsL_law wsX7_law := goodIn_r _ [476, 28, 29, 106, 107, 2, 108, 769, 770, 771, 772, 773, 774, 775, 776, 777, 778, 779] (by decide +kernel) (by decide +kernel)
set_option maxRecDepth 20000 in
theorem gL_law_X7_law : GoodIn wsL_law (wsV RL 90 RX7 yX7_law wsX7_law) := goodIn_app (goodIn_of _ (by decide +kernel)) ggL_law_X7_law
set_option maxRecDepth 20000 in
theorem ggL_law_X8_law : GoodIn wsL_law wsX8_law := goodIn_r _ [480, 130, 66, 135, 136, 5, 137, 780, 781, 782, 783, 784, 785, 786, 787, 788, 789, 790, 791, 792, 793, 794, 795, 796, 797, 798, 799, 800, 801, 802, 803, 804, 805, 806] (by decide +kernel) (by decide +kernel)
set_option maxRecDepth 20000 in
theorem gL_law_X8_law : GoodIn wsL_law (wsV RL 93 RX8 yX8_law wsX8_law) := goodIn_app (goodIn_of _ (by decide +kernel)) ggL_law_X8_law
set_option maxRecDepth 20000 in
theorem ggL_law_X7_result : GoodIn wsL_law wsX7_result := goodIn_r _ [484, 195, 485, 486, 461, 462, 463, 2, 464, 396, 397, 379, 380, 381, 382, 362, 17, 106, 107, 108, 827, 828, 829, 830, 831, 825, 826, 769, 770, 771, 772, 773, 774, 775, 776, 777, 778, 779] (by decide +kernel) (by decide +kernel)
set_option maxRecDepth 20000 in
theorem gL_law_X7_result : GoodIn wsL_law (wsV RL 94 RX7 yX7_result wsX7_result) := goodIn_app (goodIn_of _ (by decide +kernel)) ggL_law_X7_result
set_option maxRecDepth 20000 in
theorem ggL_law_X8_result : GoodIn wsL_law wsX8_result := goodIn_r _ [490, 491, 202, 65, 64, 469, 470, 471, 5, 472, 60, 417, 418, 419, 420, 374, 135, 136, 137, 780, 781, 782, 783, 784, 785, 786, 787, 788, 789, 790, 791, 792, 793, 794, 795, 796, 797, 798, 799, 800, 801, 802, 803, 804, 805, 806] (by decide +kernel) (by decide +kernel)
set_option maxRecDepth 20000 in
theorem gL_law_X8_result : GoodIn wsL_law (wsV RL 97 RX8 yX8_result wsX8_result) := goodIn_app (goodIn_of _ (by decide +kernel)) ggL_law_X8_result
set_option maxRecDepth 20000 in
theorem ggL_law_X7_sound : GoodIn wsL_law wsX7_sound := goodIn_r _ [495, 28, 29, 379, 380, 381, 2, 382, 362, 17, 496, 497, 498, 364, 499, 387, 369, 405, 500, 501, 502, 503, 504, 505, 506, 507, 508, 509, 510, 511, 512, 388, 389, 513, 514, 171, 515, 516, 517, 518, 519, 400, 520, 521, 522, 174, 175, 523, 524, 525, 526, 527, 528, 529, 530, 769, 770, 771, 772, 773, 774, 775, 776, 777, 778, 779, 825, 826, 827, 828, 829, 830, 831] (by decide +kernel) (by decide +kernel)
set_option maxRecDepth 20000 in
theorem gL_law_X7_sound : GoodIn wsL_law (wsV RL 98 RX7 yX7_sound wsX7_sound) := goodIn_app (goodIn_of _ (by decide +kernel)) ggL_law_X7_sound
set_option maxRecDepth 20000 in
theorem ggL_law_X8_sound : GoodIn wsL_law wsX8_sound := goodIn_r _ [534, 417, 418, 419, 5, 420, 374, 135, 136, 137, 535, 536, 537, 538, 60, 64, 539, 540, 541, 542, 543, 544, 545, 546, 547, 548, 549, 550, 61, 62, 63, 66, 130, 551, 552, 553, 554, 65, 555, 556, 557, 558, 559, 560, 561, 780, 781, 782, 783, 784, 785, 786, 787, 788, 789, 790, 791, 792, 793, 794, 795, 796, 797, 798, 799, 800, 801, 802, 803, 804, 805, 806] (by decide +kernel) (by decide +kernel)
set_option maxRecDepth 20000 in
theorem gL_law_X8_sound : GoodIn wsL_law (wsV RL 101 RX8 yX8_sound wsX8_sound) := goodIn_app (goodIn_of _ (by decide +kernel)) ggL_law_X8_sound
set_option maxRecDepth 20000 in
theorem ggL_law_X7_fault : GoodIn wsL_law wsX7_fault := goodIn_r _ [565, 28, 29, 379, 380, 381, 2, 382, 362, 17, 496, 497, 498, 364, 499, 387, 369, 405, 566, 506, 507, 508, 509, 510, 511, 512, 388, 389, 513, 514, 171, 515, 516, 517, 518, 519, 400, 520, 521, 522, 174, 175, 523, 524, 525, 526, 527, 528, 529, 530, 769, 770, 771, 772, 773, 774, 775, 776, 777, 778, 779, 825, 826, 827, 828, 829, 830, 831] (by decide +kernel) (by decide +kernel)
set_option maxRecDepth 20000 in
theorem gL_law_X7_fault : GoodIn wsL_law (wsV RL 102 RX7 yX7_fault wsX7_fault) := goodIn_app (goodIn_of _ (by decide +kernel)) ggL_law_X7_fault
set_option maxRecDepth 20000 in
theorem ggL_law_X8_fault : GoodIn wsL_law wsX8_fault := goodIn_r _ [570, 417, 418, 419, 5, 420, 374, 135, 136, 137, 535, 536, 537, 538, 60, 64, 543, 544, 545, 546, 547, 548, 549, 550, 61, 62, 63, 66, 130, 551, 552, 553, 554, 65, 555, 556, 557, 558, 559, 560, 561, 780, 781, 782, 783, 784, 785, 786, 787, 788, 789, 790, 791, 792, 793, 794, 795, 796, 797, 798, 799, 800, 801, 802, 803, 804, 805, 806] (by decide +kernel) (by decide +kernel)
set_option maxRecDepth 20000 in
theorem gL_law_X8_fault : GoodIn wsL_law (wsV RL 105 RX8 yX8_fault wsX8_fault) := goodIn_app (goodIn_of _ (by decide +kernel)) ggL_law_X8_fault
set_option maxRecDepth 20000 in
theorem ggL_law_X7_swap : GoodIn wsL_law wsX7_swap := goodIn_r _ [574, 28, 29, 379, 380, 381, 2, 382, 362, 17, 496, 497, 498, 364, 499, 387, 369, 405, 500, 501, 502, 503, 504, 505, 506, 507, 508, 509, 510, 511, 512, 388, 389, 513, 514, 171, 515, 516, 517, 518, 519, 400, 520, 521, 522, 174, 175, 523, 524, 525, 526, 527, 528, 529, 530, 575, 576, 577, 578, 579, 580, 581, 582, 583, 769, 770, 771, 772, 773, 774, 775, 776, 777, 778, 779, 825, 826, 827, 828, 829, 830, 831] (by decide +kernel) (by decide +kernel)
set_option maxRecDepth 20000 in
theorem gL_law_X7_swap : GoodIn wsL_law (wsV RL 106 RX7 yX7_swap wsX7_swap) := goodIn_app (goodIn_of _ (by decide +kernel)) ggL_law_X7_swap
set_option maxRecDepth 20000 in
theorem ggL_law_X8_swap : GoodIn wsL_law wsX8_swap := goodIn_r _ [587, 60, 417, 418, 419, 5, 420, 374, 135, 136, 137, 535, 536, 537, 538, 64, 539, 540, 541, 542, 543, 544, 545, 546, 547, 548, 549, 550, 61, 62, 63, 66, 130, 551, 552, 553, 554, 65, 555, 556, 557, 558, 559, 560, 561, 588, 589, 590, 591, 780, 781, 782, 783, 784, 785, 786, 787, 788, 789, 790, 791, 792, 793, 794, 795, 796, 797, 798, 799, 800, 801, 802, 803, 804, 805, 806] (by decide +kernel) (by decide +kernel)
set_option maxRecDepth 20000 in
theorem gL_law_X8_swap : GoodIn wsL_law (wsV RL 109 RX8 yX8_swap wsX8_swap) := goodIn_app (goodIn_of _ (by decide +kernel)) ggL_law_X8_swap
set_option maxRecDepth 20000 in
theorem ggL_law_X7_exchange : GoodIn wsL_law wsX7_exchange := goodIn_r _ [595, 485, 461, 462, 463, 2, 464, 396, 397, 379, 380, 381, 382, 362, 17, 596, 580, 581, 400, 582, 521, 827, 828, 829, 830, 831, 825, 826, 769, 770, 771, 772, 773, 774, 775, 776, 777, 778, 779] (by decide +kernel) (by decide +kernel)
set_option maxRecDepth 20000 in
theorem gL_law_X7_exchange : GoodIn wsL_law (wsV RL 110 RX7 yX7_exchange wsX7_exchange) := goodIn_app (goodIn_of _ (by decide +kernel)) ggL_law_X7_exchange
set_option maxRecDepth 20000 in
theorem ggL_law_X8_exchange : GoodIn wsL_law wsX8_exchange := goodIn_r _ [600, 64, 469, 470, 471, 5, 472, 60, 417, 418, 419, 420, 374, 135, 136, 137, 588, 589, 590, 591, 65, 780, 781, 782, 783, 784, 785, 786, 787, 788, 789, 790, 791, 792, 793, 794, 795, 796, 797, 798, 799, 800, 801, 802, 803, 804, 805, 806] (by decide +kernel) (by decide +kernel)
set_option maxRecDepth 20000 in
theorem gL_law_X8_exchange : GoodIn wsL_law (wsV RL 113 RX8 yX8_exchange wsX8_exchange) := goodIn_app (goodIn_of _ (by decide +kernel)) ggL_law_X8_exchange
set_option maxRecDepth 20000 in
theorem ggL_law_X7_about : GoodIn wsL_law wsX7_about := goodIn_r _ [604, 461, 462, 463, 2, 464, 396, 397, 379, 380, 381, 382, 362, 17, 106, 107, 108, 605, 606, 607, 400, 608, 410, 411, 412, 609, 521, 825, 826, 769, 770, 771, 772, 773, 774, 775, 776, 777, 778, 779, 827, 828, 829, 830, 831] (by decide +kernel) (by decide +kernel)
set_option maxRecDepth 20000 in
theorem gL_law_X7_about : GoodIn wsL_law (wsV RL 114 RX7 yX7_about wsX7_about) := goodIn_app (goodIn_of _ (by decide +kernel)) ggL_law_X7_about
set_option maxRecDepth 20000 in
theorem ggL_law_X8_about : GoodIn wsL_law wsX8_about := goodIn_r _ [613, 469, 470, 471, 5, 472, 60, 417, 418, 419, 420, 374, 135, 136, 137, 614, 615, 616, 617, 61, 62, 63, 64, 65, 780, 781, 782, 783, 784, 785, 786, 787, 788, 789, 790, 791, 792, 793, 794, 795, 796, 797, 798, 799, 800, 801, 802, 803, 804, 805, 806] (by decide +kernel) (by decide +kernel)
set_option maxRecDepth 20000 in
theorem gL_law_X8_about : GoodIn wsL_law (wsV RL 117 RX8 yX8_about wsX8_about) := goodIn_app (goodIn_of _ (by decide +kernel)) ggL_law_X8_about
