set_option maxRecDepth 20000 in
theorem gL_law_X5_wish : GoodIn wsL_law (wsV RL 75 RX5 yX5_wish wsX5_wish) := goodIn_app (goodIn_of _ (by decide +kernel)) ggL_law_X5_wish
set_option maxRecDepth 20000 in
theorem ggL_law_X6_wish : GoodIn wsL_law wsX6_wish := goodIn_r _ [558, 196, 193, 84, 201, 377, 205, 206, 207, 5, 208, 209, 198, 199, 200, 202, 203, 204, 210, 211, 212, 213, 82, 83, 214, 215, 216, 217, 218, 219, 220, 384, 385, 386, 387, 266, 267, 268, 269, 262, 263, 264, 265, 68, 67, 270, 271, 272, 273, 274, 388, 389, 390, 391, 392, 393, 394, 395, 396, 397, 398, 399, 400, 401, 75, 72, 73, 74, 402, 403, 404, 405, 406, 407, 408, 409, 410, 411, 559, 560, 561, 562, 412, 413, 414, 415, 416, 417, 418, 419, 420, 421, 422, 423, 424, 425, 426, 427, 770, 771, 772, 773, 774, 775, 776, 777, 778, 779, 780, 781, 782, 783, 784, 785, 786, 787, 788, 789, 790, 791, 792, 793, 794, 795, 796, 797, 798, 799] (by decide +kernel) (by decide +kernel)
set_option maxRecDepth 20000 in
theorem gL_law_X6_wish : GoodIn wsL_law (wsV RL 78 RX6 yX6_wish wsX6_wish) := goodIn_app (goodIn_of _ (by decide +kernel)) ggL_law_X6_wish
set_option maxRecDepth 20000 in
theorem ggL_law_X5_reading : GoodIn wsL_law wsX5_reading := goodIn_r _ [566, 31, 93, 245, 246, 247, 2, 248, 17, 94, 98, 99, 100, 567, 568, 569, 30, 570, 60, 571, 61, 62, 761, 762, 763, 764, 765, 766, 767, 768, 769, 821, 822, 823, 824, 800, 801, 802] (by decide +kernel) (by decide +kernel)
set_option maxRecDepth 20000 in
theorem gL_law_X5_reading : GoodIn wsL_law (wsV RL 79 RX5 yX5_reading wsX5_reading) := goodIn_app (goodIn_of _ (by decide +kernel)) ggL_law_X5_reading
set_option maxRecDepth 20000 in
theorem ggL_law_X6_reading : GoodIn wsL_law wsX6_reading := goodIn_r _ [575, 256, 193, 197, 79, 80, 81, 258, 259, 260, 5, 261, 196, 202, 203, 204, 770, 771, 772, 773, 774, 775, 776, 777, 778, 779, 780, 781, 782, 783, 784, 785, 786, 787, 788, 789, 790, 791, 792, 793, 794, 795, 796, 797, 798, 799] (by decide +kernel) (by decide +kernel)
set_option maxRecDepth 20000 in
theorem gL_law_X6_reading : GoodIn wsL_law (wsV RL 82 RX6 yX6_reading wsX6_reading) := goodIn_app (goodIn_of _ (by decide +kernel)) ggL_law_X6_reading
set_option maxRecDepth 20000 in
theorem ggL_law_X5_back : GoodIn wsL_law wsX5_back := goodIn_r _ [579, 31, 93, 761, 762, 763, 764, 765, 766, 767, 768, 769, 821, 822, 823, 824] (by decide +kernel) (by decide +kernel)
set_option maxRecDepth 20000 in
theorem gL_law_X5_back : GoodIn wsL_law (wsV RL 83 RX5 yX5_back wsX5_back) := goodIn_app (goodIn_of _ (by decide +kernel)) ggL_law_X5_back
set_option maxRecDepth 20000 in
theorem ggL_law_X6_back : GoodIn wsL_law wsX6_back := goodIn_r _ [583, 197, 202, 203, 5, 204, 770, 771, 772, 773, 774, 775, 776, 777, 778, 779, 780, 781, 782, 783, 784, 785, 786, 787, 788, 789, 790, 791, 792, 793, 794, 795, 796, 797, 798, 799] (by decide +kernel) (by decide +kernel)
set_option maxRecDepth 20000 in
theorem gL_law_X6_back : GoodIn wsL_law (wsV RL 86 RX6 yX6_back wsX6_back) := goodIn_app (goodIn_of _ (by decide +kernel)) ggL_law_X6_back
set_option maxRecDepth 20000 in
theorem ggL_law_X5_kinds : GoodIn wsL_law wsX5_kinds := goodIn_r _ [587, 22, 17, 242, 23, 31, 245, 246, 247, 2, 248, 94, 98, 99, 100, 137, 138, 139, 16, 140, 141, 36, 142, 143, 144, 145, 37, 146, 147, 148, 20, 149, 150, 151, 152, 41, 42, 153, 154, 155, 156, 157, 158, 159, 160, 161, 162, 163, 164, 43, 44, 45, 46, 165, 166, 167, 168, 47, 48, 169, 170, 171, 172, 173, 174, 175, 176, 177, 178, 179, 180, 181, 182, 183, 184, 185, 186, 187, 188, 588, 589, 590, 30, 591, 571, 60, 61, 62, 592, 337, 338, 339, 593, 345, 346, 347, 348, 349, 350, 351, 761, 762, 763, 764, 765, 766, 767, 768, 769, 800, 801, 802, 803, 804, 805, 806, 807, 808, 809, 810, 811, 812, 813, 814, 815, 816, 821, 822, 823, 824] (by decide +kernel) (by decide +kernel)
set_option maxRecDepth 20000 in
theorem gL_law_X5_kinds : GoodIn wsL_law (wsV RL 87 RX5 yX5_kinds wsX5_kinds) := goodIn_app (goodIn_of _ (by decide +kernel)) ggL_law_X5_kinds
set_option maxRecDepth 20000 in
theorem ggL_law_X6_kinds : GoodIn wsL_law wsX6_kinds := goodIn_r _ [597, 67, 258, 259, 260, 5, 261, 196, 202, 203, 204, 598, 599, 600, 601, 197, 79, 377, 80, 81, 384, 385, 386, 387, 266, 267, 268, 269, 262, 263, 264, 265, 68, 193, 270, 271, 272, 273, 274, 388, 389, 390, 391, 392, 393, 394, 395, 396, 397, 398, 399, 400, 401, 75, 72, 73, 74, 402, 403, 404, 405, 406, 407, 408, 409, 410, 411, 412, 413, 414, 415, 416, 417, 418, 419, 420, 421, 422, 423, 424, 425, 426, 427, 770, 771, 772, 773, 774, 775, 776, 777, 778, 779, 780, 781, 782, 783, 784, 785, 786, 787, 788, 789, 790, 791, 792, 793, 794, 795, 796, 797, 798, 799] (by decide +kernel) (by decide +kernel)
set_option maxRecDepth 20000 in
theorem gL_law_X6_kinds : GoodIn wsL_law (wsV RL 90 RX6 yX6_kinds wsX6_kinds) := goodIn_app (goodIn_of _ (by decide +kernel)) ggL_law_X6_kinds
set_option maxRecDepth 20000 in
theorem ggL_law_X5_lows : GoodIn wsL_law wsX5_lows := goodIn_r _ [605, 22, 17, 244, 23, 31, 245, 246, 247, 2, 248, 94, 98, 99, 100, 137, 138, 139, 16, 140, 141, 36, 142, 143, 144, 145, 37, 146, 147, 148, 20, 149, 150, 151, 152, 41, 42, 153, 154, 155, 156, 157, 158, 159, 160, 161, 162, 163, 164, 43, 44, 45, 46, 165, 166, 167, 168, 47, 48, 169, 170, 171, 172, 173, 174, 175, 176, 177, 178, 179, 180, 181, 182, 183, 184, 185, 186, 187, 188, 588, 589, 590, 30, 591, 571, 60, 61, 62, 592, 337, 338, 339, 593, 345, 346, 347, 348, 349, 350, 351, 761, 762, 763, 764, 765, 766, 767, 768, 769, 800, 801, 802, 803, 804, 805, 806, 807, 808, 809, 810, 811, 812, 813, 814, 815, 816, 821, 822, 823, 824] (by decide +kernel) (by decide +kernel)
set_option maxRecDepth 20000 in
theorem gL_law_X5_lows : GoodIn wsL_law (wsV RL 91 RX5 yX5_lows wsX5_lows) := goodIn_app (goodIn_of _ (by decide +kernel)) ggL_law_X5_lows
