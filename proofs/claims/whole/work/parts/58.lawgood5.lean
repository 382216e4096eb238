set_option maxRecDepth 20000 in
theorem ggL_law_X6_lows : GoodIn wsL_law wsX6_lows := goodIn_r _ [609, 68, 258, 259, 260, 5, 261, 196, 202, 203, 204, 598, 599, 600, 601, 197, 79, 377, 80, 81, 384, 385, 386, 387, 266, 267, 268, 269, 262, 263, 264, 265, 67, 193, 270, 271, 272, 273, 274, 388, 389, 390, 391, 392, 393, 394, 395, 396, 397, 398, 399, 400, 401, 75, 72, 73, 74, 402, 403, 404, 405, 406, 407, 408, 409, 410, 411, 412, 413, 414, 415, 416, 417, 418, 419, 420, 421, 422, 423, 424, 425, 426, 427, 770, 771, 772, 773, 774, 775, 776, 777, 778, 779, 780, 781, 782, 783, 784, 785, 786, 787, 788, 789, 790, 791, 792, 793, 794, 795, 796, 797, 798, 799] (by decide +kernel) (by decide +kernel)
set_option maxRecDepth 20000 in
theorem gL_law_X6_lows : GoodIn wsL_law (wsV RL 94 RX6 yX6_lows wsX6_lows) := goodIn_app (goodIn_of _ (by decide +kernel)) ggL_law_X6_lows
set_option maxRecDepth 20000 in
theorem ggL_law_X5_odds : GoodIn wsL_law wsX5_odds := goodIn_r _ [613, 281, 21, 245, 246, 247, 2, 248, 17, 94, 98, 99, 100, 523, 337, 338, 20, 339, 152, 532, 345, 346, 347, 47, 348, 349, 350, 351, 41, 173, 174, 175, 176, 177, 178, 179, 180, 43, 45, 46, 44, 181, 182, 183, 184, 185, 186, 187, 188, 614, 615, 616, 761, 762, 763, 764, 765, 766, 767, 768, 769, 800, 801, 802, 803, 804, 805, 806, 807, 808, 809, 810, 811, 812, 813, 814, 815, 816] (by decide +kernel) (by decide +kernel)
set_option maxRecDepth 20000 in
theorem gL_law_X5_odds : GoodIn wsL_law (wsV RL 95 RX5 yX5_odds wsX5_odds) := goodIn_app (goodIn_of _ (by decide +kernel)) ggL_law_X5_odds
set_option maxRecDepth 20000 in
theorem ggL_law_X6_odds : GoodIn wsL_law wsX6_odds := goodIn_r _ [620, 193, 377, 258, 259, 260, 5, 261, 196, 202, 203, 204, 288, 289, 290, 291, 384, 385, 386, 387, 266, 267, 268, 269, 262, 263, 264, 265, 68, 67, 270, 271, 272, 273, 274, 388, 389, 390, 391, 392, 393, 394, 395, 396, 397, 398, 399, 400, 401, 75, 72, 73, 74, 402, 403, 404, 405, 406, 407, 408, 409, 410, 411, 412, 413, 414, 415, 416, 417, 418, 419, 420, 421, 422, 423, 424, 425, 426, 427, 621, 622, 623, 770, 771, 772, 773, 774, 775, 776, 777, 778, 779, 780, 781, 782, 783, 784, 785, 786, 787, 788, 789, 790, 791, 792, 793, 794, 795, 796, 797, 798, 799] (by decide +kernel) (by decide +kernel)
set_option maxRecDepth 20000 in
theorem gL_law_X6_odds : GoodIn wsL_law (wsV RL 99 RX6 yX6_odds wsX6_odds) := goodIn_app (goodIn_of _ (by decide +kernel)) ggL_law_X6_odds
set_option maxRecDepth 20000 in
theorem ggL_law_X5_sheet : GoodIn wsL_law wsX5_sheet := goodIn_r _ [627, 90, 13, 12, 628, 108, 95, 96, 2, 97, 98, 99, 100, 111, 112, 113, 114, 629, 630, 631, 632, 10, 11, 633, 35, 110, 761, 762, 763, 764, 765, 766, 767, 768, 769, 825, 826] (by decide +kernel) (by decide +kernel)
set_option maxRecDepth 20000 in
theorem gL_law_X5_sheet : GoodIn wsL_law (wsV RL 100 RX5 yX5_sheet wsX5_sheet) := goodIn_app (goodIn_of _ (by decide +kernel)) ggL_law_X5_sheet
set_option maxRecDepth 20000 in
theorem ggL_law_X6_sheet : GoodIn wsL_law wsX6_sheet := goodIn_r _ [637, 193, 82, 83, 84, 198, 199, 5, 200, 201, 202, 203, 204, 205, 206, 207, 208, 209, 214, 215, 216, 217, 770, 771, 772, 773, 774, 775, 776, 777, 778, 779, 780, 781, 782, 783, 784, 785, 786, 787, 788, 789, 790, 791, 792, 793, 794, 795, 796, 797, 798, 799] (by decide +kernel) (by decide +kernel)
set_option maxRecDepth 20000 in
theorem gL_law_X6_sheet : GoodIn wsL_law (wsV RL 103 RX6 yX6_sheet wsX6_sheet) := goodIn_app (goodIn_of _ (by decide +kernel)) ggL_law_X6_sheet
set_option maxRecDepth 20000 in
theorem ggL_law_X5_lose : GoodIn wsL_law wsX5_lose := goodIn_r _ [641, 13, 95, 96, 2, 97, 98, 99, 100, 761, 762, 763, 764, 765, 766, 767, 768, 769] (by decide +kernel) (by decide +kernel)
set_option maxRecDepth 20000 in
theorem gL_law_X5_lose : GoodIn wsL_law (wsV RL 104 RX5 yX5_lose wsX5_lose) := goodIn_app (goodIn_of _ (by decide +kernel)) ggL_law_X5_lose
set_option maxRecDepth 20000 in
theorem ggL_law_X6_lose : GoodIn wsL_law wsX6_lose := goodIn_r _ [645, 82, 198, 199, 5, 200, 201, 202, 203, 204, 770, 771, 772, 773, 774, 775, 776, 777, 778, 779, 780, 781, 782, 783, 784, 785, 786, 787, 788, 789, 790, 791, 792, 793, 794, 795, 796, 797, 798, 799] (by decide +kernel) (by decide +kernel)
set_option maxRecDepth 20000 in
theorem gL_law_X6_lose : GoodIn wsL_law (wsV RL 107 RX6 yX6_lose wsX6_lose) := goodIn_app (goodIn_of _ (by decide +kernel)) ggL_law_X6_lose
set_option maxRecDepth 20000 in
theorem ggL_law_X5_put : GoodIn wsL_law wsX5_put := goodIn_r _ [649, 90, 13, 91, 95, 96, 2, 97, 98, 99, 100, 111, 112, 113, 114, 650, 651, 652, 108, 653, 633, 761, 762, 763, 764, 765, 766, 767, 768, 769, 825, 826] (by decide +kernel) (by decide +kernel)
set_option maxRecDepth 20000 in
theorem gL_law_X5_put : GoodIn wsL_law (wsV RL 108 RX5 yX5_put wsX5_put) := goodIn_app (goodIn_of _ (by decide +kernel)) ggL_law_X5_put
set_option maxRecDepth 20000 in
theorem ggL_law_X6_put : GoodIn wsL_law wsX6_put := goodIn_r _ [657, 84, 83, 198, 199, 5, 200, 201, 202, 203, 204, 205, 206, 207, 208, 209, 658, 659, 660, 661, 82, 214, 215, 216, 217, 770, 771, 772, 773, 774, 775, 776, 777, 778, 779, 780, 781, 782, 783, 784, 785, 786, 787, 788, 789, 790, 791, 792, 793, 794, 795, 796, 797, 798, 799] (by decide +kernel) (by decide +kernel)
