set_option maxRecDepth 20000 in
theorem gL_law_X6_called : GoodIn wsL_law (wsV RL 41 RX6 yX6_called wsX6_called) := goodIn_app (goodIn_of _ (by decide +kernel)) ggL_law_X6_called
set_option maxRecDepth 20000 in
theorem ggL_law_X5_byName : GoodIn wsL_law wsX5_byName := goodIn_r _ [463, 21, 243, 245, 246, 247, 2, 248, 17, 94, 98, 99, 100, 444, 445, 446, 20, 447, 177, 178, 179, 180, 41, 43, 45, 46, 44, 181, 173, 174, 175, 176, 182, 183, 184, 185, 186, 187, 188, 761, 762, 763, 764, 765, 766, 767, 768, 769, 803, 804, 805, 806, 807, 808, 809, 810, 811, 812, 813, 814, 815, 816, 800, 801, 802] (by decide +kernel) (by decide +kernel)
set_option maxRecDepth 20000 in
theorem gL_law_X5_byName : GoodIn wsL_law (wsV RL 42 RX5 yX5_byName wsX5_byName) := goodIn_app (goodIn_of _ (by decide +kernel)) ggL_law_X5_byName
set_option maxRecDepth 20000 in
theorem ggL_law_X6_byName : GoodIn wsL_law wsX6_byName := goodIn_r _ [467, 468, 258, 259, 260, 5, 261, 196, 202, 203, 204, 266, 267, 268, 269, 262, 263, 264, 265, 68, 67, 193, 270, 271, 272, 273, 274, 456, 457, 458, 459, 388, 389, 390, 391, 392, 393, 394, 395, 396, 397, 424, 425, 426, 427, 402, 403, 404, 405, 406, 407, 770, 771, 772, 773, 774, 775, 776, 777, 778, 779, 780, 781, 782, 783, 784, 785, 786, 787, 788, 789, 790, 791, 792, 793, 794, 795, 796, 797, 798, 799] (by decide +kernel) (by decide +kernel)
set_option maxRecDepth 20000 in
theorem gL_law_X6_byName : GoodIn wsL_law (wsV RL 45 RX6 yX6_byName wsX6_byName) := goodIn_app (goodIn_of _ (by decide +kernel)) ggL_law_X6_byName
set_option maxRecDepth 20000 in
theorem ggL_law_X5_signAt : GoodIn wsL_law wsX5_signAt := goodIn_r _ [472, 21, 440, 441, 442, 2, 443, 243, 245, 246, 247, 248, 17, 94, 98, 99, 100, 473, 178, 179, 20, 180, 41, 43, 45, 46, 44, 181, 173, 174, 175, 176, 182, 183, 184, 185, 186, 187, 188, 761, 762, 763, 764, 765, 766, 767, 768, 769, 803, 804, 805, 806, 807, 808, 809, 810, 811, 812, 813, 814, 815, 816, 800, 801, 802] (by decide +kernel) (by decide +kernel)
set_option maxRecDepth 20000 in
theorem gL_law_X5_signAt : GoodIn wsL_law (wsV RL 46 RX5 yX5_signAt wsX5_signAt) := goodIn_app (goodIn_of _ (by decide +kernel)) ggL_law_X5_signAt
set_option maxRecDepth 20000 in
theorem ggL_law_X6_signAt : GoodIn wsL_law wsX6_signAt := goodIn_r _ [477, 452, 453, 454, 5, 455, 258, 259, 260, 261, 196, 202, 203, 204, 266, 267, 268, 269, 262, 263, 264, 265, 68, 67, 193, 270, 271, 272, 273, 274, 478, 479, 480, 481, 388, 389, 390, 391, 392, 393, 394, 395, 396, 397, 420, 421, 422, 423, 424, 425, 426, 427, 402, 403, 404, 405, 406, 407, 770, 771, 772, 773, 774, 775, 776, 777, 778, 779, 780, 781, 782, 783, 784, 785, 786, 787, 788, 789, 790, 791, 792, 793, 794, 795, 796, 797, 798, 799] (by decide +kernel) (by decide +kernel)
set_option maxRecDepth 20000 in
theorem gL_law_X6_signAt : GoodIn wsL_law (wsV RL 49 RX6 yX6_signAt wsX6_signAt) := goodIn_app (goodIn_of _ (by decide +kernel)) ggL_law_X6_signAt
set_option maxRecDepth 20000 in
theorem ggL_law_X5_more : GoodIn wsL_law wsX5_more := goodIn_r _ [485, 21, 243, 245, 246, 247, 2, 248, 17, 94, 98, 99, 100, 473, 178, 179, 20, 180, 41, 43, 45, 46, 44, 181, 173, 174, 175, 176, 182, 183, 184, 185, 186, 187, 188, 761, 762, 763, 764, 765, 766, 767, 768, 769, 803, 804, 805, 806, 807, 808, 809, 810, 811, 812, 813, 814, 815, 816, 800, 801, 802] (by decide +kernel) (by decide +kernel)
set_option maxRecDepth 20000 in
theorem gL_law_X5_more : GoodIn wsL_law (wsV RL 50 RX5 yX5_more wsX5_more) := goodIn_app (goodIn_of _ (by decide +kernel)) ggL_law_X5_more
set_option maxRecDepth 20000 in
theorem ggL_law_X6_more : GoodIn wsL_law wsX6_more := goodIn_r _ [489, 258, 259, 260, 5, 261, 196, 202, 203, 204, 266, 267, 268, 269, 262, 263, 264, 265, 68, 67, 193, 270, 271, 272, 273, 274, 478, 479, 480, 481, 388, 389, 390, 391, 392, 393, 394, 395, 396, 397, 420, 421, 422, 423, 424, 425, 426, 427, 402, 403, 404, 405, 406, 407, 770, 771, 772, 773, 774, 775, 776, 777, 778, 779, 780, 781, 782, 783, 784, 785, 786, 787, 788, 789, 790, 791, 792, 793, 794, 795, 796, 797, 798, 799] (by decide +kernel) (by decide +kernel)
set_option maxRecDepth 20000 in
theorem gL_law_X6_more : GoodIn wsL_law (wsV RL 53 RX6 yX6_more wsX6_more) := goodIn_app (goodIn_of _ (by decide +kernel)) ggL_law_X6_more
set_option maxRecDepth 20000 in
theorem ggL_law_X5_place : GoodIn wsL_law wsX5_place := goodIn_r _ [493, 21, 440, 441, 442, 2, 443, 243, 245, 246, 247, 248, 17, 94, 98, 99, 100, 494, 495, 496, 20, 497, 152, 47, 169, 170, 171, 172, 41, 44, 173, 174, 175, 176, 177, 178, 179, 180, 43, 45, 46, 181, 182, 183, 184, 185, 186, 187, 188, 761, 762, 763, 764, 765, 766, 767, 768, 769, 803, 804, 805, 806, 807, 808, 809, 810, 811, 812, 813, 814, 815, 816, 800, 801, 802] (by decide +kernel) (by decide +kernel)
set_option maxRecDepth 20000 in
theorem gL_law_X5_place : GoodIn wsL_law (wsV RL 54 RX5 yX5_place wsX5_place) := goodIn_app (goodIn_of _ (by decide +kernel)) ggL_law_X5_place
set_option maxRecDepth 20000 in
theorem ggL_law_X6_place : GoodIn wsL_law wsX6_place := goodIn_r _ [501, 452, 453, 454, 5, 455, 258, 259, 260, 261, 196, 202, 203, 204, 266, 267, 268, 269, 262, 263, 264, 265, 68, 67, 193, 270, 271, 272, 273, 274, 502, 503, 504, 505, 384, 385, 386, 387, 377, 388, 389, 390, 391, 392, 393, 394, 395, 396, 397, 398, 399, 400, 401, 75, 72, 73, 74, 402, 403, 404, 405, 406, 407, 408, 409, 410, 411, 770, 771, 772, 773, 774, 775, 776, 777, 778, 779, 780, 781, 782, 783, 784, 785, 786, 787, 788, 789, 790, 791, 792, 793, 794, 795, 796, 797, 798, 799] (by decide +kernel) (by decide +kernel)
set_option maxRecDepth 20000 in
theorem gL_law_X6_place : GoodIn wsL_law (wsV RL 57 RX6 yX6_place wsX6_place) := goodIn_app (goodIn_of _ (by decide +kernel)) ggL_law_X6_place
