set_option maxRecDepth 20000 in
theorem ggL_law_X5_sharers : GoodIn wsL_law wsX5_sharers := goodIn_r _ [509, 17, 94, 21, 329, 510, 98, 99, 2, 100, 761, 762, 763, 764, 765, 766, 767, 768, 769, 800, 801, 802, 803, 804, 805, 806, 807, 808, 809, 810, 811, 812, 813, 814, 815, 816] (by decide +kernel) (by decide +kernel)
set_option maxRecDepth 20000 in
theorem gL_law_X5_sharers : GoodIn wsL_law (wsV RL 58 RX5 yX5_sharers wsX5_sharers) := goodIn_app (goodIn_of _ (by decide +kernel)) ggL_law_X5_sharers
set_option maxRecDepth 20000 in
theorem ggL_law_X6_sharers : GoodIn wsL_law wsX6_sharers := goodIn_r _ [514, 196, 377, 384, 385, 386, 5, 387, 266, 267, 268, 269, 262, 263, 264, 265, 68, 67, 193, 270, 271, 272, 273, 274, 388, 389, 390, 391, 392, 393, 394, 395, 396, 397, 398, 399, 400, 401, 75, 72, 73, 74, 402, 403, 404, 405, 406, 407, 408, 409, 410, 411, 202, 203, 204, 416, 417, 418, 419, 515, 516, 517, 518, 420, 421, 422, 423, 424, 425, 426, 427, 770, 771, 772, 773, 774, 775, 776, 777, 778, 779, 780, 781, 782, 783, 784, 785, 786, 787, 788, 789, 790, 791, 792, 793, 794, 795, 796, 797, 798, 799] (by decide +kernel) (by decide +kernel)
set_option maxRecDepth 20000 in
theorem gL_law_X6_sharers : GoodIn wsL_law (wsV RL 62 RX6 yX6_sharers wsX6_sharers) := goodIn_app (goodIn_of _ (by decide +kernel)) ggL_law_X6_sharers
set_option maxRecDepth 20000 in
theorem ggL_law_X5_line : GoodIn wsL_law wsX5_line := goodIn_r _ [522, 17, 94, 21, 329, 330, 98, 99, 2, 100, 523, 337, 338, 20, 339, 152, 331, 332, 333, 334, 335, 49, 50, 51, 336, 340, 341, 342, 343, 151, 344, 345, 346, 347, 47, 348, 349, 350, 351, 41, 173, 174, 175, 176, 177, 178, 179, 180, 43, 45, 46, 44, 181, 182, 183, 184, 185, 186, 187, 188, 352, 353, 354, 355, 761, 762, 763, 764, 765, 766, 767, 768, 769, 800, 801, 802, 803, 804, 805, 806, 807, 808, 809, 810, 811, 812, 813, 814, 815, 816] (by decide +kernel) (by decide +kernel)
set_option maxRecDepth 20000 in
theorem gL_law_X5_line : GoodIn wsL_law (wsV RL 63 RX5 yX5_line wsX5_line) := goodIn_app (goodIn_of _ (by decide +kernel)) ggL_law_X5_line
set_option maxRecDepth 20000 in
theorem ggL_law_X6_line : GoodIn wsL_law wsX6_line := goodIn_r _ [527, 193, 196, 377, 378, 202, 203, 5, 204, 380, 381, 382, 383, 77, 78, 384, 385, 386, 387, 266, 267, 268, 269, 262, 263, 264, 265, 68, 67, 270, 271, 272, 273, 274, 388, 389, 390, 391, 392, 393, 394, 395, 396, 397, 398, 399, 400, 401, 75, 72, 73, 74, 402, 403, 404, 405, 406, 407, 408, 409, 410, 411, 412, 413, 414, 415, 416, 417, 418, 419, 420, 421, 422, 423, 424, 425, 426, 427, 770, 771, 772, 773, 774, 775, 776, 777, 778, 779, 780, 781, 782, 783, 784, 785, 786, 787, 788, 789, 790, 791, 792, 793, 794, 795, 796, 797, 798, 799] (by decide +kernel) (by decide +kernel)
set_option maxRecDepth 20000 in
theorem gL_law_X6_line : GoodIn wsL_law (wsV RL 66 RX6 yX6_line wsX6_line) := goodIn_app (goodIn_of _ (by decide +kernel)) ggL_law_X6_line
set_option maxRecDepth 20000 in
theorem ggL_law_X5_signIn : GoodIn wsL_law wsX5_signIn := goodIn_r _ [531, 21, 245, 246, 247, 2, 248, 17, 94, 98, 99, 100, 523, 337, 338, 20, 339, 152, 532, 345, 346, 347, 47, 348, 349, 350, 351, 41, 173, 174, 175, 176, 177, 178, 179, 180, 43, 45, 46, 44, 181, 182, 183, 184, 185, 186, 187, 188, 761, 762, 763, 764, 765, 766, 767, 768, 769, 800, 801, 802, 803, 804, 805, 806, 807, 808, 809, 810, 811, 812, 813, 814, 815, 816] (by decide +kernel) (by decide +kernel)
set_option maxRecDepth 20000 in
theorem gL_law_X5_signIn : GoodIn wsL_law (wsV RL 67 RX5 yX5_signIn wsX5_signIn) := goodIn_app (goodIn_of _ (by decide +kernel)) ggL_law_X5_signIn
set_option maxRecDepth 20000 in
theorem ggL_law_X6_signIn : GoodIn wsL_law wsX6_signIn := goodIn_r _ [536, 193, 377, 258, 259, 260, 5, 261, 196, 202, 203, 204, 384, 385, 386, 387, 266, 267, 268, 269, 262, 263, 264, 265, 68, 67, 270, 271, 272, 273, 274, 388, 389, 390, 391, 392, 393, 394, 395, 396, 397, 398, 399, 400, 401, 75, 72, 73, 74, 402, 403, 404, 405, 406, 407, 408, 409, 410, 411, 412, 413, 414, 415, 416, 417, 418, 419, 420, 421, 422, 423, 424, 425, 426, 427, 770, 771, 772, 773, 774, 775, 776, 777, 778, 779, 780, 781, 782, 783, 784, 785, 786, 787, 788, 789, 790, 791, 792, 793, 794, 795, 796, 797, 798, 799] (by decide +kernel) (by decide +kernel)
set_option maxRecDepth 20000 in
theorem gL_law_X6_signIn : GoodIn wsL_law (wsV RL 70 RX6 yX6_signIn wsX6_signIn) := goodIn_app (goodIn_of _ (by decide +kernel)) ggL_law_X6_signIn
set_option maxRecDepth 20000 in
theorem ggL_law_X5_ofRow : GoodIn wsL_law wsX5_ofRow := goodIn_r _ [540, 17, 94, 21, 330, 541, 542, 331, 332, 333, 20, 334, 335, 49, 50, 51, 336, 337, 338, 339, 152, 340, 341, 342, 343, 151, 344, 345, 346, 347, 47, 348, 349, 350, 351, 41, 173, 174, 175, 176, 177, 178, 179, 180, 43, 45, 46, 44, 181, 182, 183, 184, 185, 186, 187, 188, 352, 353, 354, 355, 98, 99, 2, 100, 245, 246, 247, 248, 532, 761, 762, 763, 764, 765, 766, 767, 768, 769, 800, 801, 802, 803, 804, 805, 806, 807, 808, 809, 810, 811, 812, 813, 814, 815, 816] (by decide +kernel) (by decide +kernel)
set_option maxRecDepth 20000 in
theorem gL_law_X5_ofRow : GoodIn wsL_law (wsV RL 71 RX5 yX5_ofRow wsX5_ofRow) := goodIn_app (goodIn_of _ (by decide +kernel)) ggL_law_X5_ofRow
set_option maxRecDepth 20000 in
theorem ggL_law_X6_ofRow : GoodIn wsL_law wsX6_ofRow := goodIn_r _ [546, 196, 378, 78, 254, 372, 377, 77, 380, 381, 382, 5, 383, 384, 385, 386, 387, 266, 267, 268, 269, 262, 263, 264, 265, 68, 67, 193, 270, 271, 272, 273, 274, 388, 389, 390, 391, 392, 393, 394, 395, 396, 397, 398, 399, 400, 401, 75, 72, 73, 74, 402, 403, 404, 405, 406, 407, 408, 409, 410, 411, 412, 413, 414, 415, 416, 417, 418, 419, 420, 421, 422, 423, 424, 425, 426, 427, 202, 203, 204, 258, 259, 260, 261, 770, 771, 772, 773, 774, 775, 776, 777, 778, 779, 780, 781, 782, 783, 784, 785, 786, 787, 788, 789, 790, 791, 792, 793, 794, 795, 796, 797, 798, 799] (by decide +kernel) (by decide +kernel)
set_option maxRecDepth 20000 in
theorem gL_law_X6_ofRow : GoodIn wsL_law (wsV RL 74 RX6 yX6_ofRow wsX6_ofRow) := goodIn_app (goodIn_of _ (by decide +kernel)) ggL_law_X6_ofRow
set_option maxRecDepth 20000 in
theorem ggL_law_X5_wish : GoodIn wsL_law wsX5_wish := goodIn_r _ [550, 90, 17, 94, 13, 91, 21, 95, 96, 2, 97, 98, 99, 100, 101, 102, 103, 104, 105, 106, 107, 108, 109, 110, 111, 112, 113, 114, 523, 337, 338, 20, 339, 152, 551, 552, 553, 554, 532, 345, 346, 347, 47, 348, 349, 350, 351, 41, 173, 174, 175, 176, 177, 178, 179, 180, 43, 45, 46, 44, 181, 182, 183, 184, 185, 186, 187, 188, 761, 762, 763, 764, 765, 766, 767, 768, 769, 800, 801, 802, 825, 826, 803, 804, 805, 806, 807, 808, 809, 810, 811, 812, 813, 814, 815, 816] (by decide +kernel) (by decide +kernel)
