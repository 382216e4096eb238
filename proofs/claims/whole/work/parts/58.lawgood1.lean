set_option maxRecDepth 20000 in
theorem ggL_law_X6_ofPolynomial : GoodIn wsL_law wsX6_ofPolynomial := goodIn_r _ [253, 254, 255, 68, 256, 257, 67, 258, 259, 260, 5, 261, 196, 202, 203, 204, 262, 263, 264, 265, 193, 266, 267, 268, 269, 270, 271, 272, 273, 274, 770, 771, 772, 773, 774, 775, 776, 777, 778, 779, 780, 781, 782, 783, 784, 785, 786, 787, 788, 789, 790, 791, 792, 793, 794, 795, 796, 797, 798, 799] (by decide +kernel) (by decide +kernel)
set_option maxRecDepth 20000 in
theorem gL_law_X6_ofPolynomial : GoodIn wsL_law (wsV RL 22 RX6 yX6_ofPolynomial wsX6_ofPolynomial) := goodIn_app (goodIn_of _ (by decide +kernel)) ggL_law_X6_ofPolynomial
set_option maxRecDepth 20000 in
theorem ggL_law_X5_value : GoodIn wsL_law wsX5_value := goodIn_r _ [278, 279, 280, 281, 17, 245, 246, 247, 2, 248, 94, 98, 99, 100, 249, 154, 155, 16, 156, 37, 36, 761, 762, 763, 764, 765, 766, 767, 768, 769, 800, 801, 802] (by decide +kernel) (by decide +kernel)
set_option maxRecDepth 20000 in
theorem gL_law_X5_value : GoodIn wsL_law (wsV RL 23 RX5 yX5_value wsX5_value) := goodIn_app (goodIn_of _ (by decide +kernel)) ggL_law_X5_value
set_option maxRecDepth 20000 in
theorem ggL_law_X6_value : GoodIn wsL_law wsX6_value := goodIn_r _ [285, 286, 287, 258, 259, 260, 5, 261, 196, 202, 203, 204, 288, 289, 290, 291, 262, 263, 264, 265, 68, 67, 193, 770, 771, 772, 773, 774, 775, 776, 777, 778, 779, 780, 781, 782, 783, 784, 785, 786, 787, 788, 789, 790, 791, 792, 793, 794, 795, 796, 797, 798, 799] (by decide +kernel) (by decide +kernel)
set_option maxRecDepth 20000 in
theorem gL_law_X6_value : GoodIn wsL_law (wsV RL 27 RX6 yX6_value wsX6_value) := goodIn_app (goodIn_of _ (by decide +kernel)) ggL_law_X6_value
set_option maxRecDepth 20000 in
theorem ggL_law_X5_tune : GoodIn wsL_law wsX5_tune := goodIn_r _ [295, 17, 244, 21, 245, 246, 247, 2, 248, 94, 98, 99, 100, 296, 297, 298, 146, 147, 148, 20, 149, 150, 151, 152, 41, 42, 153, 154, 155, 16, 156, 37, 36, 157, 158, 159, 160, 161, 162, 163, 164, 43, 44, 45, 46, 165, 166, 167, 168, 47, 48, 169, 170, 171, 172, 173, 174, 175, 176, 177, 178, 179, 180, 181, 182, 183, 184, 185, 186, 187, 188, 761, 762, 763, 764, 765, 766, 767, 768, 769, 800, 801, 802, 803, 804, 805, 806, 807, 808, 809, 810, 811, 812, 813, 814, 815, 816] (by decide +kernel) (by decide +kernel)
set_option maxRecDepth 20000 in
theorem gL_law_X5_tune : GoodIn wsL_law (wsV RL 28 RX5 yX5_tune wsX5_tune) := goodIn_app (goodIn_of _ (by decide +kernel)) ggL_law_X5_tune
set_option maxRecDepth 20000 in
theorem ggL_law_X6_tune : GoodIn wsL_law wsX6_tune := goodIn_r _ [302, 193, 68, 258, 259, 260, 5, 261, 196, 202, 203, 204, 303, 304, 305, 306, 237, 770, 771, 772, 773, 774, 775, 776, 777, 778, 779, 780, 781, 782, 783, 784, 785, 786, 787, 788, 789, 790, 791, 792, 793, 794, 795, 796, 797, 798, 799] (by decide +kernel) (by decide +kernel)
set_option maxRecDepth 20000 in
theorem gL_law_X6_tune : GoodIn wsL_law (wsV RL 32 RX6 yX6_tune wsX6_tune) := goodIn_app (goodIn_of _ (by decide +kernel)) ggL_law_X6_tune
set_option maxRecDepth 20000 in
theorem ggL_law_X5_day : GoodIn wsL_law wsX5_day := goodIn_r _ [310, 90, 17, 94, 13, 91, 23, 22, 95, 96, 2, 97, 98, 99, 100, 311, 312, 313, 101, 102, 103, 104, 105, 106, 107, 108, 109, 110, 111, 112, 113, 114, 314, 315, 316, 296, 297, 298, 317, 318, 319, 320, 245, 246, 247, 248, 321, 322, 323, 324, 244, 137, 138, 139, 16, 140, 141, 36, 142, 143, 144, 145, 37, 146, 147, 148, 20, 149, 150, 151, 152, 41, 42, 153, 154, 155, 156, 157, 158, 159, 160, 161, 162, 163, 164, 43, 44, 45, 46, 165, 166, 167, 168, 47, 48, 169, 170, 171, 172, 173, 174, 175, 176, 177, 178, 179, 180, 181, 182, 183, 184, 185, 186, 187, 188, 325, 326, 327, 328, 329, 330, 243, 331, 332, 333, 334, 335, 49, 50, 51, 336, 337, 338, 339, 340, 341, 342, 343, 344, 345, 346, 347, 348, 349, 350, 351, 352, 353, 354, 355, 356, 357, 358, 359, 360, 361, 362, 363, 364, 365, 366, 367, 761, 762, 763, 764, 765, 766, 767, 768, 769, 800, 801, 802, 825, 826, 803, 804, 805, 806, 807, 808, 809, 810, 811, 812, 813, 814, 815, 816] (by decide +kernel) (by decide +kernel)
set_option maxRecDepth 20000 in
theorem gL_law_X5_day : GoodIn wsL_law (wsV RL 33 RX5 yX5_day wsX5_day) := goodIn_app (goodIn_of _ (by decide +kernel)) ggL_law_X5_day
set_option maxRecDepth 20000 in
theorem ggL_law_X6_day : GoodIn wsL_law wsX6_day := goodIn_r _ [371, 193, 256, 274, 254, 372, 196, 201, 84, 76, 68, 198, 199, 5, 200, 202, 203, 204, 205, 206, 207, 208, 209, 210, 211, 212, 213, 82, 83, 214, 215, 216, 217, 218, 219, 220, 303, 304, 305, 306, 237, 373, 374, 375, 376, 377, 378, 379, 300, 301, 302, 258, 259, 260, 261, 266, 267, 268, 269, 262, 263, 264, 265, 67, 270, 271, 272, 273, 380, 381, 382, 383, 77, 78, 384, 385, 386, 387, 388, 389, 390, 391, 392, 393, 394, 395, 396, 397, 398, 399, 400, 401, 75, 72, 73, 74, 402, 403, 404, 405, 406, 407, 408, 409, 410, 411, 412, 413, 414, 415, 416, 417, 418, 419, 420, 421, 422, 423, 424, 425, 426, 427, 428, 429, 430, 431, 432, 433, 434, 435, 770, 771, 772, 773, 774, 775, 776, 777, 778, 779, 780, 781, 782, 783, 784, 785, 786, 787, 788, 789, 790, 791, 792, 793, 794, 795, 796, 797, 798, 799] (by decide +kernel) (by decide +kernel)
set_option maxRecDepth 20000 in
theorem gL_law_X6_day : GoodIn wsL_law (wsV RL 37 RX6 yX6_day wsX6_day) := goodIn_app (goodIn_of _ (by decide +kernel)) ggL_law_X6_day
set_option maxRecDepth 20000 in
theorem ggL_law_X5_called : GoodIn wsL_law wsX5_called := goodIn_r _ [439, 21, 440, 441, 442, 2, 443, 243, 245, 246, 247, 248, 17, 94, 98, 99, 100, 444, 445, 446, 20, 447, 177, 178, 179, 180, 41, 43, 45, 46, 44, 181, 173, 174, 175, 176, 182, 183, 184, 185, 186, 187, 188, 761, 762, 763, 764, 765, 766, 767, 768, 769, 803, 804, 805, 806, 807, 808, 809, 810, 811, 812, 813, 814, 815, 816, 800, 801, 802] (by decide +kernel) (by decide +kernel)
set_option maxRecDepth 20000 in
theorem gL_law_X5_called : GoodIn wsL_law (wsV RL 38 RX5 yX5_called wsX5_called) := goodIn_app (goodIn_of _ (by decide +kernel)) ggL_law_X5_called
set_option maxRecDepth 20000 in
theorem ggL_law_X6_called : GoodIn wsL_law wsX6_called := goodIn_r _ [451, 452, 453, 454, 5, 455, 258, 259, 260, 261, 196, 202, 203, 204, 266, 267, 268, 269, 262, 263, 264, 265, 68, 67, 193, 270, 271, 272, 273, 274, 456, 457, 458, 459, 388, 389, 390, 391, 392, 393, 394, 395, 396, 397, 424, 425, 426, 427, 402, 403, 404, 405, 406, 407, 770, 771, 772, 773, 774, 775, 776, 777, 778, 779, 780, 781, 782, 783, 784, 785, 786, 787, 788, 789, 790, 791, 792, 793, 794, 795, 796, 797, 798, 799] (by decide +kernel) (by decide +kernel)
