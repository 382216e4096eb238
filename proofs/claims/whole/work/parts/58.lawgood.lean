theorem inlX0 : ∀ w ∈ wsX00, w ∈ wsL_law := fun _ h => List.mem_append_left _ (List.mem_append_left _ (List.mem_append_left _ (List.mem_append_left _ (List.mem_append_right _ h))))
theorem inlX1 : ∀ w ∈ wsX10, w ∈ wsL_law := fun _ h => List.mem_append_left _ (List.mem_append_left _ (List.mem_append_right _ h))
theorem inlX2 : ∀ w ∈ wsX20, w ∈ wsL_law := fun _ h => List.mem_append_left _ (List.mem_append_right _ h)
theorem inlX3 : ∀ w ∈ wsX30, w ∈ wsL_law := fun _ h => List.mem_append_left _ (List.mem_append_left _ (List.mem_append_left _ (List.mem_append_right _ h)))
theorem inlX4 : ∀ w ∈ wsX40, w ∈ wsL_law := fun _ h => List.mem_append_left _ (List.mem_append_left _ (List.mem_append_left _ (List.mem_append_left _ (List.mem_append_left _ (List.mem_append_right _ h)))))
theorem inlX5 : ∀ w ∈ wsX50, w ∈ wsL_law := fun _ h => List.mem_append_left _ (List.mem_append_left _ (List.mem_append_left _ (List.mem_append_left _ (List.mem_append_left _ (List.mem_append_left _ (List.mem_append_left _ (List.mem_append_right _ h)))))))
theorem inlX6 : ∀ w ∈ wsX60, w ∈ wsL_law := fun _ h => List.mem_append_left _ (List.mem_append_left _ (List.mem_append_left _ (List.mem_append_left _ (List.mem_append_left _ (List.mem_append_left _ (List.mem_append_right _ h))))))
set_option maxRecDepth 20000 in
theorem ggL_law_X5_init : GoodIn wsL_law wsX5_init := goodIn_r _ [8, 9, 10, 11, 12, 13, 14, 15, 16, 17, 18, 19, 20, 21, 22, 23, 24, 25, 26, 27, 28, 29, 30, 31, 32, 33, 34, 35, 36, 37, 38, 39, 40, 41, 42, 43, 44, 45, 46, 47, 48, 49, 50, 51, 52, 53, 54, 55, 56, 57, 58, 59, 60, 61, 62, 761, 762, 763, 764, 765, 766, 767, 768, 769, 800, 801, 802, 803, 804, 805, 806, 807, 808, 809, 810, 811, 812, 813, 814, 815, 816, 817, 818, 819, 820, 821, 822, 823, 824] (by decide +kernel) (by decide +kernel)
set_option maxRecDepth 20000 in
theorem gL_law_X5_init : GoodIn wsL_law (wsX5_init) := ggL_law_X5_init
set_option maxRecDepth 20000 in
theorem ggL_law_X6_init : GoodIn wsL_law wsX6_init := goodIn_r _ [65, 66, 10, 11, 35, 67, 68, 69, 70, 71, 72, 73, 74, 75, 76, 77, 78, 79, 80, 81, 82, 83, 84, 85, 770, 771, 772, 773, 774, 775, 776, 777, 778, 779, 780, 781, 782, 783, 784, 785, 786, 787, 788, 789, 790, 791, 792, 793, 794, 795, 796, 797, 798, 799] (by decide +kernel) (by decide +kernel)
set_option maxRecDepth 20000 in
theorem gL_law_X6_init : GoodIn wsL_law (wsX6_init) := ggL_law_X6_init
set_option maxRecDepth 20000 in
theorem ggL_law_X5_polynomials : GoodIn wsL_law wsX5_polynomials := goodIn_r _ [89, 90, 13, 27, 91, 17, 92, 31, 93, 21, 94, 95, 96, 2, 97, 98, 99, 100, 101, 102, 103, 104, 105, 106, 107, 108, 109, 110, 111, 112, 113, 114, 115, 116, 117, 26, 118, 56, 119, 120, 121, 122, 123, 124, 125, 126, 127, 128, 129, 130, 131, 132, 133, 134, 135, 136, 137, 138, 139, 16, 140, 141, 36, 142, 143, 144, 145, 37, 146, 147, 148, 20, 149, 150, 151, 152, 41, 42, 153, 154, 155, 156, 157, 158, 159, 160, 161, 162, 163, 164, 43, 44, 45, 46, 165, 166, 167, 168, 47, 48, 169, 170, 171, 172, 173, 174, 175, 176, 177, 178, 179, 180, 181, 182, 183, 184, 185, 186, 187, 188, 761, 762, 763, 764, 765, 766, 767, 768, 769, 825, 826, 817, 818, 819, 820, 821, 822, 823, 824, 800, 801, 802, 803, 804, 805, 806, 807, 808, 809, 810, 811, 812, 813, 814, 815, 816] (by decide +kernel) (by decide +kernel)
set_option maxRecDepth 20000 in
theorem gL_law_X5_polynomials : GoodIn wsL_law (wsV RL 13 RX5 yX5_polynomials wsX5_polynomials) := goodIn_app (goodIn_of _ (by decide +kernel)) ggL_law_X5_polynomials
set_option maxRecDepth 20000 in
theorem ggL_law_X6_polynomials : GoodIn wsL_law wsX6_polynomials := goodIn_r _ [192, 193, 194, 195, 196, 67, 69, 68, 70, 197, 198, 199, 5, 200, 201, 202, 203, 204, 205, 206, 207, 208, 209, 210, 211, 212, 213, 82, 83, 214, 215, 216, 217, 218, 219, 220, 221, 222, 223, 224, 225, 226, 227, 228, 84, 229, 230, 231, 232, 233, 234, 235, 236, 237, 770, 771, 772, 773, 774, 775, 776, 777, 778, 779, 780, 781, 782, 783, 784, 785, 786, 787, 788, 789, 790, 791, 792, 793, 794, 795, 796, 797, 798, 799] (by decide +kernel) (by decide +kernel)
set_option maxRecDepth 20000 in
theorem gL_law_X6_polynomials : GoodIn wsL_law (wsV RL 17 RX6 yX6_polynomials wsX6_polynomials) := goodIn_app (goodIn_of _ (by decide +kernel)) ggL_law_X6_polynomials
set_option maxRecDepth 20000 in
theorem ggL_law_X5_ofPolynomial : GoodIn wsL_law wsX5_ofPolynomial := goodIn_r _ [241, 17, 242, 21, 243, 244, 245, 246, 247, 2, 248, 94, 98, 99, 100, 249, 154, 155, 16, 156, 37, 36, 761, 762, 763, 764, 765, 766, 767, 768, 769, 800, 801, 802, 803, 804, 805, 806, 807, 808, 809, 810, 811, 812, 813, 814, 815, 816] (by decide +kernel) (by decide +kernel)
set_option maxRecDepth 20000 in
theorem gL_law_X5_ofPolynomial : GoodIn wsL_law (wsV RL 18 RX5 yX5_ofPolynomial wsX5_ofPolynomial) := goodIn_app (goodIn_of _ (by decide +kernel)) ggL_law_X5_ofPolynomial
set_option maxRecDepth 20000 in
theorem ggL_law_X6_ofPolynomial : GoodIn wsL_law wsX6_ofPolynomial := goodIn_r _ [253, 254, 255, 68, 256, 257, 67, 258, 259, 260, 5, 261, 196, 202, 203, 204, 262, 263, 264, 265, 193, 266, 267, 268, 269, 270, 271, 272, 273, 274, 770, 771, 772, 773, 774, 775, 776, 777, 778, 779, 780, 781, 782, 783, 784, 785, 786, 787, 788, 789, 790, 791, 792, 793, 794, 795, 796, 797, 798, 799] (by decide +kernel) (by decide +kernel)
set_option maxRecDepth 20000 in
theorem gL_law_X6_ofPolynomial : GoodIn wsL_law (wsV RL 22 RX6 yX6_ofPolynomial wsX6_ofPolynomial) := goodIn_app (goodIn_of _ (by decide +kernel)) ggL_law_X6_ofPolynomial
set_option maxRecDepth 20000 in
theorem ggL_law_X5_value : GoodIn wsL_law wsX5_value := goodIn_r _ [278, 279, 280, 281, 17, 245, 246, 247, 2, 248, 94, 98, 99, 100, 249, 154, 155, 16, 156, 37, 36, 761, 762, 763, 764, 765, 766, 767, 768, 769, 800, 801, 802] (by decide +kernel) (by decide +kernel)
set_option maxRecDepth 20000 in
theorem gL_law_X5_value : GoodIn wsL_law (wsV RL 23 RX5 yX5_value wsX5_value) := goodIn_app (goodIn_of _ (by decide +kernel)) ggL_law_X5_value
set_option maxRecDepth 20000 in
theorem ggL_law_X6_value : GoodIn wsL_law wsX6_value := goodIn_r _ [285, 286, 287, 258, 259, 260, 5, 261, 196, 202, 203, 204, 288, 289, 290, 291, 262, 263, 264, 265, 68, 67, 193, 770, 771, 772, 773, 774, 775, 776, 777, 778, 779, 780, 781, 782, 783, 784, 785, 786, 787, 788, 789, 790, 791, 792, 793, 794, 795, 796, 797, 798, 799] (by decide +kernel) (by decide +kernel)
set_option maxRecDepth 20000 in
theorem gL_law_X6_value : GoodIn wsL_law (wsV RL 27 RX6 yX6_value wsX6_value) := goodIn_app (goodIn_of _ (by decide +kernel)) ggL_law_X6_value
set_option maxRecDepth 20000 in
theorem ggL_law_X5_tune : GoodIn wsL_law wsX5_tune := goodIn_r _ [295, 17, 244, 21, 245, 246, 247, 2, 248, 94, 98, 99, 100, 296, 297, 298, 146, 147, 148, 20, 149, 150, 151, 152, 41, 42, 153, 154, 155, 16, 156, 37, 36, 157, 158, 159, 160, 161, 162, 163, 164, 43, 44, 45, 46, 165, 166, 167, 168, 47, 48, 169, 170, 171, 172, 173, 174, 175, 176, 177, 178, 179, 180, 181, 182, 183, 184, 185, 186, 187, 188, 761, 762, 763, 764, 765, 766, 767, 768, 769, 800, 801, 802, 803, 804, 805, 806, 807, 808, 809, 810, 811, 812, 813, 814, 815, 816] (by decide +kernel) (by decide +kernel)
set_option maxRecDepth 20000 in
theorem gL_law_X5_tune : GoodIn wsL_law (wsV RL 28 RX5 yX5_tune wsX5_tune) := goodIn_app (goodIn_of _ (by decide +kernel)) ggL_law_X5_tune
set_option maxRecDepth 20000 in
theorem ggL_law_X6_tune : GoodIn wsL_law wsX6_tune := goodIn_r _ [302, 193, 68, 258, 259, 260, 5, 261, 196, 202, 203, 204, 303, 304, 305, 306, 237, 770, 771, 772, 773, 774, 775, 776, 777, 778, 779, 780, 781, 782, 783, 784, 785, 786, 787, 788, 789, 790, 791, 792, 793, 794, 795, 796, 797, 798, 799] (by decide +kernel) (by decide +kernel)
set_option maxRecDepth 20000 in
theorem gL_law_X6_tune : GoodIn wsL_law (wsV RL 32 RX6 yX6_tune wsX6_tune) := goodIn_app (goodIn_of _ (by decide +kernel)) ggL_law_X6_tune
set_option maxRecDepth 20000 in
theorem ggL_law_X5_day : GoodIn wsL_law wsX5_day := goodIn_r _ [310, 90, 17, 94, 13, 91, 23, 22, 95, 96, 2, 97, 98, 99, 100, 311, 312, 313, 101, 102, 103, 104, 105, 106, 107, 108, 109, 110, 111, 112, 113, 114, 314, 315, 316, 296, 297, 298, 317, 318, 319, 320, 245, 246, 247, 248, 321, 322, 323, 324, 244, 137, 138, 139, 16, 140, 141, 36, 142, 143, 144, 145, 37, 146, 147, 148, 20, 149, 150, 151, 152, 41, 42, 153, 154, 155, 156, 157, 158, 159, 160, 161, 162, 163, 164, 43, 44, 45, 46, 165, 166, 167, 168, 47, 48, 169, 170, 171, 172, 173, 174, 175, 176, 177, 178, 179, 180, 181, 182, 183, 184, 185, 186, 187, 188, 325, 326, 327, 328, 329, 330, 243, 331, 332, 333, 334, 335, 49, 50, 51, 336, 337, 338, 339, 340, 341, 342, 343, 344, 345, 346, 347, 348, 349, 350, 351, 352, 353, 354, 355, 356, 357, 358, 359, 360, 361, 362, 363, 364, 365, 366, 367, 761, 762, 763, 764, 765, 766, 767, 768, 769, 800, 801, 802, 825, 826, 803, 804, 805, 806, 807, 808, 809, 810, 811, 812, 813, 814, 815, 816] (by decide +kernel) (by decide +kernel)
set_option maxRecDepth 20000 in
theorem gL_law_X5_day : GoodIn wsL_law (wsV RL 33 RX5 yX5_day wsX5_day) := goodIn_app (goodIn_of _ (by decide +kernel)) ggL_law_X5_day
set_option maxRecDepth 20000 in
theorem ggL_law_X6_day : GoodIn wsL_law wsX6_day := goodIn_r _ [371, 193, 256, 274, 254, 372, 196, 201, 84, 76, 68, 198, 199, 5, 200, 202, 203, 204, 205, 206, 207, 208, 209, 210, 211, 212, 213, 82, 83, 214, 215, 216, 217, 218, 219, 220, 303, 304, 305, 306, 237, 373, 374, 375, 376, 377, 378, 379, 300, 301, 302, 258, 259, 260, 261, 266, 267, 268, 269, 262, 263, 264, 265, 67, 270, 271, 272, 273, 380, 381, 382, 383, 77, 78, 384, 385, 386, 387, 388, 389, 390, 391, 392, 393, 394, 395, 396, 397, 398, 399, 400, 401, 75, 72, 73, 74, 402, 403, 404, 405, 406, 407, 408, 409, 410, 411, 412, 413, 414, 415, 416, 417, 418, 419, 420, 421, 422, 423, 424, 425, 426, 427, 428, 429, 430, 431, 432, 433, 434, 435, 770, 771, 772, 773, 774, 775, 776, 777, 778, 779, 780, 781, 782, 783, 784, 785, 786, 787, 788, 789, 790, 791, 792, 793, 794, 795, 796, 797, 798, 799] (by decide +kernel) (by decide +kernel)
set_option maxRecDepth 20000 in
theorem gL_law_X6_day : GoodIn wsL_law (wsV RL 37 RX6 yX6_day wsX6_day) := goodIn_app (goodIn_of _ (by decide +kernel)) ggL_law_X6_day
set_option maxRecDepth 20000 in
theorem ggL_law_X5_called : GoodIn wsL_law wsX5_called := goodIn_r _ [439, 21, 440, 441, 442, 2, 443, 243, 245, 246, 247, 248, 17, 94, 98, 99, 100, 444, 445, 446, 20, 447, 177, 178, 179, 180, 41, 43, 45, 46, 44, 181, 173, 174, 175, 176, 182, 183, 184, 185, 186, 187, 188, 761, 762, 763, 764, 765, 766, 767, 768, 769, 803, 804, 805, 806, 807, 808, 809, 810, 811, 812, 813, 814, 815, 816, 800, 801, 802] (by decide +kernel) (by decide +kernel)
set_option maxRecDepth 20000 in
theorem gL_law_X5_called : GoodIn wsL_law (wsV RL 38 RX5 yX5_called wsX5_called) := goodIn_app (goodIn_of _ (by decide +kernel)) ggL_law_X5_called
set_option maxRecDepth 20000 in
theorem ggL_law_X6_called : GoodIn wsL_law wsX6_called := goodIn_r _ [451, 452, 453, 454, 5, 455, 258, 259, 260, 261, 196, 202, 203, 204, 266, 267, 268, 269, 262, 263, 264, 265, 68, 67, 193, 270, 271, 272, 273, 274, 456, 457, 458, 459, 388, 389, 390, 391, 392, 393, 394, 395, 396, 397, 424, 425, 426, 427, 402, 403, 404, 405, 406, 407, 770, 771, 772, 773, 774, 775, 776, 777, 778, 779, 780, 781, 782, 783, 784, 785, 786, 787, 788, 789, 790, 791, 792, 793, 794, 795, 796, 797, 798, 799] (by decide +kernel) (by decide +kernel)
set_option maxRecDepth 20000 in
theorem gL_law_X6_called : GoodIn wsL_law (wsV RL 41 RX6 yX6_called wsX6_called) := goodIn_app (goodIn_of _ (by decide +kernel)) ggL_law_X6_called
set_option maxRecDepth 20000 in
theorem ggL_law_X5_byName : GoodIn wsL_law wsX5_byName := goodIn_r _ [463, 21, 243, 245, 246, 247, 2, 248, 17, 94, 98, 99, 100, 444, 445, 446, 20, 447, 177, 178, 179, 180, 41, 43, 45, 46, 44, 181, 173, 174, 175, 176, 182, 183, 184, 185, 186, 187, 188, 761, 762, 763, 764, 765, 766, 767, 768, 769, 803, 804, 805, 806, 807, 808, 809, 810, 811, 812, 813, 814, 815, 816, 800, 801, 802] (by decide +kernel) (by decide +kernel)
set_option maxRecDepth 20000 in
theorem gL_law_X5_byName : GoodIn wsL_law (wsV RL 42 RX5 yX5_byName wsX5_byName) := goodIn_app (goodIn_of _ (by decide +kernel)) ggL_law_X5_byName
set_option maxRecDepth 20000 in
theorem ggL_law_X6_byName : GoodIn wsL_law wsX6_byName := goodIn_r _ [467, 468, 258, 259, 260, 5, 261, 196, 202, 203, 204, 266, 267, 268, 269, 262, 263, 264, 265, 68, 67, 193, 270, 271, 272, 273, 274, 456, 457, 458, 459, 388, 389, 390, 391, 392, 393, 394, 395, 396, 397, 424, 425, 426, 427, 402, 403, 404, 405, 406, 407, 770, 771, 772, 773, 774, 775, 776, 777, 778, 779, 780, 781, 782, 783, 784, 785, 786, 787, 788, 789, 790, 791, 792, 793, 794, 795, 796, 797, 798, 799] (by decide +kernel) (by decide +kernel)
set_option maxRecDepth 20000 in
theorem gL_law_X6_byName : GoodIn wsL_law (wsV RL 45 RX6 yX6_byName wsX6_byName) := goodIn_app (goodIn_of _ (by decide +kernel)) ggL_law_X6_byName
set_option maxRecDepth 20000 in
theorem ggL_law_X5_signAt : GoodIn wsL_law wsX5_signAt := goodIn_r _ [472, 21, 440, 441, 442, 2, 443, 243, 245, 246, 247, 248, 17, 94, 98, 99, 100, 473, 178, 179, 20, 180, 41, 43, 45, 46, 44, 181, 173, 174, 175, 176, 182, 183, 184, 185, 186, 187, 188, 761, 762, 763, 764, 765, 766, 767, 768, 769, 803, 804, 805, 806, 807, 808, 809, 810, 811, 812, 813, 814, 815, 816, 800, 801, 802] (by decide +kernel) (by decide +kernel)
set_option maxRecDepth 20000 in
theorem gL_law_X5_signAt : GoodIn wsL_law (wsV RL 46 RX5 yX5_signAt wsX5_signAt) := goodIn_app (goodIn_of _ (by decide +kernel)) ggL_law_X5_signAt
set_option maxRecDepth 20000 in
theorem ggL_law_X6_signAt : GoodIn wsL_law wsX6_signAt := goodIn_r _ [477, 452, 453, 454, 5, 455, 258, 259, 260, 261, 196, 202, 203, 204, 266, 267, 268, 269, 262, 263, 264, 265, 68, 67, 193, 270, 271, 272, 273, 274, 478, 479, 480, 481, 388, 389, 390, 391, 392, 393, 394, 395, 396, 397, 420, 421, 422, 423, 424, 425, 426, 427, 402, 403, 404, 405, 406, 407, 770, 771, 772, 773, 774, 775, 776, 777, 778, 779, 780, 781, 782, 783, 784, 785, 786, 787, 788, 789, 790, 791, 792, 793, 794, 795, 796, 797, 798, 799] (by decide +kernel) (by decide +kernel)
set_option maxRecDepth 20000 in
theorem gL_law_X6_signAt : GoodIn wsL_law (wsV RL 49 RX6 yX6_signAt wsX6_signAt) := goodIn_app (goodIn_of _ (by decide +kernel)) ggL_law_X6_signAt
set_option maxRecDepth 20000 in
theorem ggL_law_X5_more : GoodIn wsL_law wsX5_more := goodIn_r _ [485, 21, 243, 245, 246, 247, 2, 248, 17, 94, 98, 99, 100, 473, 178, 179, 20, 180, 41, 43, 45, 46, 44, 181, 173, 174, 175, 176, 182, 183, 184, 185, 186, 187, 188, 761, 762, 763, 764, 765, 766, 767, 768, 769, 803, 804, 805, 806, 807, 808, 809, 810, 811, 812, 813, 814, 815, 816, 800, 801, 802] (by decide +kernel) (by decide +kernel)
set_option maxRecDepth 20000 in
theorem gL_law_X5_more : GoodIn wsL_law (wsV RL 50 RX5 yX5_more wsX5_more) := goodIn_app (goodIn_of _ (by decide +kernel)) ggL_law_X5_more
set_option maxRecDepth 20000 in
theorem ggL_law_X6_more : GoodIn wsL_law wsX6_more := goodIn_r _ [489, 258, 259, 260, 5, 261, 196, 202, 203, 204, 266, 267, 268, 269, 262, 263, 264, 265, 68, 67, 193, 270, 271, 272, 273, 274, 478, 479, 480, 481, 388, 389, 390, 391, 392, 393, 394, 395, 396, 397, 420, 421, 422, 423, 424, 425, 426, 427, 402, 403, 404, 405, 406, 407, 770, 771, 772, 773, 774, 775, 776, 777, 778, 779, 780, 781, 782, 783, 784, 785, 786, 787, 788, 789, 790, 791, 792, 793, 794, 795, 796, 797, 798, 799] (by decide +kernel) (by decide +kernel)
set_option maxRecDepth 20000 in
theorem gL_law_X6_more : GoodIn wsL_law (wsV RL 53 RX6 yX6_more wsX6_more) := goodIn_app (goodIn_of _ (by decide +kernel)) ggL_law_X6_more
set_option maxRecDepth 20000 in
theorem ggL_law_X5_place : GoodIn wsL_law wsX5_place := goodIn_r _ [493, 21, 440, 441, 442, 2, 443, 243, 245, 246, 247, 248, 17, 94, 98, 99, 100, 494, 495, 496, 20, 497, 152, 47, 169, 170, 171, 172, 41, 44, 173, 174, 175, 176, 177, 178, 179, 180, 43, 45, 46, 181, 182, 183, 184, 185, 186, 187, 188, 761, 762, 763, 764, 765, 766, 767, 768, 769, 803, 804, 805, 806, 807, 808, 809, 810, 811, 812, 813, 814, 815, 816, 800, 801, 802] (by decide +kernel) (by decide +kernel)
set_option maxRecDepth 20000 in
theorem gL_law_X5_place : GoodIn wsL_law (wsV RL 54 RX5 yX5_place wsX5_place) := goodIn_app (goodIn_of _ (by decide +kernel)) ggL_law_X5_place
set_option maxRecDepth 20000 in
theorem ggL_law_X6_place : GoodIn wsL_law wsX6_place := goodIn_r _ [501, 452, 453, 454, 5, 455, 258, 259, 260, 261, 196, 202, 203, 204, 266, 267, 268, 269, 262, 263, 264, 265, 68, 67, 193, 270, 271, 272, 273, 274, 502, 503, 504, 505, 384, 385, 386, 387, 377, 388, 389, 390, 391, 392, 393, 394, 395, 396, 397, 398, 399, 400, 401, 75, 72, 73, 74, 402, 403, 404, 405, 406, 407, 408, 409, 410, 411, 770, 771, 772, 773, 774, 775, 776, 777, 778, 779, 780, 781, 782, 783, 784, 785, 786, 787, 788, 789, 790, 791, 792, 793, 794, 795, 796, 797, 798, 799] (by decide +kernel) (by decide +kernel)
set_option maxRecDepth 20000 in
theorem gL_law_X6_place : GoodIn wsL_law (wsV RL 57 RX6 yX6_place wsX6_place) := goodIn_app (goodIn_of _ (by decide +kernel)) ggL_law_X6_place
set_option maxRecDepth 20000 in
theorem ggL_law_X5_sharers : GoodIn wsL_law wsX5_sharers := goodIn_r _ [509, 17, 94, 21, 329, 510, 98, 99, 2, 100, 761, 762, 763, 764, 765, 766, 767, 768, 769, 800, 801, 802, 803, 804, 805, 806, 807, 808, 809, 810, 811, 812, 813, 814, 815, 816] (by decide +kernel) (by decide +kernel)
set_option maxRecDepth 20000 in
theorem gL_law_X5_sharers : GoodIn wsL_law (wsV RL 58 RX5 yX5_sharers wsX5_sharers) := goodIn_app (goodIn_of _ (by decide +kernel)) ggL_law_X5_sharers
set_option maxRecDepth 20000 in
theorem ggL_law_X6_sharers : GoodIn wsL_law wsX6_sharers := goodIn_r _ [514, 196, 377, 384, 385, 386, 5, 387, 266, 267, 268, 269, 262, 263, 264, 265, 68, 67, 193, 270, 271, 272, 273, 274, 388, 389, 390, 391, 392, 393, 394, 395, 396, 397, 398, 399, 400, 401, 75, 72, 73, 74, 402, 403, 404, 405, 406, 407, 408, 409, 410, 411, 202, 203, 204, 416, 417, 418, 419, 515, 516, 517, 518, 420, 421, 422, 423, 424, 425, 426, 427, 770, 771, 772, 773, 774, 775, 776, 777, 778, 779, 780, 781, 782, 783, 784, 785, 786, 787, 788, 789, 790, 791, 792, 793, 794, 795, 796, 797, 798, 799] (by decide +kernel) (by decide +kernel)
set_option maxRecDepth 20000 in
theorem gL_law_X6_sharers : GoodIn wsL_law (wsV RL 62 RX6 yX6_sharers wsX6_sharers) := goodIn_app (goodIn_of _ (by decide +kernel)) ggL_law_X6_sharers
set_option maxRecDepth 20000 in
theorem ggL_law_X5_line : GoodIn wsL_law wsX5_line := goodIn_r _ [522, 17, 94, 21, 329, 330, 98, 99, 2, 100, 523, 337, 338, 20, 339, 152, 331, 332, 333, 334, 335, 49, 50, 51, 336, 340, 341, 342, 343, 151, 344, 345, 346, 347, 47, 348, 349, 350, 351, 41, 173, 174, 175, 176, 177, 178, 179, 180, 43, 45, 46, 44, 181, 182, 183, 184, 185, 186, 187, 188, 352, 353, 354, 355, 761, 762, 763, 764, 765, 766, 767, 768, 769, 800, 801, 802, 803, 804, 805, 806, 807, 808, 809, 810, 811, 812, 813, 814, 815, 816] (by decide +kernel) (by decide +kernel)
set_option maxRecDepth 20000 in
theorem gL_law_X5_line : GoodIn wsL_law (wsV RL 63 RX5 yX5_line wsX5_line) := goodIn_app (goodIn_of _ (by decide +kernel)) ggL_law_X5_line
set_option maxRecDepth 20000 in
theorem ggL_law_X6_line : GoodIn wsL_law wsX6_line := goodIn_r _ [527, 193, 196, 377, 378, 202, 203, 5, 204, 380, 381, 382, 383, 77, 78, 384, 385, 386, 387, 266, 267, 268, 269, 262, 263, 264, 265, 68, 67, 270, 271, 272, 273, 274, 388, 389, 390, 391, 392, 393, 394, 395, 396, 397, 398, 399, 400, 401, 75, 72, 73, 74, 402, 403, 404, 405, 406, 407, 408, 409, 410, 411, 412, 413, 414, 415, 416, 417, 418, 419, 420, 421, 422, 423, 424, 425, 426, 427, 770, 771, 772, 773, 774, 775, 776, 777, 778, 779, 780, 781, 782, 783, 784, 785, 786, 787, 788, 789, 790, 791, 792, 793, 794, 795, 796, 797, 798, 799] (by decide +kernel) (by decide +kernel)
set_option maxRecDepth 20000 in
theorem gL_law_X6_line : GoodIn wsL_law (wsV RL 66 RX6 yX6_line wsX6_line) := goodIn_app (goodIn_of _ (by decide +kernel)) ggL_law_X6_line
set_option maxRecDepth 20000 in
theorem ggL_law_X5_signIn : GoodIn wsL_law wsX5_signIn := goodIn_r _ [531, 21, 245, 246, 247, 2, 248, 17, 94, 98, 99, 100, 523, 337, 338, 20, 339, 152, 532, 345, 346, 347, 47, 348, 349, 350, 351, 41, 173, 174, 175, 176, 177, 178, 179, 180, 43, 45, 46, 44, 181, 182, 183, 184, 185, 186, 187, 188, 761, 762, 763, 764, 765, 766, 767, 768, 769, 800, 801, 802, 803, 804, 805, 806, 807, 808, 809, 810, 811, 812, 813, 814, 815, 816] (by decide +kernel) (by decide +kernel)
set_option maxRecDepth 20000 in
theorem gL_law_X5_signIn : GoodIn wsL_law (wsV RL 67 RX5 yX5_signIn wsX5_signIn) := goodIn_app (goodIn_of _ (by decide +kernel)) ggL_law_X5_signIn
set_option maxRecDepth 20000 in
theorem ggL_law_X6_signIn : GoodIn wsL_law wsX6_signIn := goodIn_r _ [536, 193, 377, 258, 259, 260, 5, 261, 196, 202, 203, 204, 384, 385, 386, 387, 266, 267, 268, 269, 262, 263, 264, 265, 68, 67, 270, 271, 272, 273, 274, 388, 389, 390, 391, 392, 393, 394, 395, 396, 397, 398, 399, 400, 401, 75, 72, 73, 74, 402, 403, 404, 405, 406, 407, 408, 409, 410, 411, 412, 413, 414, 415, 416, 417, 418, 419, 420, 421, 422, 423, 424, 425, 426, 427, 770, 771, 772, 773, 774, 775, 776, 777, 778, 779, 780, 781, 782, 783, 784, 785, 786, 787, 788, 789, 790, 791, 792, 793, 794, 795, 796, 797, 798, 799] (by decide +kernel) (by decide +kernel)
set_option maxRecDepth 20000 in
theorem gL_law_X6_signIn : GoodIn wsL_law (wsV RL 70 RX6 yX6_signIn wsX6_signIn) := goodIn_app (goodIn_of _ (by decide +kernel)) ggL_law_X6_signIn
set_option maxRecDepth 20000 in
theorem ggL_law_X5_ofRow : GoodIn wsL_law wsX5_ofRow := goodIn_r _ [540, 17, 94, 21, 330, 541, 542, 331, 332, 333, 20, 334, 335, 49, 50, 51, 336, 337, 338, 339, 152, 340, 341, 342, 343, 151, 344, 345, 346, 347, 47, 348, 349, 350, 351, 41, 173, 174, 175, 176, 177, 178, 179, 180, 43, 45, 46, 44, 181, 182, 183, 184, 185, 186, 187, 188, 352, 353, 354, 355, 98, 99, 2, 100, 245, 246, 247, 248, 532, 761, 762, 763, 764, 765, 766, 767, 768, 769, 800, 801, 802, 803, 804, 805, 806, 807, 808, 809, 810, 811, 812, 813, 814, 815, 816] (by decide +kernel) (by decide +kernel)
set_option maxRecDepth 20000 in
theorem gL_law_X5_ofRow : GoodIn wsL_law (wsV RL 71 RX5 yX5_ofRow wsX5_ofRow) := goodIn_app (goodIn_of _ (by decide +kernel)) ggL_law_X5_ofRow
set_option maxRecDepth 20000 in
theorem ggL_law_X6_ofRow : GoodIn wsL_law wsX6_ofRow := goodIn_r _ [546, 196, 378, 78, 254, 372, 377, 77, 380, 381, 382, 5, 383, 384, 385, 386, 387, 266, 267, 268, 269, 262, 263, 264, 265, 68, 67, 193, 270, 271, 272, 273, 274, 388, 389, 390, 391, 392, 393, 394, 395, 396, 397, 398, 399, 400, 401, 75, 72, 73, 74, 402, 403, 404, 405, 406, 407, 408, 409, 410, 411, 412, 413, 414, 415, 416, 417, 418, 419, 420, 421, 422, 423, 424, 425, 426, 427, 202, 203, 204, 258, 259, 260, 261, 770, 771, 772, 773, 774, 775, 776, 777, 778, 779, 780, 781, 782, 783, 784, 785, 786, 787, 788, 789, 790, 791, 792, 793, 794, 795, 796, 797, 798, 799] (by decide +kernel) (by decide +kernel)
set_option maxRecDepth 20000 in
theorem gL_law_X6_ofRow : GoodIn wsL_law (wsV RL 74 RX6 yX6_ofRow wsX6_ofRow) := goodIn_app (goodIn_of _ (by decide +kernel)) ggL_law_X6_ofRow
set_option maxRecDepth 20000 in
theorem ggL_law_X5_wish : GoodIn wsL_law wsX5_wish := goodIn_r _ [550, 90, 17, 94, 13, 91, 21, 95, 96, 2, 97, 98, 99, 100, 101, 102, 103, 104, 105, 106, 107, 108, 109, 110, 111, 112, 113, 114, 523, 337, 338, 20, 339, 152, 551, 552, 553, 554, 532, 345, 346, 347, 47, 348, 349, 350, 351, 41, 173, 174, 175, 176, 177, 178, 179, 180, 43, 45, 46, 44, 181, 182, 183, 184, 185, 186, 187, 188, 761, 762, 763, 764, 765, 766, 767, 768, 769, 800, 801, 802, 825, 826, 803, 804, 805, 806, 807, 808, 809, 810, 811, 812, 813, 814, 815, 816] (by decide +kernel) (by decide +kernel)
set_option maxRecDepth 20000 in
theorem gL_law_X5_wish : GoodIn wsL_law (wsV RL 75 RX5 yX5_wish wsX5_wish) := goodIn_app (goodIn_of _ (by decide +kernel)) ggL_law_X5_wish
set_option maxRecDepth 20000 in
theorem ggL_law_X6_wish : GoodIn wsL_law wsX6_wish := goodIn_r _ [558, 196, 193, 84, 201, 377, 205, 206, 207, 5, 208, 209, 198, 199, 200, 202, 203, 204, 210, 211, 212, 213, 82, 83, 214, 215, 216, 217, 218, 219, 220, 384, 385, 386, 387, 266, 267, 268, 269, 262, 263, 264, 265, 68, 67, 270, 271, 272, 273, 274, 388, 389, 390, 391, 392, 393, 394, 395, 396, 397, 398, 399, 400, 401, 75, 72, 73, 74, 402, 403, 404, 405, 406, 407, 408, 409, 410, 411, 559, 560, 561, 562, 412, 413, 414, 415, 416, 417, 418, 419, 420, 421, 422, 423, 424, 425, 426, 427, 770, 771, 772, 773, 774, 775, 776, 777, 778, 779, 780, 781, 782, 783, 784, 785, 786, 787, 788, 789, 790, 791, 792, 793, 794, 795, 796, 797, 798, 799] (by decide +kernel) (by decide +kernel)
set_option maxRecDepth 20000 in
theorem gL_law_X6_wish : GoodIn wsL_law (wsV RL 78 RX6 yX6_wish wsX6_wish) := goodIn_app (goodIn_of _ (by decide +kernel)) ggL_law_X6_wish
set_option maxRecDepth 20000 in
theorem ggL_law_X5_reading : GoodIn wsL_law wsX5_reading := goodIn_r _ [566, 31, 93, 245, 246, 247, 2, 248, 17, 94, 98, 99, 100, 567, 568, 569, 30, 570, 60, 571, 61, 62, 761, 762, 763, 764, 765, 766, 767, 768, 769, 821, 822, 823, 824, 800, 801, 802] (by decide +kernel) (by decide +kernel)
set_option maxRecDepth 20000 in
theorem gL_law_X5_reading : GoodIn wsL_law (wsV RL 79 RX5 yX5_reading wsX5_reading) := goodIn_app (goodIn_of _ (by decide +kernel)) ggL_law_X5_reading
set_option maxRecDepth 20000 in
theorem ggL_law_X6_reading : GoodIn wsL_law wsX6_reading := goodIn_r _ [575, 256, 193, 197, 79, 80, 81, 258, 259, 260, 5, 261, 196, 202, 203, 204, 770, 771, 772, 773, 774, 775, 776, 777, 778, 779, 780, 781, 782, 783, 784, 785, 786, 787, 788, 789, 790, 791, 792, 793, 794, 795, 796, 797, 798, 799] (by decide +kernel) (by decide +kernel)
set_option maxRecDepth 20000 in
theorem gL_law_X6_reading : GoodIn wsL_law (wsV RL 82 RX6 yX6_reading wsX6_reading) := goodIn_app (goodIn_of _ (by decide +kernel)) ggL_law_X6_reading
set_option maxRecDepth 20000 in
theorem ggL_law_X5_back : GoodIn wsL_law wsX5_back := goodIn_r _ [579, 31, 93, 761, 762, 763, 764, 765, 766, 767, 768, 769, 821, 822, 823, 824] (by decide +kernel) (by decide +kernel)
set_option maxRecDepth 20000 in
theorem gL_law_X5_back : GoodIn wsL_law (wsV RL 83 RX5 yX5_back wsX5_back) := goodIn_app (goodIn_of _ (by decide +kernel)) ggL_law_X5_back
set_option maxRecDepth 20000 in
theorem ggL_law_X6_back : GoodIn wsL_law wsX6_back := goodIn_r _ [583, 197, 202, 203, 5, 204, 770, 771, 772, 773, 774, 775, 776, 777, 778, 779, 780, 781, 782, 783, 784, 785, 786, 787, 788, 789, 790, 791, 792, 793, 794, 795, 796, 797, 798, 799] (by decide +kernel) (by decide +kernel)
set_option maxRecDepth 20000 in
theorem gL_law_X6_back : GoodIn wsL_law (wsV RL 86 RX6 yX6_back wsX6_back) := goodIn_app (goodIn_of _ (by decide +kernel)) ggL_law_X6_back
set_option maxRecDepth 20000 in
theorem ggL_law_X5_kinds : GoodIn wsL_law wsX5_kinds := goodIn_r _ [587, 22, 17, 242, 23, 31, 245, 246, 247, 2, 248, 94, 98, 99, 100, 137, 138, 139, 16, 140, 141, 36, 142, 143, 144, 145, 37, 146, 147, 148, 20, 149, 150, 151, 152, 41, 42, 153, 154, 155, 156, 157, 158, 159, 160, 161, 162, 163, 164, 43, 44, 45, 46, 165, 166, 167, 168, 47, 48, 169, 170, 171, 172, 173, 174, 175, 176, 177, 178, 179, 180, 181, 182, 183, 184, 185, 186, 187, 188, 588, 589, 590, 30, 591, 571, 60, 61, 62, 592, 337, 338, 339, 593, 345, 346, 347, 348, 349, 350, 351, 761, 762, 763, 764, 765, 766, 767, 768, 769, 800, 801, 802, 803, 804, 805, 806, 807, 808, 809, 810, 811, 812, 813, 814, 815, 816, 821, 822, 823, 824] (by decide +kernel) (by decide +kernel)
set_option maxRecDepth 20000 in
theorem gL_law_X5_kinds : GoodIn wsL_law (wsV RL 87 RX5 yX5_kinds wsX5_kinds) := goodIn_app (goodIn_of _ (by decide +kernel)) ggL_law_X5_kinds
set_option maxRecDepth 20000 in
theorem ggL_law_X6_kinds : GoodIn wsL_law wsX6_kinds := goodIn_r _ [597, 67, 258, 259, 260, 5, 261, 196, 202, 203, 204, 598, 599, 600, 601, 197, 79, 377, 80, 81, 384, 385, 386, 387, 266, 267, 268, 269, 262, 263, 264, 265, 68, 193, 270, 271, 272, 273, 274, 388, 389, 390, 391, 392, 393, 394, 395, 396, 397, 398, 399, 400, 401, 75, 72, 73, 74, 402, 403, 404, 405, 406, 407, 408, 409, 410, 411, 412, 413, 414, 415, 416, 417, 418, 419, 420, 421, 422, 423, 424, 425, 426, 427, 770, 771, 772, 773, 774, 775, 776, 777, 778, 779, 780, 781, 782, 783, 784, 785, 786, 787, 788, 789, 790, 791, 792, 793, 794, 795, 796, 797, 798, 799] (by decide +kernel) (by decide +kernel)
set_option maxRecDepth 20000 in
theorem gL_law_X6_kinds : GoodIn wsL_law (wsV RL 90 RX6 yX6_kinds wsX6_kinds) := goodIn_app (goodIn_of _ (by decide +kernel)) ggL_law_X6_kinds
set_option maxRecDepth 20000 in
theorem ggL_law_X5_lows : GoodIn wsL_law wsX5_lows := goodIn_r _ [605, 22, 17, 244, 23, 31, 245, 246, 247, 2, 248, 94, 98, 99, 100, 137, 138, 139, 16, 140, 141, 36, 142, 143, 144, 145, 37, 146, 147, 148, 20, 149, 150, 151, 152, 41, 42, 153, 154, 155, 156, 157, 158, 159, 160, 161, 162, 163, 164, 43, 44, 45, 46, 165, 166, 167, 168, 47, 48, 169, 170, 171, 172, 173, 174, 175, 176, 177, 178, 179, 180, 181, 182, 183, 184, 185, 186, 187, 188, 588, 589, 590, 30, 591, 571, 60, 61, 62, 592, 337, 338, 339, 593, 345, 346, 347, 348, 349, 350, 351, 761, 762, 763, 764, 765, 766, 767, 768, 769, 800, 801, 802, 803, 804, 805, 806, 807, 808, 809, 810, 811, 812, 813, 814, 815, 816, 821, 822, 823, 824] (by decide +kernel) (by decide +kernel)
set_option maxRecDepth 20000 in
theorem gL_law_X5_lows : GoodIn wsL_law (wsV RL 91 RX5 yX5_lows wsX5_lows) := goodIn_app (goodIn_of _ (by decide +kernel)) ggL_law_X5_lows
set_option maxRecDepth 20000 in
theorem ggL_law_X6_lows : GoodIn wsL_law wsX6_lows := goodIn_r _ [609, 68, 258, 259, 260, 5, 261, 196, 202, 203, 204, 598, 599, 600, 601, 197, 79, 377, 80, 81, 384, 385, 386, 387, 266, 267, 268, 269, 262, 263, 264, 265, 67, 193, 270, 271, 272, 273, 274, 388, 389, 390, 391, 392, 393, 394, 395, 396, 397, 398, 399, 400, 401, 75, 72, 73, 74, 402, 403, 404, 405, 406, 407, 408, 409, 410, 411, 412, 413, 414, 415, 416, 417, 418, 419, 420, 421, 422, 423, 424, 425, 426, 427, 770, 771, 772, 773, 774, 775, 776, 777, 778, 779, 780, 781, 782, 783, 784, 785, 786, 787, 788, 789, 790, 791, 792, 793, 794, 795, 796, 797, 798, 799] (by decide +kernel) (by decide +kernel)
set_option maxRecDepth 20000 in
theorem gL_law_X6_lows : GoodIn wsL_law (wsV RL 94 RX6 yX6_lows wsX6_lows) := goodIn_app (goodIn_of _ (by decide +kernel)) ggL_law_X6_lows
set_option maxRecDepth 20000 in
theorem ggL_law_X5_odds : GoodIn wsL_law wsX5_odds := goodIn_r _ [613, 281, 21, 245, 246, 247, 2, 248, 17, 94, 98, 99, 100, 523, 337, 338, 20, 339, 152, 532, 345, 346, 347, 47, 348, 349, 350, 351, 41, 173, 174, 175, 176, 177, 178, 179, 180, 43, 45, 46, 44, 181, 182, 183, 184, 185, 186, 187, 188, 614, 615, 616, 761, 762, 763, 764, 765, 766, 767, 768, 769, 800, 801, 802, 803, 804, 805, 806, 807, 808, 809, 810, 811, 812, 813, 814, 815, 816] (by decide +kernel) (by decide +kernel)
set_option maxRecDepth 20000 in
theorem gL_law_X5_odds : GoodIn wsL_law (wsV RL 95 RX5 yX5_odds wsX5_odds) := goodIn_app (goodIn_of _ (by decide +kernel)) ggL_law_X5_odds
set_option maxRecDepth 20000 in
theorem ggL_law_X6_odds : GoodIn wsL_law wsX6_odds := goodIn_r _ [620, 193, 377, 258, 259, 260, 5, 261, 196, 202, 203, 204, 288, 289, 290, 291, 384, 385, 386, 387, 266, 267, 268, 269, 262, 263, 264, 265, 68, 67, 270, 271, 272, 273, 274, 388, 389, 390, 391, 392, 393, 394, 395, 396, 397, 398, 399, 400, 401, 75, 72, 73, 74, 402, 403, 404, 405, 406, 407, 408, 409, 410, 411, 412, 413, 414, 415, 416, 417, 418, 419, 420, 421, 422, 423, 424, 425, 426, 427, 621, 622, 623, 770, 771, 772, 773, 774, 775, 776, 777, 778, 779, 780, 781, 782, 783, 784, 785, 786, 787, 788, 789, 790, 791, 792, 793, 794, 795, 796, 797, 798, 799] (by decide +kernel) (by decide +kernel)
set_option maxRecDepth 20000 in
theorem gL_law_X6_odds : GoodIn wsL_law (wsV RL 99 RX6 yX6_odds wsX6_odds) := goodIn_app (goodIn_of _ (by decide +kernel)) ggL_law_X6_odds
set_option maxRecDepth 20000 in
theorem ggL_law_X5_sheet : GoodIn wsL_law wsX5_sheet := goodIn_r _ [627, 90, 13, 12, 628, 108, 95, 96, 2, 97, 98, 99, 100, 111, 112, 113, 114, 629, 630, 631, 632, 10, 11, 633, 35, 110, 761, 762, 763, 764, 765, 766, 767, 768, 769, 825, 826] (by decide +kernel) (by decide +kernel)
set_option maxRecDepth 20000 in
theorem gL_law_X5_sheet : GoodIn wsL_law (wsV RL 100 RX5 yX5_sheet wsX5_sheet) := goodIn_app (goodIn_of _ (by decide +kernel)) ggL_law_X5_sheet
set_option maxRecDepth 20000 in
theorem ggL_law_X6_sheet : GoodIn wsL_law wsX6_sheet := goodIn_r _ [637, 193, 82, 83, 84, 198, 199, 5, 200, 201, 202, 203, 204, 205, 206, 207, 208, 209, 214, 215, 216, 217, 770, 771, 772, 773, 774, 775, 776, 777, 778, 779, 780, 781, 782, 783, 784, 785, 786, 787, 788, 789, 790, 791, 792, 793, 794, 795, 796, 797, 798, 799] (by decide +kernel) (by decide +kernel)
set_option maxRecDepth 20000 in
theorem gL_law_X6_sheet : GoodIn wsL_law (wsV RL 103 RX6 yX6_sheet wsX6_sheet) := goodIn_app (goodIn_of _ (by decide +kernel)) ggL_law_X6_sheet
set_option maxRecDepth 20000 in
theorem ggL_law_X5_lose : GoodIn wsL_law wsX5_lose := goodIn_r _ [641, 13, 95, 96, 2, 97, 98, 99, 100, 761, 762, 763, 764, 765, 766, 767, 768, 769] (by decide +kernel) (by decide +kernel)
set_option maxRecDepth 20000 in
theorem gL_law_X5_lose : GoodIn wsL_law (wsV RL 104 RX5 yX5_lose wsX5_lose) := goodIn_app (goodIn_of _ (by decide +kernel)) ggL_law_X5_lose
set_option maxRecDepth 20000 in
theorem ggL_law_X6_lose : GoodIn wsL_law wsX6_lose := goodIn_r _ [645, 82, 198, 199, 5, 200, 201, 202, 203, 204, 770, 771, 772, 773, 774, 775, 776, 777, 778, 779, 780, 781, 782, 783, 784, 785, 786, 787, 788, 789, 790, 791, 792, 793, 794, 795, 796, 797, 798, 799] (by decide +kernel) (by decide +kernel)
set_option maxRecDepth 20000 in
theorem gL_law_X6_lose : GoodIn wsL_law (wsV RL 107 RX6 yX6_lose wsX6_lose) := goodIn_app (goodIn_of _ (by decide +kernel)) ggL_law_X6_lose
set_option maxRecDepth 20000 in
theorem ggL_law_X5_put : GoodIn wsL_law wsX5_put := goodIn_r _ [649, 90, 13, 91, 95, 96, 2, 97, 98, 99, 100, 111, 112, 113, 114, 650, 651, 652, 108, 653, 633, 761, 762, 763, 764, 765, 766, 767, 768, 769, 825, 826] (by decide +kernel) (by decide +kernel)
set_option maxRecDepth 20000 in
theorem gL_law_X5_put : GoodIn wsL_law (wsV RL 108 RX5 yX5_put wsX5_put) := goodIn_app (goodIn_of _ (by decide +kernel)) ggL_law_X5_put
set_option maxRecDepth 20000 in
theorem ggL_law_X6_put : GoodIn wsL_law wsX6_put := goodIn_r _ [657, 84, 83, 198, 199, 5, 200, 201, 202, 203, 204, 205, 206, 207, 208, 209, 658, 659, 660, 661, 82, 214, 215, 216, 217, 770, 771, 772, 773, 774, 775, 776, 777, 778, 779, 780, 781, 782, 783, 784, 785, 786, 787, 788, 789, 790, 791, 792, 793, 794, 795, 796, 797, 798, 799] (by decide +kernel) (by decide +kernel)
set_option maxRecDepth 20000 in
theorem gL_law_X6_put : GoodIn wsL_law (wsV RL 111 RX6 yX6_put wsX6_put) := goodIn_app (goodIn_of _ (by decide +kernel)) ggL_law_X6_put
set_option maxRecDepth 20000 in
theorem ggL_law_X5_cell : GoodIn wsL_law wsX5_cell := goodIn_r _ [665, 90, 281, 13, 91, 95, 96, 2, 97, 98, 99, 100, 101, 102, 103, 104, 105, 106, 107, 108, 109, 110, 761, 762, 763, 764, 765, 766, 767, 768, 769, 825, 826] (by decide +kernel) (by decide +kernel)
set_option maxRecDepth 20000 in
theorem gL_law_X5_cell : GoodIn wsL_law (wsV RL 112 RX5 yX5_cell wsX5_cell) := goodIn_app (goodIn_of _ (by decide +kernel)) ggL_law_X5_cell
set_option maxRecDepth 20000 in
theorem ggL_law_X6_cell : GoodIn wsL_law wsX6_cell := goodIn_r _ [669, 209, 193, 82, 83, 84, 198, 199, 5, 200, 201, 202, 203, 204, 288, 289, 290, 291, 670, 671, 672, 673, 658, 659, 660, 661, 770, 771, 772, 773, 774, 775, 776, 777, 778, 779, 780, 781, 782, 783, 784, 785, 786, 787, 788, 789, 790, 791, 792, 793, 794, 795, 796, 797, 798, 799] (by decide +kernel) (by decide +kernel)
set_option maxRecDepth 20000 in
theorem gL_law_X6_cell : GoodIn wsL_law (wsV RL 115 RX6 yX6_cell wsX6_cell) := goodIn_app (goodIn_of _ (by decide +kernel)) ggL_law_X6_cell
set_option maxRecDepth 20000 in
theorem ggL_law_X5_copy : GoodIn wsL_law wsX5_copy := goodIn_r _ [677, 90, 13, 104, 91, 678, 143, 144, 145, 95, 96, 2, 97, 98, 99, 100, 111, 112, 113, 114, 105, 106, 107, 108, 109, 110, 761, 762, 763, 764, 765, 766, 767, 768, 769, 825, 826] (by decide +kernel) (by decide +kernel)
set_option maxRecDepth 20000 in
theorem gL_law_X5_copy : GoodIn wsL_law (wsV RL 116 RX5 yX5_copy wsX5_copy) := goodIn_app (goodIn_of _ (by decide +kernel)) ggL_law_X5_copy
set_option maxRecDepth 20000 in
theorem ggL_law_X6_copy : GoodIn wsL_law wsX6_copy := goodIn_r _ [682, 82, 83, 85, 84, 198, 199, 5, 200, 201, 202, 203, 204, 205, 206, 207, 208, 209, 214, 215, 216, 217, 218, 219, 220, 770, 771, 772, 773, 774, 775, 776, 777, 778, 779, 780, 781, 782, 783, 784, 785, 786, 787, 788, 789, 790, 791, 792, 793, 794, 795, 796, 797, 798, 799] (by decide +kernel) (by decide +kernel)
set_option maxRecDepth 20000 in
theorem gL_law_X6_copy : GoodIn wsL_law (wsV RL 119 RX6 yX6_copy wsX6_copy) := goodIn_app (goodIn_of _ (by decide +kernel)) ggL_law_X6_copy
set_option maxRecDepth 20000 in
theorem ggL_law_X5_tell : GoodIn wsL_law wsX5_tell := goodIn_r _ [686, 17, 242, 245, 246, 247, 2, 248, 94, 98, 99, 100, 687, 688, 689, 690, 691, 692, 693, 694, 695, 696, 697, 698, 699, 700, 701, 702, 703, 21, 243, 761, 762, 763, 764, 765, 766, 767, 768, 769, 800, 801, 802, 803, 804, 805, 806, 807, 808, 809, 810, 811, 812, 813, 814, 815, 816] (by decide +kernel) (by decide +kernel)
set_option maxRecDepth 20000 in
theorem gL_law_X5_tell : GoodIn wsL_law (wsV RL 120 RX5 yX5_tell wsX5_tell) := goodIn_app (goodIn_of _ (by decide +kernel)) ggL_law_X5_tell
set_option maxRecDepth 20000 in
theorem ggL_law_X6_tell : GoodIn wsL_law wsX6_tell := goodIn_r _ [707, 67, 258, 259, 260, 5, 261, 196, 202, 203, 204, 708, 709, 710, 711, 712, 266, 267, 268, 269, 262, 263, 264, 265, 68, 193, 270, 271, 272, 273, 274, 770, 771, 772, 773, 774, 775, 776, 777, 778, 779, 780, 781, 782, 783, 784, 785, 786, 787, 788, 789, 790, 791, 792, 793, 794, 795, 796, 797, 798, 799] (by decide +kernel) (by decide +kernel)
set_option maxRecDepth 20000 in
theorem gL_law_X6_tell : GoodIn wsL_law (wsV RL 123 RX6 yX6_tell wsX6_tell) := goodIn_app (goodIn_of _ (by decide +kernel)) ggL_law_X6_tell
set_option maxRecDepth 20000 in
theorem ggL_law_X5_call : GoodIn wsL_law wsX5_call := goodIn_r _ [716, 17, 242, 245, 246, 247, 2, 248, 94, 98, 99, 100, 691, 692, 693, 694, 695, 761, 762, 763, 764, 765, 766, 767, 768, 769, 800, 801, 802] (by decide +kernel) (by decide +kernel)
set_option maxRecDepth 20000 in
theorem gL_law_X5_call : GoodIn wsL_law (wsV RL 124 RX5 yX5_call wsX5_call) := goodIn_app (goodIn_of _ (by decide +kernel)) ggL_law_X5_call
set_option maxRecDepth 20000 in
theorem ggL_law_X6_call : GoodIn wsL_law wsX6_call := goodIn_r _ [720, 67, 258, 259, 260, 5, 261, 196, 202, 203, 204, 708, 709, 710, 711, 712, 770, 771, 772, 773, 774, 775, 776, 777, 778, 779, 780, 781, 782, 783, 784, 785, 786, 787, 788, 789, 790, 791, 792, 793, 794, 795, 796, 797, 798, 799] (by decide +kernel) (by decide +kernel)
set_option maxRecDepth 20000 in
theorem gL_law_X6_call : GoodIn wsL_law (wsV RL 127 RX6 yX6_call wsX6_call) := goodIn_app (goodIn_of _ (by decide +kernel)) ggL_law_X6_call
set_option maxRecDepth 20000 in
theorem ggL_law_X5_as : GoodIn wsL_law wsX5_as := goodIn_r _ [724, 90, 17, 242, 245, 246, 247, 2, 248, 94, 98, 99, 100, 111, 112, 113, 114, 761, 762, 763, 764, 765, 766, 767, 768, 769, 800, 801, 802] (by decide +kernel) (by decide +kernel)
set_option maxRecDepth 20000 in
theorem gL_law_X5_as : GoodIn wsL_law (wsV RL 128 RX5 yX5_as wsX5_as) := goodIn_app (goodIn_of _ (by decide +kernel)) ggL_law_X5_as
set_option maxRecDepth 20000 in
theorem ggL_law_X6_as : GoodIn wsL_law wsX6_as := goodIn_r _ [728, 193, 67, 258, 259, 260, 5, 261, 196, 202, 203, 204, 205, 206, 207, 208, 209, 214, 215, 216, 217, 770, 771, 772, 773, 774, 775, 776, 777, 778, 779, 780, 781, 782, 783, 784, 785, 786, 787, 788, 789, 790, 791, 792, 793, 794, 795, 796, 797, 798, 799] (by decide +kernel) (by decide +kernel)
set_option maxRecDepth 20000 in
theorem gL_law_X6_as : GoodIn wsL_law (wsV RL 131 RX6 yX6_as wsX6_as) := goodIn_app (goodIn_of _ (by decide +kernel)) ggL_law_X6_as
set_option maxRecDepth 20000 in
theorem ggL_law_X5_trace : GoodIn wsL_law wsX5_trace := goodIn_r _ [732, 695, 761, 762, 763, 764, 765, 766, 767, 768, 769] (by decide +kernel) (by decide +kernel)
set_option maxRecDepth 20000 in
theorem gL_law_X5_trace : GoodIn wsL_law (wsV RL 132 RX5 yX5_trace wsX5_trace) := goodIn_app (goodIn_of _ (by decide +kernel)) ggL_law_X5_trace
set_option maxRecDepth 20000 in
theorem ggL_law_X6_trace : GoodIn wsL_law wsX6_trace := goodIn_r _ [736, 712, 770, 771, 772, 773, 774, 775, 776, 777, 778, 779, 780, 781, 782, 783, 784, 785, 786, 787, 788, 789, 790, 791, 792, 793, 794, 795, 796, 797, 798, 799] (by decide +kernel) (by decide +kernel)
set_option maxRecDepth 20000 in
theorem gL_law_X6_trace : GoodIn wsL_law (wsV RL 136 RX6 yX6_trace wsX6_trace) := goodIn_app (goodIn_of _ (by decide +kernel)) ggL_law_X6_trace
set_option maxRecDepth 20000 in
theorem ggL_law_X5_fault : GoodIn wsL_law wsX5_fault := goodIn_r _ [740, 90, 761, 762, 763, 764, 765, 766, 767, 768, 769] (by decide +kernel) (by decide +kernel)
set_option maxRecDepth 20000 in
theorem gL_law_X5_fault : GoodIn wsL_law (wsV RL 137 RX5 yX5_fault wsX5_fault) := goodIn_app (goodIn_of _ (by decide +kernel)) ggL_law_X5_fault
set_option maxRecDepth 20000 in
theorem ggL_law_X6_fault : GoodIn wsL_law wsX6_fault := goodIn_r _ [744, 209, 770, 771, 772, 773, 774, 775, 776, 777, 778, 779, 780, 781, 782, 783, 784, 785, 786, 787, 788, 789, 790, 791, 792, 793, 794, 795, 796, 797, 798, 799] (by decide +kernel) (by decide +kernel)
set_option maxRecDepth 20000 in
theorem gL_law_X6_fault : GoodIn wsL_law (wsV RL 140 RX6 yX6_fault wsX6_fault) := goodIn_app (goodIn_of _ (by decide +kernel)) ggL_law_X6_fault
set_option maxRecDepth 20000 in
theorem ggL_law_X5_many : GoodIn wsL_law wsX5_many := goodIn_r _ [748, 17, 94, 21, 31, 93, 749, 750, 751, 20, 752, 151, 42, 753, 754, 755, 756, 41, 761, 762, 763, 764, 765, 766, 767, 768, 769, 800, 801, 802, 821, 822, 823, 824, 803, 804, 805, 806, 807, 808, 809, 810, 811, 812, 813, 814, 815, 816] (by decide +kernel) (by decide +kernel)
set_option maxRecDepth 20000 in
theorem gL_law_X5_many : GoodIn wsL_law (wsV RL 141 RX5 yX5_many wsX5_many) := goodIn_app (goodIn_of _ (by decide +kernel)) ggL_law_X5_many
set_option maxRecDepth 20000 in
theorem ggL_law_X6_many : GoodIn wsL_law wsX6_many := goodIn_r _ [760, 196, 197, 266, 267, 268, 5, 269, 262, 263, 264, 265, 68, 67, 193, 270, 271, 272, 273, 274, 515, 516, 517, 518, 770, 771, 772, 773, 774, 775, 776, 777, 778, 779, 780, 781, 782, 783, 784, 785, 786, 787, 788, 789, 790, 791, 792, 793, 794, 795, 796, 797, 798, 799] (by decide +kernel) (by decide +kernel)
set_option maxRecDepth 20000 in
theorem gL_law_X6_many : GoodIn wsL_law (wsV RL 144 RX6 yX6_many wsX6_many) := goodIn_app (goodIn_of _ (by decide +kernel)) ggL_law_X6_many
