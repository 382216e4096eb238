theorem inlX0 : ∀ w ∈ wsX00, w ∈ wsL_law := fun _ h => List.mem_append_left _ (List.mem_append_left _ (List.mem_append_left _ (List.mem_append_left _ (List.mem_append_right _ h))))
theorem inlX1 : ∀ w ∈ wsX10, w ∈ wsL_law := fun _ h => List.mem_append_left _ (List.mem_append_left _ (List.mem_append_right _ h))
theorem inlX2 : ∀ w ∈ wsX20, w ∈ wsL_law := fun _ h => List.mem_append_left _ (List.mem_append_right _ h)
theorem inlX3 : ∀ w ∈ wsX30, w ∈ wsL_law := fun _ h => List.mem_append_left _ (List.mem_append_left _ (List.mem_append_left _ (List.mem_append_right _ h)))
theorem inlX4 : ∀ w ∈ wsX40, w ∈ wsL_law := fun _ h => List.mem_append_left _ (List.mem_append_left _ (List.mem_append_left _ (List.mem_append_left _ (List.mem_append_left _ (List.mem_append_right _ h)))))
theorem inlX5 : ∀ w ∈ wsX50, w ∈ wsL_law := fun _ h => List.mem_append_left _ (List.mem_append_left _ (List.mem_append_left _ (List.mem_append_left _ (List.mem_append_left _ (List.mem_append_left _ (List.mem_append_left _ (List.mem_append_right _ h)))))))
theorem inlX6 : ∀ w ∈ wsX60, w ∈ wsL_law := fun _ h => List.mem_append_left _ (List.mem_append_left _ (List.mem_append_left _ (List.mem_append_left _ (List.mem_append_left _ (List.mem_append_left _ (List.mem_append_right _ h))))))
set_option maxRecDepth 20000 in
theorem ggL_law_X5_init : GoodIn wsL_law wsX5_init := goodIn_r _ [8, 9, 10, 11, 12, 13, 14, 15, 16, 17, 18, 19, 20, 21, 22, 23, 24, 25, 26, 27, 28, 29, 30, 31, 32, 33, 34, 35, 36, 37, 38, 39, 40, 41, 42, 43, 44, 45, 46, 47, 48, 49, 50, 51, 52, 53, 54, 55, 56, 57, 58, 59, 60, 61, 62, 761, 762, 763, 764, 765, 766, 767, 768, 769, 800, 801, 802, 803, 804, 805, 806, 807, 808, 809, 810, 811, 812, 813, 814, 815, 816, 817, 818, 819, 820, 821, 822, 823, 824] (by decide +kernel) (by decide +kernel)
set_option maxRecDepth 20000 in
theorem gL_law_X5_init : GoodIn wsL_law (wsX5_init) := ggL_law_X5_init
set_option maxRecDepth 20000 in
theorem ggL_law_X6_init : GoodIn wsL_law wsX6_init := goodIn_r _ [65, 66, 10, 11, 35, 67, 68, 69, 70, 71, 72, 73, 74, 75, 76, 77, 78, 79, 80, 81, 82, 83, 84, 85, 770, 771, 772, 773, 774, 775, 776, 777, 778, 779, 780, 781, 782, 783, 784, 785, 786, 787, 788, 789, 790, 791, 792, 793, 794, 795, 796, 797, 798, 799] (by decide +kernel) (by decide +kernel)
set_option maxRecDepth 20000 in
theorem gL_law_X6_init : GoodIn wsL_law (wsX6_init) := ggL_law_X6_init
set_option maxRecDepth 20000 in
theorem ggL_law_X5_polynomials : GoodIn wsL_law wsX5_polynomials := goodIn_r _ [89, 90, 13, 27, 91, 17, 92, 31, 93, 21, 94, 95, 96, 2, 97, 98, 99, 100, 101, 102, 103, 104, 105, 106, 107, 108, 109, 110, 111, 112, 113, 114, 115, 116, 117, 26, 118, 56, 119, 120, 121, 122, 123, 124, 125, 126, 127, 128, 129, 130, 131, 132, 133, 134, 135, 136, 137, 138, 139, 16, 140, 141, 36, 142, 143, 144, 145, 37, 146, 147, 148, 20, 149, 150, 151, 152, 41, 42, 153, 154, 155, 156, 157, 158, 159, 160, 161, 162, 163, 164, 43, 44, 45, 46, 165, 166, 167, 168, 47, 48, 169, 170, 171, 172, 173, 174, 175, 176, 177, 178, 179, 180, 181, 182, 183, 184, 185, 186, 187, 188, 761, 762, 763, 764, 765, 766, 767, 768, 769, 825, 826, 817, 818, 819, 820, 821, 822, 823, 824, 800, 801, 802, 803, 804, 805, 806, 807, 808, 809, 810, 811, 812, 813, 814, 815, 816] (by decide +kernel) (by decide +kernel)
set_option maxRecDepth 20000 in
theorem gL_law_X5_polynomials : GoodIn wsL_law (wsV RL 13 RX5 yX5_polynomials wsX5_polynomials) := goodIn_app (goodIn_of _ (by decide +kernel)) ggL_law_X5_polynomials
set_option maxRecDepth 20000 in
theorem ggL_law_X6_polynomials : GoodIn wsL_law wsX6_polynomials := goodIn_r _ [192, 193, 194, 195, 196, 67, 69, 68, 70, 197, 198, 199, 5, 200, 201, 202, 203, 204, 205, 206, 207, 208, 209, 210, 211, 212, 213, 82, 83, 214, 215, 216, 217, 218, 219, 220, 221, 222, 223, 224, 225, 226, 227, 228, 84, 229, 230, 231, 232, 233, 234, 235, 236, 237, 770, 771, 772, 773, 774, 775, 776, 777, 778, 779, 780, 781, 782, 783, 784, 785, 786, 787, 788, 789, 790, 791, 792, 793, 794, 795, 796, 797, 798, 799] (by decide +kernel) (by decide +kernel)
set_option maxRecDepth 20000 in
theorem gL_law_X6_polynomials : GoodIn wsL_law (wsV RL 17 RX6 yX6_polynomials wsX6_polynomials) := goodIn_app (goodIn_of _ (by decide +kernel)) ggL_law_X6_polynomials
set_option maxRecDepth 20000 in
theorem ggL_law_X5_ofPolynomial : GoodIn wsL_law wsX5_ofPolynomial := goodIn_r _ [241, 17, 242, 21, 243, 244, 245, 246, 247, 2, 248, 94, 98, 99, 100, 249, 154, 155, 16, 156, 37, 36, 761, 762, 763, 764, 765, 766, 767, 768, 769, 800, 801, 802, 803, 804, 805, 806, 807, 808, 809, 810, 811, 812, 813, 814, 815, 816] (by decide +kernel) (by decide +kernel)
set_option maxRecDepth 20000 in
theorem gL_law_X5_ofPolynomial : GoodIn wsL_law (wsV RL 18 RX5 yX5_ofPolynomial wsX5_ofPolynomial) := goodIn_app (goodIn_of _ (by decide +kernel)) ggL_law_X5_ofPolynomial
