set_option maxRecDepth 20000 in
theorem gL_law_X6_put : GoodIn wsL_law (wsV RL 111 RX6 yX6_put wsX6_put) := goodIn_app (goodIn_of _ (by decide +kernel)) ggL_law_X6_put
set_option maxRecDepth 20000 in
theorem ggL_law_X5_cell : GoodIn wsL_law wsX5_cell := goodIn_r _ [665, 90, 281, 13, 91, 95, 96, 2, 97, 98, 99, 100, 101, 102, 103, 104, 105, 106, 107, 108, 109, 110, 761, 762, 763, 764, 765, 766, 767, 768, 769, 825, 826] (by decide +kernel) (by decide +kernel)
set_option maxRecDepth 20000 in
theorem gL_law_X5_cell : GoodIn wsL_law (wsV RL 112 RX5 yX5_cell wsX5_cell) := goodIn_app (goodIn_of _ (by decide +kernel)) ggL_law_X5_cell
set_option maxRecDepth 20000 in
theorem ggL_law_X6_cell : GoodIn wsL_law wsX6_cell := goodIn_r _ [669, 209, 193, 82, 83, 84, 198, 199, 5, 200, 201, 202, 203, 204, 288, 289, 290, 291, 670, 671, 672, 673, 658, 659, 660, 661, 770, 771, 772, 773, 774, 775, 776, 777, 778, 779, 780, 781, 782, 783, 784, 785, 786, 787, 788, 789, 790, 791, 792, 793, 794, 795, 796, 797, 798, 799] (by decide +kernel) (by decide +kernel)
set_option maxRecDepth 20000 in
theorem gL_law_X6_cell : GoodIn wsL_law (wsV RL 115 RX6 yX6_cell wsX6_cell) := goodIn_app (goodIn_of _ (by decide +kernel)) ggL_law_X6_cell
set_option maxRecDepth 20000 in
theorem ggL_law_X5_copy : GoodIn wsL_law wsX5_copy := goodIn_r _ [677, 90, 13, 104, 91, 678, 143, 144, 145, 95, 96, 2, 97, 98, 99, 100, 111, 112, 113, 114, 105, 106, 107, 108, 109, 110, 761, 762, 763, 764, 765, 766, 767, 768, 769, 825, 826] (by decide +kernel) (by decide +kernel)
set_option maxRecDepth 20000 in
theorem gL_law_X5_copy : GoodIn wsL_law (wsV RL 116 RX5 yX5_copy wsX5_copy) := goodIn_app (goodIn_of _ (by decide +kernel)) ggL_law_X5_copy
set_option maxRecDepth 20000 in
theorem ggL_law_X6_copy : GoodIn wsL_law wsX6_copy := goodIn_r _ [682, 82, 83, 85, 84, 198, 199, 5, 200, 201, 202, 203, 204, 205, 206, 207, 208, 209, 214, 215, 216, 217, 218, 219, 220, 770, 771, 772, 773, 774, 775, 776, 777, 778, 779, 780, 781, 782, 783, 784, 785, 786, 787, 788, 789, 790, 791, 792, 793, 794, 795, 796, 797, 798, 799] (by decide +kernel) (by decide +kernel)
set_option maxRecDepth 20000 in
theorem gL_law_X6_copy : GoodIn wsL_law (wsV RL 119 RX6 yX6_copy wsX6_copy) := goodIn_app (goodIn_of _ (by decide +kernel)) ggL_law_X6_copy
set_option maxRecDepth 20000 in
theorem ggL_law_X5_tell : GoodIn wsL_law wsX5_tell := goodIn_r _ [686, 17, 242, 245, 246, 247, 2, 248, 94, 98, 99, 100, 687, 688, 689, 690, 691, 692, 693, 694, 695, 696, 697, 698, 699, 700, 701, 702, 703, 21, 243, 761, 762, 763, 764, 765, 766, 767, 768, 769, 800, 801, 802, 803, 804, 805, 806, 807, 808, 809, 810, 811, 812, 813, 814, 815, 816] (by decide +kernel) (by decide +kernel)
set_option maxRecDepth 20000 in
theorem gL_law_X5_tell : GoodIn wsL_law (wsV RL 120 RX5 yX5_tell wsX5_tell) := goodIn_app (goodIn_of _ (by decide +kernel)) ggL_law_X5_tell
set_option maxRecDepth 20000 in
theorem ggL_law_X6_tell : GoodIn wsL_law wsX6_tell := goodIn_r _ [707, 67, 258, 259, 260, 5, 261, 196, 202, 203, 204, 708, 709, 710, 711, 712, 266, 267, 268, 269, 262, 263, 264, 265, 68, 193, 270, 271, 272, 273, 274, 770, 771, 772, 773, 774, 775, 776, 777, 778, 779, 780, 781, 782, 783, 784, 785, 786, 787, 788, 789, 790, 791, 792, 793, 794, 795, 796, 797, 798, 799] (by decide +kernel) (by decide +kernel)
set_option maxRecDepth 20000 in
theorem gL_law_X6_tell : GoodIn wsL_law (wsV RL 123 RX6 yX6_tell wsX6_tell) := goodIn_app (goodIn_of _ (by decide +kernel)) ggL_law_X6_tell
set_option maxRecDepth 20000 in
theorem ggL_law_X5_call : GoodIn wsL_law wsX5_call := goodIn_r _ [716, 17, 242, 245, 246, 247, 2, 248, 94, 98, 99, 100, 691, 692, 693, 694, 695, 761, 762, 763, 764, 765, 766, 767, 768, 769, 800, 801, 802] (by decide +kernel) (by decide +kernel)
set_option maxRecDepth 20000 in
theorem gL_law_X5_call : GoodIn wsL_law (wsV RL 124 RX5 yX5_call wsX5_call) := goodIn_app (goodIn_of _ (by decide +kernel)) ggL_law_X5_call
set_option maxRecDepth 20000 in
theorem ggL_law_X6_call : GoodIn wsL_law wsX6_call := goodIn_r _ [720, 67, 258, 259, 260, 5, 261, 196, 202, 203, 204, 708, 709, 710, 711, 712, 770, 771, 772, 773, 774, 775, 776, 777, 778, 779, 780, 781, 782, 783, 784, 785, 786, 787, 788, 789, 790, 791, 792, 793, 794, 795, 796, 797, 798, 799] (by decide +kernel) (by decide +kernel)
set_option maxRecDepth 20000 in
theorem gL_law_X6_call : GoodIn wsL_law (wsV RL 127 RX6 yX6_call wsX6_call) := goodIn_app (goodIn_of _ (by decide +kernel)) ggL_law_X6_call
