/-! the law's names -/
set_option maxRecDepth 20000 in
theorem ggL_law_X2_row : GoodIn wsL_law wsX2_row := goodIn_r _ [691, 28, 24, 74, 75, 76, 2, 77, 26, 78, 79, 80, 81, 82, 83, 757, 758, 759, 760, 761, 762, 763, 764, 765, 766, 767, 768] (by decide +kernel) (by decide +kernel)
set_option maxRecDepth 20000 in
theorem gL_law_X2_row : GoodIn wsL_law (wsV RL 111 RX2 yX2_row wsX2_row) := goodIn_app (goodIn_of _ (by decide +kernel)) ggL_law_X2_row
set_option maxRecDepth 20000 in
theorem ggL_law_X3_row : GoodIn wsL_law wsX3_row := goodIn_r _ [695, 558, 66, 89, 90, 91, 5, 92, 67, 769, 770, 771, 772, 773, 774, 775, 776, 777, 778, 779, 780, 781, 782, 783, 784] (by decide +kernel) (by decide +kernel)
set_option maxRecDepth 20000 in
theorem gL_law_X3_row : GoodIn wsL_law (wsV RL 114 RX3 yX3_row wsX3_row) := goodIn_app (goodIn_of _ (by decide +kernel)) ggL_law_X3_row
set_option maxRecDepth 20000 in
theorem ggL_law_X2_judge : GoodIn wsL_law wsX2_judge := goodIn_r _ [699, 28, 15, 17, 24, 347, 139, 140, 14, 141, 39, 36, 118, 119, 120, 121, 34, 122, 123, 124, 125, 35, 37, 38, 40, 41, 42, 43, 44, 45, 78, 79, 2, 80, 478, 479, 480, 481, 154, 155, 160, 161, 162, 163, 164, 165, 166, 167, 138, 168, 169, 170, 171, 172, 173, 174, 175, 176, 177, 178, 179, 180, 181, 182, 183, 184, 185, 186, 191, 192, 193, 194, 195, 757, 758, 759, 760, 761, 762, 763, 764, 765, 766, 767, 768, 785, 786, 787, 788, 789, 790, 791, 792, 793, 794, 795, 796] (by decide +kernel) (by decide +kernel)
set_option maxRecDepth 20000 in
theorem gL_law_X2_judge : GoodIn wsL_law (wsV RL 115 RX2 yX2_judge wsX2_judge) := goodIn_app (goodIn_of _ (by decide +kernel)) ggL_law_X2_judge
set_option maxRecDepth 20000 in
theorem ggL_law_X3_judge : GoodIn wsL_law wsX3_judge := goodIn_r _ [703, 558, 66, 403, 404, 405, 5, 406, 61, 64, 219, 220, 221, 226, 227, 228, 229, 275, 276, 277, 278, 258, 259, 260, 233, 234, 235, 236, 237, 238, 239, 240, 241, 242, 243, 244, 245, 246, 247, 248, 249, 250, 251, 252, 253, 254, 255, 256, 257, 261, 262, 263, 264, 265, 266, 267, 268, 269, 270, 271, 272, 273, 274, 230, 231, 232, 407, 408, 409, 410, 769, 770, 771, 772, 773, 774, 775, 776, 777, 778, 779, 780, 781, 782, 783, 784] (by decide +kernel) (by decide +kernel)
set_option maxRecDepth 20000 in
theorem gL_law_X3_judge : GoodIn wsL_law (wsV RL 118 RX3 yX3_judge wsX3_judge) := goodIn_app (goodIn_of _ (by decide +kernel)) ggL_law_X3_judge
set_option maxRecDepth 20000 in
theorem ggL_law_X2_lots : GoodIn wsL_law wsX2_lots := goodIn_r _ [707, 30, 74, 75, 76, 2, 77, 26, 78, 79, 80, 81, 82, 83, 708, 709, 710, 711, 17, 15, 712, 535, 118, 119, 120, 14, 121, 34, 122, 123, 124, 125, 35, 36, 37, 38, 39, 40, 41, 42, 43, 44, 45, 713, 714, 715, 716, 717, 718, 719, 347, 139, 140, 141, 349, 161, 162, 163, 164, 165, 166, 167, 138, 168, 169, 170, 171, 172, 173, 174, 175, 176, 177, 178, 179, 180, 181, 182, 183, 184, 185, 186, 757, 758, 759, 760, 761, 762, 763, 764, 765, 766, 767, 768, 785, 786, 787, 788, 789, 790, 791, 792, 793, 794, 795, 796] (by decide +kernel) (by decide +kernel)
set_option maxRecDepth 20000 in
theorem gL_law_X2_lots : GoodIn wsL_law (wsV RL 119 RX2 yX2_lots wsX2_lots) := goodIn_app (goodIn_of _ (by decide +kernel)) ggL_law_X2_lots
set_option maxRecDepth 20000 in
theorem ggL_law_X3_lots : GoodIn wsL_law wsX3_lots := goodIn_r _ [723, 724, 61, 89, 90, 91, 5, 92, 67, 403, 404, 405, 406, 64, 219, 220, 221, 407, 408, 409, 410, 725, 726, 727, 728, 729, 730, 731, 226, 227, 228, 229, 233, 234, 235, 236, 237, 238, 239, 240, 241, 242, 243, 244, 245, 246, 247, 248, 249, 250, 251, 252, 253, 254, 255, 256, 257, 258, 259, 260, 261, 262, 263, 264, 265, 266, 267, 268, 269, 270, 271, 272, 273, 274, 230, 231, 232, 769, 770, 771, 772, 773, 774, 775, 776, 777, 778, 779, 780, 781, 782, 783, 784] (by decide +kernel) (by decide +kernel)
set_option maxRecDepth 20000 in
theorem gL_law_X3_lots : GoodIn wsL_law (wsV RL 122 RX3 yX3_lots wsX3_lots) := goodIn_app (goodIn_of _ (by decide +kernel)) ggL_law_X3_lots
set_option maxRecDepth 20000 in
theorem ggL_law_X2_image : GoodIn wsL_law wsX2_image := goodIn_r _ [735, 16, 15, 29, 362, 118, 119, 120, 14, 121, 34, 122, 123, 124, 125, 35, 36, 37, 38, 39, 40, 41, 42, 43, 44, 45, 757, 758, 759, 760, 761, 762, 763, 764, 765, 766, 767, 768, 785, 786, 787, 788, 789, 790, 791, 792, 793, 794, 795, 796] (by decide +kernel) (by decide +kernel)
set_option maxRecDepth 20000 in
theorem gL_law_X2_image : GoodIn wsL_law (wsV RL 123 RX2 yX2_image wsX2_image) := goodIn_app (goodIn_of _ (by decide +kernel)) ggL_law_X2_image
set_option maxRecDepth 20000 in
theorem ggL_law_X3_image : GoodIn wsL_law wsX3_image := goodIn_r _ [739, 61, 62, 740, 219, 220, 5, 221, 769, 770, 771, 772, 773, 774, 775, 776, 777, 778, 779, 780, 781, 782, 783, 784] (by decide +kernel) (by decide +kernel)
set_option maxRecDepth 20000 in
theorem gL_law_X3_image : GoodIn wsL_law (wsV RL 126 RX3 yX3_image wsX3_image) := goodIn_app (goodIn_of _ (by decide +kernel)) ggL_law_X3_image
set_option maxRecDepth 20000 in
theorem ggL_law_X2_on : GoodIn wsL_law wsX2_on := goodIn_r _ [744, 29, 15, 16, 362, 74, 75, 76, 2, 77, 26, 78, 79, 80, 81, 82, 83, 118, 119, 120, 14, 121, 34, 122, 123, 124, 125, 35, 36, 37, 38, 39, 40, 41, 42, 43, 44, 45, 757, 758, 759, 760, 761, 762, 763, 764, 765, 766, 767, 768, 785, 786, 787, 788, 789, 790, 791, 792, 793, 794, 795, 796] (by decide +kernel) (by decide +kernel)
set_option maxRecDepth 20000 in
theorem gL_law_X2_on : GoodIn wsL_law (wsV RL 127 RX2 yX2_on wsX2_on) := goodIn_app (goodIn_of _ (by decide +kernel)) ggL_law_X2_on
set_option maxRecDepth 20000 in
theorem ggL_law_X3_on : GoodIn wsL_law wsX3_on := goodIn_r _ [748, 740, 62, 61, 89, 90, 91, 5, 92, 67, 219, 220, 221, 769, 770, 771, 772, 773, 774, 775, 776, 777, 778, 779, 780, 781, 782, 783, 784] (by decide +kernel) (by decide +kernel)
set_option maxRecDepth 20000 in
theorem gL_law_X3_on : GoodIn wsL_law (wsV RL 130 RX3 yX3_on wsX3_on) := goodIn_app (goodIn_of _ (by decide +kernel)) ggL_law_X3_on
set_option maxRecDepth 20000 in
theorem ggL_law_X2_count : GoodIn wsL_law wsX2_count := goodIn_r _ [752, 26, 15, 283, 320, 535, 536, 516, 362, 712, 381, 28, 27, 534, 329, 78, 79, 2, 80, 757, 758, 759, 760, 761, 762, 763, 764, 765, 766, 767, 768, 785, 786, 787, 788, 789, 790, 791, 792, 793, 794, 795, 796] (by decide +kernel) (by decide +kernel)
set_option maxRecDepth 20000 in
theorem gL_law_X2_count : GoodIn wsL_law (wsV RL 131 RX2 yX2_count wsX2_count) := goodIn_app (goodIn_of _ (by decide +kernel)) ggL_law_X2_count
set_option maxRecDepth 20000 in
theorem ggL_law_X3_count : GoodIn wsL_law wsX3_count := goodIn_r _ [756, 67, 61, 558, 88, 216, 217, 5, 218, 769, 770, 771, 772, 773, 774, 775, 776, 777, 778, 779, 780, 781, 782, 783, 784] (by decide +kernel) (by decide +kernel)
set_option maxRecDepth 20000 in
theorem gL_law_X3_count : GoodIn wsL_law (wsV RL 134 RX3 yX3_count wsX3_count) := goodIn_app (goodIn_of _ (by decide +kernel)) ggL_law_X3_count
