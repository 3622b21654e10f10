/-! the law's names -/
set_option maxRecDepth 20000 in
theorem ggL_law_X2_init : GoodIn wsL_law wsX2_init := goodIn_r _ [8, 9, 10, 11, 12, 13, 14, 15, 16, 17, 18, 19, 20, 21, 22, 23, 24, 25, 26, 27, 28, 29, 30, 31, 32, 33, 34, 35, 36, 37, 38, 39, 40, 41, 42, 43, 44, 45, 46, 47, 48, 49, 50, 51, 52, 53, 54, 55, 56, 785, 786, 787, 788, 789, 790, 791, 792, 793, 794, 795, 796, 757, 758, 759, 760, 761, 762, 763, 764, 765, 766, 767, 768, 797, 798, 799, 800, 801, 802, 803] (by decide +kernel) (by decide +kernel)
set_option maxRecDepth 20000 in
theorem gL_law_X2_init : GoodIn wsL_law (wsX2_init) := ggL_law_X2_init
set_option maxRecDepth 20000 in
theorem ggL_law_X3_init : GoodIn wsL_law wsX3_init := goodIn_r _ [59, 60, 10, 11, 22, 61, 62, 63, 64, 65, 66, 67, 68, 69, 769, 770, 771, 772, 773, 774, 775, 776, 777, 778, 779, 780, 781, 782, 783, 784] (by decide +kernel) (by decide +kernel)
set_option maxRecDepth 20000 in
theorem gL_law_X3_init : GoodIn wsL_law (wsX3_init) := ggL_law_X3_init
set_option maxRecDepth 20000 in
theorem ggL_law_X2_letter : GoodIn wsL_law wsX2_letter := goodIn_r _ [73, 27, 23, 74, 75, 76, 2, 77, 26, 78, 79, 80, 81, 82, 83, 757, 758, 759, 760, 761, 762, 763, 764, 765, 766, 767, 768] (by decide +kernel) (by decide +kernel)
set_option maxRecDepth 20000 in
theorem gL_law_X2_letter : GoodIn wsL_law (wsV RL 13 RX2 yX2_letter wsX2_letter) := goodIn_app (goodIn_of _ (by decide +kernel)) ggL_law_X2_letter
set_option maxRecDepth 20000 in
theorem ggL_law_X3_letter : GoodIn wsL_law wsX3_letter := goodIn_r _ [87, 88, 65, 89, 90, 91, 5, 92, 67, 769, 770, 771, 772, 773, 774, 775, 776, 777, 778, 779, 780, 781, 782, 783, 784] (by decide +kernel) (by decide +kernel)
set_option maxRecDepth 20000 in
theorem gL_law_X3_letter : GoodIn wsL_law (wsV RL 17 RX3 yX3_letter wsX3_letter) := goodIn_app (goodIn_of _ (by decide +kernel)) ggL_law_X3_letter
set_option maxRecDepth 20000 in
theorem ggL_law_X2_hand : GoodIn wsL_law wsX2_hand := goodIn_r _ [96, 27, 97, 98, 99, 2, 100, 101, 102, 103, 104, 23, 78, 79, 80, 105, 106, 107, 108, 109, 110, 111, 112, 113, 114, 115, 116, 117, 17, 15, 118, 119, 120, 14, 121, 34, 122, 123, 124, 125, 35, 36, 37, 38, 39, 40, 41, 42, 43, 44, 45, 126, 127, 128, 129, 130, 131, 132, 133, 134, 135, 136, 137, 138, 139, 140, 141, 82, 83, 142, 143, 144, 145, 146, 147, 148, 149, 150, 151, 152, 153, 154, 155, 156, 157, 158, 159, 160, 161, 162, 163, 164, 165, 166, 167, 168, 169, 170, 171, 172, 173, 174, 175, 176, 177, 178, 179, 180, 181, 182, 183, 184, 185, 186, 187, 188, 189, 190, 191, 192, 193, 194, 195, 757, 758, 759, 760, 761, 762, 763, 764, 765, 766, 767, 768, 785, 786, 787, 788, 789, 790, 791, 792, 793, 794, 795, 796] (by decide +kernel) (by decide +kernel)
set_option maxRecDepth 20000 in
theorem gL_law_X2_hand : GoodIn wsL_law (wsV RL 18 RX2 yX2_hand wsX2_hand) := goodIn_app (goodIn_of _ (by decide +kernel)) ggL_law_X2_hand
set_option maxRecDepth 20000 in
theorem ggL_law_X3_hand : GoodIn wsL_law wsX3_hand := goodIn_r _ [199, 200, 88, 61, 63, 201, 202, 203, 5, 204, 68, 205, 206, 207, 208, 65, 209, 210, 211, 212, 213, 214, 215, 216, 217, 218, 219, 220, 221, 222, 223, 224, 225, 226, 227, 228, 229, 230, 231, 232, 233, 234, 235, 236, 237, 238, 239, 240, 241, 242, 243, 244, 245, 246, 247, 248, 249, 250, 251, 252, 253, 254, 255, 256, 257, 258, 259, 260, 261, 262, 263, 264, 265, 266, 267, 268, 269, 270, 271, 272, 273, 274, 275, 276, 277, 278, 769, 770, 771, 772, 773, 774, 775, 776, 777, 778, 779, 780, 781, 782, 783, 784] (by decide +kernel) (by decide +kernel)
set_option maxRecDepth 20000 in
theorem gL_law_X3_hand : GoodIn wsL_law (wsV RL 22 RX3 yX3_hand wsX3_hand) := goodIn_app (goodIn_of _ (by decide +kernel)) ggL_law_X3_hand
set_option maxRecDepth 20000 in
theorem ggL_law_X2_part : GoodIn wsL_law wsX2_part := goodIn_r _ [282, 15, 283, 284, 285, 74, 75, 76, 2, 77, 26, 78, 79, 80, 81, 82, 83, 286, 287, 288, 14, 289, 34, 35, 40, 41, 43, 176, 177, 178, 179, 174, 180, 757, 758, 759, 760, 761, 762, 763, 764, 765, 766, 767, 768, 785, 786, 787, 788, 789, 790, 791, 792, 793, 794, 795, 796] (by decide +kernel) (by decide +kernel)
set_option maxRecDepth 20000 in
theorem gL_law_X2_part : GoodIn wsL_law (wsV RL 23 RX2 yX2_part wsX2_part) := goodIn_app (goodIn_of _ (by decide +kernel)) ggL_law_X2_part
set_option maxRecDepth 20000 in
theorem ggL_law_X3_part : GoodIn wsL_law wsX3_part := goodIn_r _ [293, 61, 216, 217, 5, 218, 89, 90, 91, 92, 67, 294, 295, 296, 297, 251, 252, 253, 254, 255, 256, 257, 258, 259, 260, 769, 770, 771, 772, 773, 774, 775, 776, 777, 778, 779, 780, 781, 782, 783, 784] (by decide +kernel) (by decide +kernel)
set_option maxRecDepth 20000 in
theorem gL_law_X3_part : GoodIn wsL_law (wsV RL 27 RX3 yX3_part wsX3_part) := goodIn_app (goodIn_of _ (by decide +kernel)) ggL_law_X3_part
set_option maxRecDepth 20000 in
theorem ggL_law_X2_set : GoodIn wsL_law wsX2_set := goodIn_r _ [301, 302, 303, 15, 74, 75, 76, 2, 77, 26, 78, 79, 80, 81, 82, 83, 304, 305, 306, 14, 307, 37, 38, 40, 41, 43, 308, 147, 148, 149, 757, 758, 759, 760, 761, 762, 763, 764, 765, 766, 767, 768, 785, 786, 787, 788, 789, 790, 791, 792, 793, 794, 795, 796] (by decide +kernel) (by decide +kernel)
set_option maxRecDepth 20000 in
theorem gL_law_X2_set : GoodIn wsL_law (wsV RL 28 RX2 yX2_set wsX2_set) := goodIn_app (goodIn_of _ (by decide +kernel)) ggL_law_X2_set
set_option maxRecDepth 20000 in
theorem ggL_law_X3_set : GoodIn wsL_law wsX3_set := goodIn_r _ [312, 61, 216, 217, 5, 218, 89, 90, 91, 92, 67, 313, 314, 315, 769, 770, 771, 772, 773, 774, 775, 776, 777, 778, 779, 780, 781, 782, 783, 784] (by decide +kernel) (by decide +kernel)
set_option maxRecDepth 20000 in
theorem gL_law_X3_set : GoodIn wsL_law (wsV RL 31 RX3 yX3_set wsX3_set) := goodIn_app (goodIn_of _ (by decide +kernel)) ggL_law_X3_set
set_option maxRecDepth 20000 in
theorem ggL_law_X2_back : GoodIn wsL_law wsX2_back := goodIn_r _ [319, 15, 320, 757, 758, 759, 760, 761, 762, 763, 764, 765, 766, 767, 768, 785, 786, 787, 788, 789, 790, 791, 792, 793, 794, 795, 796] (by decide +kernel) (by decide +kernel)
set_option maxRecDepth 20000 in
theorem gL_law_X2_back : GoodIn wsL_law (wsV RL 32 RX2 yX2_back wsX2_back) := goodIn_app (goodIn_of _ (by decide +kernel)) ggL_law_X2_back
set_option maxRecDepth 20000 in
theorem ggL_law_X3_back : GoodIn wsL_law wsX3_back := goodIn_r _ [324, 61, 769, 770, 771, 772, 773, 774, 775, 776, 777, 778, 779, 780, 781, 782, 783, 784] (by decide +kernel) (by decide +kernel)
set_option maxRecDepth 20000 in
theorem gL_law_X3_back : GoodIn wsL_law (wsV RL 35 RX3 yX3_back wsX3_back) := goodIn_app (goodIn_of _ (by decide +kernel)) ggL_law_X3_back
set_option maxRecDepth 20000 in
theorem ggL_law_X2_kind : GoodIn wsL_law wsX2_kind := goodIn_r _ [328, 15, 329, 330, 331, 332, 333, 154, 2, 155, 74, 75, 76, 77, 26, 78, 79, 80, 81, 82, 83, 334, 181, 182, 757, 758, 759, 760, 761, 762, 763, 764, 765, 766, 767, 768, 785, 786, 787, 788, 789, 790, 791, 792, 793, 794, 795, 796] (by decide +kernel) (by decide +kernel)
set_option maxRecDepth 20000 in
theorem gL_law_X2_kind : GoodIn wsL_law (wsV RL 36 RX2 yX2_kind wsX2_kind) := goodIn_app (goodIn_of _ (by decide +kernel)) ggL_law_X2_kind
set_option maxRecDepth 20000 in
theorem ggL_law_X3_kind : GoodIn wsL_law wsX3_kind := goodIn_r _ [338, 216, 217, 5, 218, 89, 90, 91, 92, 67, 261, 262, 263, 264, 61, 230, 231, 232, 269, 270, 271, 272, 273, 274, 769, 770, 771, 772, 773, 774, 775, 776, 777, 778, 779, 780, 781, 782, 783, 784] (by decide +kernel) (by decide +kernel)
set_option maxRecDepth 20000 in
theorem gL_law_X3_kind : GoodIn wsL_law (wsV RL 39 RX3 yX3_kind wsX3_kind) := goodIn_app (goodIn_of _ (by decide +kernel)) ggL_law_X3_kind
set_option maxRecDepth 20000 in
theorem ggL_law_X2_tries : GoodIn wsL_law wsX2_tries := goodIn_r _ [342, 15, 330, 343, 344, 345, 2, 346, 333, 154, 155, 74, 75, 76, 77, 26, 78, 79, 80, 81, 82, 83, 347, 139, 140, 14, 141, 39, 36, 348, 157, 158, 159, 44, 349, 161, 162, 163, 164, 165, 166, 167, 34, 35, 40, 43, 37, 38, 138, 168, 169, 170, 171, 41, 172, 173, 174, 175, 176, 177, 178, 179, 180, 181, 182, 183, 184, 185, 186, 45, 42, 757, 758, 759, 760, 761, 762, 763, 764, 765, 766, 767, 768, 785, 786, 787, 788, 789, 790, 791, 792, 793, 794, 795, 796] (by decide +kernel) (by decide +kernel)
set_option maxRecDepth 20000 in
theorem gL_law_X2_tries : GoodIn wsL_law (wsV RL 40 RX2 yX2_tries wsX2_tries) := goodIn_app (goodIn_of _ (by decide +kernel)) ggL_law_X2_tries
set_option maxRecDepth 20000 in
theorem ggL_law_X3_tries : GoodIn wsL_law wsX3_tries := goodIn_r _ [353, 61, 354, 355, 356, 5, 357, 216, 217, 218, 226, 227, 228, 229, 230, 231, 232, 89, 90, 91, 92, 67, 233, 234, 235, 236, 237, 238, 239, 240, 241, 242, 243, 244, 245, 246, 247, 248, 249, 250, 251, 252, 253, 254, 255, 256, 257, 258, 259, 260, 261, 262, 263, 264, 265, 266, 267, 268, 269, 270, 271, 272, 273, 274, 769, 770, 771, 772, 773, 774, 775, 776, 777, 778, 779, 780, 781, 782, 783, 784] (by decide +kernel) (by decide +kernel)
set_option maxRecDepth 20000 in
theorem gL_law_X3_tries : GoodIn wsL_law (wsV RL 43 RX3 yX3_tries wsX3_tries) := goodIn_app (goodIn_of _ (by decide +kernel)) ggL_law_X3_tries
