/-! the law's names -/
set_option maxRecDepth 20000 in
theorem ggL_law_X2_pause : GoodIn wsL_law wsX2_pause := goodIn_r _ [361, 15, 362, 74, 75, 76, 2, 77, 26, 78, 79, 80, 81, 82, 83, 348, 157, 158, 14, 159, 44, 363, 192, 193, 194, 40, 195, 179, 174, 180, 41, 42, 757, 758, 759, 760, 761, 762, 763, 764, 765, 766, 767, 768, 785, 786, 787, 788, 789, 790, 791, 792, 793, 794, 795, 796] (by decide +kernel) (by decide +kernel)
set_option maxRecDepth 20000 in
theorem gL_law_X2_pause : GoodIn wsL_law (wsV RL 44 RX2 yX2_pause wsX2_pause) := goodIn_app (goodIn_of _ (by decide +kernel)) ggL_law_X2_pause
set_option maxRecDepth 20000 in
theorem ggL_law_X3_pause : GoodIn wsL_law wsX3_pause := goodIn_r _ [367, 61, 89, 90, 91, 5, 92, 67, 275, 276, 277, 278, 258, 259, 260, 769, 770, 771, 772, 773, 774, 775, 776, 777, 778, 779, 780, 781, 782, 783, 784] (by decide +kernel) (by decide +kernel)
set_option maxRecDepth 20000 in
theorem gL_law_X3_pause : GoodIn wsL_law (wsV RL 47 RX3 yX3_pause wsX3_pause) := goodIn_app (goodIn_of _ (by decide +kernel)) ggL_law_X3_pause
set_option maxRecDepth 20000 in
theorem ggL_law_X2_would : GoodIn wsL_law wsX2_would := goodIn_r _ [371, 15, 343, 344, 345, 2, 346, 333, 154, 155, 74, 75, 76, 77, 26, 78, 79, 80, 81, 82, 83, 347, 139, 140, 14, 141, 39, 36, 372, 165, 166, 167, 34, 35, 40, 43, 37, 38, 138, 168, 169, 170, 171, 41, 172, 173, 174, 175, 176, 177, 178, 179, 180, 181, 182, 757, 758, 759, 760, 761, 762, 763, 764, 765, 766, 767, 768, 785, 786, 787, 788, 789, 790, 791, 792, 793, 794, 795, 796] (by decide +kernel) (by decide +kernel)
set_option maxRecDepth 20000 in
theorem gL_law_X2_would : GoodIn wsL_law (wsV RL 48 RX2 yX2_would wsX2_would) := goodIn_app (goodIn_of _ (by decide +kernel)) ggL_law_X2_would
set_option maxRecDepth 20000 in
theorem ggL_law_X3_would : GoodIn wsL_law wsX3_would := goodIn_r _ [376, 354, 355, 356, 5, 357, 216, 217, 218, 226, 227, 228, 229, 61, 89, 90, 91, 92, 67, 237, 238, 239, 240, 241, 242, 243, 244, 245, 246, 247, 248, 249, 250, 251, 252, 253, 254, 255, 256, 257, 258, 259, 260, 261, 262, 263, 264, 769, 770, 771, 772, 773, 774, 775, 776, 777, 778, 779, 780, 781, 782, 783, 784] (by decide +kernel) (by decide +kernel)
set_option maxRecDepth 20000 in
theorem gL_law_X3_would : GoodIn wsL_law (wsV RL 51 RX3 yX3_would wsX3_would) := goodIn_app (goodIn_of _ (by decide +kernel)) ggL_law_X3_would
set_option maxRecDepth 20000 in
theorem ggL_law_X2_holds : GoodIn wsL_law wsX2_holds := goodIn_r _ [380, 15, 320, 381, 347, 139, 140, 14, 141, 39, 36, 286, 287, 288, 289, 34, 35, 40, 41, 43, 79, 2, 80, 176, 177, 178, 179, 174, 180, 757, 758, 759, 760, 761, 762, 763, 764, 765, 766, 767, 768, 785, 786, 787, 788, 789, 790, 791, 792, 793, 794, 795, 796] (by decide +kernel) (by decide +kernel)
set_option maxRecDepth 20000 in
theorem gL_law_X2_holds : GoodIn wsL_law (wsV RL 52 RX2 yX2_holds wsX2_holds) := goodIn_app (goodIn_of _ (by decide +kernel)) ggL_law_X2_holds
set_option maxRecDepth 20000 in
theorem ggL_law_X3_holds : GoodIn wsL_law wsX3_holds := goodIn_r _ [385, 61, 226, 227, 228, 5, 229, 294, 295, 296, 297, 251, 252, 253, 254, 255, 256, 257, 258, 259, 260, 769, 770, 771, 772, 773, 774, 775, 776, 777, 778, 779, 780, 781, 782, 783, 784] (by decide +kernel) (by decide +kernel)
set_option maxRecDepth 20000 in
theorem gL_law_X3_holds : GoodIn wsL_law (wsV RL 55 RX3 yX3_holds wsX3_holds) := goodIn_app (goodIn_of _ (by decide +kernel)) ggL_law_X3_holds
set_option maxRecDepth 20000 in
theorem ggL_law_X2_goes : GoodIn wsL_law wsX2_goes := goodIn_r _ [389, 343, 344, 345, 2, 346, 15, 333, 154, 155, 74, 75, 76, 77, 26, 78, 79, 80, 81, 82, 83, 347, 139, 140, 14, 141, 39, 36, 390, 391, 392, 393, 17, 118, 119, 120, 121, 34, 122, 123, 124, 125, 35, 37, 38, 40, 41, 42, 43, 44, 45, 372, 165, 166, 167, 138, 168, 169, 170, 171, 172, 173, 174, 175, 176, 177, 178, 179, 180, 181, 182, 394, 184, 185, 186, 757, 758, 759, 760, 761, 762, 763, 764, 765, 766, 767, 768, 785, 786, 787, 788, 789, 790, 791, 792, 793, 794, 795, 796] (by decide +kernel) (by decide +kernel)
set_option maxRecDepth 20000 in
theorem gL_law_X2_goes : GoodIn wsL_law (wsV RL 56 RX2 yX2_goes wsX2_goes) := goodIn_app (goodIn_of _ (by decide +kernel)) ggL_law_X2_goes
set_option maxRecDepth 20000 in
theorem ggL_law_X3_goes : GoodIn wsL_law wsX3_goes := goodIn_r _ [398, 354, 355, 356, 5, 357, 216, 217, 218, 226, 227, 228, 229, 61, 89, 90, 91, 92, 67, 399, 400, 401, 402, 403, 404, 405, 406, 64, 219, 220, 221, 237, 238, 239, 240, 241, 242, 243, 244, 245, 246, 247, 248, 249, 250, 251, 252, 253, 254, 255, 256, 257, 258, 259, 260, 261, 262, 263, 264, 265, 266, 267, 268, 269, 270, 271, 272, 273, 274, 230, 231, 232, 407, 408, 409, 410, 769, 770, 771, 772, 773, 774, 775, 776, 777, 778, 779, 780, 781, 782, 783, 784] (by decide +kernel) (by decide +kernel)
set_option maxRecDepth 20000 in
theorem gL_law_X3_goes : GoodIn wsL_law (wsV RL 59 RX3 yX3_goes wsX3_goes) := goodIn_app (goodIn_of _ (by decide +kernel)) ggL_law_X3_goes
set_option maxRecDepth 20000 in
theorem ggL_law_X2_stop : GoodIn wsL_law wsX2_stop := goodIn_r _ [414, 15, 347, 139, 140, 14, 141, 39, 36, 74, 75, 76, 2, 77, 26, 78, 79, 80, 81, 82, 83, 390, 391, 392, 393, 17, 118, 119, 120, 121, 34, 122, 123, 124, 125, 35, 37, 38, 40, 41, 42, 43, 44, 45, 372, 165, 166, 167, 138, 168, 169, 170, 171, 172, 173, 174, 175, 176, 177, 178, 179, 180, 181, 182, 394, 184, 185, 186, 757, 758, 759, 760, 761, 762, 763, 764, 765, 766, 767, 768, 785, 786, 787, 788, 789, 790, 791, 792, 793, 794, 795, 796] (by decide +kernel) (by decide +kernel)
set_option maxRecDepth 20000 in
theorem gL_law_X2_stop : GoodIn wsL_law (wsV RL 60 RX2 yX2_stop wsX2_stop) := goodIn_app (goodIn_of _ (by decide +kernel)) ggL_law_X2_stop
set_option maxRecDepth 20000 in
theorem ggL_law_X3_stop : GoodIn wsL_law wsX3_stop := goodIn_r _ [418, 419, 226, 227, 228, 5, 229, 61, 89, 90, 91, 92, 67, 399, 400, 401, 402, 403, 404, 405, 406, 64, 219, 220, 221, 237, 238, 239, 240, 241, 242, 243, 244, 245, 246, 247, 248, 249, 250, 251, 252, 253, 254, 255, 256, 257, 258, 259, 260, 261, 262, 263, 264, 265, 266, 267, 268, 269, 270, 271, 272, 273, 274, 230, 231, 232, 407, 408, 409, 410, 769, 770, 771, 772, 773, 774, 775, 776, 777, 778, 779, 780, 781, 782, 783, 784] (by decide +kernel) (by decide +kernel)
set_option maxRecDepth 20000 in
theorem gL_law_X3_stop : GoodIn wsL_law (wsV RL 63 RX3 yX3_stop wsX3_stop) := goodIn_app (goodIn_of _ (by decide +kernel)) ggL_law_X3_stop
set_option maxRecDepth 20000 in
theorem ggL_law_X2_waited : GoodIn wsL_law wsX2_waited := goodIn_r _ [423, 17, 15, 343, 344, 345, 2, 346, 333, 154, 155, 74, 75, 76, 77, 26, 78, 79, 80, 81, 82, 83, 347, 139, 140, 14, 141, 39, 36, 118, 119, 120, 121, 34, 122, 123, 124, 125, 35, 37, 38, 40, 41, 42, 43, 44, 45, 363, 192, 193, 194, 195, 179, 174, 180, 372, 165, 166, 167, 138, 168, 169, 170, 171, 172, 173, 175, 176, 177, 178, 181, 182, 757, 758, 759, 760, 761, 762, 763, 764, 765, 766, 767, 768, 785, 786, 787, 788, 789, 790, 791, 792, 793, 794, 795, 796] (by decide +kernel) (by decide +kernel)
set_option maxRecDepth 20000 in
theorem gL_law_X2_waited : GoodIn wsL_law (wsV RL 64 RX2 yX2_waited wsX2_waited) := goodIn_app (goodIn_of _ (by decide +kernel)) ggL_law_X2_waited
set_option maxRecDepth 20000 in
theorem ggL_law_X3_waited : GoodIn wsL_law wsX3_waited := goodIn_r _ [427, 61, 354, 355, 356, 5, 357, 216, 217, 218, 226, 227, 228, 229, 89, 90, 91, 92, 67, 258, 259, 260, 241, 242, 243, 244, 245, 246, 247, 248, 249, 250, 251, 252, 253, 254, 255, 256, 257, 261, 262, 263, 264, 769, 770, 771, 772, 773, 774, 775, 776, 777, 778, 779, 780, 781, 782, 783, 784] (by decide +kernel) (by decide +kernel)
set_option maxRecDepth 20000 in
theorem gL_law_X3_waited : GoodIn wsL_law (wsV RL 67 RX3 yX3_waited wsX3_waited) := goodIn_app (goodIn_of _ (by decide +kernel)) ggL_law_X3_waited
set_option maxRecDepth 20000 in
theorem ggL_law_X2_soonest : GoodIn wsL_law wsX2_soonest := goodIn_r _ [431, 21, 15, 432, 433, 2, 434, 74, 75, 76, 77, 26, 78, 79, 80, 81, 82, 83, 435, 436, 437, 20, 438, 50, 56, 55, 54, 439, 139, 140, 14, 141, 39, 36, 440, 441, 442, 443, 52, 51, 53, 444, 119, 120, 121, 34, 122, 123, 124, 125, 35, 37, 38, 40, 41, 42, 43, 44, 45, 445, 446, 447, 448, 449, 450, 451, 452, 453, 454, 455, 456, 457, 458, 459, 460, 461, 462, 463, 464, 465, 466, 467, 468, 165, 166, 167, 138, 168, 169, 170, 171, 172, 173, 174, 175, 176, 177, 178, 179, 180, 181, 182, 469, 184, 185, 186, 470, 471, 332, 330, 472, 192, 193, 194, 195, 473, 474, 475, 476, 17, 477, 118, 478, 479, 480, 481, 154, 155, 160, 161, 162, 163, 164, 183, 191, 757, 758, 759, 760, 761, 762, 763, 764, 765, 766, 767, 768, 797, 798, 799, 800, 801, 802, 803, 785, 786, 787, 788, 789, 790, 791, 792, 793, 794, 795, 796] (by decide +kernel) (by decide +kernel)
set_option maxRecDepth 20000 in
theorem gL_law_X2_soonest : GoodIn wsL_law (wsV RL 68 RX2 yX2_soonest wsX2_soonest) := goodIn_app (goodIn_of _ (by decide +kernel)) ggL_law_X2_soonest
set_option maxRecDepth 20000 in
theorem ggL_law_X3_soonest : GoodIn wsL_law wsX3_soonest := goodIn_r _ [485, 216, 217, 5, 218, 89, 90, 91, 92, 67, 486, 487, 488, 489, 61, 226, 227, 228, 229, 490, 491, 492, 493, 494, 495, 496, 69, 419, 497, 498, 499, 500, 258, 259, 260, 241, 242, 243, 244, 245, 246, 247, 248, 249, 250, 251, 252, 253, 254, 255, 256, 257, 261, 262, 263, 264, 269, 270, 271, 501, 502, 503, 272, 273, 274, 230, 231, 232, 769, 770, 771, 772, 773, 774, 775, 776, 777, 778, 779, 780, 781, 782, 783, 784] (by decide +kernel) (by decide +kernel)
set_option maxRecDepth 20000 in
theorem gL_law_X3_soonest : GoodIn wsL_law (wsV RL 71 RX3 yX3_soonest wsX3_soonest) := goodIn_app (goodIn_of _ (by decide +kernel)) ggL_law_X3_soonest
set_option maxRecDepth 20000 in
theorem ggL_law_X2_gentlest : GoodIn wsL_law wsX2_gentlest := goodIn_r _ [507, 21, 15, 432, 433, 2, 434, 74, 75, 76, 77, 26, 78, 79, 80, 81, 82, 83, 435, 436, 437, 20, 438, 50, 56, 55, 54, 439, 139, 140, 14, 141, 39, 36, 440, 441, 442, 443, 52, 51, 53, 444, 119, 120, 121, 34, 122, 123, 124, 125, 35, 37, 38, 40, 41, 42, 43, 44, 45, 445, 446, 447, 448, 449, 450, 451, 452, 453, 454, 455, 456, 457, 458, 459, 460, 461, 462, 463, 464, 465, 466, 467, 468, 165, 166, 167, 138, 168, 169, 170, 171, 172, 173, 174, 175, 176, 177, 178, 179, 180, 181, 182, 469, 184, 185, 186, 470, 471, 332, 330, 472, 192, 193, 194, 195, 473, 474, 475, 476, 17, 477, 118, 478, 479, 480, 481, 154, 155, 160, 161, 162, 163, 164, 183, 191, 757, 758, 759, 760, 761, 762, 763, 764, 765, 766, 767, 768, 797, 798, 799, 800, 801, 802, 803, 785, 786, 787, 788, 789, 790, 791, 792, 793, 794, 795, 796] (by decide +kernel) (by decide +kernel)
set_option maxRecDepth 20000 in
theorem gL_law_X2_gentlest : GoodIn wsL_law (wsV RL 72 RX2 yX2_gentlest wsX2_gentlest) := goodIn_app (goodIn_of _ (by decide +kernel)) ggL_law_X2_gentlest
set_option maxRecDepth 20000 in
theorem ggL_law_X3_gentlest : GoodIn wsL_law wsX3_gentlest := goodIn_r _ [511, 216, 217, 5, 218, 89, 90, 91, 92, 67, 486, 487, 488, 489, 61, 226, 227, 228, 229, 490, 491, 492, 493, 494, 495, 496, 69, 419, 497, 498, 499, 500, 258, 259, 260, 241, 242, 243, 244, 245, 246, 247, 248, 249, 250, 251, 252, 253, 254, 255, 256, 257, 261, 262, 263, 264, 269, 270, 271, 501, 502, 503, 272, 273, 274, 230, 231, 232, 769, 770, 771, 772, 773, 774, 775, 776, 777, 778, 779, 780, 781, 782, 783, 784] (by decide +kernel) (by decide +kernel)
set_option maxRecDepth 20000 in
theorem gL_law_X3_gentlest : GoodIn wsL_law (wsV RL 75 RX3 yX3_gentlest wsX3_gentlest) := goodIn_app (goodIn_of _ (by decide +kernel)) ggL_law_X3_gentlest
