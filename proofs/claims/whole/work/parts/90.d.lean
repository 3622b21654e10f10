/-! the law's names -/
set_option maxRecDepth 20000 in
theorem ggL_law_X2_danger : GoodIn wsL_law wsX2_danger := goodIn_r _ [515, 15, 516, 517, 173, 174, 175, 178, 179, 180, 74, 75, 76, 2, 77, 26, 78, 79, 80, 81, 82, 83, 757, 758, 759, 760, 761, 762, 763, 764, 765, 766, 767, 768, 785, 786, 787, 788, 789, 790, 791, 792, 793, 794, 795, 796] (by decide +kernel) (by decide +kernel)
set_option maxRecDepth 20000 in
theorem gL_law_X2_danger : GoodIn wsL_law (wsV RL 76 RX2 yX2_danger wsX2_danger) := goodIn_app (goodIn_of _ (by decide +kernel)) ggL_law_X2_danger
set_option maxRecDepth 20000 in
theorem ggL_law_X3_danger : GoodIn wsL_law wsX3_danger := goodIn_r _ [521, 61, 89, 90, 91, 5, 92, 67, 248, 249, 250, 258, 259, 260, 769, 770, 771, 772, 773, 774, 775, 776, 777, 778, 779, 780, 781, 782, 783, 784] (by decide +kernel) (by decide +kernel)
set_option maxRecDepth 20000 in
theorem gL_law_X3_danger : GoodIn wsL_law (wsV RL 79 RX3 yX3_danger wsX3_danger) := goodIn_app (goodIn_of _ (by decide +kernel)) ggL_law_X3_danger
set_option maxRecDepth 20000 in
theorem ggL_law_X2_sticks : GoodIn wsL_law wsX2_sticks := goodIn_r _ [525, 526, 527, 528, 2, 529, 28, 74, 75, 76, 77, 26, 78, 79, 80, 81, 82, 83, 530, 531, 532, 533, 17, 15, 24, 534, 535, 536, 25, 118, 119, 120, 14, 121, 34, 122, 123, 124, 125, 35, 36, 37, 38, 39, 40, 41, 42, 43, 44, 45, 537, 538, 539, 540, 195, 179, 174, 180, 541, 287, 288, 289, 176, 177, 178, 542, 543, 544, 545, 757, 758, 759, 760, 761, 762, 763, 764, 765, 766, 767, 768, 785, 786, 787, 788, 789, 790, 791, 792, 793, 794, 795, 796] (by decide +kernel) (by decide +kernel)
set_option maxRecDepth 20000 in
theorem gL_law_X2_sticks : GoodIn wsL_law (wsV RL 80 RX2 yX2_sticks wsX2_sticks) := goodIn_app (goodIn_of _ (by decide +kernel)) ggL_law_X2_sticks
set_option maxRecDepth 20000 in
theorem ggL_law_X3_sticks : GoodIn wsL_law wsX3_sticks := goodIn_r _ [549, 550, 551, 552, 5, 553, 554, 555, 556, 557, 558, 66, 89, 90, 91, 92, 67, 559, 560, 561, 562, 61, 251, 252, 253, 254, 255, 256, 257, 258, 259, 260, 769, 770, 771, 772, 773, 774, 775, 776, 777, 778, 779, 780, 781, 782, 783, 784] (by decide +kernel) (by decide +kernel)
set_option maxRecDepth 20000 in
theorem gL_law_X3_sticks : GoodIn wsL_law (wsV RL 83 RX3 yX3_sticks wsX3_sticks) := goodIn_app (goodIn_of _ (by decide +kernel)) ggL_law_X3_sticks
set_option maxRecDepth 20000 in
theorem ggL_law_X2_falls : GoodIn wsL_law wsX2_falls := goodIn_r _ [566, 526, 527, 528, 2, 529, 28, 74, 75, 76, 77, 26, 78, 79, 80, 81, 82, 83, 530, 531, 532, 533, 17, 15, 24, 534, 535, 536, 25, 118, 119, 120, 14, 121, 34, 122, 123, 124, 125, 35, 36, 37, 38, 39, 40, 41, 42, 43, 44, 45, 537, 538, 539, 540, 195, 179, 174, 180, 541, 287, 288, 289, 176, 177, 178, 567, 568, 569, 570, 757, 758, 759, 760, 761, 762, 763, 764, 765, 766, 767, 768, 785, 786, 787, 788, 789, 790, 791, 792, 793, 794, 795, 796] (by decide +kernel) (by decide +kernel)
set_option maxRecDepth 20000 in
theorem gL_law_X2_falls : GoodIn wsL_law (wsV RL 84 RX2 yX2_falls wsX2_falls) := goodIn_app (goodIn_of _ (by decide +kernel)) ggL_law_X2_falls
set_option maxRecDepth 20000 in
theorem ggL_law_X3_falls : GoodIn wsL_law wsX3_falls := goodIn_r _ [574, 550, 551, 552, 5, 553, 554, 555, 556, 557, 558, 66, 89, 90, 91, 92, 67, 575, 576, 577, 578, 61, 251, 252, 253, 254, 255, 256, 257, 258, 259, 260, 769, 770, 771, 772, 773, 774, 775, 776, 777, 778, 779, 780, 781, 782, 783, 784] (by decide +kernel) (by decide +kernel)
set_option maxRecDepth 20000 in
theorem gL_law_X3_falls : GoodIn wsL_law (wsV RL 87 RX3 yX3_falls wsX3_falls) := goodIn_app (goodIn_of _ (by decide +kernel)) ggL_law_X3_falls
set_option maxRecDepth 20000 in
theorem ggL_law_X2_year : GoodIn wsL_law wsX2_year := goodIn_r _ [582, 28, 583, 584, 2, 585, 74, 75, 76, 77, 26, 78, 79, 80, 81, 82, 83, 432, 433, 434, 530, 531, 532, 533, 17, 15, 24, 534, 535, 536, 25, 118, 119, 120, 14, 121, 34, 122, 123, 124, 125, 35, 36, 37, 38, 39, 40, 41, 42, 43, 44, 45, 537, 538, 539, 540, 195, 179, 174, 180, 541, 287, 288, 289, 176, 177, 178, 586, 587, 588, 589, 590, 591, 592, 593, 542, 543, 544, 545, 594, 595, 596, 597, 598, 599, 600, 567, 568, 569, 570, 757, 758, 759, 760, 761, 762, 763, 764, 765, 766, 767, 768, 785, 786, 787, 788, 789, 790, 791, 792, 793, 794, 795, 796] (by decide +kernel) (by decide +kernel)
set_option maxRecDepth 20000 in
theorem gL_law_X2_year : GoodIn wsL_law (wsV RL 88 RX2 yX2_year wsX2_year) := goodIn_app (goodIn_of _ (by decide +kernel)) ggL_law_X2_year
set_option maxRecDepth 20000 in
theorem ggL_law_X3_year : GoodIn wsL_law wsX3_year := goodIn_r _ [604, 605, 606, 89, 90, 91, 5, 92, 67, 216, 217, 218, 554, 555, 556, 557, 558, 66, 607, 608, 609, 610, 419, 559, 560, 561, 562, 61, 251, 252, 253, 254, 255, 256, 257, 258, 259, 260, 575, 576, 577, 578, 769, 770, 771, 772, 773, 774, 775, 776, 777, 778, 779, 780, 781, 782, 783, 784] (by decide +kernel) (by decide +kernel)
set_option maxRecDepth 20000 in
theorem gL_law_X3_year : GoodIn wsL_law (wsV RL 92 RX3 yX3_year wsX3_year) := goodIn_app (goodIn_of _ (by decide +kernel)) ggL_law_X3_year
set_option maxRecDepth 20000 in
theorem ggL_law_X2_two : GoodIn wsL_law wsX2_two := goodIn_r _ [614, 28, 615, 616, 2, 617, 583, 584, 585, 74, 75, 76, 77, 26, 78, 79, 80, 81, 82, 83, 530, 531, 532, 533, 17, 15, 24, 534, 535, 536, 25, 118, 119, 120, 14, 121, 34, 122, 123, 124, 125, 35, 36, 37, 38, 39, 40, 41, 42, 43, 44, 45, 537, 538, 539, 540, 195, 179, 174, 180, 541, 287, 288, 289, 176, 177, 178, 618, 619, 620, 586, 587, 588, 589, 590, 591, 592, 593, 542, 543, 544, 545, 594, 595, 596, 597, 598, 599, 600, 567, 568, 569, 570, 621, 622, 623, 624, 625, 626, 627, 628, 757, 758, 759, 760, 761, 762, 763, 764, 765, 766, 767, 768, 785, 786, 787, 788, 789, 790, 791, 792, 793, 794, 795, 796] (by decide +kernel) (by decide +kernel)
set_option maxRecDepth 20000 in
theorem gL_law_X2_two : GoodIn wsL_law (wsV RL 93 RX2 yX2_two wsX2_two) := goodIn_app (goodIn_of _ (by decide +kernel)) ggL_law_X2_two
set_option maxRecDepth 20000 in
theorem ggL_law_X3_two : GoodIn wsL_law wsX3_two := goodIn_r _ [632, 605, 606, 633, 634, 5, 635, 216, 217, 218, 554, 555, 556, 557, 558, 66, 89, 90, 91, 92, 67, 636, 637, 638, 607, 608, 609, 610, 419, 559, 560, 561, 562, 61, 251, 252, 253, 254, 255, 256, 257, 258, 259, 260, 575, 576, 577, 578, 769, 770, 771, 772, 773, 774, 775, 776, 777, 778, 779, 780, 781, 782, 783, 784] (by decide +kernel) (by decide +kernel)
set_option maxRecDepth 20000 in
theorem gL_law_X3_two : GoodIn wsL_law (wsV RL 97 RX3 yX3_two wsX3_two) := goodIn_app (goodIn_of _ (by decide +kernel)) ggL_law_X3_two
set_option maxRecDepth 20000 in
theorem ggL_law_X2_worth : GoodIn wsL_law wsX2_worth := goodIn_r _ [642, 643, 28, 615, 616, 2, 617, 583, 584, 585, 74, 75, 76, 77, 26, 78, 79, 80, 81, 82, 83, 530, 531, 532, 533, 17, 15, 24, 534, 535, 536, 25, 118, 119, 120, 14, 121, 34, 122, 123, 124, 125, 35, 36, 37, 38, 39, 40, 41, 42, 43, 44, 45, 537, 538, 539, 540, 195, 179, 174, 180, 541, 287, 288, 289, 176, 177, 178, 625, 626, 627, 628, 586, 587, 588, 589, 590, 591, 592, 593, 542, 543, 544, 545, 594, 595, 596, 597, 598, 599, 600, 567, 568, 569, 570, 618, 619, 620, 621, 622, 623, 624, 757, 758, 759, 760, 761, 762, 763, 764, 765, 766, 767, 768, 785, 786, 787, 788, 789, 790, 791, 792, 793, 794, 795, 796] (by decide +kernel) (by decide +kernel)
set_option maxRecDepth 20000 in
theorem gL_law_X2_worth : GoodIn wsL_law (wsV RL 98 RX2 yX2_worth wsX2_worth) := goodIn_app (goodIn_of _ (by decide +kernel)) ggL_law_X2_worth
set_option maxRecDepth 20000 in
theorem ggL_law_X3_worth : GoodIn wsL_law wsX3_worth := goodIn_r _ [647, 606, 633, 634, 5, 635, 554, 555, 556, 557, 558, 66, 648, 649, 650, 651, 419, 89, 90, 91, 92, 67, 607, 608, 609, 610, 605, 559, 560, 561, 562, 61, 251, 252, 253, 254, 255, 256, 257, 258, 259, 260, 575, 576, 577, 578, 636, 637, 638, 769, 770, 771, 772, 773, 774, 775, 776, 777, 778, 779, 780, 781, 782, 783, 784] (by decide +kernel) (by decide +kernel)
set_option maxRecDepth 20000 in
theorem gL_law_X3_worth : GoodIn wsL_law (wsV RL 102 RX3 yX3_worth wsX3_worth) := goodIn_app (goodIn_of _ (by decide +kernel)) ggL_law_X3_worth
set_option maxRecDepth 20000 in
theorem ggL_law_X2_went : GoodIn wsL_law wsX2_went := goodIn_r _ [655, 17, 15, 535, 381, 329, 333, 154, 2, 155, 432, 433, 434, 74, 75, 76, 77, 26, 78, 79, 80, 81, 82, 83, 118, 119, 120, 14, 121, 34, 122, 123, 124, 125, 35, 36, 37, 38, 39, 40, 41, 42, 43, 44, 45, 537, 538, 539, 540, 195, 179, 174, 180, 541, 287, 288, 289, 176, 177, 178, 334, 181, 182, 757, 758, 759, 760, 761, 762, 763, 764, 765, 766, 767, 768, 785, 786, 787, 788, 789, 790, 791, 792, 793, 794, 795, 796] (by decide +kernel) (by decide +kernel)
set_option maxRecDepth 20000 in
theorem gL_law_X2_went : GoodIn wsL_law (wsV RL 103 RX2 yX2_went wsX2_went) := goodIn_app (goodIn_of _ (by decide +kernel)) ggL_law_X2_went
set_option maxRecDepth 20000 in
theorem ggL_law_X3_went : GoodIn wsL_law wsX3_went := goodIn_r _ [659, 216, 217, 5, 218, 89, 90, 91, 92, 67, 660, 661, 662, 663, 61, 251, 252, 253, 254, 255, 256, 257, 258, 259, 260, 261, 262, 263, 264, 769, 770, 771, 772, 773, 774, 775, 776, 777, 778, 779, 780, 781, 782, 783, 784] (by decide +kernel) (by decide +kernel)
set_option maxRecDepth 20000 in
theorem gL_law_X3_went : GoodIn wsL_law (wsV RL 106 RX3 yX3_went wsX3_went) := goodIn_app (goodIn_of _ (by decide +kernel)) ggL_law_X3_went
set_option maxRecDepth 20000 in
theorem ggL_law_X2_feel : GoodIn wsL_law wsX2_feel := goodIn_r _ [667, 15, 17, 28, 24, 517, 173, 174, 175, 178, 179, 180, 432, 433, 2, 434, 74, 75, 76, 77, 26, 78, 79, 80, 81, 82, 83, 347, 139, 140, 14, 141, 39, 36, 668, 669, 670, 671, 333, 154, 155, 118, 119, 120, 121, 34, 122, 123, 124, 125, 35, 37, 38, 40, 41, 42, 43, 44, 45, 672, 673, 674, 675, 164, 165, 166, 167, 138, 168, 169, 170, 171, 172, 176, 177, 181, 182, 394, 184, 185, 186, 757, 758, 759, 760, 761, 762, 763, 764, 765, 766, 767, 768, 785, 786, 787, 788, 789, 790, 791, 792, 793, 794, 795, 796] (by decide +kernel) (by decide +kernel)
set_option maxRecDepth 20000 in
theorem gL_law_X2_feel : GoodIn wsL_law (wsV RL 107 RX2 yX2_feel wsX2_feel) := goodIn_app (goodIn_of _ (by decide +kernel)) ggL_law_X2_feel
set_option maxRecDepth 20000 in
theorem ggL_law_X3_feel : GoodIn wsL_law wsX3_feel := goodIn_r _ [679, 216, 217, 5, 218, 89, 90, 91, 92, 67, 226, 227, 228, 229, 61, 680, 681, 682, 683, 558, 66, 684, 685, 686, 687, 245, 246, 247, 248, 249, 250, 255, 256, 257, 258, 259, 260, 261, 262, 263, 264, 269, 270, 271, 769, 770, 771, 772, 773, 774, 775, 776, 777, 778, 779, 780, 781, 782, 783, 784] (by decide +kernel) (by decide +kernel)
set_option maxRecDepth 20000 in
theorem gL_law_X3_feel : GoodIn wsL_law (wsV RL 110 RX3 yX3_feel wsX3_feel) := goodIn_app (goodIn_of _ (by decide +kernel)) ggL_law_X3_feel
