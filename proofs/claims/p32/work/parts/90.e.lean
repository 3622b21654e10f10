/-! the law's names -/
set_option maxRecDepth 20000 in
theorem ggL_law_X2_waited : GoodIn wsL_law wsX2_waited := goodIn_r _ [354, 15, 13, 261, 262, 263, 2, 264, 265, 185, 186, 70, 71, 72, 73, 23, 74, 75, 76, 77, 78, 79, 266, 170, 171, 12, 172, 36, 33, 149, 150, 151, 152, 31, 153, 154, 155, 156, 32, 34, 35, 37, 38, 39, 40, 41, 42, 286, 223, 224, 225, 226, 210, 205, 211, 267, 196, 197, 198, 169, 199, 200, 201, 202, 203, 204, 206, 207, 208, 209, 212, 213, 363, 364, 365, 366, 367, 368, 369, 370, 371, 372, 373, 374, 375, 376, 377, 378, 379, 380, 381, 382, 383, 384, 385, 386] (by decide +kernel) (by decide +kernel)
set_option maxRecDepth 20000 in
theorem gL_law_X2_waited : GoodIn wsL_law (wsV RL 130 RX2 yX2_waited wsX2_waited) := goodIn_app (goodIn_of _ (by decide +kernel)) ggL_law_X2_waited
set_option maxRecDepth 20000 in
theorem ggL_law_X2_holds : GoodIn wsL_law wsX2_holds := goodIn_r _ [358, 13, 232, 238, 266, 170, 171, 12, 172, 36, 33, 253, 254, 255, 256, 31, 32, 37, 38, 40, 75, 2, 76, 207, 208, 209, 210, 205, 211, 363, 364, 365, 366, 367, 368, 369, 370, 371, 372, 373, 374, 375, 376, 377, 378, 379, 380, 381, 382, 383, 384, 385, 386] (by decide +kernel) (by decide +kernel)
set_option maxRecDepth 20000 in
theorem gL_law_X2_holds : GoodIn wsL_law (wsV RL 133 RX2 yX2_holds wsX2_holds) := goodIn_app (goodIn_of _ (by decide +kernel)) ggL_law_X2_holds
set_option maxRecDepth 20000 in
theorem ggL_law_X2_stop : GoodIn wsL_law wsX2_stop := goodIn_r _ [362, 13, 266, 170, 171, 12, 172, 36, 33, 70, 71, 72, 2, 73, 23, 74, 75, 76, 77, 78, 79, 346, 347, 348, 349, 15, 149, 150, 151, 152, 31, 153, 154, 155, 156, 32, 34, 35, 37, 38, 39, 40, 41, 42, 267, 196, 197, 198, 169, 199, 200, 201, 202, 203, 204, 205, 206, 207, 208, 209, 210, 211, 212, 213, 350, 215, 216, 217, 363, 364, 365, 366, 367, 368, 369, 370, 371, 372, 373, 374, 375, 376, 377, 378, 379, 380, 381, 382, 383, 384, 385, 386] (by decide +kernel) (by decide +kernel)
set_option maxRecDepth 20000 in
theorem gL_law_X2_stop : GoodIn wsL_law (wsV RL 136 RX2 yX2_stop wsX2_stop) := goodIn_app (goodIn_of _ (by decide +kernel)) ggL_law_X2_stop
