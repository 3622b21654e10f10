/-! the law's names -/
set_option maxRecDepth 20000 in
theorem ggL_law_X2_init : GoodIn wsL_law wsX2_init := goodIn_r _ [6, 7, 8, 9, 10, 11, 12, 13, 14, 15, 16, 17, 18, 19, 3, 20, 21, 22, 23, 24, 25, 26, 27, 28, 29, 30, 31, 32, 33, 34, 35, 36, 37, 38, 39, 40, 41, 42, 43, 44, 45, 46, 47, 48, 49, 50, 51, 52, 53, 375, 376, 377, 378, 379, 380, 381, 382, 383, 384, 385, 386, 363, 364, 365, 366, 367, 368, 369, 370, 371, 372, 373, 374, 387, 388, 389, 390, 391, 392, 393] (by decide +kernel) (by decide +kernel)
set_option maxRecDepth 20000 in
theorem gL_law_X2_init : GoodIn wsL_law (wsX2_init) := ggL_law_X2_init
set_option maxRecDepth 20000 in
theorem gL_law_L_hand : GoodIn wsL_law (va_wsS RL 88 yL_hand wsL_hand) := goodIn_app (goodIn_of _ (by decide +kernel)) ggL_law_L_hand
set_option maxRecDepth 20000 in
theorem ggL_law_L_cell : GoodIn wsL_law wsL_cell := goodIn_r _ [60, 61, 62] (by decide +kernel) (by decide +kernel)
set_option maxRecDepth 20000 in
theorem gL_law_L_cell : GoodIn wsL_law (va_wsS RL 21 yL_cell wsL_cell) := goodIn_app (goodIn_of _ (by decide +kernel)) ggL_law_L_cell
set_option maxRecDepth 20000 in
theorem ggL_law_L_sight : GoodIn wsL_law wsL_sight := goodIn_r _ [243, 244, 245, 246, 227, 228, 229, 2, 230, 23, 13, 231, 232, 233, 234, 235, 236, 237, 238, 25, 24, 239, 240, 74, 75, 76, 247, 248, 249, 250, 251, 252, 70, 71, 72, 73, 77, 78, 79, 253, 254, 255, 12, 256, 31, 32, 37, 38, 40, 207, 208, 209, 210, 205, 211, 363, 364, 365, 366, 367, 368, 369, 370, 371, 372, 373, 374, 375, 376, 377, 378, 379, 380, 381, 382, 383, 384, 385, 386] (by decide +kernel) (by decide +kernel)
set_option maxRecDepth 20000 in
theorem gL_law_L_sight : GoodIn wsL_law (va_wsS RL 91 yL_sight wsL_sight) := goodIn_app (goodIn_of _ (by decide +kernel)) ggL_law_L_sight
set_option maxRecDepth 20000 in
theorem ggL_law_X2_count : GoodIn wsL_law wsX2_count := goodIn_r _ [230, 23, 13, 231, 232, 233, 234, 235, 236, 237, 238, 25, 24, 239, 240, 74, 75, 2, 76, 363, 364, 365, 366, 367, 368, 369, 370, 371, 372, 373, 374, 375, 376, 377, 378, 379, 380, 381, 382, 383, 384, 385, 386] (by decide +kernel) (by decide +kernel)
set_option maxRecDepth 20000 in
theorem gL_law_X2_count : GoodIn wsL_law (wsV RL 41 RX2 yX2_count wsX2_count) := goodIn_app (goodIn_of _ (by decide +kernel)) ggL_law_X2_count
set_option maxRecDepth 20000 in
theorem ggL_law_X2_would : GoodIn wsL_law wsX2_would := goodIn_r _ [260, 13, 261, 262, 263, 2, 264, 265, 185, 186, 70, 71, 72, 73, 23, 74, 75, 76, 77, 78, 79, 266, 170, 171, 12, 172, 36, 33, 267, 196, 197, 198, 31, 32, 37, 40, 34, 35, 169, 199, 200, 201, 202, 38, 203, 204, 205, 206, 207, 208, 209, 210, 211, 212, 213, 363, 364, 365, 366, 367, 368, 369, 370, 371, 372, 373, 374, 375, 376, 377, 378, 379, 380, 381, 382, 383, 384, 385, 386] (by decide +kernel) (by decide +kernel)
set_option maxRecDepth 20000 in
theorem gL_law_X2_would : GoodIn wsL_law (wsV RL 95 RX2 yX2_would wsX2_would) := goodIn_app (goodIn_of _ (by decide +kernel)) ggL_law_X2_would
