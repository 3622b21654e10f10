/-! the law's names -/
set_option maxRecDepth 20000 in
theorem ggL_law_X2_on : GoodIn wsL_law wsX2_on := goodIn_r _ [309, 26, 13, 14, 236, 70, 71, 72, 2, 73, 23, 74, 75, 76, 77, 78, 79, 149, 150, 151, 12, 152, 31, 153, 154, 155, 156, 32, 33, 34, 35, 36, 37, 38, 39, 40, 41, 42, 363, 364, 365, 366, 367, 368, 369, 370, 371, 372, 373, 374, 375, 376, 377, 378, 379, 380, 381, 382, 383, 384, 385, 386] (by decide +kernel) (by decide +kernel)
set_option maxRecDepth 20000 in
theorem gL_law_X2_on : GoodIn wsL_law (wsV RL 116 RX2 yX2_on wsX2_on) := goodIn_app (goodIn_of _ (by decide +kernel)) ggL_law_X2_on
set_option maxRecDepth 20000 in
theorem ggL_law_X2_part : GoodIn wsL_law wsX2_part := goodIn_r _ [250, 13, 231, 251, 252, 70, 71, 72, 2, 73, 23, 74, 75, 76, 77, 78, 79, 253, 254, 255, 12, 256, 31, 32, 37, 38, 40, 207, 208, 209, 210, 205, 211, 363, 364, 365, 366, 367, 368, 369, 370, 371, 372, 373, 374, 375, 376, 377, 378, 379, 380, 381, 382, 383, 384, 385, 386] (by decide +kernel) (by decide +kernel)
set_option maxRecDepth 20000 in
theorem gL_law_X2_part : GoodIn wsL_law (wsV RL 85 RX2 yX2_part wsX2_part) := goodIn_app (goodIn_of _ (by decide +kernel)) ggL_law_X2_part
set_option maxRecDepth 20000 in
theorem ggL_law_X2_danger : GoodIn wsL_law wsX2_danger := goodIn_r _ [313, 13, 235, 314, 204, 205, 206, 209, 210, 211, 70, 71, 72, 2, 73, 23, 74, 75, 76, 77, 78, 79, 363, 364, 365, 366, 367, 368, 369, 370, 371, 372, 373, 374, 375, 376, 377, 378, 379, 380, 381, 382, 383, 384, 385, 386] (by decide +kernel) (by decide +kernel)
set_option maxRecDepth 20000 in
theorem gL_law_X2_danger : GoodIn wsL_law (wsV RL 119 RX2 yX2_danger wsX2_danger) := goodIn_app (goodIn_of _ (by decide +kernel)) ggL_law_X2_danger
set_option maxRecDepth 20000 in
theorem ggL_law_X2_lots : GoodIn wsL_law wsX2_lots := goodIn_r _ [318, 27, 70, 71, 72, 2, 73, 23, 74, 75, 76, 77, 78, 79, 319, 320, 321, 322, 15, 13, 237, 233, 149, 150, 151, 12, 152, 31, 153, 154, 155, 156, 32, 33, 34, 35, 36, 37, 38, 39, 40, 41, 42, 323, 324, 325, 326, 327, 328, 329, 266, 170, 171, 172, 274, 192, 193, 194, 195, 196, 197, 198, 169, 199, 200, 201, 202, 203, 204, 205, 206, 207, 208, 209, 210, 211, 212, 213, 214, 215, 216, 217, 363, 364, 365, 366, 367, 368, 369, 370, 371, 372, 373, 374, 375, 376, 377, 378, 379, 380, 381, 382, 383, 384, 385, 386] (by decide +kernel) (by decide +kernel)
set_option maxRecDepth 20000 in
theorem gL_law_X2_lots : GoodIn wsL_law (wsV RL 122 RX2 yX2_lots wsX2_lots) := goodIn_app (goodIn_of _ (by decide +kernel)) ggL_law_X2_lots
set_option maxRecDepth 20000 in
theorem ggL_law_X2_went : GoodIn wsL_law wsX2_went := goodIn_r _ [333, 15, 13, 233, 238, 240, 265, 185, 2, 186, 334, 335, 336, 70, 71, 72, 73, 23, 74, 75, 76, 77, 78, 79, 149, 150, 151, 12, 152, 31, 153, 154, 155, 156, 32, 33, 34, 35, 36, 37, 38, 39, 40, 41, 42, 337, 338, 339, 340, 226, 210, 205, 211, 341, 254, 255, 256, 207, 208, 209, 281, 212, 213, 363, 364, 365, 366, 367, 368, 369, 370, 371, 372, 373, 374, 375, 376, 377, 378, 379, 380, 381, 382, 383, 384, 385, 386] (by decide +kernel) (by decide +kernel)
set_option maxRecDepth 20000 in
theorem gL_law_X2_went : GoodIn wsL_law (wsV RL 125 RX2 yX2_went wsX2_went) := goodIn_app (goodIn_of _ (by decide +kernel)) ggL_law_X2_went
set_option maxRecDepth 20000 in
theorem ggL_law_X2_goes : GoodIn wsL_law wsX2_goes := goodIn_r _ [345, 261, 262, 263, 2, 264, 13, 265, 185, 186, 70, 71, 72, 73, 23, 74, 75, 76, 77, 78, 79, 266, 170, 171, 12, 172, 36, 33, 346, 347, 348, 349, 15, 149, 150, 151, 152, 31, 153, 154, 155, 156, 32, 34, 35, 37, 38, 39, 40, 41, 42, 267, 196, 197, 198, 169, 199, 200, 201, 202, 203, 204, 205, 206, 207, 208, 209, 210, 211, 212, 213, 350, 215, 216, 217, 363, 364, 365, 366, 367, 368, 369, 370, 371, 372, 373, 374, 375, 376, 377, 378, 379, 380, 381, 382, 383, 384, 385, 386] (by decide +kernel) (by decide +kernel)
set_option maxRecDepth 20000 in
theorem gL_law_X2_goes : GoodIn wsL_law (wsV RL 128 RX2 yX2_goes wsX2_goes) := goodIn_app (goodIn_of _ (by decide +kernel)) ggL_law_X2_goes
