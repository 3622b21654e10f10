/-! the law's names -/
set_option maxRecDepth 20000 in
theorem ggL_law_X2_tries : GoodIn wsL_law wsX2_tries := goodIn_r _ [271, 13, 272, 261, 262, 263, 2, 264, 265, 185, 186, 70, 71, 72, 73, 23, 74, 75, 76, 77, 78, 79, 266, 170, 171, 12, 172, 36, 33, 273, 188, 189, 190, 41, 274, 192, 193, 194, 195, 196, 197, 198, 31, 32, 37, 40, 34, 35, 169, 199, 200, 201, 202, 38, 203, 204, 205, 206, 207, 208, 209, 210, 211, 212, 213, 214, 215, 216, 217, 42, 39, 363, 364, 365, 366, 367, 368, 369, 370, 371, 372, 373, 374, 375, 376, 377, 378, 379, 380, 381, 382, 383, 384, 385, 386] (by decide +kernel) (by decide +kernel)
set_option maxRecDepth 20000 in
theorem gL_law_X2_tries : GoodIn wsL_law (wsV RL 98 RX2 yX2_tries wsX2_tries) := goodIn_app (goodIn_of _ (by decide +kernel)) ggL_law_X2_tries
set_option maxRecDepth 20000 in
theorem ggL_law_X2_kind : GoodIn wsL_law wsX2_kind := goodIn_r _ [278, 13, 240, 272, 279, 280, 265, 185, 2, 186, 70, 71, 72, 73, 23, 74, 75, 76, 77, 78, 79, 281, 212, 213, 363, 364, 365, 366, 367, 368, 369, 370, 371, 372, 373, 374, 375, 376, 377, 378, 379, 380, 381, 382, 383, 384, 385, 386] (by decide +kernel) (by decide +kernel)
set_option maxRecDepth 20000 in
theorem gL_law_X2_kind : GoodIn wsL_law (wsV RL 101 RX2 yX2_kind wsX2_kind) := goodIn_app (goodIn_of _ (by decide +kernel)) ggL_law_X2_kind
set_option maxRecDepth 20000 in
theorem ggL_law_X2_pause : GoodIn wsL_law wsX2_pause := goodIn_r _ [285, 13, 236, 70, 71, 72, 2, 73, 23, 74, 75, 76, 77, 78, 79, 273, 188, 189, 12, 190, 41, 286, 223, 224, 225, 37, 226, 210, 205, 211, 38, 39, 363, 364, 365, 366, 367, 368, 369, 370, 371, 372, 373, 374, 375, 376, 377, 378, 379, 380, 381, 382, 383, 384, 385, 386] (by decide +kernel) (by decide +kernel)
set_option maxRecDepth 20000 in
theorem gL_law_X2_pause : GoodIn wsL_law (wsV RL 104 RX2 yX2_pause wsX2_pause) := goodIn_app (goodIn_of _ (by decide +kernel)) ggL_law_X2_pause
set_option maxRecDepth 20000 in
theorem ggL_law_X2_image : GoodIn wsL_law wsX2_image := goodIn_r _ [290, 14, 13, 26, 236, 149, 150, 151, 12, 152, 31, 153, 154, 155, 156, 32, 33, 34, 35, 36, 37, 38, 39, 40, 41, 42, 363, 364, 365, 366, 367, 368, 369, 370, 371, 372, 373, 374, 375, 376, 377, 378, 379, 380, 381, 382, 383, 384, 385, 386] (by decide +kernel) (by decide +kernel)
set_option maxRecDepth 20000 in
theorem gL_law_X2_image : GoodIn wsL_law (wsV RL 107 RX2 yX2_image wsX2_image) := goodIn_app (goodIn_of _ (by decide +kernel)) ggL_law_X2_image
set_option maxRecDepth 20000 in
theorem ggL_law_X2_set : GoodIn wsL_law wsX2_set := goodIn_r _ [294, 295, 296, 13, 70, 71, 72, 2, 73, 23, 74, 75, 76, 77, 78, 79, 297, 298, 299, 12, 300, 34, 35, 37, 38, 40, 301, 178, 179, 180, 363, 364, 365, 366, 367, 368, 369, 370, 371, 372, 373, 374, 375, 376, 377, 378, 379, 380, 381, 382, 383, 384, 385, 386] (by decide +kernel) (by decide +kernel)
set_option maxRecDepth 20000 in
theorem gL_law_X2_set : GoodIn wsL_law (wsV RL 110 RX2 yX2_set wsX2_set) := goodIn_app (goodIn_of _ (by decide +kernel)) ggL_law_X2_set
set_option maxRecDepth 20000 in
theorem ggL_law_X2_back : GoodIn wsL_law wsX2_back := goodIn_r _ [305, 13, 232, 363, 364, 365, 366, 367, 368, 369, 370, 371, 372, 373, 374, 375, 376, 377, 378, 379, 380, 381, 382, 383, 384, 385, 386] (by decide +kernel) (by decide +kernel)
set_option maxRecDepth 20000 in
theorem gL_law_X2_back : GoodIn wsL_law (wsV RL 113 RX2 yX2_back wsX2_back) := goodIn_app (goodIn_of _ (by decide +kernel)) ggL_law_X2_back
