/-! the law's names: hand's words -/
set_option maxRecDepth 20000 in
theorem ghL_1 : GoodIn wsL_law (.code yL_hand cL_hand 8 (some .boolean) :: wsL_hand_r1) := goodIn_r _ [57, 58, 59, 56, 60, 61, 62, 63, 64, 65, 66, 67, 68, 2, 69, 24, 20, 70, 71, 72, 73, 23, 74, 75, 76] (by decide +kernel) (by decide +kernel)
set_option maxRecDepth 20000 in
theorem ghL_2 : GoodIn wsL_law (wsL_hand_r2) := goodIn_r _ [77, 78, 79, 80, 81, 82, 83, 84, 85, 86, 87, 88, 89, 90, 91, 92, 93, 94, 95, 96, 97, 98, 99, 100] (by decide +kernel) (by decide +kernel)
set_option maxRecDepth 20000 in
theorem ghL_3 : GoodIn wsL_law (wsL_hand_r3) := goodIn_r _ [101, 102, 103, 104, 105, 106, 107, 108, 109, 110, 111, 112, 113, 114, 115, 116, 117, 118, 119, 120, 121, 122, 123, 124] (by decide +kernel) (by decide +kernel)
set_option maxRecDepth 20000 in
theorem ghL_4 : GoodIn wsL_law (wsL_hand_r4) := goodIn_r _ [125, 126, 127, 128, 129, 130, 131, 132, 133, 134, 135, 136, 137, 138, 139, 140, 141, 142, 143, 144, 145, 146, 147, 148] (by decide +kernel) (by decide +kernel)
set_option maxRecDepth 20000 in
theorem ghL_5 : GoodIn wsL_law (wsL_hand_r5) := goodIn_r _ [15, 13, 149, 150, 151, 12, 152, 31, 153, 154, 155, 156, 32, 33, 34, 35, 36, 37, 38, 39, 40, 41, 42, 157] (by decide +kernel) (by decide +kernel)
set_option maxRecDepth 20000 in
theorem ghL_6 : GoodIn wsL_law (wsL_hand_r6) := goodIn_r _ [158, 159, 160, 161, 162, 163, 164, 165, 166, 167, 168, 169, 170, 171, 172, 173, 174, 175, 176, 177, 178, 179, 180, 181] (by decide +kernel) (by decide +kernel)
set_option maxRecDepth 20000 in
theorem ghL_7 : GoodIn wsL_law (wsL_hand_r7) := goodIn_r _ [182, 183, 184, 185, 186, 187, 188, 189, 190, 191, 192, 193, 194, 195, 196, 197, 198, 199, 200, 201, 202, 203, 204, 205] (by decide +kernel) (by decide +kernel)
set_option maxRecDepth 20000 in
theorem ghL_8 : GoodIn wsL_law (wsL_hand_r8) := goodIn_r _ [206, 207, 208, 209, 210, 211, 212, 213, 214, 215, 216, 217, 218, 219, 220, 221, 222, 223, 224, 225, 226, 227, 228, 229] (by decide +kernel) (by decide +kernel)
set_option maxRecDepth 20000 in
theorem ghL_9 : GoodIn wsL_law (wsL_hand_r9) := goodIn_r _ [230, 231, 232, 233, 234, 235, 236, 237, 238, 25, 239, 240] (by decide +kernel) (by decide +kernel)
set_option maxRecDepth 20000 in
theorem ghL_X2 : GoodIn wsL_law (wsX20) := goodIn_r _ [363, 364, 365, 366, 367, 368, 369, 370, 371, 372, 373, 374] (by decide +kernel) (by decide +kernel)
set_option maxRecDepth 20000 in
theorem ghL_X0 : GoodIn wsL_law (wsX00) := goodIn_r _ [375, 376, 377, 378, 379, 380, 381, 382, 383, 384, 385, 386] (by decide +kernel) (by decide +kernel)
theorem ggL_law_L_hand : GoodIn wsL_law wsL_hand := goodIn_ca (goodIn_ca (goodIn_ca ghL_1 (goodIn_app ghL_2 (goodIn_app ghL_3 (goodIn_app ghL_4 (goodIn_app ghL_5 (goodIn_app ghL_6 (goodIn_app ghL_7 (goodIn_app ghL_8 ghL_9)))))))) ghL_X2) ghL_X0
