/-! MACHINE: the law's calls: the words of the called (printed; long rows cut) -/
set_option maxRecDepth 20000 in
theorem gL_law_X7_grant : GoodIn wsL_law0 (wsV RL 22 RX7 yX7_grant wsX7_grant) := goodIn_app (goodIn_r _ [95, 96, 97, 2] (by decide +kernel) (by decide +kernel)) ggL_law_X7_grant
set_option maxRecDepth 20000 in
theorem ggL_law_X7_least : GoodIn wsL_law0 wsX7_least := goodIn_r _ [103, 18, 104, 343, 344, 345, 346, 347, 348, 349, 350, 351, 352, 353, 354, 355, 356, 357] (by decide +kernel) (by decide +kernel)
set_option maxRecDepth 20000 in
theorem gL_law_X7_least : GoodIn wsL_law0 (wsV RL 26 RX7 yX7_least wsX7_least) := goodIn_app (goodIn_r _ [100, 101, 102, 2] (by decide +kernel) (by decide +kernel)) ggL_law_X7_least
set_option maxRecDepth 20000 in
theorem ggL_law_X7_top : GoodIn wsL_law0 wsX7_top := goodIn_r _ [108, 18, 109, 110, 111, 112, 2, 113, 343, 344, 345, 346, 347, 348, 349, 350, 351, 352, 353, 354, 355, 356, 357, 370, 371, 372, 373] (by decide +kernel) (by decide +kernel)
set_option maxRecDepth 20000 in
theorem gL_law_X7_top : GoodIn wsL_law0 (wsV RL 29 RX7 yX7_top wsX7_top) := goodIn_app (goodIn_r _ [105, 106, 107, 2] (by decide +kernel) (by decide +kernel)) ggL_law_X7_top
set_option maxRecDepth 20000 in
theorem ggL_law_X7_order_h : GoodIn wsL_law0 [Cond.code yX7_order cX7_order 6 (some .int)] := goodIn_r _ [117] (by decide +kernel) (by decide +kernel)
set_option maxRecDepth 20000 in
theorem ggL_law_X7_order_1 : GoodIn wsL_law0 wsX7_order_r1 := goodIn_r _ [18, 118, 119, 2, 120, 121, 122, 123, 124, 111, 112, 113, 125, 126, 127, 128, 129, 130, 131, 17, 132, 133, 30, 134] (by decide +kernel) (by decide +kernel)
set_option maxRecDepth 20000 in
theorem ggL_law_X7_order_2 : GoodIn wsL_law0 wsX7_order_r2 := goodIn_r _ [46, 135, 136, 137, 138, 29, 139, 140, 141, 142, 143, 45, 144, 145, 146, 147, 148, 149, 150, 151, 152, 153, 154, 155] (by decide +kernel) (by decide +kernel)
set_option maxRecDepth 20000 in
theorem ggL_law_X7_order_3 : GoodIn wsL_law0 wsX7_order_r3 := goodIn_r _ [156, 157, 158, 159, 160, 161, 162, 163, 164, 165, 54, 166, 167, 168, 169, 170, 171, 172, 173, 174, 175, 176, 177, 178] (by decide +kernel) (by decide +kernel)
set_option maxRecDepth 20000 in
theorem ggL_law_X7_order_4 : GoodIn wsL_law0 wsX7_order_r4 := goodIn_r _ [179, 180, 181, 182, 183, 184, 185, 186, 187, 6, 7, 8, 188, 189, 190, 191, 192, 193, 194, 195, 196, 197, 55, 198] (by decide +kernel) (by decide +kernel)
set_option maxRecDepth 20000 in
theorem ggL_law_X7_order_5 : GoodIn wsL_law0 wsX7_order_r5 := goodIn_r _ [56, 199, 200, 201, 202, 38, 203, 48, 204, 205, 206, 207, 34, 208, 209, 210, 211, 37, 212, 213, 214, 215, 216, 217] (by decide +kernel) (by decide +kernel)
set_option maxRecDepth 20000 in
theorem ggL_law_X7_order_6 : GoodIn wsL_law0 wsX7_order_r6 := goodIn_r _ [218, 219, 220, 221, 222, 223, 224, 225, 226, 72, 73, 74, 227, 228, 229, 230, 75, 231, 76, 77, 232, 233, 234, 235] (by decide +kernel) (by decide +kernel)
set_option maxRecDepth 20000 in
theorem ggL_law_X7_order_7 : GoodIn wsL_law0 wsX7_order_r7 := goodIn_r _ [236, 237, 238, 239, 240, 241, 242, 243, 244, 245, 246, 247, 33, 248, 64, 249, 250, 251, 252, 253, 254, 255, 256, 65] (by decide +kernel) (by decide +kernel)
set_option maxRecDepth 20000 in
theorem ggL_law_X7_order_8 : GoodIn wsL_law0 wsX7_order_r8 := goodIn_r _ [67, 257, 258, 259, 260, 261, 47, 262, 263, 264, 265, 266, 267, 268, 269, 270, 271, 272, 273, 274, 275] (by decide +kernel) (by decide +kernel)
set_option maxRecDepth 20000 in
theorem ggL_law_X7_order_9 : GoodIn wsL_law0 wsX70 := goodIn_r _ [343, 344, 345] (by decide +kernel) (by decide +kernel)
set_option maxRecDepth 20000 in
theorem ggL_law_X7_order_10 : GoodIn wsL_law0 wsX20 := goodIn_r _ [346, 347, 348, 349, 350, 351, 352, 353, 354, 355, 356, 357] (by decide +kernel) (by decide +kernel)
set_option maxRecDepth 20000 in
theorem ggL_law_X7_order_11 : GoodIn wsL_law0 wsX40 := goodIn_r _ [392, 393, 394, 395, 396, 397] (by decide +kernel) (by decide +kernel)
set_option maxRecDepth 20000 in
theorem ggL_law_X7_order_12 : GoodIn wsL_law0 wsX00 := goodIn_r _ [370, 371, 372, 373] (by decide +kernel) (by decide +kernel)
set_option maxRecDepth 20000 in
theorem ggL_law_X7_order_13 : GoodIn wsL_law0 wsX50 := goodIn_r _ [381, 382, 383, 384, 385, 386, 387, 388] (by decide +kernel) (by decide +kernel)
set_option maxRecDepth 20000 in
theorem ggL_law_X7_order_14 : GoodIn wsL_law0 wsX30 := goodIn_r _ [374, 375, 376, 377, 378, 379, 380] (by decide +kernel) (by decide +kernel)
theorem ggL_law_X7_order : GoodIn wsL_law0 wsX7_order := goodIn_app ggL_law_X7_order_h (goodIn_app (goodIn_app (goodIn_app (goodIn_app (goodIn_app (goodIn_app (goodIn_app ggL_law_X7_order_1 (goodIn_app ggL_law_X7_order_2 (goodIn_app ggL_law_X7_order_3 (goodIn_app ggL_law_X7_order_4 (goodIn_app ggL_law_X7_order_5 (goodIn_app ggL_law_X7_order_6 (goodIn_app ggL_law_X7_order_7 ggL_law_X7_order_8))))))) ggL_law_X7_order_9) ggL_law_X7_order_10) ggL_law_X7_order_11) ggL_law_X7_order_12) ggL_law_X7_order_13) ggL_law_X7_order_14)
