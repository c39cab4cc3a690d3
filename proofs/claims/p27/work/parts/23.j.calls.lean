/-! MACHINE: the law's calls: the words of the called (printed; long rows cut) -/
set_option maxRecDepth 20000 in
theorem gL_law_X7_trade : GoodIn wsL_law0 (wsV RL 51 RX7 yX7_trade wsX7_trade) := goodIn_app (goodIn_r _ [308, 309, 310, 2] (by decide +kernel) (by decide +kernel)) ggL_law_X7_trade
set_option maxRecDepth 20000 in
theorem ggL_law_L_size : GoodIn wsM_law wsM_size := goodIn_ca (goodIn_r _ [324, 325, 276, 277, 278, 2, 279, 280, 281, 18, 109, 282, 283, 284, 285, 286, 287, 288, 289, 29, 290, 140, 54, 198, 291, 220, 221, 222, 55, 166, 56, 343, 344, 345, 346, 347, 348, 349, 350, 351, 352, 353, 354, 355, 356, 357, 392, 393, 394, 395, 396, 397, 370, 371, 372, 373] (by decide +kernel) (by decide +kernel)) (goodIn_sub (fun _ h => List.mem_append_right _ h) (by decide +kernel))
set_option maxRecDepth 20000 in
theorem gL_law_L_size : GoodIn wsM_law (va_wsS RL 54 yL_size wsM_size) := goodIn_app (goodIn_r _ [322, 323, 88] (by decide +kernel) (by decide +kernel)) ggL_law_L_size
set_option maxRecDepth 20000 in
theorem ggL_law_X7_count : GoodIn wsL_law0 wsX7_count := goodIn_r _ [329, 18, 109, 330, 331, 312, 332, 99, 104, 333, 23, 334, 313, 335, 336, 337, 343, 344, 345, 346, 347, 348, 349, 350, 351, 352, 353, 354, 355, 356, 357, 370, 371, 372, 373, 374, 375, 376, 377, 378, 379, 380, 358, 359, 360, 361, 362, 363, 364, 365, 366, 367, 368, 369] (by decide +kernel) (by decide +kernel)
set_option maxRecDepth 20000 in
theorem gL_law_X7_count : GoodIn wsL_law0 (wsV RL 58 RX7 yX7_count wsX7_count) := goodIn_app (goodIn_r _ [326, 327, 328, 2] (by decide +kernel) (by decide +kernel)) ggL_law_X7_count
set_option maxRecDepth 20000 in
theorem ggL_law_Y_position : GoodIn wsM_law wsY_position := goodIn_ca (goodIn_r _ [341, 280, 281, 18, 312, 342, 122, 123, 2, 124, 343, 344, 345, 346, 347, 348, 349, 350, 351, 352, 353, 354, 355, 356, 357, 374, 375, 376, 377, 378, 379, 380] (by decide +kernel) (by decide +kernel)) (goodIn_sub (fun _ h => List.mem_append_right _ h) (by decide +kernel))
set_option maxRecDepth 20000 in
theorem gL_law_Y_position : GoodIn wsM_law (wsV RL 61 RX7 yX7_position wsY_position) := goodIn_app (goodIn_r _ [338, 339, 340, 2] (by decide +kernel) (by decide +kernel)) ggL_law_Y_position
