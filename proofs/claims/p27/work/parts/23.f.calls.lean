/-! MACHINE: the law's calls: the words of the called (printed; long rows cut) -/
set_option maxRecDepth 20000 in
theorem ggL_law_X7_init_h : GoodIn wsL_law0 [Cond.code yX7_init cX7_init 1 none] := goodIn_r _ [11] (by decide +kernel) (by decide +kernel)
set_option maxRecDepth 20000 in
theorem ggL_law_X7_init_1 : GoodIn wsL_law0 wsX7_init_r1 := goodIn_r _ [12, 13, 14, 15, 16, 17, 18, 19, 20, 21, 22, 23, 24, 25, 26, 27, 28, 29, 30, 31, 32, 33, 34, 35] (by decide +kernel) (by decide +kernel)
set_option maxRecDepth 20000 in
theorem ggL_law_X7_init_2 : GoodIn wsL_law0 wsX7_init_r2 := goodIn_r _ [36, 37, 38, 39, 40, 41, 42, 43, 44, 45, 46, 47, 48, 49, 50, 51, 52, 53, 54, 3, 55, 56, 57, 58] (by decide +kernel) (by decide +kernel)
set_option maxRecDepth 20000 in
theorem ggL_law_X7_init_3 : GoodIn wsL_law0 wsX7_init_r3 := goodIn_r _ [59, 60, 61, 62, 63, 64, 65, 66, 67, 68, 69, 70, 71, 72, 73, 74, 75, 76, 77, 78, 79, 80, 81, 82] (by decide +kernel) (by decide +kernel)
set_option maxRecDepth 20000 in
theorem ggL_law_X7_init_4 : GoodIn wsL_law0 wsX7_init_r4 := goodIn_r _ [83, 84, 85] (by decide +kernel) (by decide +kernel)
set_option maxRecDepth 20000 in
theorem ggL_law_X7_init_5 : GoodIn wsL_law0 wsX20 := goodIn_r _ [346, 347, 348, 349, 350, 351, 352, 353, 354, 355, 356, 357] (by decide +kernel) (by decide +kernel)
set_option maxRecDepth 20000 in
theorem ggL_law_X7_init_6 : GoodIn wsL_law0 wsX70 := goodIn_r _ [343, 344, 345] (by decide +kernel) (by decide +kernel)
set_option maxRecDepth 20000 in
theorem ggL_law_X7_init_7 : GoodIn wsL_law0 wsX60 := goodIn_r _ [358, 359, 360, 361, 362, 363, 364, 365, 366, 367, 368, 369] (by decide +kernel) (by decide +kernel)
set_option maxRecDepth 20000 in
theorem ggL_law_X7_init_8 : GoodIn wsL_law0 wsX00 := goodIn_r _ [370, 371, 372, 373] (by decide +kernel) (by decide +kernel)
set_option maxRecDepth 20000 in
theorem ggL_law_X7_init_9 : GoodIn wsL_law0 wsX30 := goodIn_r _ [374, 375, 376, 377, 378, 379, 380] (by decide +kernel) (by decide +kernel)
set_option maxRecDepth 20000 in
theorem ggL_law_X7_init_10 : GoodIn wsL_law0 wsX50 := goodIn_r _ [381, 382, 383, 384, 385, 386, 387, 388] (by decide +kernel) (by decide +kernel)
set_option maxRecDepth 20000 in
theorem ggL_law_X7_init_11 : GoodIn wsL_law0 wsX10 := goodIn_r _ [389, 390, 391] (by decide +kernel) (by decide +kernel)
set_option maxRecDepth 20000 in
theorem ggL_law_X7_init_12 : GoodIn wsL_law0 wsX40 := goodIn_r _ [392, 393, 394, 395, 396, 397] (by decide +kernel) (by decide +kernel)
theorem ggL_law_X7_init : GoodIn wsL_law0 wsX7_init := goodIn_app ggL_law_X7_init_h (goodIn_app (goodIn_app (goodIn_app (goodIn_app (goodIn_app (goodIn_app (goodIn_app (goodIn_app (goodIn_app ggL_law_X7_init_1 (goodIn_app ggL_law_X7_init_2 (goodIn_app ggL_law_X7_init_3 ggL_law_X7_init_4))) ggL_law_X7_init_5) ggL_law_X7_init_6) ggL_law_X7_init_7) ggL_law_X7_init_8) ggL_law_X7_init_9) ggL_law_X7_init_10) ggL_law_X7_init_11) ggL_law_X7_init_12)
set_option maxRecDepth 20000 in
theorem gL_law_X7_init : GoodIn wsL_law0 (wsX7_init) := ggL_law_X7_init
set_option maxRecDepth 20000 in
theorem ggL_law_L_some : GoodIn wsL_law0 wsL_some := goodIn_r _ [89, 90, 91, 92, 88, 93, 94] (by decide +kernel) (by decide +kernel)
set_option maxRecDepth 20000 in
theorem gL_law_L_some : GoodIn wsL_law0 (va_wsS RL 18 yL_some wsL_some) := goodIn_app (goodIn_r _ [86, 87, 88] (by decide +kernel) (by decide +kernel)) ggL_law_L_some
set_option maxRecDepth 20000 in
theorem ggL_law_X7_grant : GoodIn wsL_law0 wsX7_grant := goodIn_r _ [98, 18, 99, 343, 344, 345, 346, 347, 348, 349, 350, 351, 352, 353, 354, 355, 356, 357] (by decide +kernel) (by decide +kernel)
