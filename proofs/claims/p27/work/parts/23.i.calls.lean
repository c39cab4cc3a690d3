/-! MACHINE: the law's calls: the words of the called (printed; long rows cut) -/
set_option maxRecDepth 20000 in
theorem gL_law_Y_of : GoodIn wsM_law (wsV RL 36 RX7 yX7_of wsY_of) := goodIn_app (goodIn_r _ [276, 277, 278, 2] (by decide +kernel) (by decide +kernel)) ggL_law_Y_of
set_option maxRecDepth 20000 in
theorem ggL_law_X7_share : GoodIn wsL_law0 wsX7_share := goodIn_r _ [295, 18, 109, 296, 283, 284, 297, 104, 287, 288, 289, 29, 290, 140, 54, 198, 298, 210, 211, 37, 212, 213, 214, 215, 216, 217, 218, 178, 179, 180, 166, 167, 219, 220, 221, 222, 55, 56, 223, 224, 225, 226, 72, 73, 74, 299, 228, 229, 230, 75, 231, 6, 7, 8, 76, 77, 232, 233, 234, 300, 301, 302, 303, 304, 305, 306, 307, 343, 344, 345, 346, 347, 348, 349, 350, 351, 352, 353, 354, 355, 356, 357, 392, 393, 394, 395, 396, 397, 381, 382, 383, 384, 385, 386, 387, 388, 370, 371, 372, 373] (by decide +kernel) (by decide +kernel)
set_option maxRecDepth 20000 in
theorem gL_law_X7_share : GoodIn wsL_law0 (wsV RL 47 RX7 yX7_share wsX7_share) := goodIn_app (goodIn_r _ [292, 293, 294, 2] (by decide +kernel) (by decide +kernel)) ggL_law_X7_share
set_option maxRecDepth 20000 in
theorem ggL_law_X7_trade : GoodIn wsL_law0 wsX7_trade := goodIn_r _ [311, 18, 312, 313, 314, 315, 316, 33, 317, 64, 249, 318, 319, 320, 321, 343, 344, 345, 346, 347, 348, 349, 350, 351, 352, 353, 354, 355, 356, 357, 374, 375, 376, 377, 378, 379, 380] (by decide +kernel) (by decide +kernel)
