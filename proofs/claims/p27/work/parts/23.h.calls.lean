/-! MACHINE: the law's calls: the words of the called (printed; long rows cut) -/
set_option maxRecDepth 20000 in
theorem gL_law_X7_order : GoodIn wsL_law0 (wsV RL 32 RX7 yX7_order wsX7_order) := goodIn_app (goodIn_r _ [114, 115, 116, 2] (by decide +kernel) (by decide +kernel)) ggL_law_X7_order
set_option maxRecDepth 20000 in
theorem ggL_law_Y_of : GoodIn wsM_law wsY_of := goodIn_ca (goodIn_r _ [279, 280, 281, 18, 109, 282, 283, 284, 285, 286, 287, 288, 289, 29, 290, 140, 54, 198, 291, 220, 221, 222, 55, 166, 56, 343, 344, 345, 346, 347, 348, 349, 350, 351, 352, 353, 354, 355, 356, 357, 392, 393, 394, 395, 396, 397, 370, 371, 372, 373] (by decide +kernel) (by decide +kernel)) (goodIn_sub (fun _ h => List.mem_append_right _ h) (by decide +kernel))
