/-! MACHINE: the law's words among the tables' -/
set_option maxRecDepth 20000 in
theorem wl_1 : GoodIn lw_tbl wsL_law0_r1 := goodIn_r _ [23, 24, 10, 85, 549, 548, 344, 18, 345, 25, 26, 27, 28, 29, 30, 31, 32, 11, 274, 275, 240, 241, 17, 276] (by decide +kernel) (by decide +kernel)
set_option maxRecDepth 20000 in
theorem wl_2 : GoodIn lw_tbl wsL_law0_r2 := goodIn_r _ [34, 35, 36, 37, 38, 12, 194, 105, 106, 14, 196, 140, 141, 15, 198, 179, 180, 16, 200, 192, 45, 13, 201, 202] (by decide +kernel) (by decide +kernel)
set_option maxRecDepth 20000 in
theorem wl_3 : GoodIn lw_tbl wsL_law0_r3 := goodIn_r _ [204, 39, 40, 41, 42, 43, 86, 93, 95, 47, 48, 49, 108, 109, 110, 111, 113, 121, 139, 123, 143, 144, 145, 146] (by decide +kernel) (by decide +kernel)
set_option maxRecDepth 20000 in
theorem wl_4 : GoodIn lw_tbl wsL_law0_r4 := goodIn_r _ [147, 149, 150, 151, 153, 155, 182, 183, 184, 243, 244, 245, 246, 248, 536, 537, 9, 538, 543, 539, 540, 541, 542, 414] (by decide +kernel) (by decide +kernel)
set_option maxRecDepth 20000 in
theorem wl_5 : GoodIn lw_tbl wsL_law0_r5 := goodIn_r _ [415, 416, 417, 203, 418, 419, 420, 421, 205, 498, 499, 500, 501, 195, 94, 294, 295, 296, 284, 285, 286, 287, 288, 289] (by decide +kernel) (by decide +kernel)
set_option maxRecDepth 20000 in
theorem wl_6 : GoodIn lw_tbl wsL_law0_r6 := goodIn_r _ [290, 297, 291, 292, 293, 298, 299, 300, 301, 302, 303, 304, 305, 206, 208, 66, 306, 307, 308, 309, 90, 310, 311, 312] (by decide +kernel) (by decide +kernel)
set_option maxRecDepth 20000 in
theorem wl_7 : GoodIn lw_tbl wsL_law0_r7 := goodIn_r _ [313, 50, 53, 56, 60, 64, 69, 314, 316, 0, 317, 57, 61, 318, 319, 320, 321, 322, 323, 324, 325, 326, 58, 62] (by decide +kernel) (by decide +kernel)
set_option maxRecDepth 20000 in
theorem wl_8 : GoodIn lw_tbl wsL_law0_r8 := goodIn_r _ [328, 329, 331, 333, 1, 334, 91, 88, 54, 335, 336, 337, 338, 339, 341, 2, 342, 212, 210, 343, 213, 346, 347, 348] (by decide +kernel) (by decide +kernel)
set_option maxRecDepth 20000 in
theorem wl_9 : GoodIn lw_tbl wsL_law0_r9 := goodIn_r _ [349, 67, 350, 351, 352, 353, 51, 354, 356, 3, 357, 160, 152, 52, 154, 156, 119, 358, 359, 360, 361, 157, 159, 89] (by decide +kernel) (by decide +kernel)
set_option maxRecDepth 20000 in
theorem wl_10 : GoodIn lw_tbl wsL_law0_r10 := goodIn_r _ [87, 65, 362, 363, 364, 365, 366, 367, 369, 4, 370, 371, 372, 373, 374, 375, 376, 377, 378, 379, 381, 5, 382, 158] (by decide +kernel) (by decide +kernel)
set_option maxRecDepth 20000 in
theorem wl_11 : GoodIn lw_tbl wsL_law0_r11 := goodIn_r _ [148, 383, 384, 385, 386, 387, 388, 389, 390, 116, 114, 391, 117, 392, 393, 394, 395, 396, 398, 6, 399, 70, 400, 401] (by decide +kernel) (by decide +kernel)
set_option maxRecDepth 20000 in
theorem wl_12 : GoodIn lw_tbl wsL_law0_r12 := goodIn_r _ [402, 403, 404, 405, 406, 407, 408, 409, 410, 411, 412, 413, 422, 423, 424, 425, 430, 22, 55, 59, 63, 68, 71, 426] (by decide +kernel) (by decide +kernel)
set_option maxRecDepth 20000 in
theorem wl_13 : GoodIn lw_tbl wsL_law0_r13 := goodIn_r _ [427, 428, 429, 496, 502, 503, 504, 505, 199, 161, 506, 507, 508, 509, 510, 511, 512, 514, 8, 515, 516, 517, 518, 519] (by decide +kernel) (by decide +kernel)
set_option maxRecDepth 20000 in
theorem wl_14 : GoodIn lw_tbl wsL_law0_r14 := goodIn_r _ [197, 115, 520, 521, 522, 523, 524, 525, 18, 526, 544, 545, 546, 547, 532, 533, 534, 535, 92, 207, 118, 209, 247, 120] (by decide +kernel) (by decide +kernel)
set_option maxRecDepth 20000 in
theorem wl_15 : GoodIn lw_tbl wsL_law0_r15 := goodIn_r _ [211, 214, 527, 528, 529, 530, 122] (by decide +kernel) (by decide +kernel)
set_option maxRecDepth 20000 in
theorem wl_16 : GoodIn lw_tbl wsX70 := goodIn_r _ [277, 279, 281] (by decide +kernel) (by decide +kernel)
set_option maxRecDepth 20000 in
theorem wl_17 : GoodIn lw_tbl wsX20 := goodIn_r _ [215, 217, 219, 221, 223, 225, 227, 229, 231, 233, 235, 237] (by decide +kernel) (by decide +kernel)
set_option maxRecDepth 20000 in
theorem wl_18 : GoodIn lw_tbl wsX60 := goodIn_r _ [249, 251, 253, 255, 257, 259, 261, 263, 265, 267, 269, 271] (by decide +kernel) (by decide +kernel)
set_option maxRecDepth 20000 in
theorem wl_19 : GoodIn lw_tbl wsX00 := goodIn_r _ [96, 98, 100, 102] (by decide +kernel) (by decide +kernel)
set_option maxRecDepth 20000 in
theorem wl_20 : GoodIn lw_tbl wsX30 := goodIn_r _ [124, 126, 128, 130, 132, 134, 136] (by decide +kernel) (by decide +kernel)
set_option maxRecDepth 20000 in
theorem wl_21 : GoodIn lw_tbl wsX50 := goodIn_r _ [162, 164, 166, 168, 170, 172, 174, 176] (by decide +kernel) (by decide +kernel)
set_option maxRecDepth 20000 in
theorem wl_22 : GoodIn lw_tbl wsX10 := goodIn_r _ [185, 187, 189] (by decide +kernel) (by decide +kernel)
set_option maxRecDepth 20000 in
theorem wl_23 : GoodIn lw_tbl wsX40 := goodIn_r _ [72, 74, 76, 78, 80, 82] (by decide +kernel) (by decide +kernel)
theorem wl_24 : GoodIn lw_tbl ([] : List Cond) := fun _ h => absurd h List.not_mem_nil
theorem wsL_law_in0 : ∀ w ∈ wsL_law0, w ∈ lw_tbl := fun w h => (((goodIn_app (goodIn_app (goodIn_app (goodIn_app (goodIn_app (goodIn_app (goodIn_app (goodIn_app (goodIn_app (goodIn_app wl_1 (goodIn_app wl_2 (goodIn_app wl_3 (goodIn_app wl_4 (goodIn_app wl_5 (goodIn_app wl_6 (goodIn_app wl_7 (goodIn_app wl_8 (goodIn_app wl_9 (goodIn_app wl_10 (goodIn_app wl_11 (goodIn_app wl_12 (goodIn_app wl_13 (goodIn_app wl_14 wl_15)))))))))))))) wl_16) wl_17) wl_18) wl_19) wl_20) wl_21) wl_22) wl_23) wl_24) : GoodIn lw_tbl wsL_law0) w h).1
set_option maxRecDepth 20000 in
theorem xGw_in : GoodIn lw_tbl xGw := goodIn_r _ [19, 452, 461, 463, 466, 468, 453, 454, 29, 30, 455, 460, 464, 484, 442, 485, 444, 486, 446, 456, 458, 448, 480, 481, 483, 448, 471, 472, 473, 474, 474, 475, 476, 477, 477, 478, 479, 480, 470, 431, 439, 440, 441, 443, 445, 447, 451, 450, 449] (by decide +kernel) (by decide +kernel)
theorem wsM_law_in : ∀ w ∈ wsM_law, w ∈ lw_tbl := fun w h => (List.mem_append.mp h).elim (fun h => wsL_law_in0 w h) (fun h => (xGw_in w h).1)
theorem goodIn_l {a b ws : List Cond} (h : GoodIn a ws) : GoodIn (a ++ b) ws := fun w hw => ⟨List.mem_append_left _ (h w hw).1, (h w hw).2⟩
