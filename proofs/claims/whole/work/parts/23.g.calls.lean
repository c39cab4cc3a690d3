/-! MACHINE: the law's calls: the words of the called (printed; long rows cut) -/
set_option maxRecDepth 20000 in
theorem gL_law_X8_message : GoodIn wsL_law0 (wsV RL 35 RX8 yX8_message wsX8_message) := goodIn_app (goodIn_r _ [476, 477, 478, 5] (by decide +kernel) (by decide +kernel)) ggL_law_X8_message
set_option maxRecDepth 20000 in
theorem ggL_law_X7_order_h : GoodIn wsL_law0 [Cond.code yX7_order cX7_order 6 (some .int)] := goodIn_r _ [702] (by decide +kernel) (by decide +kernel)
set_option maxRecDepth 20000 in
theorem ggL_law_X7_order_1 : GoodIn wsL_law0 wsX7_order_r1 := goodIn_r _ [16, 703, 704, 2, 705, 706, 707, 708, 709, 710, 711, 712, 713, 714, 715, 716, 252, 253, 254, 15, 255, 256, 28, 257] (by decide +kernel) (by decide +kernel)
set_option maxRecDepth 20000 in
theorem ggL_law_X7_order_2 : GoodIn wsL_law0 wsX7_order_r2 := goodIn_r _ [44, 258, 259, 260, 261, 27, 262, 263, 264, 265, 266, 43, 267, 268, 269, 270, 271, 272, 273, 274, 275, 276, 277, 278] (by decide +kernel) (by decide +kernel)
set_option maxRecDepth 20000 in
theorem ggL_law_X7_order_3 : GoodIn wsL_law0 wsX7_order_r3 := goodIn_r _ [279, 280, 281, 282, 283, 284, 285, 286, 287, 288, 52, 289, 290, 291, 292, 293, 294, 295, 296, 297, 298, 299, 300, 301] (by decide +kernel) (by decide +kernel)
set_option maxRecDepth 20000 in
theorem ggL_law_X7_order_4 : GoodIn wsL_law0 wsX7_order_r4 := goodIn_r _ [302, 303, 304, 305, 306, 307, 308, 309, 310, 133, 134, 135, 311, 312, 313, 314, 315, 316, 317, 318, 319, 320, 54, 321] (by decide +kernel) (by decide +kernel)
set_option maxRecDepth 20000 in
theorem ggL_law_X7_order_5 : GoodIn wsL_law0 wsX7_order_r5 := goodIn_r _ [55, 322, 323, 324, 325, 36, 326, 46, 327, 328, 329, 330, 32, 331, 332, 333, 334, 35, 335, 336, 337, 338, 339, 340] (by decide +kernel) (by decide +kernel)
set_option maxRecDepth 20000 in
theorem ggL_law_X7_order_6 : GoodIn wsL_law0 wsX7_order_r6 := goodIn_r _ [341, 342, 343, 344, 345, 346, 347, 348, 349, 70, 71, 72, 350, 351, 352, 353, 73, 354, 74, 75, 355, 356, 357, 358] (by decide +kernel) (by decide +kernel)
set_option maxRecDepth 20000 in
theorem ggL_law_X7_order_7 : GoodIn wsL_law0 wsX7_order_r7 := goodIn_r _ [359, 360, 361, 362, 363, 364, 365, 366, 367, 368, 369, 370, 31, 371, 63, 372, 373, 374, 375, 376, 377, 378, 379, 64] (by decide +kernel) (by decide +kernel)
set_option maxRecDepth 20000 in
theorem ggL_law_X7_order_8 : GoodIn wsL_law0 wsX7_order_r8 := goodIn_r _ [65, 380, 381, 382, 383, 384, 45, 385, 386, 387, 388, 389, 390, 391, 392, 393, 394, 395, 396, 397, 398] (by decide +kernel) (by decide +kernel)
set_option maxRecDepth 20000 in
theorem ggL_law_X7_order_9 : GoodIn wsL_law0 wsX70 := goodIn_r _ [1036, 1037, 1038] (by decide +kernel) (by decide +kernel)
set_option maxRecDepth 20000 in
theorem ggL_law_X7_order_10 : GoodIn wsL_law0 wsX20 := goodIn_r _ [1071, 1072, 1073, 1074, 1075, 1076, 1077, 1078, 1079, 1080, 1081, 1082] (by decide +kernel) (by decide +kernel)
set_option maxRecDepth 20000 in
theorem ggL_law_X7_order_11 : GoodIn wsL_law0 wsX40 := goodIn_r _ [1117, 1118, 1119, 1120, 1121, 1122] (by decide +kernel) (by decide +kernel)
set_option maxRecDepth 20000 in
theorem ggL_law_X7_order_12 : GoodIn wsL_law0 wsX00 := goodIn_r _ [1095, 1096, 1097, 1098] (by decide +kernel) (by decide +kernel)
set_option maxRecDepth 20000 in
theorem ggL_law_X7_order_13 : GoodIn wsL_law0 wsX50 := goodIn_r _ [1106, 1107, 1108, 1109, 1110, 1111, 1112, 1113] (by decide +kernel) (by decide +kernel)
set_option maxRecDepth 20000 in
theorem ggL_law_X7_order_14 : GoodIn wsL_law0 wsX30 := goodIn_r _ [1099, 1100, 1101, 1102, 1103, 1104, 1105] (by decide +kernel) (by decide +kernel)
theorem ggL_law_X7_order : GoodIn wsL_law0 wsX7_order := goodIn_app ggL_law_X7_order_h (goodIn_app (goodIn_app (goodIn_app (goodIn_app (goodIn_app (goodIn_app (goodIn_app ggL_law_X7_order_1 (goodIn_app ggL_law_X7_order_2 (goodIn_app ggL_law_X7_order_3 (goodIn_app ggL_law_X7_order_4 (goodIn_app ggL_law_X7_order_5 (goodIn_app ggL_law_X7_order_6 (goodIn_app ggL_law_X7_order_7 ggL_law_X7_order_8))))))) ggL_law_X7_order_9) ggL_law_X7_order_10) ggL_law_X7_order_11) ggL_law_X7_order_12) ggL_law_X7_order_13) ggL_law_X7_order_14)
set_option maxRecDepth 20000 in
theorem gL_law_X7_order : GoodIn wsL_law0 (wsV RL 36 RX7 yX7_order wsX7_order) := goodIn_app (goodIn_r _ [699, 700, 701, 2] (by decide +kernel) (by decide +kernel)) ggL_law_X7_order
set_option maxRecDepth 20000 in
theorem ggL_law_X8_order_h : GoodIn wsL_law0 [Cond.code yX8_order cX8_order 6 (some .int)] := goodIn_r _ [720] (by decide +kernel) (by decide +kernel)
set_option maxRecDepth 20000 in
theorem ggL_law_X8_order_1 : GoodIn wsL_law0 wsX8_order_r1 := goodIn_r _ [114, 721, 722, 5, 723, 724, 524, 725, 726, 486, 487, 488, 529, 530, 531, 532, 537, 538, 539, 540, 88, 541, 542, 543] (by decide +kernel) (by decide +kernel)
set_option maxRecDepth 20000 in
theorem ggL_law_X8_order_2 : GoodIn wsL_law0 wsX8_order_r2 := goodIn_r _ [544, 545, 546, 547, 548, 549, 550, 551, 552, 553, 554, 555, 556, 557, 558, 559, 560, 561, 562, 563, 564, 565, 566, 567] (by decide +kernel) (by decide +kernel)
set_option maxRecDepth 20000 in
theorem ggL_law_X8_order_3 : GoodIn wsL_law0 wsX8_order_r3 := goodIn_r _ [568, 569, 570, 571, 572, 573, 574, 575, 576, 577, 578, 579, 580, 581, 582, 583, 584, 585, 586, 587, 588, 589, 590, 591] (by decide +kernel) (by decide +kernel)
set_option maxRecDepth 20000 in
theorem ggL_law_X8_order_4 : GoodIn wsL_law0 wsX8_order_r4 := goodIn_r _ [592, 593, 594, 595, 596, 597, 598, 599, 600, 601, 602, 603, 604, 605, 606, 607, 94, 95, 96, 608, 609, 610, 611, 92] (by decide +kernel) (by decide +kernel)
set_option maxRecDepth 20000 in
theorem ggL_law_X8_order_5 : GoodIn wsL_law0 wsX8_order_r5 := goodIn_r _ [93, 612, 613, 614, 615, 616, 617, 618, 619, 620, 621, 622, 623, 624, 625, 626, 627, 628, 629, 630, 631, 90, 632, 633] (by decide +kernel) (by decide +kernel)
set_option maxRecDepth 20000 in
theorem ggL_law_X8_order_6 : GoodIn wsL_law0 wsX8_order_r6 := goodIn_r _ [634, 635, 636, 637, 638, 639, 640, 641, 642, 643, 644] (by decide +kernel) (by decide +kernel)
set_option maxRecDepth 20000 in
theorem ggL_law_X8_order_7 : GoodIn wsL_law0 wsX80 := goodIn_r _ [1039, 1040, 1041, 1042, 1043, 1044, 1045, 1046, 1047, 1048, 1049, 1050, 1051, 1052, 1053, 1054, 1055, 1056, 1057, 1058, 1059, 1060, 1061, 1062, 1063, 1064, 1065, 1066, 1067, 1068, 1069, 1070] (by decide +kernel) (by decide +kernel)
theorem ggL_law_X8_order : GoodIn wsL_law0 wsX8_order := goodIn_app ggL_law_X8_order_h (goodIn_app (goodIn_app ggL_law_X8_order_1 (goodIn_app ggL_law_X8_order_2 (goodIn_app ggL_law_X8_order_3 (goodIn_app ggL_law_X8_order_4 (goodIn_app ggL_law_X8_order_5 ggL_law_X8_order_6))))) ggL_law_X8_order_7)
set_option maxRecDepth 20000 in
theorem gL_law_X8_order : GoodIn wsL_law0 (wsV RL 39 RX8 yX8_order wsX8_order) := goodIn_app (goodIn_r _ [717, 718, 719, 5] (by decide +kernel) (by decide +kernel)) ggL_law_X8_order
set_option maxRecDepth 20000 in
theorem ggL_law_X7_off : GoodIn wsL_law0 wsX7_off := goodIn_r _ [402, 16, 403, 404, 405, 406, 407, 27, 408, 263, 52, 321, 409, 313, 314, 315, 316, 317, 318, 319, 320, 54, 289, 55, 1036, 1037, 1038, 1071, 1072, 1073, 1074, 1075, 1076, 1077, 1078, 1079, 1080, 1081, 1082, 1117, 1118, 1119, 1120, 1121, 1122, 1095, 1096, 1097, 1098] (by decide +kernel) (by decide +kernel)
set_option maxRecDepth 20000 in
theorem gL_law_X7_off : GoodIn wsL_law0 (wsV RL 40 RX7 yX7_off wsX7_off) := goodIn_app (goodIn_r _ [727, 400, 401, 2] (by decide +kernel) (by decide +kernel)) ggL_law_X7_off
set_option maxRecDepth 20000 in
theorem ggL_law_X8_off : GoodIn wsL_law0 wsX8_off := goodIn_r _ [731, 114, 645, 646, 647, 5, 648, 649, 650, 651, 652, 88, 564, 565, 566, 567, 583, 584, 585, 586, 587, 588, 589, 590, 1039, 1040, 1041, 1042, 1043, 1044, 1045, 1046, 1047, 1048, 1049, 1050, 1051, 1052, 1053, 1054, 1055, 1056, 1057, 1058, 1059, 1060, 1061, 1062, 1063, 1064, 1065, 1066, 1067, 1068, 1069, 1070] (by decide +kernel) (by decide +kernel)
set_option maxRecDepth 20000 in
theorem gL_law_X8_off : GoodIn wsL_law0 (wsV RL 43 RX8 yX8_off wsX8_off) := goodIn_app (goodIn_r _ [728, 729, 730, 5] (by decide +kernel) (by decide +kernel)) ggL_law_X8_off
set_option maxRecDepth 20000 in
theorem ggL_law_X7_cut : GoodIn wsL_law0 wsX7_cut := goodIn_r _ [413, 16, 403, 404, 405, 406, 407, 27, 408, 263, 52, 321, 414, 318, 319, 320, 54, 289, 55, 1036, 1037, 1038, 1071, 1072, 1073, 1074, 1075, 1076, 1077, 1078, 1079, 1080, 1081, 1082, 1117, 1118, 1119, 1120, 1121, 1122, 1095, 1096, 1097, 1098] (by decide +kernel) (by decide +kernel)
set_option maxRecDepth 20000 in
theorem gL_law_X7_cut : GoodIn wsL_law0 (wsV RL 44 RX7 yX7_cut wsX7_cut) := goodIn_app (goodIn_r _ [732, 411, 412, 2] (by decide +kernel) (by decide +kernel)) ggL_law_X7_cut
set_option maxRecDepth 20000 in
theorem ggL_law_X8_cut : GoodIn wsL_law0 wsX8_cut := goodIn_r _ [736, 114, 653, 654, 655, 5, 656, 88, 649, 650, 651, 652, 564, 565, 566, 567, 595, 596, 597, 598, 587, 588, 589, 590, 1039, 1040, 1041, 1042, 1043, 1044, 1045, 1046, 1047, 1048, 1049, 1050, 1051, 1052, 1053, 1054, 1055, 1056, 1057, 1058, 1059, 1060, 1061, 1062, 1063, 1064, 1065, 1066, 1067, 1068, 1069, 1070] (by decide +kernel) (by decide +kernel)
set_option maxRecDepth 20000 in
theorem gL_law_X8_cut : GoodIn wsL_law0 (wsV RL 47 RX8 yX8_cut wsX8_cut) := goodIn_app (goodIn_r _ [733, 734, 735, 5] (by decide +kernel) (by decide +kernel)) ggL_law_X8_cut
set_option maxRecDepth 20000 in
theorem ggL_law_X7_grant : GoodIn wsL_law0 wsX7_grant := goodIn_r _ [418, 16, 419, 1036, 1037, 1038, 1071, 1072, 1073, 1074, 1075, 1076, 1077, 1078, 1079, 1080, 1081, 1082] (by decide +kernel) (by decide +kernel)
set_option maxRecDepth 20000 in
theorem gL_law_X7_grant : GoodIn wsL_law0 (wsV RL 48 RX7 yX7_grant wsX7_grant) := goodIn_app (goodIn_r _ [737, 416, 417, 2] (by decide +kernel) (by decide +kernel)) ggL_law_X7_grant
set_option maxRecDepth 20000 in
theorem ggL_law_X8_grant : GoodIn wsL_law0 wsX8_grant := goodIn_r _ [741, 114, 657, 658, 659, 5, 660, 88, 486, 487, 488, 1039, 1040, 1041, 1042, 1043, 1044, 1045, 1046, 1047, 1048, 1049, 1050, 1051, 1052, 1053, 1054, 1055, 1056, 1057, 1058, 1059, 1060, 1061, 1062, 1063, 1064, 1065, 1066, 1067, 1068, 1069, 1070] (by decide +kernel) (by decide +kernel)
set_option maxRecDepth 20000 in
theorem gL_law_X8_grant : GoodIn wsL_law0 (wsV RL 51 RX8 yX8_grant wsX8_grant) := goodIn_app (goodIn_r _ [738, 739, 740, 5] (by decide +kernel) (by decide +kernel)) ggL_law_X8_grant
set_option maxRecDepth 20000 in
theorem ggL_law_X7_least : GoodIn wsL_law0 wsX7_least := goodIn_r _ [423, 16, 424, 1036, 1037, 1038, 1071, 1072, 1073, 1074, 1075, 1076, 1077, 1078, 1079, 1080, 1081, 1082] (by decide +kernel) (by decide +kernel)
set_option maxRecDepth 20000 in
theorem gL_law_X7_least : GoodIn wsL_law0 (wsV RL 52 RX7 yX7_least wsX7_least) := goodIn_app (goodIn_r _ [742, 421, 422, 2] (by decide +kernel) (by decide +kernel)) ggL_law_X7_least
set_option maxRecDepth 20000 in
theorem ggL_law_X8_least : GoodIn wsL_law0 wsX8_least := goodIn_r _ [746, 114, 657, 658, 659, 5, 660, 88, 486, 487, 488, 1039, 1040, 1041, 1042, 1043, 1044, 1045, 1046, 1047, 1048, 1049, 1050, 1051, 1052, 1053, 1054, 1055, 1056, 1057, 1058, 1059, 1060, 1061, 1062, 1063, 1064, 1065, 1066, 1067, 1068, 1069, 1070] (by decide +kernel) (by decide +kernel)
set_option maxRecDepth 20000 in
theorem gL_law_X8_least : GoodIn wsL_law0 (wsV RL 55 RX8 yX8_least wsX8_least) := goodIn_app (goodIn_r _ [743, 744, 745, 5] (by decide +kernel) (by decide +kernel)) ggL_law_X8_least
set_option maxRecDepth 20000 in
theorem ggL_law_X7_call : GoodIn wsL_law0 wsX7_call := goodIn_r _ [428, 16, 429, 403, 430, 431, 432, 27, 433, 54, 55, 1036, 1037, 1038, 1071, 1072, 1073, 1074, 1075, 1076, 1077, 1078, 1079, 1080, 1081, 1082, 1095, 1096, 1097, 1098] (by decide +kernel) (by decide +kernel)
set_option maxRecDepth 20000 in
theorem gL_law_X7_call : GoodIn wsL_law0 (wsV RL 56 RX7 yX7_call wsX7_call) := goodIn_app (goodIn_r _ [747, 426, 427, 2] (by decide +kernel) (by decide +kernel)) ggL_law_X7_call
set_option maxRecDepth 20000 in
theorem ggL_law_X8_call : GoodIn wsL_law0 wsX8_call := goodIn_r _ [751, 114, 661, 662, 663, 5, 664, 88, 587, 588, 589, 590, 1039, 1040, 1041, 1042, 1043, 1044, 1045, 1046, 1047, 1048, 1049, 1050, 1051, 1052, 1053, 1054, 1055, 1056, 1057, 1058, 1059, 1060, 1061, 1062, 1063, 1064, 1065, 1066, 1067, 1068, 1069, 1070] (by decide +kernel) (by decide +kernel)
set_option maxRecDepth 20000 in
theorem gL_law_X8_call : GoodIn wsL_law0 (wsV RL 60 RX8 yX8_call wsX8_call) := goodIn_app (goodIn_r _ [748, 749, 750, 5] (by decide +kernel) (by decide +kernel)) ggL_law_X8_call
set_option maxRecDepth 20000 in
theorem ggL_law_X7_open_h : GoodIn wsL_law0 [Cond.code yX7_open cX7_open 1 (some .int)] := goodIn_r _ [437] (by decide +kernel) (by decide +kernel)
set_option maxRecDepth 20000 in
theorem ggL_law_X7_open_1 : GoodIn wsL_law0 wsX7_open_r1 := goodIn_r _ [16, 429, 438, 439, 440, 15, 441, 256, 40, 28, 32, 442, 443, 331, 444, 445, 446, 39, 447, 448, 449, 450, 451, 452] (by decide +kernel) (by decide +kernel)
set_option maxRecDepth 20000 in
theorem ggL_law_X7_open_2 : GoodIn wsL_law0 wsX7_open_r2 := goodIn_r _ [453, 454, 455, 456, 457, 458, 459, 460, 461, 133, 134, 135, 462, 463, 464, 465, 466, 467, 468, 469, 470, 471, 472, 36] (by decide +kernel) (by decide +kernel)
set_option maxRecDepth 20000 in
theorem ggL_law_X7_open_3 : GoodIn wsL_law0 wsX7_open_r3 := goodIn_r _ [326, 473, 474, 46, 329, 330, 310, 280, 281, 282, 27, 283, 284, 285, 286, 287, 288, 263, 52, 289, 290, 291, 2, 292] (by decide +kernel) (by decide +kernel)
set_option maxRecDepth 20000 in
theorem ggL_law_X7_open_4 : GoodIn wsL_law0 wsX7_open_r4 := goodIn_r _ [332, 333, 334, 35, 335, 336, 337, 338, 339, 340, 341, 301, 302, 303, 342, 343, 344, 345, 54, 321, 55, 346, 347, 348] (by decide +kernel) (by decide +kernel)
set_option maxRecDepth 20000 in
theorem ggL_law_X7_open_5 : GoodIn wsL_law0 wsX7_open_r5 := goodIn_r _ [349, 70, 71, 72, 358, 359, 360, 361, 362, 363, 258, 328, 299, 278, 364, 365, 366, 367, 368, 369, 370, 31, 371, 63] (by decide +kernel) (by decide +kernel)
set_option maxRecDepth 20000 in
theorem ggL_law_X7_open_6 : GoodIn wsL_law0 wsX7_open_r6 := goodIn_r _ [372, 373, 374, 375, 376, 377, 378, 379, 64, 65, 350, 351, 352, 353, 73, 354, 74, 75, 355, 356, 357, 475, 312, 313] (by decide +kernel) (by decide +kernel)
set_option maxRecDepth 20000 in
theorem ggL_law_X7_open_7 : GoodIn wsL_law0 wsX7_open_r7 := goodIn_r _ [314, 315, 316, 317, 318, 319, 320] (by decide +kernel) (by decide +kernel)
set_option maxRecDepth 20000 in
theorem ggL_law_X7_open_8 : GoodIn wsL_law0 wsX70 := goodIn_r _ [1036, 1037, 1038] (by decide +kernel) (by decide +kernel)
set_option maxRecDepth 20000 in
theorem ggL_law_X7_open_9 : GoodIn wsL_law0 wsX20 := goodIn_r _ [1071, 1072, 1073, 1074, 1075, 1076, 1077, 1078, 1079, 1080, 1081, 1082] (by decide +kernel) (by decide +kernel)
set_option maxRecDepth 20000 in
theorem ggL_law_X7_open_10 : GoodIn wsL_law0 wsX30 := goodIn_r _ [1099, 1100, 1101, 1102, 1103, 1104, 1105] (by decide +kernel) (by decide +kernel)
set_option maxRecDepth 20000 in
theorem ggL_law_X7_open_11 : GoodIn wsL_law0 wsX10 := goodIn_r _ [1114, 1115, 1116] (by decide +kernel) (by decide +kernel)
set_option maxRecDepth 20000 in
theorem ggL_law_X7_open_12 : GoodIn wsL_law0 wsX00 := goodIn_r _ [1095, 1096, 1097, 1098] (by decide +kernel) (by decide +kernel)
set_option maxRecDepth 20000 in
theorem ggL_law_X7_open_13 : GoodIn wsL_law0 wsX40 := goodIn_r _ [1117, 1118, 1119, 1120, 1121, 1122] (by decide +kernel) (by decide +kernel)
set_option maxRecDepth 20000 in
theorem ggL_law_X7_open_14 : GoodIn wsL_law0 wsX50 := goodIn_r _ [1106, 1107, 1108, 1109, 1110, 1111, 1112, 1113] (by decide +kernel) (by decide +kernel)
theorem ggL_law_X7_open : GoodIn wsL_law0 wsX7_open := goodIn_app ggL_law_X7_open_h (goodIn_app (goodIn_app (goodIn_app (goodIn_app (goodIn_app (goodIn_app (goodIn_app (goodIn_app ggL_law_X7_open_1 (goodIn_app ggL_law_X7_open_2 (goodIn_app ggL_law_X7_open_3 (goodIn_app ggL_law_X7_open_4 (goodIn_app ggL_law_X7_open_5 (goodIn_app ggL_law_X7_open_6 ggL_law_X7_open_7)))))) ggL_law_X7_open_8) ggL_law_X7_open_9) ggL_law_X7_open_10) ggL_law_X7_open_11) ggL_law_X7_open_12) ggL_law_X7_open_13) ggL_law_X7_open_14)
