/-! MACHINE: the law's calls: the words of the called (printed; long rows cut) -/
set_option maxRecDepth 20000 in
theorem ggL_law_X7_init_h : GoodIn wsL_law0 [Cond.code yX7_init cX7_init 1 none] := goodIn_r _ [9] (by decide +kernel) (by decide +kernel)
set_option maxRecDepth 20000 in
theorem ggL_law_X7_init_1 : GoodIn wsL_law0 wsX7_init_r1 := goodIn_r _ [10, 11, 12, 13, 14, 15, 16, 17, 18, 19, 20, 21, 22, 23, 24, 25, 26, 27, 28, 29, 30, 31, 32, 33] (by decide +kernel) (by decide +kernel)
set_option maxRecDepth 20000 in
theorem ggL_law_X7_init_2 : GoodIn wsL_law0 wsX7_init_r2 := goodIn_r _ [34, 35, 36, 37, 38, 39, 40, 41, 42, 43, 44, 45, 46, 47, 48, 49, 50, 51, 52, 53, 54, 55, 56, 57] (by decide +kernel) (by decide +kernel)
set_option maxRecDepth 20000 in
theorem ggL_law_X7_init_3 : GoodIn wsL_law0 wsX7_init_r3 := goodIn_r _ [58, 59, 60, 61, 62, 63, 64, 6, 65, 66, 67, 68, 69, 70, 71, 72, 73, 74, 75, 76, 77, 78, 79, 80] (by decide +kernel) (by decide +kernel)
set_option maxRecDepth 20000 in
theorem ggL_law_X7_init_4 : GoodIn wsL_law0 wsX7_init_r4 := goodIn_r _ [81, 82, 83] (by decide +kernel) (by decide +kernel)
set_option maxRecDepth 20000 in
theorem ggL_law_X7_init_5 : GoodIn wsL_law0 wsX20 := goodIn_r _ [1071, 1072, 1073, 1074, 1075, 1076, 1077, 1078, 1079, 1080, 1081, 1082] (by decide +kernel) (by decide +kernel)
set_option maxRecDepth 20000 in
theorem ggL_law_X7_init_6 : GoodIn wsL_law0 wsX70 := goodIn_r _ [1036, 1037, 1038] (by decide +kernel) (by decide +kernel)
set_option maxRecDepth 20000 in
theorem ggL_law_X7_init_7 : GoodIn wsL_law0 wsX60 := goodIn_r _ [1083, 1084, 1085, 1086, 1087, 1088, 1089, 1090, 1091, 1092, 1093, 1094] (by decide +kernel) (by decide +kernel)
set_option maxRecDepth 20000 in
theorem ggL_law_X7_init_8 : GoodIn wsL_law0 wsX00 := goodIn_r _ [1095, 1096, 1097, 1098] (by decide +kernel) (by decide +kernel)
set_option maxRecDepth 20000 in
theorem ggL_law_X7_init_9 : GoodIn wsL_law0 wsX30 := goodIn_r _ [1099, 1100, 1101, 1102, 1103, 1104, 1105] (by decide +kernel) (by decide +kernel)
set_option maxRecDepth 20000 in
theorem ggL_law_X7_init_10 : GoodIn wsL_law0 wsX50 := goodIn_r _ [1106, 1107, 1108, 1109, 1110, 1111, 1112, 1113] (by decide +kernel) (by decide +kernel)
set_option maxRecDepth 20000 in
theorem ggL_law_X7_init_11 : GoodIn wsL_law0 wsX10 := goodIn_r _ [1114, 1115, 1116] (by decide +kernel) (by decide +kernel)
set_option maxRecDepth 20000 in
theorem ggL_law_X7_init_12 : GoodIn wsL_law0 wsX40 := goodIn_r _ [1117, 1118, 1119, 1120, 1121, 1122] (by decide +kernel) (by decide +kernel)
theorem ggL_law_X7_init : GoodIn wsL_law0 wsX7_init := goodIn_app ggL_law_X7_init_h (goodIn_app (goodIn_app (goodIn_app (goodIn_app (goodIn_app (goodIn_app (goodIn_app (goodIn_app (goodIn_app ggL_law_X7_init_1 (goodIn_app ggL_law_X7_init_2 (goodIn_app ggL_law_X7_init_3 ggL_law_X7_init_4))) ggL_law_X7_init_5) ggL_law_X7_init_6) ggL_law_X7_init_7) ggL_law_X7_init_8) ggL_law_X7_init_9) ggL_law_X7_init_10) ggL_law_X7_init_11) ggL_law_X7_init_12)
set_option maxRecDepth 20000 in
theorem gL_law_X7_init : GoodIn wsL_law0 (wsX7_init) := ggL_law_X7_init
set_option maxRecDepth 20000 in
theorem ggL_law_X8_init : GoodIn wsL_law0 wsX8_init := goodIn_r _ [86, 87, 11, 12, 53, 88, 89, 6, 90, 91, 92, 93, 94, 95, 96, 97, 98, 99, 1039, 1040, 1041, 1042, 1043, 1044, 1045, 1046, 1047, 1048, 1049, 1050, 1051, 1052, 1053, 1054, 1055, 1056, 1057, 1058, 1059, 1060, 1061, 1062, 1063, 1064, 1065, 1066, 1067, 1068, 1069, 1070] (by decide +kernel) (by decide +kernel)
set_option maxRecDepth 20000 in
theorem gL_law_X8_init : GoodIn wsL_law0 (wsX8_init) := ggL_law_X8_init
set_option maxRecDepth 20000 in
theorem ggL_law_X7_feed : GoodIn wsL_law0 wsX7_feed := goodIn_r _ [103, 21, 104, 105, 106, 107, 20, 108, 109, 82, 1036, 1037, 1038, 1083, 1084, 1085, 1086, 1087, 1088, 1089, 1090, 1091, 1092, 1093, 1094] (by decide +kernel) (by decide +kernel)
set_option maxRecDepth 20000 in
theorem gL_law_X7_feed : GoodIn wsL_law0 (wsV RL 27 RX7 yX7_feed wsX7_feed) := goodIn_app (goodIn_r _ [100, 101, 102, 2] (by decide +kernel) (by decide +kernel)) ggL_law_X7_feed
set_option maxRecDepth 20000 in
theorem ggL_law_X8_feed : GoodIn wsL_law0 wsX8_feed := goodIn_r _ [113, 114, 115, 116, 117, 118, 5, 119, 98, 1039, 1040, 1041, 1042, 1043, 1044, 1045, 1046, 1047, 1048, 1049, 1050, 1051, 1052, 1053, 1054, 1055, 1056, 1057, 1058, 1059, 1060, 1061, 1062, 1063, 1064, 1065, 1066, 1067, 1068, 1069, 1070] (by decide +kernel) (by decide +kernel)
set_option maxRecDepth 20000 in
theorem gL_law_X8_feed : GoodIn wsL_law0 (wsV RL 31 RX8 yX8_feed wsX8_feed) := goodIn_app (goodIn_r _ [110, 111, 112, 5] (by decide +kernel) (by decide +kernel)) ggL_law_X8_feed
set_option maxRecDepth 20000 in
theorem ggL_law_X7_message_h : GoodIn wsL_law0 [Cond.code yX7_message cX7_message 4 (some .int)] := goodIn_r _ [123] (by decide +kernel) (by decide +kernel)
set_option maxRecDepth 20000 in
theorem ggL_law_X7_message_1 : GoodIn wsL_law0 wsX7_message_r1 := goodIn_r _ [21, 104, 124, 125, 126, 127, 128, 129, 130, 20, 131, 132, 133, 134, 135, 136, 137, 138, 139, 140, 141, 142, 143, 144] (by decide +kernel) (by decide +kernel)
set_option maxRecDepth 20000 in
theorem ggL_law_X7_message_2 : GoodIn wsL_law0 wsX7_message_r2 := goodIn_r _ [145, 146, 147, 148, 149, 82, 150, 151, 152, 153, 154, 155, 156, 157, 158, 159, 160, 161, 162, 163, 164, 165, 166, 167] (by decide +kernel) (by decide +kernel)
set_option maxRecDepth 20000 in
theorem ggL_law_X7_message_3 : GoodIn wsL_law0 wsX7_message_r3 := goodIn_r _ [168, 169, 170, 171, 172, 173, 174, 175, 176, 177, 178, 179, 180, 181, 182, 183, 184, 185, 186, 187, 188, 189, 190, 191] (by decide +kernel) (by decide +kernel)
set_option maxRecDepth 20000 in
theorem ggL_law_X7_message_4 : GoodIn wsL_law0 wsX7_message_r4 := goodIn_r _ [192, 193, 194, 195, 196, 197, 198, 199, 200, 201, 202, 203, 204, 205, 206, 207, 208, 209, 210, 211, 212, 213, 214, 215] (by decide +kernel) (by decide +kernel)
set_option maxRecDepth 20000 in
theorem ggL_law_X7_message_5 : GoodIn wsL_law0 wsX7_message_r5 := goodIn_r _ [216, 217, 218, 219, 220, 221, 222, 223, 224, 225, 226, 227, 228, 229, 230, 231, 232, 233, 234, 235, 236, 237, 83, 238] (by decide +kernel) (by decide +kernel)
set_option maxRecDepth 20000 in
theorem ggL_law_X7_message_6 : GoodIn wsL_law0 wsX7_message_r6 := goodIn_r _ [239, 240, 241, 242, 243, 244, 245, 246, 247, 248, 249, 2, 250, 16, 251, 252, 253, 254, 15, 255, 256, 28, 257, 44] (by decide +kernel) (by decide +kernel)
set_option maxRecDepth 20000 in
theorem ggL_law_X7_message_7 : GoodIn wsL_law0 wsX7_message_r7 := goodIn_r _ [258, 259, 260, 261, 27, 262, 263, 264, 265, 266, 43, 267, 268, 269, 270, 271, 272, 273, 274, 275, 276, 277, 278, 279] (by decide +kernel) (by decide +kernel)
set_option maxRecDepth 20000 in
theorem ggL_law_X7_message_8 : GoodIn wsL_law0 wsX7_message_r8 := goodIn_r _ [280, 281, 282, 283, 284, 285, 286, 287, 288, 52, 289, 290, 291, 292, 293, 294, 295, 296, 297, 298, 299, 300, 301, 302] (by decide +kernel) (by decide +kernel)
set_option maxRecDepth 20000 in
theorem ggL_law_X7_message_9 : GoodIn wsL_law0 wsX7_message_r9 := goodIn_r _ [303, 304, 305, 306, 307, 308, 309, 310, 311, 312, 313, 314, 315, 316, 317, 318, 319, 320, 54, 321, 55, 322, 323, 324] (by decide +kernel) (by decide +kernel)
set_option maxRecDepth 20000 in
theorem ggL_law_X7_message_10 : GoodIn wsL_law0 wsX7_message_r10 := goodIn_r _ [325, 36, 326, 46, 327, 328, 329, 330, 32, 331, 332, 333, 334, 35, 335, 336, 337, 338, 339, 340, 341, 342, 343, 344] (by decide +kernel) (by decide +kernel)
set_option maxRecDepth 20000 in
theorem ggL_law_X7_message_11 : GoodIn wsL_law0 wsX7_message_r11 := goodIn_r _ [345, 346, 347, 348, 349, 70, 71, 72, 350, 351, 352, 353, 73, 354, 74, 75, 355, 356, 357, 358, 359, 360, 361, 362] (by decide +kernel) (by decide +kernel)
set_option maxRecDepth 20000 in
theorem ggL_law_X7_message_12 : GoodIn wsL_law0 wsX7_message_r12 := goodIn_r _ [363, 364, 365, 366, 367, 368, 369, 370, 31, 371, 63, 372, 373, 374, 375, 376, 377, 378, 379, 64, 65, 380, 381, 382] (by decide +kernel) (by decide +kernel)
set_option maxRecDepth 20000 in
theorem ggL_law_X7_message_13 : GoodIn wsL_law0 wsX7_message_r13 := goodIn_r _ [383, 384, 45, 385, 386, 387, 388, 389, 390, 391, 392, 393, 394, 395, 396, 397, 398, 399, 400, 401, 402, 403, 404, 405] (by decide +kernel) (by decide +kernel)
set_option maxRecDepth 20000 in
theorem ggL_law_X7_message_14 : GoodIn wsL_law0 wsX7_message_r14 := goodIn_r _ [406, 407, 408, 409, 410, 411, 412, 413, 414, 415, 416, 417, 418, 419, 420, 421, 422, 423, 424, 425, 426, 427, 428, 429] (by decide +kernel) (by decide +kernel)
set_option maxRecDepth 20000 in
theorem ggL_law_X7_message_15 : GoodIn wsL_law0 wsX7_message_r15 := goodIn_r _ [430, 431, 432, 433, 434, 435, 436, 437, 438, 439, 440, 441, 40, 442, 443, 444, 445, 446, 39, 447, 448, 449, 450, 451] (by decide +kernel) (by decide +kernel)
set_option maxRecDepth 20000 in
theorem ggL_law_X7_message_16 : GoodIn wsL_law0 wsX7_message_r16 := goodIn_r _ [452, 453, 454, 455, 456, 457, 458, 459, 460, 461, 462, 463, 464, 465, 466, 467, 468, 469, 470, 471, 472, 473, 474, 475] (by decide +kernel) (by decide +kernel)
set_option maxRecDepth 20000 in
theorem ggL_law_X7_message_17 : GoodIn wsL_law0 wsX70 := goodIn_r _ [1036, 1037, 1038] (by decide +kernel) (by decide +kernel)
set_option maxRecDepth 20000 in
theorem ggL_law_X7_message_18 : GoodIn wsL_law0 wsX60 := goodIn_r _ [1083, 1084, 1085, 1086, 1087, 1088, 1089, 1090, 1091, 1092, 1093, 1094] (by decide +kernel) (by decide +kernel)
set_option maxRecDepth 20000 in
theorem ggL_law_X7_message_19 : GoodIn wsL_law0 wsX20 := goodIn_r _ [1071, 1072, 1073, 1074, 1075, 1076, 1077, 1078, 1079, 1080, 1081, 1082] (by decide +kernel) (by decide +kernel)
set_option maxRecDepth 20000 in
theorem ggL_law_X7_message_20 : GoodIn wsL_law0 wsX40 := goodIn_r _ [1117, 1118, 1119, 1120, 1121, 1122] (by decide +kernel) (by decide +kernel)
set_option maxRecDepth 20000 in
theorem ggL_law_X7_message_21 : GoodIn wsL_law0 wsX00 := goodIn_r _ [1095, 1096, 1097, 1098] (by decide +kernel) (by decide +kernel)
set_option maxRecDepth 20000 in
theorem ggL_law_X7_message_22 : GoodIn wsL_law0 wsX50 := goodIn_r _ [1106, 1107, 1108, 1109, 1110, 1111, 1112, 1113] (by decide +kernel) (by decide +kernel)
set_option maxRecDepth 20000 in
theorem ggL_law_X7_message_23 : GoodIn wsL_law0 wsX30 := goodIn_r _ [1099, 1100, 1101, 1102, 1103, 1104, 1105] (by decide +kernel) (by decide +kernel)
set_option maxRecDepth 20000 in
theorem ggL_law_X7_message_24 : GoodIn wsL_law0 wsX10 := goodIn_r _ [1114, 1115, 1116] (by decide +kernel) (by decide +kernel)
theorem ggL_law_X7_message : GoodIn wsL_law0 wsX7_message := goodIn_app ggL_law_X7_message_h (goodIn_app (goodIn_app (goodIn_app (goodIn_app (goodIn_app (goodIn_app (goodIn_app (goodIn_app (goodIn_app ggL_law_X7_message_1 (goodIn_app ggL_law_X7_message_2 (goodIn_app ggL_law_X7_message_3 (goodIn_app ggL_law_X7_message_4 (goodIn_app ggL_law_X7_message_5 (goodIn_app ggL_law_X7_message_6 (goodIn_app ggL_law_X7_message_7 (goodIn_app ggL_law_X7_message_8 (goodIn_app ggL_law_X7_message_9 (goodIn_app ggL_law_X7_message_10 (goodIn_app ggL_law_X7_message_11 (goodIn_app ggL_law_X7_message_12 (goodIn_app ggL_law_X7_message_13 (goodIn_app ggL_law_X7_message_14 (goodIn_app ggL_law_X7_message_15 ggL_law_X7_message_16))))))))))))))) ggL_law_X7_message_17) ggL_law_X7_message_18) ggL_law_X7_message_19) ggL_law_X7_message_20) ggL_law_X7_message_21) ggL_law_X7_message_22) ggL_law_X7_message_23) ggL_law_X7_message_24)
set_option maxRecDepth 20000 in
theorem gL_law_X7_message : GoodIn wsL_law0 (wsV RL 32 RX7 yX7_message wsX7_message) := goodIn_app (goodIn_r _ [120, 121, 122, 2] (by decide +kernel) (by decide +kernel)) ggL_law_X7_message
set_option maxRecDepth 20000 in
theorem ggL_law_X8_message_h : GoodIn wsL_law0 [Cond.code yX8_message cX8_message 5 (some .int)] := goodIn_r _ [479] (by decide +kernel) (by decide +kernel)
set_option maxRecDepth 20000 in
theorem ggL_law_X8_message_1 : GoodIn wsL_law0 wsX8_message_r1 := goodIn_r _ [114, 115, 480, 481, 482, 483, 484, 485, 486, 487, 5, 488, 489, 490, 491, 492, 493, 494, 495, 496, 497, 498, 499, 500] (by decide +kernel) (by decide +kernel)
set_option maxRecDepth 20000 in
theorem ggL_law_X8_message_2 : GoodIn wsL_law0 wsX8_message_r2 := goodIn_r _ [501, 502, 98, 503, 504, 505, 506, 99, 507, 508, 509, 510, 511, 512, 513, 514, 515, 516, 517, 518, 519, 520, 521, 522] (by decide +kernel) (by decide +kernel)
set_option maxRecDepth 20000 in
theorem ggL_law_X8_message_3 : GoodIn wsL_law0 wsX8_message_r3 := goodIn_r _ [523, 524, 525, 526, 527, 528, 529, 530, 531, 532, 533, 534, 535, 536, 537, 538, 539, 540, 88, 541, 542, 543, 544, 545] (by decide +kernel) (by decide +kernel)
set_option maxRecDepth 20000 in
theorem ggL_law_X8_message_4 : GoodIn wsL_law0 wsX8_message_r4 := goodIn_r _ [546, 547, 548, 549, 550, 551, 552, 553, 554, 555, 556, 557, 558, 559, 560, 561, 562, 563, 564, 565, 566, 567, 568, 569] (by decide +kernel) (by decide +kernel)
set_option maxRecDepth 20000 in
theorem ggL_law_X8_message_5 : GoodIn wsL_law0 wsX8_message_r5 := goodIn_r _ [570, 571, 572, 573, 574, 575, 576, 577, 578, 579, 580, 581, 582, 583, 584, 585, 586, 587, 588, 589, 590, 591, 592, 593] (by decide +kernel) (by decide +kernel)
set_option maxRecDepth 20000 in
theorem ggL_law_X8_message_6 : GoodIn wsL_law0 wsX8_message_r6 := goodIn_r _ [594, 595, 596, 597, 598, 599, 600, 601, 602, 603, 604, 605, 606, 607, 94, 95, 96, 608, 609, 610, 611, 92, 93, 612] (by decide +kernel) (by decide +kernel)
set_option maxRecDepth 20000 in
theorem ggL_law_X8_message_7 : GoodIn wsL_law0 wsX8_message_r7 := goodIn_r _ [613, 614, 615, 616, 617, 618, 619, 620, 621, 622, 623, 624, 625, 626, 627, 628, 629, 630, 631, 90, 632, 633, 634, 635] (by decide +kernel) (by decide +kernel)
set_option maxRecDepth 20000 in
theorem ggL_law_X8_message_8 : GoodIn wsL_law0 wsX8_message_r8 := goodIn_r _ [636, 637, 638, 639, 640, 641, 642, 643, 644, 645, 646, 647, 648, 649, 650, 651, 652, 653, 654, 655, 656, 657, 658, 659] (by decide +kernel) (by decide +kernel)
set_option maxRecDepth 20000 in
theorem ggL_law_X8_message_9 : GoodIn wsL_law0 wsX8_message_r9 := goodIn_r _ [660, 661, 662, 663, 664, 665, 666, 667, 668, 669, 670, 671, 672, 673, 674, 675, 676, 677, 678, 679, 680, 681, 682, 683] (by decide +kernel) (by decide +kernel)
set_option maxRecDepth 20000 in
theorem ggL_law_X8_message_10 : GoodIn wsL_law0 wsX8_message_r10 := goodIn_r _ [684, 685, 686, 687, 688, 689, 690, 691, 692, 693, 694, 695, 696, 697, 698] (by decide +kernel) (by decide +kernel)
set_option maxRecDepth 20000 in
theorem ggL_law_X8_message_11 : GoodIn wsL_law0 wsX80 := goodIn_r _ [1039, 1040, 1041, 1042, 1043, 1044, 1045, 1046, 1047, 1048, 1049, 1050, 1051, 1052, 1053, 1054, 1055, 1056, 1057, 1058, 1059, 1060, 1061, 1062, 1063, 1064, 1065, 1066, 1067, 1068, 1069, 1070] (by decide +kernel) (by decide +kernel)
theorem ggL_law_X8_message : GoodIn wsL_law0 wsX8_message := goodIn_app ggL_law_X8_message_h (goodIn_app (goodIn_app ggL_law_X8_message_1 (goodIn_app ggL_law_X8_message_2 (goodIn_app ggL_law_X8_message_3 (goodIn_app ggL_law_X8_message_4 (goodIn_app ggL_law_X8_message_5 (goodIn_app ggL_law_X8_message_6 (goodIn_app ggL_law_X8_message_7 (goodIn_app ggL_law_X8_message_8 (goodIn_app ggL_law_X8_message_9 ggL_law_X8_message_10))))))))) ggL_law_X8_message_11)
