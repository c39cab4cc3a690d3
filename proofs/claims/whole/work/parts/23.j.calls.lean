/-! MACHINE: the law's calls: the words of the called (printed; long rows cut) -/
set_option maxRecDepth 20000 in
theorem gL_law_X8_would : GoodIn wsL_law0 (wsV RL 108 RX8 yX8_would wsX8_would) := goodIn_app (goodIn_r _ [949, 950, 951, 5] (by decide +kernel) (by decide +kernel)) ggL_law_X8_would
set_option maxRecDepth 20000 in
theorem ggL_law_X7_worth_h : GoodIn wsL_law0 [Cond.code yX7_worth cX7_worth 8 (some .long)] := goodIn_r _ [964] (by decide +kernel) (by decide +kernel)
set_option maxRecDepth 20000 in
theorem ggL_law_X7_worth_1 : GoodIn wsL_law0 wsX7_worth_r1 := goodIn_r _ [965, 17, 16, 930, 966, 703, 704, 2, 705, 706, 707, 708, 709, 710, 711, 712, 713, 714, 715, 716, 936, 937, 938, 15] (by decide +kernel) (by decide +kernel)
set_option maxRecDepth 20000 in
theorem ggL_law_X7_worth_2 : GoodIn wsL_law0 wsX7_worth_r2 := goodIn_r _ [939, 28, 32, 45, 46, 256, 257, 309, 308, 311, 940, 941, 942, 27, 943, 263, 52, 54, 55, 390, 391, 392, 43, 393] (by decide +kernel) (by decide +kernel)
set_option maxRecDepth 20000 in
theorem ggL_law_X7_worth_3 : GoodIn wsL_law0 wsX7_worth_r3 := goodIn_r _ [268, 269, 270, 271, 272, 273, 394, 265, 266, 267, 944, 945, 946, 31, 947, 373, 372, 375, 948, 64, 65, 252, 253, 254] (by decide +kernel) (by decide +kernel)
set_option maxRecDepth 20000 in
theorem ggL_law_X7_worth_4 : GoodIn wsL_law0 wsX7_worth_r4 := goodIn_r _ [255, 44, 258, 259, 260, 261, 262, 264, 274, 275, 276, 277, 278, 279, 280, 281, 282, 283, 284, 285, 286, 287, 288, 289] (by decide +kernel) (by decide +kernel)
set_option maxRecDepth 20000 in
theorem ggL_law_X7_worth_5 : GoodIn wsL_law0 wsX7_worth_r5 := goodIn_r _ [290, 291, 292, 293, 294, 295, 296, 297, 298, 299, 300, 301, 302, 303, 304, 305, 306, 307, 310, 133, 134, 135, 312, 313] (by decide +kernel) (by decide +kernel)
set_option maxRecDepth 20000 in
theorem ggL_law_X7_worth_6 : GoodIn wsL_law0 wsX7_worth_r6 := goodIn_r _ [314, 315, 316, 317, 318, 319, 320, 321, 322, 323, 324, 325, 36, 326, 327, 328, 329, 330, 331, 332, 333, 334, 35, 335] (by decide +kernel) (by decide +kernel)
set_option maxRecDepth 20000 in
theorem ggL_law_X7_worth_7 : GoodIn wsL_law0 wsX7_worth_r7 := goodIn_r _ [336, 337, 338, 339, 340, 341, 342, 343, 344, 345, 346, 347, 348, 349, 70, 71, 72, 350, 351, 352, 353, 73, 354, 74] (by decide +kernel) (by decide +kernel)
set_option maxRecDepth 20000 in
theorem ggL_law_X7_worth_8 : GoodIn wsL_law0 wsX7_worth_r8 := goodIn_r _ [75, 355, 356, 357, 358, 359, 360, 361, 362, 363, 364, 365, 366, 367, 368, 369, 370, 371, 63, 374, 376, 377, 378, 379] (by decide +kernel) (by decide +kernel)
set_option maxRecDepth 20000 in
theorem ggL_law_X7_worth_9 : GoodIn wsL_law0 wsX7_worth_r9 := goodIn_r _ [380, 381, 382, 383, 384, 385, 386, 387, 388, 389, 395, 396, 397, 398] (by decide +kernel) (by decide +kernel)
set_option maxRecDepth 20000 in
theorem ggL_law_X7_worth_10 : GoodIn wsL_law0 wsX70 := goodIn_r _ [1036, 1037, 1038] (by decide +kernel) (by decide +kernel)
set_option maxRecDepth 20000 in
theorem ggL_law_X7_worth_11 : GoodIn wsL_law0 wsX20 := goodIn_r _ [1071, 1072, 1073, 1074, 1075, 1076, 1077, 1078, 1079, 1080, 1081, 1082] (by decide +kernel) (by decide +kernel)
set_option maxRecDepth 20000 in
theorem ggL_law_X7_worth_12 : GoodIn wsL_law0 wsX30 := goodIn_r _ [1099, 1100, 1101, 1102, 1103, 1104, 1105] (by decide +kernel) (by decide +kernel)
set_option maxRecDepth 20000 in
theorem ggL_law_X7_worth_13 : GoodIn wsL_law0 wsX00 := goodIn_r _ [1095, 1096, 1097, 1098] (by decide +kernel) (by decide +kernel)
set_option maxRecDepth 20000 in
theorem ggL_law_X7_worth_14 : GoodIn wsL_law0 wsX40 := goodIn_r _ [1117, 1118, 1119, 1120, 1121, 1122] (by decide +kernel) (by decide +kernel)
set_option maxRecDepth 20000 in
theorem ggL_law_X7_worth_15 : GoodIn wsL_law0 wsX50 := goodIn_r _ [1106, 1107, 1108, 1109, 1110, 1111, 1112, 1113] (by decide +kernel) (by decide +kernel)
theorem ggL_law_X7_worth : GoodIn wsL_law0 wsX7_worth := goodIn_app ggL_law_X7_worth_h (goodIn_app (goodIn_app (goodIn_app (goodIn_app (goodIn_app (goodIn_app (goodIn_app ggL_law_X7_worth_1 (goodIn_app ggL_law_X7_worth_2 (goodIn_app ggL_law_X7_worth_3 (goodIn_app ggL_law_X7_worth_4 (goodIn_app ggL_law_X7_worth_5 (goodIn_app ggL_law_X7_worth_6 (goodIn_app ggL_law_X7_worth_7 (goodIn_app ggL_law_X7_worth_8 ggL_law_X7_worth_9)))))))) ggL_law_X7_worth_10) ggL_law_X7_worth_11) ggL_law_X7_worth_12) ggL_law_X7_worth_13) ggL_law_X7_worth_14) ggL_law_X7_worth_15)
set_option maxRecDepth 20000 in
theorem gL_law_X7_worth : GoodIn wsL_law0 (wsV RL 109 RX7 yX7_worth wsX7_worth) := goodIn_app (goodIn_r _ [961, 962, 963, 2] (by decide +kernel) (by decide +kernel)) ggL_law_X7_worth
set_option maxRecDepth 20000 in
theorem ggL_law_X8_worth_h : GoodIn wsL_law0 [Cond.code yX8_worth cX8_worth 7 (some .long)] := goodIn_r _ [970] (by decide +kernel) (by decide +kernel)
set_option maxRecDepth 20000 in
theorem ggL_law_X8_worth_1 : GoodIn wsL_law0 wsX8_worth_r1 := goodIn_r _ [114, 632, 554, 721, 722, 5, 723, 724, 524, 725, 726, 486, 487, 488, 529, 530, 531, 532, 953, 954, 955, 956, 89, 88] (by decide +kernel) (by decide +kernel)
set_option maxRecDepth 20000 in
theorem ggL_law_X8_worth_2 : GoodIn wsL_law0 wsX8_worth_r2 := goodIn_r _ [91, 90, 542, 543, 544, 545, 541, 546, 547, 548, 549, 550, 551, 552, 553, 555, 556, 557, 558, 559, 560, 561, 562, 563] (by decide +kernel) (by decide +kernel)
set_option maxRecDepth 20000 in
theorem ggL_law_X8_worth_3 : GoodIn wsL_law0 wsX8_worth_r3 := goodIn_r _ [564, 565, 566, 567, 568, 569, 570, 571, 572, 573, 574, 575, 576, 577, 578, 579, 580, 581, 582, 583, 584, 585, 586, 587] (by decide +kernel) (by decide +kernel)
set_option maxRecDepth 20000 in
theorem ggL_law_X8_worth_4 : GoodIn wsL_law0 wsX8_worth_r4 := goodIn_r _ [588, 589, 590, 591, 592, 593, 594, 595, 596, 597, 598, 599, 600, 601, 602, 603, 604, 605, 606, 607, 94, 95, 96, 608] (by decide +kernel) (by decide +kernel)
set_option maxRecDepth 20000 in
theorem ggL_law_X8_worth_5 : GoodIn wsL_law0 wsX8_worth_r5 := goodIn_r _ [609, 610, 611, 92, 93, 612, 613, 614, 615, 616, 617, 618, 619, 620, 621, 622, 623, 624, 625, 626, 627, 628, 629, 630] (by decide +kernel) (by decide +kernel)
set_option maxRecDepth 20000 in
theorem ggL_law_X8_worth_6 : GoodIn wsL_law0 wsX8_worth_r6 := goodIn_r _ [631, 633, 634, 635, 636, 637, 638, 639, 640, 641, 642, 643, 644, 957, 958, 959, 960] (by decide +kernel) (by decide +kernel)
set_option maxRecDepth 20000 in
theorem ggL_law_X8_worth_7 : GoodIn wsL_law0 wsX80 := goodIn_r _ [1039, 1040, 1041, 1042, 1043, 1044, 1045, 1046, 1047, 1048, 1049, 1050, 1051, 1052, 1053, 1054, 1055, 1056, 1057, 1058, 1059, 1060, 1061, 1062, 1063, 1064, 1065, 1066, 1067, 1068, 1069, 1070] (by decide +kernel) (by decide +kernel)
theorem ggL_law_X8_worth : GoodIn wsL_law0 wsX8_worth := goodIn_app ggL_law_X8_worth_h (goodIn_app (goodIn_app ggL_law_X8_worth_1 (goodIn_app ggL_law_X8_worth_2 (goodIn_app ggL_law_X8_worth_3 (goodIn_app ggL_law_X8_worth_4 (goodIn_app ggL_law_X8_worth_5 ggL_law_X8_worth_6))))) ggL_law_X8_worth_7)
set_option maxRecDepth 20000 in
theorem gL_law_X8_worth : GoodIn wsL_law0 (wsV RL 113 RX8 yX8_worth wsX8_worth) := goodIn_app (goodIn_r _ [967, 968, 969, 5] (by decide +kernel) (by decide +kernel)) ggL_law_X8_worth
set_option maxRecDepth 20000 in
theorem ggL_law_X7_clears : GoodIn wsL_law0 wsX7_clears := goodIn_r _ [974, 16, 429, 975, 403, 930, 933, 976, 977, 978, 979, 445, 446, 39, 447, 448, 449, 450, 451, 452, 453, 454, 455, 456, 457, 458, 459, 460, 461, 133, 134, 135, 462, 463, 464, 465, 466, 467, 468, 1036, 1037, 1038, 1071, 1072, 1073, 1074, 1075, 1076, 1077, 1078, 1079, 1080, 1081, 1082, 1099, 1100, 1101, 1102, 1103, 1104, 1105, 1114, 1115, 1116, 1095, 1096, 1097, 1098, 1117, 1118, 1119, 1120, 1121, 1122] (by decide +kernel) (by decide +kernel)
set_option maxRecDepth 20000 in
theorem gL_law_X7_clears : GoodIn wsL_law0 (wsV RL 114 RX7 yX7_clears wsX7_clears) := goodIn_app (goodIn_r _ [971, 972, 973, 2] (by decide +kernel) (by decide +kernel)) ggL_law_X7_clears
set_option maxRecDepth 20000 in
theorem ggL_law_X8_clears : GoodIn wsL_law0 wsX8_clears := goodIn_r _ [983, 114, 808, 88, 670, 669, 675, 486, 487, 5, 488, 671, 672, 673, 674, 507, 676, 677, 678, 679, 680, 681, 682, 683, 564, 565, 566, 567, 684, 685, 686, 687, 568, 569, 570, 688, 689, 690, 1039, 1040, 1041, 1042, 1043, 1044, 1045, 1046, 1047, 1048, 1049, 1050, 1051, 1052, 1053, 1054, 1055, 1056, 1057, 1058, 1059, 1060, 1061, 1062, 1063, 1064, 1065, 1066, 1067, 1068, 1069, 1070] (by decide +kernel) (by decide +kernel)
set_option maxRecDepth 20000 in
theorem gL_law_X8_clears : GoodIn wsL_law0 (wsV RL 117 RX8 yX8_clears wsX8_clears) := goodIn_app (goodIn_r _ [980, 981, 982, 5] (by decide +kernel) (by decide +kernel)) ggL_law_X8_clears
set_option maxRecDepth 20000 in
theorem ggL_law_X7_trade : GoodIn wsL_law0 wsX7_trade := goodIn_r _ [987, 16, 930, 988, 989, 990, 991, 31, 992, 63, 372, 993, 994, 995, 996, 1036, 1037, 1038, 1071, 1072, 1073, 1074, 1075, 1076, 1077, 1078, 1079, 1080, 1081, 1082, 1099, 1100, 1101, 1102, 1103, 1104, 1105] (by decide +kernel) (by decide +kernel)
set_option maxRecDepth 20000 in
theorem gL_law_X7_trade : GoodIn wsL_law0 (wsV RL 118 RX7 yX7_trade wsX7_trade) := goodIn_app (goodIn_r _ [984, 985, 986, 2] (by decide +kernel) (by decide +kernel)) ggL_law_X7_trade
set_option maxRecDepth 20000 in
theorem ggL_law_X8_trade : GoodIn wsL_law0 wsX8_trade := goodIn_r _ [1000, 114, 88, 1001, 486, 487, 5, 488, 1039, 1040, 1041, 1042, 1043, 1044, 1045, 1046, 1047, 1048, 1049, 1050, 1051, 1052, 1053, 1054, 1055, 1056, 1057, 1058, 1059, 1060, 1061, 1062, 1063, 1064, 1065, 1066, 1067, 1068, 1069, 1070] (by decide +kernel) (by decide +kernel)
set_option maxRecDepth 20000 in
theorem gL_law_X8_trade : GoodIn wsL_law0 (wsV RL 121 RX8 yX8_trade wsX8_trade) := goodIn_app (goodIn_r _ [997, 998, 999, 5] (by decide +kernel) (by decide +kernel)) ggL_law_X8_trade
set_option maxRecDepth 20000 in
theorem ggL_law_L_position : GoodIn wsM_law wsM_position := goodIn_ca (goodIn_r _ [1004, 761, 1005, 1006, 1007, 2, 1008, 766, 767, 16, 930, 1009, 707, 708, 709, 1036, 1037, 1038, 1071, 1072, 1073, 1074, 1075, 1076, 1077, 1078, 1079, 1080, 1081, 1082, 1099, 1100, 1101, 1102, 1103, 1104, 1105] (by decide +kernel) (by decide +kernel)) (goodIn_sub (fun _ h => List.mem_append_right _ h) (by decide +kernel))
set_option maxRecDepth 20000 in
theorem gL_law_L_position : GoodIn wsM_law (va_wsS RL 122 yL_position wsM_position) := goodIn_app (goodIn_r _ [1002, 1003, 759] (by decide +kernel) (by decide +kernel)) ggL_law_L_position
set_option maxRecDepth 20000 in
theorem ggL_law_X8_position : GoodIn wsL_law0 wsX8_position := goodIn_r _ [1013, 724, 114, 88, 486, 487, 5, 488, 1039, 1040, 1041, 1042, 1043, 1044, 1045, 1046, 1047, 1048, 1049, 1050, 1051, 1052, 1053, 1054, 1055, 1056, 1057, 1058, 1059, 1060, 1061, 1062, 1063, 1064, 1065, 1066, 1067, 1068, 1069, 1070] (by decide +kernel) (by decide +kernel)
set_option maxRecDepth 20000 in
theorem gL_law_X8_position : GoodIn wsL_law0 (wsV RL 125 RX8 yX8_position wsX8_position) := goodIn_app (goodIn_r _ [1010, 1011, 1012, 5] (by decide +kernel) (by decide +kernel)) ggL_law_X8_position
set_option maxRecDepth 20000 in
theorem ggL_law_L_money : GoodIn wsM_law wsM_money := goodIn_ca (goodIn_r _ [1016, 761, 1017, 1018, 1019, 2, 1020, 766, 767, 16, 930, 966, 707, 708, 709, 1036, 1037, 1038, 1071, 1072, 1073, 1074, 1075, 1076, 1077, 1078, 1079, 1080, 1081, 1082, 1099, 1100, 1101, 1102, 1103, 1104, 1105] (by decide +kernel) (by decide +kernel)) (goodIn_sub (fun _ h => List.mem_append_right _ h) (by decide +kernel))
set_option maxRecDepth 20000 in
theorem gL_law_L_money : GoodIn wsM_law (va_wsS RL 126 yL_money wsM_money) := goodIn_app (goodIn_r _ [1014, 1015, 759] (by decide +kernel) (by decide +kernel)) ggL_law_L_money
set_option maxRecDepth 20000 in
theorem ggL_law_X8_money : GoodIn wsL_law0 wsX8_money := goodIn_r _ [1024, 724, 114, 90, 486, 487, 5, 488, 1039, 1040, 1041, 1042, 1043, 1044, 1045, 1046, 1047, 1048, 1049, 1050, 1051, 1052, 1053, 1054, 1055, 1056, 1057, 1058, 1059, 1060, 1061, 1062, 1063, 1064, 1065, 1066, 1067, 1068, 1069, 1070] (by decide +kernel) (by decide +kernel)
set_option maxRecDepth 20000 in
theorem gL_law_X8_money : GoodIn wsL_law0 (wsV RL 128 RX8 yX8_money wsX8_money) := goodIn_app (goodIn_r _ [1021, 1022, 1023, 5] (by decide +kernel) (by decide +kernel)) ggL_law_X8_money
set_option maxRecDepth 20000 in
theorem ggL_law_X7_count : GoodIn wsL_law0 wsX7_count := goodIn_r _ [1028, 16, 403, 1029, 429, 930, 933, 419, 424, 1030, 21, 104, 988, 931, 1031, 935, 1036, 1037, 1038, 1071, 1072, 1073, 1074, 1075, 1076, 1077, 1078, 1079, 1080, 1081, 1082, 1095, 1096, 1097, 1098, 1099, 1100, 1101, 1102, 1103, 1104, 1105, 1083, 1084, 1085, 1086, 1087, 1088, 1089, 1090, 1091, 1092, 1093, 1094] (by decide +kernel) (by decide +kernel)
set_option maxRecDepth 20000 in
theorem gL_law_X7_count : GoodIn wsL_law0 (wsV RL 129 RX7 yX7_count wsX7_count) := goodIn_app (goodIn_r _ [1025, 1026, 1027, 2] (by decide +kernel) (by decide +kernel)) ggL_law_X7_count
set_option maxRecDepth 20000 in
theorem ggL_law_X8_count : GoodIn wsL_law0 wsX8_count := goodIn_r _ [1035, 114, 88, 115, 1039, 1040, 1041, 1042, 1043, 1044, 1045, 1046, 1047, 1048, 1049, 1050, 1051, 1052, 1053, 1054, 1055, 1056, 1057, 1058, 1059, 1060, 1061, 1062, 1063, 1064, 1065, 1066, 1067, 1068, 1069, 1070] (by decide +kernel) (by decide +kernel)
set_option maxRecDepth 20000 in
theorem gL_law_X8_count : GoodIn wsL_law0 (wsV RL 132 RX8 yX8_count wsX8_count) := goodIn_app (goodIn_r _ [1032, 1033, 1034, 5] (by decide +kernel) (by decide +kernel)) ggL_law_X8_count
