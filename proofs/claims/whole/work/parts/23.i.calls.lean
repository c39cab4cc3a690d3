/-! MACHINE: the law's calls: the words of the called (printed; long rows cut) -/
set_option maxRecDepth 20000 in
theorem gL_law_X7_share : GoodIn wsL_law0 (wsV RL 92 RX7 yX7_share wsX7_share) := goodIn_app (goodIn_r _ [854, 855, 856, 2] (by decide +kernel) (by decide +kernel)) ggL_law_X7_share
set_option maxRecDepth 20000 in
theorem ggL_law_X8_share : GoodIn wsL_law0 wsX8_share := goodIn_r _ [873, 114, 726, 88, 94, 95, 96, 874, 875, 876, 5, 877, 92, 649, 650, 651, 652, 564, 565, 566, 567, 608, 609, 610, 611, 607, 93, 575, 576, 577, 578, 486, 487, 488, 878, 879, 880, 881, 882, 883, 884, 885, 612, 613, 614, 615, 616, 617, 618, 619, 637, 638, 639, 640, 1039, 1040, 1041, 1042, 1043, 1044, 1045, 1046, 1047, 1048, 1049, 1050, 1051, 1052, 1053, 1054, 1055, 1056, 1057, 1058, 1059, 1060, 1061, 1062, 1063, 1064, 1065, 1066, 1067, 1068, 1069, 1070] (by decide +kernel) (by decide +kernel)
set_option maxRecDepth 20000 in
theorem gL_law_X8_share : GoodIn wsL_law0 (wsV RL 95 RX8 yX8_share wsX8_share) := goodIn_app (goodIn_r _ [870, 871, 872, 5] (by decide +kernel) (by decide +kernel)) ggL_law_X8_share
set_option maxRecDepth 20000 in
theorem ggL_law_X7_takeFor_h : GoodIn wsL_law0 [Cond.code yX7_takeFor cX7_takeFor 4 (some .int)] := goodIn_r _ [889] (by decide +kernel) (by decide +kernel)
set_option maxRecDepth 20000 in
theorem ggL_law_X7_takeFor_1 : GoodIn wsL_law0 wsX7_takeFor_r1 := goodIn_r _ [16, 403, 858, 769, 770, 404, 424, 405, 406, 407, 27, 408, 263, 52, 321, 860, 333, 334, 35, 335, 336, 337, 338, 339] (by decide +kernel) (by decide +kernel)
set_option maxRecDepth 20000 in
theorem ggL_law_X7_takeFor_2 : GoodIn wsL_law0 wsX7_takeFor_r2 := goodIn_r _ [340, 341, 301, 302, 303, 289, 290, 342, 343, 344, 345, 54, 55, 346, 347, 348, 349, 70, 71, 72, 890, 891, 892, 893] (by decide +kernel) (by decide +kernel)
set_option maxRecDepth 20000 in
theorem ggL_law_X7_takeFor_3 : GoodIn wsL_law0 wsX7_takeFor_r3 := goodIn_r _ [354, 133, 134, 135, 894, 895, 896, 897, 351, 352, 353, 73, 74, 75, 355, 356, 357, 866, 867, 868, 869, 898, 899, 900] (by decide +kernel) (by decide +kernel)
set_option maxRecDepth 20000 in
theorem ggL_law_X7_takeFor_4 : GoodIn wsL_law0 wsX7_takeFor_r4 := goodIn_r _ [901] (by decide +kernel) (by decide +kernel)
set_option maxRecDepth 20000 in
theorem ggL_law_X7_takeFor_5 : GoodIn wsL_law0 wsX70 := goodIn_r _ [1036, 1037, 1038] (by decide +kernel) (by decide +kernel)
set_option maxRecDepth 20000 in
theorem ggL_law_X7_takeFor_6 : GoodIn wsL_law0 wsX20 := goodIn_r _ [1071, 1072, 1073, 1074, 1075, 1076, 1077, 1078, 1079, 1080, 1081, 1082] (by decide +kernel) (by decide +kernel)
set_option maxRecDepth 20000 in
theorem ggL_law_X7_takeFor_7 : GoodIn wsL_law0 wsX40 := goodIn_r _ [1117, 1118, 1119, 1120, 1121, 1122] (by decide +kernel) (by decide +kernel)
set_option maxRecDepth 20000 in
theorem ggL_law_X7_takeFor_8 : GoodIn wsL_law0 wsX00 := goodIn_r _ [1095, 1096, 1097, 1098] (by decide +kernel) (by decide +kernel)
set_option maxRecDepth 20000 in
theorem ggL_law_X7_takeFor_9 : GoodIn wsL_law0 wsX50 := goodIn_r _ [1106, 1107, 1108, 1109, 1110, 1111, 1112, 1113] (by decide +kernel) (by decide +kernel)
theorem ggL_law_X7_takeFor : GoodIn wsL_law0 wsX7_takeFor := goodIn_app ggL_law_X7_takeFor_h (goodIn_app (goodIn_app (goodIn_app (goodIn_app (goodIn_app (goodIn_app ggL_law_X7_takeFor_1 (goodIn_app ggL_law_X7_takeFor_2 (goodIn_app ggL_law_X7_takeFor_3 ggL_law_X7_takeFor_4))) ggL_law_X7_takeFor_5) ggL_law_X7_takeFor_6) ggL_law_X7_takeFor_7) ggL_law_X7_takeFor_8) ggL_law_X7_takeFor_9)
set_option maxRecDepth 20000 in
theorem gL_law_X7_takeFor : GoodIn wsL_law0 (wsV RL 96 RX7 yX7_takeFor wsX7_takeFor) := goodIn_app (goodIn_r _ [886, 887, 888, 2] (by decide +kernel) (by decide +kernel)) ggL_law_X7_takeFor
set_option maxRecDepth 20000 in
theorem ggL_law_X8_takeFor : GoodIn wsL_law0 wsX8_takeFor := goodIn_r _ [905, 114, 88, 93, 874, 875, 876, 5, 877, 92, 649, 650, 651, 652, 564, 565, 566, 567, 608, 609, 610, 611, 607, 575, 576, 577, 578, 486, 487, 488, 882, 883, 884, 885, 612, 613, 614, 615, 878, 879, 880, 881, 616, 617, 618, 619, 94, 95, 96, 637, 638, 639, 640, 1039, 1040, 1041, 1042, 1043, 1044, 1045, 1046, 1047, 1048, 1049, 1050, 1051, 1052, 1053, 1054, 1055, 1056, 1057, 1058, 1059, 1060, 1061, 1062, 1063, 1064, 1065, 1066, 1067, 1068, 1069, 1070] (by decide +kernel) (by decide +kernel)
set_option maxRecDepth 20000 in
theorem gL_law_X8_takeFor : GoodIn wsL_law0 (wsV RL 99 RX8 yX8_takeFor wsX8_takeFor) := goodIn_app (goodIn_r _ [902, 903, 904, 5] (by decide +kernel) (by decide +kernel)) ggL_law_X8_takeFor
set_option maxRecDepth 20000 in
theorem ggL_law_X7_splits_h : GoodIn wsL_law0 [Cond.code yX7_splits cX7_splits 7 (some .int)] := goodIn_r _ [909] (by decide +kernel) (by decide +kernel)
set_option maxRecDepth 20000 in
theorem ggL_law_X7_splits_1 : GoodIn wsL_law0 wsX7_splits_r1 := goodIn_r _ [16, 403, 404, 910, 858, 859, 424, 405, 406, 407, 27, 408, 263, 52, 321, 911, 912, 913, 35, 914, 336, 337, 338, 339] (by decide +kernel) (by decide +kernel)
set_option maxRecDepth 20000 in
theorem ggL_law_X7_splits_2 : GoodIn wsL_law0 wsX7_splits_r2 := goodIn_r _ [915, 916, 340, 917, 918, 919, 920, 346, 347, 348, 349, 70, 71, 72, 341, 301, 302, 303, 289, 290, 342, 343, 344, 345] (by decide +kernel) (by decide +kernel)
set_option maxRecDepth 20000 in
theorem ggL_law_X7_splits_3 : GoodIn wsL_law0 wsX7_splits_r3 := goodIn_r _ [54, 55, 861, 351, 352, 353, 73, 354, 133, 134, 135, 74, 75, 355, 356, 357, 862, 863, 864, 865, 866, 867, 868, 869] (by decide +kernel) (by decide +kernel)
set_option maxRecDepth 20000 in
theorem ggL_law_X7_splits_4 : GoodIn wsL_law0 wsX70 := goodIn_r _ [1036, 1037, 1038] (by decide +kernel) (by decide +kernel)
set_option maxRecDepth 20000 in
theorem ggL_law_X7_splits_5 : GoodIn wsL_law0 wsX20 := goodIn_r _ [1071, 1072, 1073, 1074, 1075, 1076, 1077, 1078, 1079, 1080, 1081, 1082] (by decide +kernel) (by decide +kernel)
set_option maxRecDepth 20000 in
theorem ggL_law_X7_splits_6 : GoodIn wsL_law0 wsX40 := goodIn_r _ [1117, 1118, 1119, 1120, 1121, 1122] (by decide +kernel) (by decide +kernel)
set_option maxRecDepth 20000 in
theorem ggL_law_X7_splits_7 : GoodIn wsL_law0 wsX50 := goodIn_r _ [1106, 1107, 1108, 1109, 1110, 1111, 1112, 1113] (by decide +kernel) (by decide +kernel)
set_option maxRecDepth 20000 in
theorem ggL_law_X7_splits_8 : GoodIn wsL_law0 wsX00 := goodIn_r _ [1095, 1096, 1097, 1098] (by decide +kernel) (by decide +kernel)
theorem ggL_law_X7_splits : GoodIn wsL_law0 wsX7_splits := goodIn_app ggL_law_X7_splits_h (goodIn_app (goodIn_app (goodIn_app (goodIn_app (goodIn_app (goodIn_app ggL_law_X7_splits_1 (goodIn_app ggL_law_X7_splits_2 ggL_law_X7_splits_3)) ggL_law_X7_splits_4) ggL_law_X7_splits_5) ggL_law_X7_splits_6) ggL_law_X7_splits_7) ggL_law_X7_splits_8)
set_option maxRecDepth 20000 in
theorem gL_law_X7_splits : GoodIn wsL_law0 (wsV RL 100 RX7 yX7_splits wsX7_splits) := goodIn_app (goodIn_r _ [906, 907, 908, 2] (by decide +kernel) (by decide +kernel)) ggL_law_X7_splits
set_option maxRecDepth 20000 in
theorem ggL_law_X8_splits : GoodIn wsL_law0 wsX8_splits := goodIn_r _ [924, 114, 808, 724, 93, 925, 88, 607, 92, 874, 875, 876, 5, 877, 649, 650, 651, 652, 564, 565, 566, 567, 608, 609, 610, 611, 575, 576, 577, 578, 486, 487, 488, 878, 879, 880, 881, 882, 883, 884, 885, 612, 613, 614, 615, 616, 617, 618, 619, 94, 95, 96, 637, 638, 639, 640, 1039, 1040, 1041, 1042, 1043, 1044, 1045, 1046, 1047, 1048, 1049, 1050, 1051, 1052, 1053, 1054, 1055, 1056, 1057, 1058, 1059, 1060, 1061, 1062, 1063, 1064, 1065, 1066, 1067, 1068, 1069, 1070] (by decide +kernel) (by decide +kernel)
set_option maxRecDepth 20000 in
theorem gL_law_X8_splits : GoodIn wsL_law0 (wsV RL 103 RX8 yX8_splits wsX8_splits) := goodIn_app (goodIn_r _ [921, 922, 923, 5] (by decide +kernel) (by decide +kernel)) ggL_law_X8_splits
set_option maxRecDepth 20000 in
theorem ggL_law_X7_would_h : GoodIn wsL_law0 [Cond.code yX7_would cX7_would 7 (some .int)] := goodIn_r _ [929] (by decide +kernel) (by decide +kernel)
set_option maxRecDepth 20000 in
theorem ggL_law_X7_would_1 : GoodIn wsL_law0 wsX7_would_r1 := goodIn_r _ [17, 16, 930, 931, 932, 404, 933, 934, 935, 703, 704, 2, 705, 706, 707, 708, 709, 710, 711, 712, 713, 714, 715, 716] (by decide +kernel) (by decide +kernel)
set_option maxRecDepth 20000 in
theorem ggL_law_X7_would_2 : GoodIn wsL_law0 wsX7_would_r2 := goodIn_r _ [936, 937, 938, 15, 939, 28, 32, 45, 46, 256, 257, 309, 308, 311, 940, 941, 942, 27, 943, 263, 52, 54, 55, 390] (by decide +kernel) (by decide +kernel)
set_option maxRecDepth 20000 in
theorem ggL_law_X7_would_3 : GoodIn wsL_law0 wsX7_would_r3 := goodIn_r _ [391, 392, 43, 393, 268, 269, 270, 271, 272, 273, 394, 265, 266, 267, 944, 945, 946, 31, 947, 373, 372, 375, 948, 64] (by decide +kernel) (by decide +kernel)
set_option maxRecDepth 20000 in
theorem ggL_law_X7_would_4 : GoodIn wsL_law0 wsX7_would_r4 := goodIn_r _ [65, 252, 253, 254, 255, 44, 258, 259, 260, 261, 262, 264, 274, 275, 276, 277, 278, 279, 280, 281, 282, 283, 284, 285] (by decide +kernel) (by decide +kernel)
set_option maxRecDepth 20000 in
theorem ggL_law_X7_would_5 : GoodIn wsL_law0 wsX7_would_r5 := goodIn_r _ [286, 287, 288, 289, 290, 291, 292, 293, 294, 295, 296, 297, 298, 299, 300, 301, 302, 303, 304, 305, 306, 307, 310, 133] (by decide +kernel) (by decide +kernel)
set_option maxRecDepth 20000 in
theorem ggL_law_X7_would_6 : GoodIn wsL_law0 wsX7_would_r6 := goodIn_r _ [134, 135, 312, 313, 314, 315, 316, 317, 318, 319, 320, 321, 322, 323, 324, 325, 36, 326, 327, 328, 329, 330, 331, 332] (by decide +kernel) (by decide +kernel)
set_option maxRecDepth 20000 in
theorem ggL_law_X7_would_7 : GoodIn wsL_law0 wsX7_would_r7 := goodIn_r _ [333, 334, 35, 335, 336, 337, 338, 339, 340, 341, 342, 343, 344, 345, 346, 347, 348, 349, 70, 71, 72, 350, 351, 352] (by decide +kernel) (by decide +kernel)
set_option maxRecDepth 20000 in
theorem ggL_law_X7_would_8 : GoodIn wsL_law0 wsX7_would_r8 := goodIn_r _ [353, 73, 354, 74, 75, 355, 356, 357, 358, 359, 360, 361, 362, 363, 364, 365, 366, 367, 368, 369, 370, 371, 63, 374] (by decide +kernel) (by decide +kernel)
set_option maxRecDepth 20000 in
theorem ggL_law_X7_would_9 : GoodIn wsL_law0 wsX7_would_r9 := goodIn_r _ [376, 377, 378, 379, 380, 381, 382, 383, 384, 385, 386, 387, 388, 389, 395, 396, 397, 398] (by decide +kernel) (by decide +kernel)
set_option maxRecDepth 20000 in
theorem ggL_law_X7_would_10 : GoodIn wsL_law0 wsX70 := goodIn_r _ [1036, 1037, 1038] (by decide +kernel) (by decide +kernel)
set_option maxRecDepth 20000 in
theorem ggL_law_X7_would_11 : GoodIn wsL_law0 wsX20 := goodIn_r _ [1071, 1072, 1073, 1074, 1075, 1076, 1077, 1078, 1079, 1080, 1081, 1082] (by decide +kernel) (by decide +kernel)
set_option maxRecDepth 20000 in
theorem ggL_law_X7_would_12 : GoodIn wsL_law0 wsX30 := goodIn_r _ [1099, 1100, 1101, 1102, 1103, 1104, 1105] (by decide +kernel) (by decide +kernel)
set_option maxRecDepth 20000 in
theorem ggL_law_X7_would_13 : GoodIn wsL_law0 wsX40 := goodIn_r _ [1117, 1118, 1119, 1120, 1121, 1122] (by decide +kernel) (by decide +kernel)
set_option maxRecDepth 20000 in
theorem ggL_law_X7_would_14 : GoodIn wsL_law0 wsX00 := goodIn_r _ [1095, 1096, 1097, 1098] (by decide +kernel) (by decide +kernel)
set_option maxRecDepth 20000 in
theorem ggL_law_X7_would_15 : GoodIn wsL_law0 wsX50 := goodIn_r _ [1106, 1107, 1108, 1109, 1110, 1111, 1112, 1113] (by decide +kernel) (by decide +kernel)
theorem ggL_law_X7_would : GoodIn wsL_law0 wsX7_would := goodIn_app ggL_law_X7_would_h (goodIn_app (goodIn_app (goodIn_app (goodIn_app (goodIn_app (goodIn_app (goodIn_app ggL_law_X7_would_1 (goodIn_app ggL_law_X7_would_2 (goodIn_app ggL_law_X7_would_3 (goodIn_app ggL_law_X7_would_4 (goodIn_app ggL_law_X7_would_5 (goodIn_app ggL_law_X7_would_6 (goodIn_app ggL_law_X7_would_7 (goodIn_app ggL_law_X7_would_8 ggL_law_X7_would_9)))))))) ggL_law_X7_would_10) ggL_law_X7_would_11) ggL_law_X7_would_12) ggL_law_X7_would_13) ggL_law_X7_would_14) ggL_law_X7_would_15)
set_option maxRecDepth 20000 in
theorem gL_law_X7_would : GoodIn wsL_law0 (wsV RL 104 RX7 yX7_would wsX7_would) := goodIn_app (goodIn_r _ [926, 927, 928, 2] (by decide +kernel) (by decide +kernel)) ggL_law_X7_would
set_option maxRecDepth 20000 in
theorem ggL_law_X8_would_h : GoodIn wsL_law0 [Cond.code yX8_would cX8_would 8 (some .int)] := goodIn_r _ [952] (by decide +kernel) (by decide +kernel)
set_option maxRecDepth 20000 in
theorem ggL_law_X8_would_1 : GoodIn wsL_law0 wsX8_would_r1 := goodIn_r _ [114, 726, 552, 553, 555, 721, 722, 5, 723, 724, 524, 725, 486, 487, 488, 529, 530, 531, 532, 953, 954, 955, 956, 89] (by decide +kernel) (by decide +kernel)
set_option maxRecDepth 20000 in
theorem ggL_law_X8_would_2 : GoodIn wsL_law0 wsX8_would_r2 := goodIn_r _ [88, 91, 90, 542, 543, 544, 545, 541, 546, 547, 548, 549, 550, 551, 554, 556, 557, 558, 559, 560, 561, 562, 563, 564] (by decide +kernel) (by decide +kernel)
set_option maxRecDepth 20000 in
theorem ggL_law_X8_would_3 : GoodIn wsL_law0 wsX8_would_r3 := goodIn_r _ [565, 566, 567, 568, 569, 570, 571, 572, 573, 574, 575, 576, 577, 578, 579, 580, 581, 582, 583, 584, 585, 586, 587, 588] (by decide +kernel) (by decide +kernel)
set_option maxRecDepth 20000 in
theorem ggL_law_X8_would_4 : GoodIn wsL_law0 wsX8_would_r4 := goodIn_r _ [589, 590, 591, 592, 593, 594, 595, 596, 597, 598, 599, 600, 601, 602, 603, 604, 605, 606, 607, 94, 95, 96, 608, 609] (by decide +kernel) (by decide +kernel)
set_option maxRecDepth 20000 in
theorem ggL_law_X8_would_5 : GoodIn wsL_law0 wsX8_would_r5 := goodIn_r _ [610, 611, 92, 93, 612, 613, 614, 615, 616, 617, 618, 619, 620, 621, 622, 623, 624, 625, 626, 627, 628, 629, 630, 631] (by decide +kernel) (by decide +kernel)
set_option maxRecDepth 20000 in
theorem ggL_law_X8_would_6 : GoodIn wsL_law0 wsX8_would_r6 := goodIn_r _ [632, 633, 634, 635, 636, 637, 638, 639, 640, 641, 642, 643, 644, 957, 958, 959, 960] (by decide +kernel) (by decide +kernel)
set_option maxRecDepth 20000 in
theorem ggL_law_X8_would_7 : GoodIn wsL_law0 wsX80 := goodIn_r _ [1039, 1040, 1041, 1042, 1043, 1044, 1045, 1046, 1047, 1048, 1049, 1050, 1051, 1052, 1053, 1054, 1055, 1056, 1057, 1058, 1059, 1060, 1061, 1062, 1063, 1064, 1065, 1066, 1067, 1068, 1069, 1070] (by decide +kernel) (by decide +kernel)
theorem ggL_law_X8_would : GoodIn wsL_law0 wsX8_would := goodIn_app ggL_law_X8_would_h (goodIn_app (goodIn_app ggL_law_X8_would_1 (goodIn_app ggL_law_X8_would_2 (goodIn_app ggL_law_X8_would_3 (goodIn_app ggL_law_X8_would_4 (goodIn_app ggL_law_X8_would_5 ggL_law_X8_would_6))))) ggL_law_X8_would_7)
