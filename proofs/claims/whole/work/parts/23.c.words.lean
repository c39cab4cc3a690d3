/-! MACHINE: the law's words among the tables' -/
set_option maxRecDepth 20000 in
theorem wl_1 : GoodIn lw_tbl wsL_law0_r1 := goodIn_r _ [95, 96, 77, 944, 945, 85, 221, 97, 98, 99, 100, 101, 102, 103, 104, 78, 383, 384, 334, 335, 84, 385, 106, 107] (by decide +kernel) (by decide +kernel)
set_option maxRecDepth 20000 in
theorem wl_2 : GoodIn lw_tbl wsL_law0_r2 := goodIn_r _ [108, 109, 110, 79, 285, 184, 185, 81, 287, 222, 223, 82, 289, 262, 263, 83, 291, 283, 117, 80, 293, 295, 297, 111] (by decide +kernel) (by decide +kernel)
set_option maxRecDepth 20000 in
theorem wl_3 : GoodIn lw_tbl wsL_law0_r3 := goodIn_r _ [112, 113, 114, 115, 163, 162, 172, 174, 119, 120, 121, 187, 188, 189, 190, 192, 202, 204, 225, 226, 227, 228, 229, 231] (by decide +kernel) (by decide +kernel)
set_option maxRecDepth 20000 in
theorem wl_4 : GoodIn lw_tbl wsL_law0_r4 := goodIn_r _ [233, 234, 236, 238, 265, 266, 267, 337, 338, 339, 340, 352, 946, 947, 948, 949, 950, 951, 952, 953, 956, 957, 958, 959] (by decide +kernel) (by decide +kernel)
set_option maxRecDepth 20000 in
theorem wl_5 : GoodIn lw_tbl wsL_law0_r5 := goodIn_r _ [960, 699, 971, 980, 393, 394, 395, 396, 341, 397, 398, 399, 400, 342, 1333, 1334, 1335, 1336, 954, 972, 1337, 1339, 66, 1340] (by decide +kernel) (by decide +kernel)
set_option maxRecDepth 20000 in
theorem wl_6 : GoodIn lw_tbl wsL_law0_r6 := goodIn_r _ [401, 402, 403, 404, 349, 356, 350, 353, 405, 406, 407, 408, 409, 410, 86, 411, 343, 344, 348, 412, 413, 414, 415, 351] (by decide +kernel) (by decide +kernel)
set_option maxRecDepth 20000 in
theorem wl_7 : GoodIn lw_tbl wsL_law0_r7 := goodIn_r _ [354, 345, 416, 418, 0, 419, 346, 420, 421, 422, 423, 425, 1, 426, 427, 428, 429, 430, 432, 2, 433, 347, 434, 436] (by decide +kernel) (by decide +kernel)
set_option maxRecDepth 20000 in
theorem wl_8 : GoodIn lw_tbl wsL_law0_r8 := goodIn_r _ [3, 437, 438, 439, 440, 449, 450, 451, 456, 458, 4, 459, 460, 461, 462, 87, 463, 1402, 464, 465, 466, 467, 468, 1403] (by decide +kernel) (by decide +kernel)
set_option maxRecDepth 20000 in
theorem wl_9 : GoodIn lw_tbl wsL_law0_r9 := goodIn_r _ [470, 471, 472, 473, 474, 475, 476, 477, 478, 479, 88, 480, 481, 482, 483, 484, 486, 487, 89, 488, 489, 490, 90, 491] (by decide +kernel) (by decide +kernel)
set_option maxRecDepth 20000 in
theorem wl_10 : GoodIn lw_tbl wsL_law0_r10 := goodIn_r _ [492, 493, 494, 495, 496, 497, 498, 499, 500, 501, 502, 504, 506, 508, 510, 5, 511, 357, 512, 514, 6, 515, 523, 516] (by decide +kernel) (by decide +kernel)
set_option maxRecDepth 20000 in
theorem wl_11 : GoodIn lw_tbl wsL_law0_r11 := goodIn_r _ [518, 7, 519, 520, 521, 522, 524, 525, 527, 8, 528, 355, 529, 530, 531, 532, 299, 301, 143, 533, 534, 535, 536, 167] (by decide +kernel) (by decide +kernel)
set_option maxRecDepth 20000 in
theorem wl_12 : GoodIn lw_tbl wsL_law0_r12 := goodIn_r _ [537, 538, 539, 540, 122, 125, 128, 134, 140, 146, 541, 543, 9, 544, 131, 137, 545, 546, 547, 548, 549, 550, 551, 552] (by decide +kernel) (by decide +kernel)
set_option maxRecDepth 20000 in
theorem wl_13 : GoodIn lw_tbl wsL_law0_r13 := goodIn_r _ [553, 132, 138, 555, 556, 558, 560, 10, 561, 170, 166, 126, 562, 563, 564, 565, 566, 568, 11, 569, 305, 303, 570, 307] (by decide +kernel) (by decide +kernel)
set_option maxRecDepth 20000 in
theorem wl_14 : GoodIn lw_tbl wsL_law0_r14 := goodIn_r _ [571, 572, 573, 574, 144, 575, 576, 577, 578, 123, 579, 581, 12, 582, 243, 235, 124, 237, 239, 200, 583, 584, 585, 586] (by decide +kernel) (by decide +kernel)
set_option maxRecDepth 20000 in
theorem wl_15 : GoodIn lw_tbl wsL_law0_r15 := goodIn_r _ [240, 242, 168, 165, 141, 587, 588, 589, 590, 591, 592, 594, 13, 595, 596, 597, 598, 599, 600, 601, 602, 603, 604, 606] (by decide +kernel) (by decide +kernel)
set_option maxRecDepth 20000 in
theorem wl_16 : GoodIn lw_tbl wsL_law0_r16 := goodIn_r _ [14, 607, 241, 230, 608, 609, 610, 611, 612, 613, 614, 615, 195, 193, 616, 196, 617, 618, 619, 620, 621, 623, 15, 624] (by decide +kernel) (by decide +kernel)
set_option maxRecDepth 20000 in
theorem wl_17 : GoodIn lw_tbl wsL_law0_r17 := goodIn_r _ [147, 625, 626, 627, 628, 629, 630, 631, 632, 633, 634, 635, 636, 637, 638, 639, 640, 641, 642, 286, 145, 643, 644, 645] (by decide +kernel) (by decide +kernel)
set_option maxRecDepth 20000 in
theorem wl_18 : GoodIn lw_tbl wsL_law0_r18 := goodIn_r _ [646, 647, 648, 649, 650, 651, 652, 653, 654, 655, 656, 296, 657, 658, 659, 660, 298, 661, 662, 663, 664, 300, 665, 666] (by decide +kernel) (by decide +kernel)
set_option maxRecDepth 20000 in
theorem wl_19 : GoodIn lw_tbl wsL_law0_r19 := goodIn_r _ [667, 668, 669, 670, 671, 672, 673, 674, 675, 676, 197, 272, 677, 678, 679, 680, 268, 271, 274, 169, 164, 135, 681, 683] (by decide +kernel) (by decide +kernel)
set_option maxRecDepth 20000 in
theorem wl_20 : GoodIn lw_tbl wsL_law0_r20 := goodIn_r _ [16, 684, 685, 129, 142, 686, 687, 689, 17, 690, 691, 692, 693, 694, 696, 18, 697, 232, 269, 698, 1341, 1342, 1343, 1344] (by decide +kernel) (by decide +kernel)
set_option maxRecDepth 20000 in
theorem wl_21 : GoodIn lw_tbl wsL_law0_r21 := goodIn_r _ [973, 975, 978, 981, 976, 979, 1059, 1060, 1061, 1345, 1347, 67, 1348, 974, 977, 1353, 1354, 1355, 1356, 1349, 1351, 68, 1352, 1357] (by decide +kernel) (by decide +kernel)
set_option maxRecDepth 20000 in
theorem wl_22 : GoodIn lw_tbl wsL_law0_r22 := goodIn_r _ [1359, 69, 1360, 1221, 1361, 1363, 70, 1364, 1365, 1367, 71, 1368, 1369, 1371, 72, 1372, 1373, 1375, 73, 1376, 1062, 1377, 1379, 74] (by decide +kernel) (by decide +kernel)
set_option maxRecDepth 20000 in
theorem wl_23 : GoodIn lw_tbl wsL_law0_r23 := goodIn_r _ [1380, 1065, 1066, 1067, 1068, 1381, 1383, 75, 1384, 1069, 1071, 23, 1072, 961, 1073, 1075, 24, 1076, 1077, 1079, 25, 1080, 962, 963] (by decide +kernel) (by decide +kernel)
set_option maxRecDepth 20000 in
theorem wl_24 : GoodIn lw_tbl wsL_law0_r24 := goodIn_r _ [964, 965, 966, 967, 1081, 1083, 26, 1084, 1085, 1087, 27, 1088, 1089, 1091, 28, 1092, 1093, 1094, 1095, 1096, 1098, 29, 1099, 1100] (by decide +kernel) (by decide +kernel)
set_option maxRecDepth 20000 in
theorem wl_25 : GoodIn lw_tbl wsL_law0_r25 := goodIn_r _ [1102, 30, 1103, 1104, 1106, 31, 1107, 1108, 1110, 32, 1111, 1112, 1114, 33, 1115, 1116, 1118, 34, 1119, 1120, 1122, 35, 1123, 1124] (by decide +kernel) (by decide +kernel)
set_option maxRecDepth 20000 in
theorem wl_26 : GoodIn lw_tbl wsL_law0_r26 := goodIn_r _ [1126, 36, 1127, 1128, 1130, 37, 1131, 955, 1132, 1134, 38, 1135, 1136, 1138, 39, 1139, 1140, 1142, 40, 1143, 1144, 1146, 41, 1147] (by decide +kernel) (by decide +kernel)
set_option maxRecDepth 20000 in
theorem wl_27 : GoodIn lw_tbl wsL_law0_r27 := goodIn_r _ [1148, 1150, 42, 1151, 1152, 1154, 43, 1155, 1156, 1157, 1159, 44, 1160, 1161, 1163, 45, 1164, 1165, 1167, 46, 1168, 1173, 1175, 47] (by decide +kernel) (by decide +kernel)
set_option maxRecDepth 20000 in
theorem wl_28 : GoodIn lw_tbl wsL_law0_r28 := goodIn_r _ [1176, 1177, 1179, 48, 1180, 1185, 1187, 49, 1188, 1193, 1195, 50, 1196, 1205, 1207, 51, 1208, 1213, 1215, 52, 1216, 969, 968, 1217] (by decide +kernel) (by decide +kernel)
set_option maxRecDepth 20000 in
theorem wl_29 : GoodIn lw_tbl wsL_law0_r29 := goodIn_r _ [1219, 53, 1220, 970, 1222, 1224, 54, 1225, 1226, 1228, 55, 1229, 1230, 1232, 56, 1233, 1234, 1235, 1236, 1237, 1239, 57, 1240, 1241] (by decide +kernel) (by decide +kernel)
set_option maxRecDepth 20000 in
theorem wl_30 : GoodIn lw_tbl wsL_law0_r30 := goodIn_r _ [1243, 58, 1244, 700, 701, 702, 703, 704, 705, 706, 713, 707, 708, 709, 710, 711, 712, 714, 715, 716, 717, 1051, 1052, 1053] (by decide +kernel) (by decide +kernel)
set_option maxRecDepth 20000 in
theorem wl_31 : GoodIn lw_tbl wsL_law0_r31 := goodIn_r _ [1054, 1055, 1056, 1057, 1058, 1063, 1064, 718, 1169, 1170, 1171, 1172, 719, 1181, 1182, 1183, 1184, 720, 1189, 1190, 1191, 1192, 721, 1197] (by decide +kernel) (by decide +kernel)
set_option maxRecDepth 20000 in
theorem wl_32 : GoodIn lw_tbl wsL_law0_r32 := goodIn_r _ [1198, 1199, 1200, 722, 1201, 1202, 1203, 1204, 723, 1209, 1210, 1211, 1212, 854, 855, 76, 856, 857, 858, 859, 860, 861, 862, 94] (by decide +kernel) (by decide +kernel)
set_option maxRecDepth 20000 in
theorem wl_33 : GoodIn lw_tbl wsL_law0_r33 := goodIn_r _ [127, 133, 139, 148, 927, 1245, 1246, 1247, 1248, 1249, 1047, 1048, 1049, 1050, 724, 725, 726, 727, 728, 729, 730, 731, 732, 733] (by decide +kernel) (by decide +kernel)
set_option maxRecDepth 20000 in
theorem wl_34 : GoodIn lw_tbl wsL_law0_r34 := goodIn_r _ [734, 735, 736, 737, 738, 739, 740, 741, 742, 743, 744, 745, 1250, 1251, 1252, 1253, 1254, 1255, 1257, 59, 1258, 1259, 1261, 60] (by decide +kernel) (by decide +kernel)
set_option maxRecDepth 20000 in
theorem wl_35 : GoodIn lw_tbl wsL_law0_r35 := goodIn_r _ [1262, 746, 747, 748, 749, 750, 751, 752, 753, 1263, 1264, 1265, 1266, 754, 755, 756, 757, 173, 1267, 1268, 1269, 1270, 758, 759] (by decide +kernel) (by decide +kernel)
set_option maxRecDepth 20000 in
theorem wl_36 : GoodIn lw_tbl wsL_law0_r36 := goodIn_r _ [760, 761, 762, 763, 764, 765, 766, 767, 768, 769, 1271, 1272, 1273, 1274, 770, 771, 772, 773, 290, 244, 774, 775, 776, 777] (by decide +kernel) (by decide +kernel)
set_option maxRecDepth 20000 in
theorem wl_37 : GoodIn lw_tbl wsL_law0_r37 := goodIn_r _ [778, 779, 780, 782, 19, 783, 1275, 1276, 1277, 1278, 1279, 1281, 61, 1282, 1283, 1285, 62, 1286, 1287, 1289, 63, 1290, 784, 785] (by decide +kernel) (by decide +kernel)
set_option maxRecDepth 20000 in
theorem wl_38 : GoodIn lw_tbl wsL_law0_r38 := goodIn_r _ [786, 787, 788, 789, 790, 791, 797, 798, 799, 792, 793, 795, 20, 796, 1291, 1292, 1293, 1294, 800, 801, 802, 803, 804, 805] (by decide +kernel) (by decide +kernel)
set_option maxRecDepth 20000 in
theorem wl_39 : GoodIn lw_tbl wsL_law0_r39 := goodIn_r _ [806, 807, 808, 130, 136, 809, 811, 21, 812, 1295, 1296, 1297, 1298, 1299, 813, 814, 815, 816, 288, 201, 294, 198, 306, 308] (by decide +kernel) (by decide +kernel)
set_option maxRecDepth 20000 in
theorem wl_40 : GoodIn lw_tbl wsL_law0_r40 := goodIn_r _ [817, 818, 819, 820, 821, 822, 823, 824, 825, 826, 827, 828, 199, 1300, 1301, 1302, 1303, 1304, 1306, 64, 1307, 1308, 1310, 65] (by decide +kernel) (by decide +kernel)
set_option maxRecDepth 20000 in
theorem wl_41 : GoodIn lw_tbl wsL_law0_r41 := goodIn_r _ [1311, 829, 830, 831, 832, 833, 205, 1312, 1313, 1314, 1315, 834, 835, 836, 837, 292, 270, 273, 275, 838, 1316, 1317, 1318, 1319] (by decide +kernel) (by decide +kernel)
set_option maxRecDepth 20000 in
theorem wl_42 : GoodIn lw_tbl wsL_law0_r42 := goodIn_r _ [839, 840, 841, 842, 194, 843, 844, 845, 846, 847, 848, 86, 849, 1320, 1321, 1322, 1323, 1324, 929, 930, 931, 932, 933, 934] (by decide +kernel) (by decide +kernel)
set_option maxRecDepth 20000 in
theorem wl_43 : GoodIn lw_tbl wsL_law0_r43 := goodIn_r _ [935, 203, 1325, 1326, 1327, 1328, 937, 938, 939, 940, 941, 942, 943, 1329, 1330, 1331, 1332, 850, 851, 852, 853, 171, 302, 304] (by decide +kernel) (by decide +kernel)
set_option maxRecDepth 20000 in
theorem wl_44 : GoodIn lw_tbl wsL_law0_r44 := goodIn_r _ [1385, 1386, 1387, 1388] (by decide +kernel) (by decide +kernel)
set_option maxRecDepth 20000 in
theorem wl_45 : GoodIn lw_tbl wsX70 := goodIn_r _ [386, 388, 390] (by decide +kernel) (by decide +kernel)
set_option maxRecDepth 20000 in
theorem wl_46 : GoodIn lw_tbl wsX80 := goodIn_r _ [982, 984, 986, 988, 990, 992, 994, 996, 998, 1000, 1002, 1004, 1006, 1008, 1010, 1012, 1014, 1016, 1018, 1020, 1022, 1024, 1026, 1028, 1030, 1032, 1034, 1036, 1038, 1040, 1042, 1044] (by decide +kernel) (by decide +kernel)
set_option maxRecDepth 20000 in
theorem wl_47 : GoodIn lw_tbl wsX20 := goodIn_r _ [309, 311, 313, 315, 317, 319, 321, 323, 325, 327, 329, 331] (by decide +kernel) (by decide +kernel)
set_option maxRecDepth 20000 in
theorem wl_48 : GoodIn lw_tbl wsX60 := goodIn_r _ [358, 360, 362, 364, 366, 368, 370, 372, 374, 376, 378, 380] (by decide +kernel) (by decide +kernel)
set_option maxRecDepth 20000 in
theorem wl_49 : GoodIn lw_tbl wsX00 := goodIn_r _ [175, 177, 179, 181] (by decide +kernel) (by decide +kernel)
set_option maxRecDepth 20000 in
theorem wl_50 : GoodIn lw_tbl wsX30 := goodIn_r _ [206, 208, 210, 212, 214, 216, 218] (by decide +kernel) (by decide +kernel)
set_option maxRecDepth 20000 in
theorem wl_51 : GoodIn lw_tbl wsX50 := goodIn_r _ [245, 247, 249, 251, 253, 255, 257, 259] (by decide +kernel) (by decide +kernel)
set_option maxRecDepth 20000 in
theorem wl_52 : GoodIn lw_tbl wsX10 := goodIn_r _ [276, 278, 280] (by decide +kernel) (by decide +kernel)
set_option maxRecDepth 20000 in
theorem wl_53 : GoodIn lw_tbl wsX40 := goodIn_r _ [149, 151, 153, 155, 157, 159] (by decide +kernel) (by decide +kernel)
theorem wl_54 : GoodIn lw_tbl ([] : List Cond) := fun _ h => absurd h List.not_mem_nil
theorem wsL_law_in0 : ∀ w ∈ wsL_law0, w ∈ lw_tbl := fun w h => (((goodIn_app (goodIn_app (goodIn_app (goodIn_app (goodIn_app (goodIn_app (goodIn_app (goodIn_app (goodIn_app (goodIn_app (goodIn_app wl_1 (goodIn_app wl_2 (goodIn_app wl_3 (goodIn_app wl_4 (goodIn_app wl_5 (goodIn_app wl_6 (goodIn_app wl_7 (goodIn_app wl_8 (goodIn_app wl_9 (goodIn_app wl_10 (goodIn_app wl_11 (goodIn_app wl_12 (goodIn_app wl_13 (goodIn_app wl_14 (goodIn_app wl_15 (goodIn_app wl_16 (goodIn_app wl_17 (goodIn_app wl_18 (goodIn_app wl_19 (goodIn_app wl_20 (goodIn_app wl_21 (goodIn_app wl_22 (goodIn_app wl_23 (goodIn_app wl_24 (goodIn_app wl_25 (goodIn_app wl_26 (goodIn_app wl_27 (goodIn_app wl_28 (goodIn_app wl_29 (goodIn_app wl_30 (goodIn_app wl_31 (goodIn_app wl_32 (goodIn_app wl_33 (goodIn_app wl_34 (goodIn_app wl_35 (goodIn_app wl_36 (goodIn_app wl_37 (goodIn_app wl_38 (goodIn_app wl_39 (goodIn_app wl_40 (goodIn_app wl_41 (goodIn_app wl_42 (goodIn_app wl_43 wl_44))))))))))))))))))))))))))))))))))))))))))) wl_45) wl_46) wl_47) wl_48) wl_49) wl_50) wl_51) wl_52) wl_53) wl_54) : GoodIn lw_tbl wsL_law0) w h).1
set_option maxRecDepth 20000 in
theorem xGw_in : GoodIn lw_tbl xGw := goodIn_r _ [91, 884, 893, 895, 898, 900, 885, 886, 101, 102, 887, 892, 896, 916, 874, 917, 876, 918, 878, 888, 890, 880, 912, 913, 915, 880, 903, 904, 905, 906, 906, 907, 908, 909, 909, 910, 911, 912, 902, 863, 871, 872, 873, 875, 877, 879, 883, 882, 881] (by decide +kernel) (by decide +kernel)
theorem wsM_law_in : ∀ w ∈ wsM_law, w ∈ lw_tbl := fun w h => (List.mem_append.mp h).elim (fun h => wsL_law_in0 w h) (fun h => (xGw_in w h).1)
theorem goodIn_l {a b ws : List Cond} (h : GoodIn a ws) : GoodIn (a ++ b) ws := fun w hw => ⟨List.mem_append_left _ (h w hw).1, (h w hw).2⟩
