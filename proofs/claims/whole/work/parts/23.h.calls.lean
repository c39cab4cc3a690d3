/-! MACHINE: the law's calls: the words of the called (printed; long rows cut) -/
set_option maxRecDepth 20000 in
theorem gL_law_X7_open : GoodIn wsL_law0 (wsV RL 61 RX7 yX7_open wsX7_open) := goodIn_app (goodIn_r _ [752, 435, 436, 2] (by decide +kernel) (by decide +kernel)) ggL_law_X7_open
set_option maxRecDepth 20000 in
theorem ggL_law_X8_open_h : GoodIn wsL_law0 [Cond.code yX8_open cX8_open 1 (some .int)] := goodIn_r _ [756] (by decide +kernel) (by decide +kernel)
set_option maxRecDepth 20000 in
theorem ggL_law_X8_open_1 : GoodIn wsL_law0 wsX8_open_r1 := goodIn_r _ [114, 665, 666, 667, 5, 668, 88, 669, 670, 671, 672, 673, 674, 675, 507, 676, 677, 678, 679, 680, 681, 682, 683, 564] (by decide +kernel) (by decide +kernel)
set_option maxRecDepth 20000 in
theorem ggL_law_X8_open_2 : GoodIn wsL_law0 wsX8_open_r2 := goodIn_r _ [565, 566, 567, 684, 685, 686, 687, 568, 569, 570, 688, 689, 690, 691, 692, 693, 694, 607, 94, 95, 93, 96, 560, 561] (by decide +kernel) (by decide +kernel)
set_option maxRecDepth 20000 in
theorem ggL_law_X8_open_3 : GoodIn wsL_law0 wsX8_open_r3 := goodIn_r _ [562, 563, 608, 609, 610, 611, 92, 575, 576, 577, 578, 599, 600, 601, 602, 695, 696, 697, 698, 624, 625, 626, 627, 628] (by decide +kernel) (by decide +kernel)
set_option maxRecDepth 20000 in
theorem ggL_law_X8_open_4 : GoodIn wsL_law0 wsX8_open_r4 := goodIn_r _ [629, 630, 631, 90, 632, 616, 617, 618, 619, 633, 634, 635, 636, 587, 588, 589, 590, 637, 638, 639, 640, 595, 596, 597] (by decide +kernel) (by decide +kernel)
set_option maxRecDepth 20000 in
theorem ggL_law_X8_open_5 : GoodIn wsL_law0 wsX8_open_r5 := goodIn_r _ [598, 583, 584, 585, 586] (by decide +kernel) (by decide +kernel)
set_option maxRecDepth 20000 in
theorem ggL_law_X8_open_6 : GoodIn wsL_law0 wsX80 := goodIn_r _ [1039, 1040, 1041, 1042, 1043, 1044, 1045, 1046, 1047, 1048, 1049, 1050, 1051, 1052, 1053, 1054, 1055, 1056, 1057, 1058, 1059, 1060, 1061, 1062, 1063, 1064, 1065, 1066, 1067, 1068, 1069, 1070] (by decide +kernel) (by decide +kernel)
theorem ggL_law_X8_open : GoodIn wsL_law0 wsX8_open := goodIn_app ggL_law_X8_open_h (goodIn_app (goodIn_app ggL_law_X8_open_1 (goodIn_app ggL_law_X8_open_2 (goodIn_app ggL_law_X8_open_3 (goodIn_app ggL_law_X8_open_4 ggL_law_X8_open_5)))) ggL_law_X8_open_6)
set_option maxRecDepth 20000 in
theorem gL_law_X8_open : GoodIn wsL_law0 (wsV RL 65 RX8 yX8_open wsX8_open) := goodIn_app (goodIn_r _ [753, 754, 755, 5] (by decide +kernel) (by decide +kernel)) ggL_law_X8_open
set_option maxRecDepth 20000 in
theorem ggL_law_L_of : GoodIn wsM_law wsM_of := goodIn_ca (goodIn_r _ [760, 761, 762, 763, 764, 2, 765, 766, 767, 16, 403, 768, 769, 770, 404, 771, 405, 406, 407, 27, 408, 263, 52, 321, 772, 343, 344, 345, 54, 289, 55, 1036, 1037, 1038, 1071, 1072, 1073, 1074, 1075, 1076, 1077, 1078, 1079, 1080, 1081, 1082, 1117, 1118, 1119, 1120, 1121, 1122, 1095, 1096, 1097, 1098] (by decide +kernel) (by decide +kernel)) (goodIn_sub (fun _ h => List.mem_append_right _ h) (by decide +kernel))
set_option maxRecDepth 20000 in
theorem gL_law_L_of : GoodIn wsM_law (va_wsS RL 66 yL_of wsM_of) := goodIn_app (goodIn_r _ [757, 758, 759] (by decide +kernel) (by decide +kernel)) ggL_law_L_of
set_option maxRecDepth 20000 in
theorem ggL_law_X8_of : GoodIn wsL_law0 wsX8_of := goodIn_r _ [776, 114, 777, 88, 649, 650, 651, 5, 652, 564, 565, 566, 567, 486, 487, 488, 1039, 1040, 1041, 1042, 1043, 1044, 1045, 1046, 1047, 1048, 1049, 1050, 1051, 1052, 1053, 1054, 1055, 1056, 1057, 1058, 1059, 1060, 1061, 1062, 1063, 1064, 1065, 1066, 1067, 1068, 1069, 1070] (by decide +kernel) (by decide +kernel)
set_option maxRecDepth 20000 in
theorem gL_law_X8_of : GoodIn wsL_law0 (wsV RL 71 RX8 yX8_of wsX8_of) := goodIn_app (goodIn_r _ [773, 774, 775, 5] (by decide +kernel) (by decide +kernel)) ggL_law_X8_of
set_option maxRecDepth 20000 in
theorem ggL_law_X8_thrown : GoodIn wsL_law0 wsX8_thrown := goodIn_r _ [781, 114, 1039, 1040, 1041, 1042, 1043, 1044, 1045, 1046, 1047, 1048, 1049, 1050, 1051, 1052, 1053, 1054, 1055, 1056, 1057, 1058, 1059, 1060, 1061, 1062, 1063, 1064, 1065, 1066, 1067, 1068, 1069, 1070] (by decide +kernel) (by decide +kernel)
set_option maxRecDepth 20000 in
theorem gL_law_X8_thrown : GoodIn wsL_law0 (wsV RL 72 RX8 yX8_thrown wsX8_thrown) := goodIn_app (goodIn_r _ [778, 779, 780, 5] (by decide +kernel) (by decide +kernel)) ggL_law_X8_thrown
set_option maxRecDepth 20000 in
theorem ggL_law_X7_level : GoodIn wsL_law0 wsX7_level := goodIn_r _ [785, 16, 403, 710, 711, 2, 712, 786, 787, 788, 27, 789, 790, 281, 282, 283, 284, 285, 286, 287, 288, 263, 52, 289, 290, 291, 292, 791, 792, 793, 794, 795, 796, 797, 798, 316, 799, 301, 302, 303, 800, 801, 802, 803, 1036, 1037, 1038, 1071, 1072, 1073, 1074, 1075, 1076, 1077, 1078, 1079, 1080, 1081, 1082, 1095, 1096, 1097, 1098, 1117, 1118, 1119, 1120, 1121, 1122] (by decide +kernel) (by decide +kernel)
set_option maxRecDepth 20000 in
theorem gL_law_X7_level : GoodIn wsL_law0 (wsV RL 75 RX7 yX7_level wsX7_level) := goodIn_app (goodIn_r _ [782, 783, 784, 2] (by decide +kernel) (by decide +kernel)) ggL_law_X7_level
set_option maxRecDepth 20000 in
theorem ggL_law_X8_level : GoodIn wsL_law0 wsX8_level := goodIn_r _ [807, 114, 808, 486, 487, 5, 488, 809, 810, 811, 812, 88, 564, 565, 566, 567, 568, 569, 570, 599, 600, 601, 602, 575, 576, 577, 578, 813, 814, 815, 816, 1039, 1040, 1041, 1042, 1043, 1044, 1045, 1046, 1047, 1048, 1049, 1050, 1051, 1052, 1053, 1054, 1055, 1056, 1057, 1058, 1059, 1060, 1061, 1062, 1063, 1064, 1065, 1066, 1067, 1068, 1069, 1070] (by decide +kernel) (by decide +kernel)
set_option maxRecDepth 20000 in
theorem gL_law_X8_level : GoodIn wsL_law0 (wsV RL 79 RX8 yX8_level wsX8_level) := goodIn_app (goodIn_r _ [804, 805, 806, 5] (by decide +kernel) (by decide +kernel)) ggL_law_X8_level
set_option maxRecDepth 20000 in
theorem ggL_law_X7_queue : GoodIn wsL_law0 wsX7_queue := goodIn_r _ [820, 16, 403, 710, 711, 2, 712, 821, 822, 823, 27, 824, 263, 52, 321, 799, 301, 302, 303, 289, 290, 1036, 1037, 1038, 1071, 1072, 1073, 1074, 1075, 1076, 1077, 1078, 1079, 1080, 1081, 1082, 1095, 1096, 1097, 1098, 1117, 1118, 1119, 1120, 1121, 1122] (by decide +kernel) (by decide +kernel)
set_option maxRecDepth 20000 in
theorem gL_law_X7_queue : GoodIn wsL_law0 (wsV RL 80 RX7 yX7_queue wsX7_queue) := goodIn_app (goodIn_r _ [817, 818, 819, 2] (by decide +kernel) (by decide +kernel)) ggL_law_X7_queue
set_option maxRecDepth 20000 in
theorem ggL_law_X8_queue : GoodIn wsL_law0 wsX8_queue := goodIn_r _ [828, 114, 88, 575, 576, 577, 5, 578, 564, 565, 566, 567, 1039, 1040, 1041, 1042, 1043, 1044, 1045, 1046, 1047, 1048, 1049, 1050, 1051, 1052, 1053, 1054, 1055, 1056, 1057, 1058, 1059, 1060, 1061, 1062, 1063, 1064, 1065, 1066, 1067, 1068, 1069, 1070] (by decide +kernel) (by decide +kernel)
set_option maxRecDepth 20000 in
theorem gL_law_X8_queue : GoodIn wsL_law0 (wsV RL 83 RX8 yX8_queue wsX8_queue) := goodIn_app (goodIn_r _ [825, 826, 827, 5] (by decide +kernel) (by decide +kernel)) ggL_law_X8_queue
set_option maxRecDepth 20000 in
theorem ggL_law_X7_top : GoodIn wsL_law0 wsX7_top := goodIn_r _ [832, 16, 403, 833, 710, 711, 2, 712, 1036, 1037, 1038, 1071, 1072, 1073, 1074, 1075, 1076, 1077, 1078, 1079, 1080, 1081, 1082, 1095, 1096, 1097, 1098] (by decide +kernel) (by decide +kernel)
set_option maxRecDepth 20000 in
theorem gL_law_X7_top : GoodIn wsL_law0 (wsV RL 84 RX7 yX7_top wsX7_top) := goodIn_app (goodIn_r _ [829, 830, 831, 2] (by decide +kernel) (by decide +kernel)) ggL_law_X7_top
set_option maxRecDepth 20000 in
theorem ggL_law_X8_top : GoodIn wsL_law0 wsX8_top := goodIn_r _ [837, 114, 88, 486, 487, 5, 488, 1039, 1040, 1041, 1042, 1043, 1044, 1045, 1046, 1047, 1048, 1049, 1050, 1051, 1052, 1053, 1054, 1055, 1056, 1057, 1058, 1059, 1060, 1061, 1062, 1063, 1064, 1065, 1066, 1067, 1068, 1069, 1070] (by decide +kernel) (by decide +kernel)
set_option maxRecDepth 20000 in
theorem gL_law_X8_top : GoodIn wsL_law0 (wsV RL 87 RX8 yX8_top wsX8_top) := goodIn_app (goodIn_r _ [834, 835, 836, 5] (by decide +kernel) (by decide +kernel)) ggL_law_X8_top
set_option maxRecDepth 20000 in
theorem ggL_law_X7_ahead : GoodIn wsL_law0 wsX7_ahead := goodIn_r _ [841, 16, 403, 405, 406, 407, 27, 408, 263, 52, 321, 842, 843, 844, 845, 289, 290, 316, 799, 301, 302, 303, 846, 847, 848, 849, 291, 2, 292, 1036, 1037, 1038, 1071, 1072, 1073, 1074, 1075, 1076, 1077, 1078, 1079, 1080, 1081, 1082, 1095, 1096, 1097, 1098, 1117, 1118, 1119, 1120, 1121, 1122] (by decide +kernel) (by decide +kernel)
set_option maxRecDepth 20000 in
theorem gL_law_X7_ahead : GoodIn wsL_law0 (wsV RL 88 RX7 yX7_ahead wsX7_ahead) := goodIn_app (goodIn_r _ [838, 839, 840, 2] (by decide +kernel) (by decide +kernel)) ggL_law_X7_ahead
set_option maxRecDepth 20000 in
theorem ggL_law_X8_ahead : GoodIn wsL_law0 wsX8_ahead := goodIn_r _ [853, 114, 88, 649, 650, 651, 5, 652, 564, 565, 566, 567, 486, 487, 488, 568, 569, 570, 1039, 1040, 1041, 1042, 1043, 1044, 1045, 1046, 1047, 1048, 1049, 1050, 1051, 1052, 1053, 1054, 1055, 1056, 1057, 1058, 1059, 1060, 1061, 1062, 1063, 1064, 1065, 1066, 1067, 1068, 1069, 1070] (by decide +kernel) (by decide +kernel)
set_option maxRecDepth 20000 in
theorem gL_law_X8_ahead : GoodIn wsL_law0 (wsV RL 91 RX8 yX8_ahead wsX8_ahead) := goodIn_app (goodIn_r _ [850, 851, 852, 5] (by decide +kernel) (by decide +kernel)) ggL_law_X8_ahead
set_option maxRecDepth 20000 in
theorem ggL_law_X7_share : GoodIn wsL_law0 wsX7_share := goodIn_r _ [857, 16, 403, 858, 769, 770, 859, 424, 405, 406, 407, 27, 408, 263, 52, 321, 860, 333, 334, 35, 335, 336, 337, 338, 339, 340, 341, 301, 302, 303, 289, 290, 342, 343, 344, 345, 54, 55, 346, 347, 348, 349, 70, 71, 72, 861, 351, 352, 353, 73, 354, 133, 134, 135, 74, 75, 355, 356, 357, 862, 863, 864, 865, 866, 867, 868, 869, 1036, 1037, 1038, 1071, 1072, 1073, 1074, 1075, 1076, 1077, 1078, 1079, 1080, 1081, 1082, 1117, 1118, 1119, 1120, 1121, 1122, 1106, 1107, 1108, 1109, 1110, 1111, 1112, 1113, 1095, 1096, 1097, 1098] (by decide +kernel) (by decide +kernel)
