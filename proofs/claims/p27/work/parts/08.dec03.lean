theorem dX7_of_83 : decode cX7_of 83 = .ok (.ireturn, 1) := by decide +kernel
theorem dX7_of_84 : decode cX7_of 84 = .ok (.aload_n 3, 1) := by decide +kernel
theorem dX7_of_85 : decode cX7_of 85 = .ok (.getfield 156, 3) := by decide +kernel
theorem dX7_of_88 : decode cX7_of 88 = .ok (.ireturn, 1) := by decide +kernel
theorem dX7_of_89 : decode cX7_of 89 = .ok (.aload_n 0, 1) := by decide +kernel
theorem dX7_of_90 : decode cX7_of 90 = .ok (.getfield 10, 3) := by decide +kernel
theorem dX7_of_93 : decode cX7_of 93 = .ok (.getfield 105, 3) := by decide +kernel
theorem dX7_of_96 : decode cX7_of 96 = .ok (.aload_n 3, 1) := by decide +kernel
theorem dX7_of_97 : decode cX7_of 97 = .ok (.invokevirtual 159, 3) := by decide +kernel
theorem dX7_of_100 : decode cX7_of 100 = .ok (.ireturn, 1) := by decide +kernel
theorem dX7_of_101 : decode cX7_of 101 = .ok (.new 140, 3) := by decide +kernel
theorem dX7_of_104 : decode cX7_of 104 = .ok (.dup, 1) := by decide +kernel
theorem dX7_of_105 : decode cX7_of 105 = .ok (.ldc 163, 2) := by decide +kernel
theorem dX7_of_107 : decode cX7_of 107 = .ok (.invokespecial 144, 3) := by decide +kernel
theorem dX7_of_110 : decode cX7_of 110 = .ok (.athrow, 1) := by decide +kernel
set_option maxRecDepth 20000 in
theorem ggX7_top_X7_isSide : GoodIn wsX7_top wsX7_isSide := goodIn_r _ [7] (by decide +kernel) (by decide +kernel)
set_option maxRecDepth 20000 in
theorem gX7_top_X7_isSide : GoodIn wsX7_top (va_wsS RX7 99 yX7_isSide wsX7_isSide) := goodIn_app (goodIn_of _ (by decide +kernel)) ggX7_top_X7_isSide
theorem dX7_top_0 : decode cX7_top 0 = .ok (.iload_n 1, 1) := by decide +kernel
theorem dX7_top_1 : decode cX7_top 1 = .ok (.invokestatic 99, 3) := by decide +kernel
theorem dX7_top_4 : decode cX7_top 4 = .ok (.ifCond .eq 18, 3) := by decide +kernel
theorem dX7_top_7 : decode cX7_top 7 = .ok (.aload_n 0, 1) := by decide +kernel
theorem dX7_top_8 : decode cX7_top 8 = .ok (.getfield 10, 3) := by decide +kernel
theorem dX7_top_11 : decode cX7_top 11 = .ok (.getfield 105, 3) := by decide +kernel
theorem dX7_top_14 : decode cX7_top 14 = .ok (.getfield 181, 3) := by decide +kernel
theorem dX7_top_17 : decode cX7_top 17 = .ok (.iload_n 1, 1) := by decide +kernel
theorem dX7_top_18 : decode cX7_top 18 = .ok (.iaload, 1) := by decide +kernel
theorem dX7_top_19 : decode cX7_top 19 = .ok (.ifCond .ne 5, 3) := by decide +kernel
theorem dX7_top_22 : decode cX7_top 22 = .ok (.iconst (-1), 1) := by decide +kernel
theorem dX7_top_23 : decode cX7_top 23 = .ok (.ireturn, 1) := by decide +kernel
theorem dX7_top_24 : decode cX7_top 24 = .ok (.aload_n 0, 1) := by decide +kernel
theorem dX7_top_25 : decode cX7_top 25 = .ok (.getfield 10, 3) := by decide +kernel
theorem dX7_top_28 : decode cX7_top 28 = .ok (.getfield 105, 3) := by decide +kernel
theorem dX7_top_31 : decode cX7_top 31 = .ok (.getfield 181, 3) := by decide +kernel
theorem dX7_top_34 : decode cX7_top 34 = .ok (.iload_n 1, 1) := by decide +kernel
theorem dX7_top_35 : decode cX7_top 35 = .ok (.iaload, 1) := by decide +kernel
theorem dX7_top_36 : decode cX7_top 36 = .ok (.ireturn, 1) := by decide +kernel
set_option maxRecDepth 20000 in
theorem ggX7_share_X0_find : GoodIn wsX7_share wsX0_find := goodIn_r _ [12, 13, 14, 15, 96, 97, 98, 99, 82, 83, 84, 85, 86, 87] (by decide +kernel) (by decide +kernel)
set_option maxRecDepth 20000 in
theorem gX7_share_X0_find : GoodIn wsX7_share (wsV RX7 109 RX0 yX0_find wsX0_find) := goodIn_app (goodIn_of _ (by decide +kernel)) ggX7_share_X0_find
set_option maxRecDepth 20000 in
theorem ggX7_share_X5_load : GoodIn wsX7_share wsX5_load := goodIn_r _ [20, 21, 22, 23, 24, 25, 26, 27, 28, 11, 29, 14, 30, 31, 32, 33, 34, 35, 36, 15, 37, 38, 39, 40, 19, 41, 42, 43, 44, 88, 89, 90, 91, 92, 93, 94, 95, 96, 97, 98, 99, 82, 83, 84, 85, 86, 87] (by decide +kernel) (by decide +kernel)
set_option maxRecDepth 20000 in
theorem gX7_share_X5_load : GoodIn wsX7_share (wsV RX7 194 RX5 yX5_load wsX5_load) := goodIn_app (goodIn_of _ (by decide +kernel)) ggX7_share_X5_load
set_option maxRecDepth 20000 in
theorem ggX7_share_X5_deal : GoodIn wsX7_share wsX5_deal := goodIn_r _ [48, 21, 49, 43, 44, 50, 51, 52, 53, 54, 55, 56, 57, 19, 58, 88, 89, 90, 91, 92, 93, 94, 95] (by decide +kernel) (by decide +kernel)
set_option maxRecDepth 20000 in
theorem gX7_share_X5_deal : GoodIn wsX7_share (wsV RX7 203 RX5 yX5_deal wsX5_deal) := goodIn_app (goodIn_of _ (by decide +kernel)) ggX7_share_X5_deal
set_option maxRecDepth 20000 in
theorem ggX7_share_X5_partOf : GoodIn wsX7_share wsX5_partOf := goodIn_r _ [62, 21, 42, 63, 64, 65, 19, 66, 49, 54, 55, 88, 89, 90, 91, 92, 93, 94, 95] (by decide +kernel) (by decide +kernel)
set_option maxRecDepth 20000 in
theorem gX7_share_X5_partOf : GoodIn wsX7_share (wsV RX7 207 RX5 yX5_partOf wsX5_partOf) := goodIn_app (goodIn_of _ (by decide +kernel)) ggX7_share_X5_partOf
theorem dX7_share_0 : decode cX7_share 0 = .ok (.aload_n 0, 1) := by decide +kernel
theorem dX7_share_1 : decode cX7_share 1 = .ok (.getfield 10, 3) := by decide +kernel
theorem dX7_share_4 : decode cX7_share 4 = .ok (.getfield 105, 3) := by decide +kernel
theorem dX7_share_7 : decode cX7_share 7 = .ok (.iload_n 1, 1) := by decide +kernel
theorem dX7_share_8 : decode cX7_share 8 = .ok (.invokevirtual 109, 3) := by decide +kernel
theorem dX7_share_11 : decode cX7_share 11 = .ok (.astore 4, 2) := by decide +kernel
theorem dX7_share_13 : decode cX7_share 13 = .ok (.aload 4, 2) := by decide +kernel
theorem dX7_share_15 : decode cX7_share 15 = .ok (.ifnull 12, 3) := by decide +kernel
theorem dX7_share_18 : decode cX7_share 18 = .ok (.iload_n 3, 1) := by decide +kernel
theorem dX7_share_19 : decode cX7_share 19 = .ok (.ifCond .lt 8, 3) := by decide +kernel
theorem dX7_share_22 : decode cX7_share 22 = .ok (.iload_n 3, 1) := by decide +kernel
theorem dX7_share_23 : decode cX7_share 23 = .ok (.iconst 3, 1) := by decide +kernel
theorem dX7_share_24 : decode cX7_share 24 = .ok (.if_icmp .le 5, 3) := by decide +kernel
theorem dX7_share_27 : decode cX7_share 27 = .ok (.iconst (-1), 1) := by decide +kernel
theorem dX7_share_28 : decode cX7_share 28 = .ok (.ireturn, 1) := by decide +kernel
theorem dX7_share_29 : decode cX7_share 29 = .ok (.aload_n 0, 1) := by decide +kernel
theorem dX7_share_30 : decode cX7_share 30 = .ok (.getfield 10, 3) := by decide +kernel
theorem dX7_share_33 : decode cX7_share 33 = .ok (.getfield 190, 3) := by decide +kernel
theorem dX7_share_36 : decode cX7_share 36 = .ok (.astore 5, 2) := by decide +kernel
theorem dX7_share_38 : decode cX7_share 38 = .ok (.aload 5, 2) := by decide +kernel
theorem dX7_share_40 : decode cX7_share 40 = .ok (.aload_n 0, 1) := by decide +kernel
theorem dX7_share_41 : decode cX7_share 41 = .ok (.getfield 10, 3) := by decide +kernel
theorem dX7_share_44 : decode cX7_share 44 = .ok (.getfield 105, 3) := by decide +kernel
theorem dX7_share_47 : decode cX7_share 47 = .ok (.aload 4, 2) := by decide +kernel
theorem dX7_share_49 : decode cX7_share 49 = .ok (.getfield 150, 3) := by decide +kernel
theorem dX7_share_52 : decode cX7_share 52 = .ok (.aload 4, 2) := by decide +kernel
theorem dX7_share_54 : decode cX7_share 54 = .ok (.getfield 153, 3) := by decide +kernel
theorem dX7_share_57 : decode cX7_share 57 = .ok (.invokevirtual 194, 3) := by decide +kernel
theorem dX7_share_60 : decode cX7_share 60 = .ok (.iload_n 2, 1) := by decide +kernel
theorem dX7_share_61 : decode cX7_share 61 = .ok (.iconst 1, 1) := by decide +kernel
theorem dX7_share_62 : decode cX7_share 62 = .ok (.if_icmp .lt 12, 3) := by decide +kernel
theorem dX7_share_65 : decode cX7_share 65 = .ok (.iload_n 2, 1) := by decide +kernel
theorem dX7_share_66 : decode cX7_share 66 = .ok (.aload 5, 2) := by decide +kernel
theorem dX7_share_68 : decode cX7_share 68 = .ok (.getfield 200, 3) := by decide +kernel
theorem dX7_share_71 : decode cX7_share 71 = .ok (.if_icmp .le 5, 3) := by decide +kernel
theorem dX7_share_74 : decode cX7_share 74 = .ok (.iconst (-1), 1) := by decide +kernel
theorem dX7_share_75 : decode cX7_share 75 = .ok (.ireturn, 1) := by decide +kernel
theorem dX7_share_76 : decode cX7_share 76 = .ok (.aload 5, 2) := by decide +kernel
theorem dX7_share_78 : decode cX7_share 78 = .ok (.iload_n 2, 1) := by decide +kernel
theorem dX7_share_79 : decode cX7_share 79 = .ok (.aload_n 0, 1) := by decide +kernel
theorem dX7_share_80 : decode cX7_share 80 = .ok (.getfield 10, 3) := by decide +kernel
theorem dX7_share_83 : decode cX7_share 83 = .ok (.getfield 129, 3) := by decide +kernel
theorem dX7_share_86 : decode cX7_share 86 = .ok (.invokevirtual 203, 3) := by decide +kernel
theorem dX7_share_89 : decode cX7_share 89 = .ok (.aload 5, 2) := by decide +kernel
theorem dX7_share_91 : decode cX7_share 91 = .ok (.aload 4, 2) := by decide +kernel
theorem dX7_share_93 : decode cX7_share 93 = .ok (.iload_n 3, 1) := by decide +kernel
theorem dX7_share_94 : decode cX7_share 94 = .ok (.invokevirtual 207, 3) := by decide +kernel
theorem dX7_share_97 : decode cX7_share 97 = .ok (.ireturn, 1) := by decide +kernel
set_option maxRecDepth 20000 in
theorem ggX7_trade_X3_told : GoodIn wsX7_trade wsX3_told := goodIn_r _ [8, 9, 10, 11, 12, 13, 14, 30, 31, 32, 33, 34, 35, 36] (by decide +kernel) (by decide +kernel)
set_option maxRecDepth 20000 in
theorem gX7_trade_X3_told : GoodIn wsX7_trade (wsV RX7 272 RX3 yX3_told wsX3_told) := goodIn_app (goodIn_of _ (by decide +kernel)) ggX7_trade_X3_told
theorem dX7_trade_0 : decode cX7_trade 0 = .ok (.iload_n 1, 1) := by decide +kernel
theorem dX7_trade_1 : decode cX7_trade 1 = .ok (.ifCond .lt 26, 3) := by decide +kernel
theorem dX7_trade_4 : decode cX7_trade 4 = .ok (.iload_n 1, 1) := by decide +kernel
theorem dX7_trade_5 : decode cX7_trade 5 = .ok (.aload_n 0, 1) := by decide +kernel
theorem dX7_trade_6 : decode cX7_trade 6 = .ok (.getfield 10, 3) := by decide +kernel
theorem dX7_trade_9 : decode cX7_trade 9 = .ok (.getfield 224, 3) := by decide +kernel
theorem dX7_trade_12 : decode cX7_trade 12 = .ok (.getfield 269, 3) := by decide +kernel
theorem dX7_trade_15 : decode cX7_trade 15 = .ok (.if_icmp .ge 12, 3) := by decide +kernel
theorem dX7_trade_18 : decode cX7_trade 18 = .ok (.iload_n 2, 1) := by decide +kernel
theorem dX7_trade_19 : decode cX7_trade 19 = .ok (.ifCond .lt 8, 3) := by decide +kernel
theorem dX7_trade_22 : decode cX7_trade 22 = .ok (.iload_n 2, 1) := by decide +kernel
theorem dX7_trade_23 : decode cX7_trade 23 = .ok (.iconst 4, 1) := by decide +kernel
theorem dX7_trade_24 : decode cX7_trade 24 = .ok (.if_icmp .le 5, 3) := by decide +kernel
theorem dX7_trade_27 : decode cX7_trade 27 = .ok (.iconst (-1), 1) := by decide +kernel
theorem dX7_trade_28 : decode cX7_trade 28 = .ok (.ireturn, 1) := by decide +kernel
theorem dX7_trade_29 : decode cX7_trade 29 = .ok (.aload_n 0, 1) := by decide +kernel
theorem dX7_trade_30 : decode cX7_trade 30 = .ok (.getfield 10, 3) := by decide +kernel
theorem dX7_trade_33 : decode cX7_trade 33 = .ok (.getfield 224, 3) := by decide +kernel
theorem dX7_trade_36 : decode cX7_trade 36 = .ok (.iload_n 1, 1) := by decide +kernel
theorem dX7_trade_37 : decode cX7_trade 37 = .ok (.iload_n 2, 1) := by decide +kernel
theorem dX7_trade_38 : decode cX7_trade 38 = .ok (.invokevirtual 272, 3) := by decide +kernel
theorem dX7_trade_41 : decode cX7_trade 41 = .ok (.ireturn, 1) := by decide +kernel
set_option maxRecDepth 20000 in
theorem ggX7_position_X7_isTrader : GoodIn wsX7_position wsX7_isTrader := goodIn_r _ [9] (by decide +kernel) (by decide +kernel)
set_option maxRecDepth 20000 in
theorem gX7_position_X7_isTrader : GoodIn wsX7_position (va_wsS RX7 95 yX7_isTrader wsX7_isTrader) := goodIn_app (goodIn_of _ (by decide +kernel)) ggX7_position_X7_isTrader
theorem dX7_position_0 : decode cX7_position 0 = .ok (.iload_n 1, 1) := by decide +kernel
theorem dX7_position_1 : decode cX7_position 1 = .ok (.invokestatic 95, 3) := by decide +kernel
theorem dX7_position_4 : decode cX7_position 4 = .ok (.ifCond .ne 14, 3) := by decide +kernel
theorem dX7_position_7 : decode cX7_position 7 = .ok (.new 140, 3) := by decide +kernel
theorem dX7_position_10 : decode cX7_position 10 = .ok (.dup, 1) := by decide +kernel
theorem dX7_position_11 : decode cX7_position 11 = .ok (.ldc_w 275, 3) := by decide +kernel
theorem dX7_position_14 : decode cX7_position 14 = .ok (.invokespecial 144, 3) := by decide +kernel
theorem dX7_position_17 : decode cX7_position 17 = .ok (.athrow, 1) := by decide +kernel
theorem dX7_position_18 : decode cX7_position 18 = .ok (.aload_n 0, 1) := by decide +kernel
theorem dX7_position_19 : decode cX7_position 19 = .ok (.getfield 10, 3) := by decide +kernel
theorem dX7_position_22 : decode cX7_position 22 = .ok (.getfield 224, 3) := by decide +kernel
theorem dX7_position_25 : decode cX7_position 25 = .ok (.getfield 277, 3) := by decide +kernel
theorem dX7_position_28 : decode cX7_position 28 = .ok (.iload_n 1, 1) := by decide +kernel
theorem dX7_position_29 : decode cX7_position 29 = .ok (.iaload, 1) := by decide +kernel
theorem dX7_position_30 : decode cX7_position 30 = .ok (.ireturn, 1) := by decide +kernel
theorem dX7_count_0 : decode cX7_count 0 = .ok (.iload_n 1, 1) := by decide +kernel
theorem dX7_count_1 : decode cX7_count 1 = .ok (.tableswitch 167 0 10 #[59, 70, 86, 97, 105, 113, 121, 129, 140, 151, 159], 59) := by decide +kernel
theorem dX7_count_60 : decode cX7_count 60 = .ok (.aload_n 0, 1) := by decide +kernel
theorem dX7_count_61 : decode cX7_count 61 = .ok (.getfield 10, 3) := by decide +kernel
theorem dX7_count_64 : decode cX7_count 64 = .ok (.getfield 105, 3) := by decide +kernel
theorem dX7_count_67 : decode cX7_count 67 = .ok (.getfield 280, 3) := by decide +kernel
theorem dX7_count_70 : decode cX7_count 70 = .ok (.ireturn, 1) := by decide +kernel
theorem dX7_count_71 : decode cX7_count 71 = .ok (.aload_n 0, 1) := by decide +kernel
theorem dX7_count_72 : decode cX7_count 72 = .ok (.getfield 10, 3) := by decide +kernel
theorem dX7_count_75 : decode cX7_count 75 = .ok (.getfield 131, 3) := by decide +kernel
theorem dX7_count_78 : decode cX7_count 78 = .ok (.ifCond .eq 7, 3) := by decide +kernel
theorem dX7_count_81 : decode cX7_count 81 = .ok (.iconst 1, 1) := by decide +kernel
theorem dX7_count_82 : decode cX7_count 82 = .ok (.goto 4, 3) := by decide +kernel
theorem dX7_count_85 : decode cX7_count 85 = .ok (.iconst 0, 1) := by decide +kernel
theorem dX7_count_86 : decode cX7_count 86 = .ok (.ireturn, 1) := by decide +kernel
theorem dX7_count_87 : decode cX7_count 87 = .ok (.aload_n 0, 1) := by decide +kernel
theorem dX7_count_88 : decode cX7_count 88 = .ok (.getfield 10, 3) := by decide +kernel
theorem dX7_count_91 : decode cX7_count 91 = .ok (.getfield 224, 3) := by decide +kernel
theorem dX7_count_94 : decode cX7_count 94 = .ok (.getfield 237, 3) := by decide +kernel
theorem dX7_count_97 : decode cX7_count 97 = .ok (.ireturn, 1) := by decide +kernel
theorem dX7_count_98 : decode cX7_count 98 = .ok (.aload_n 0, 1) := by decide +kernel
theorem dX7_count_99 : decode cX7_count 99 = .ok (.getfield 10, 3) := by decide +kernel
theorem dX7_count_102 : decode cX7_count 102 = .ok (.getfield 127, 3) := by decide +kernel
theorem dX7_count_105 : decode cX7_count 105 = .ok (.ireturn, 1) := by decide +kernel
theorem dX7_count_106 : decode cX7_count 106 = .ok (.aload_n 0, 1) := by decide +kernel
theorem dX7_count_107 : decode cX7_count 107 = .ok (.getfield 10, 3) := by decide +kernel
theorem dX7_count_110 : decode cX7_count 110 = .ok (.getfield 129, 3) := by decide +kernel
theorem dX7_count_113 : decode cX7_count 113 = .ok (.ireturn, 1) := by decide +kernel
theorem dX7_count_114 : decode cX7_count 114 = .ok (.aload_n 0, 1) := by decide +kernel
theorem dX7_count_115 : decode cX7_count 115 = .ok (.getfield 10, 3) := by decide +kernel
theorem dX7_count_118 : decode cX7_count 118 = .ok (.getfield 283, 3) := by decide +kernel
theorem dX7_count_121 : decode cX7_count 121 = .ok (.ireturn, 1) := by decide +kernel
theorem dX7_count_122 : decode cX7_count 122 = .ok (.aload_n 0, 1) := by decide +kernel
theorem dX7_count_123 : decode cX7_count 123 = .ok (.getfield 22, 3) := by decide +kernel
theorem dX7_count_126 : decode cX7_count 126 = .ok (.getfield 26, 3) := by decide +kernel
theorem dX7_count_129 : decode cX7_count 129 = .ok (.ireturn, 1) := by decide +kernel
theorem dX7_count_130 : decode cX7_count 130 = .ok (.aload_n 0, 1) := by decide +kernel
theorem dX7_count_131 : decode cX7_count 131 = .ok (.getfield 10, 3) := by decide +kernel
theorem dX7_count_134 : decode cX7_count 134 = .ok (.getfield 224, 3) := by decide +kernel
theorem dX7_count_137 : decode cX7_count 137 = .ok (.getfield 269, 3) := by decide +kernel
theorem dX7_count_140 : decode cX7_count 140 = .ok (.ireturn, 1) := by decide +kernel
theorem dX7_count_141 : decode cX7_count 141 = .ok (.aload_n 0, 1) := by decide +kernel
theorem dX7_count_142 : decode cX7_count 142 = .ok (.getfield 10, 3) := by decide +kernel
theorem dX7_count_145 : decode cX7_count 145 = .ok (.getfield 224, 3) := by decide +kernel
theorem dX7_count_148 : decode cX7_count 148 = .ok (.getfield 228, 3) := by decide +kernel
theorem dX7_count_151 : decode cX7_count 151 = .ok (.ireturn, 1) := by decide +kernel
theorem dX7_count_152 : decode cX7_count 152 = .ok (.aload_n 0, 1) := by decide +kernel
theorem dX7_count_153 : decode cX7_count 153 = .ok (.getfield 10, 3) := by decide +kernel
theorem dX7_count_156 : decode cX7_count 156 = .ok (.getfield 286, 3) := by decide +kernel
theorem dX7_count_159 : decode cX7_count 159 = .ok (.ireturn, 1) := by decide +kernel
theorem dX7_count_160 : decode cX7_count 160 = .ok (.aload_n 0, 1) := by decide +kernel
theorem dX7_count_161 : decode cX7_count 161 = .ok (.getfield 10, 3) := by decide +kernel
theorem dX7_count_164 : decode cX7_count 164 = .ok (.getfield 243, 3) := by decide +kernel
theorem dX7_count_167 : decode cX7_count 167 = .ok (.ireturn, 1) := by decide +kernel
theorem dX7_count_168 : decode cX7_count 168 = .ok (.iconst (-1), 1) := by decide +kernel
theorem dX7_count_169 : decode cX7_count 169 = .ok (.ireturn, 1) := by decide +kernel
theorem dX7_isBetter_0 : decode cX7_isBetter 0 = .ok (.iload_n 0, 1) := by decide +kernel
theorem dX7_isBetter_1 : decode cX7_isBetter 1 = .ok (.ifCond .ne 16, 3) := by decide +kernel
theorem dX7_isBetter_4 : decode cX7_isBetter 4 = .ok (.iload_n 1, 1) := by decide +kernel
theorem dX7_isBetter_5 : decode cX7_isBetter 5 = .ok (.iload_n 2, 1) := by decide +kernel
theorem dX7_isBetter_6 : decode cX7_isBetter 6 = .ok (.if_icmp .le 7, 3) := by decide +kernel
theorem dX7_isBetter_9 : decode cX7_isBetter 9 = .ok (.iconst 1, 1) := by decide +kernel
theorem dX7_isBetter_10 : decode cX7_isBetter 10 = .ok (.goto 17, 3) := by decide +kernel
theorem dX7_isBetter_13 : decode cX7_isBetter 13 = .ok (.iconst 0, 1) := by decide +kernel
theorem dX7_isBetter_14 : decode cX7_isBetter 14 = .ok (.goto 13, 3) := by decide +kernel
theorem dX7_isBetter_17 : decode cX7_isBetter 17 = .ok (.iload_n 1, 1) := by decide +kernel
theorem dX7_isBetter_18 : decode cX7_isBetter 18 = .ok (.iload_n 2, 1) := by decide +kernel
theorem dX7_isBetter_19 : decode cX7_isBetter 19 = .ok (.if_icmp .ge 7, 3) := by decide +kernel
theorem dX7_isBetter_22 : decode cX7_isBetter 22 = .ok (.iconst 1, 1) := by decide +kernel
theorem dX7_isBetter_23 : decode cX7_isBetter 23 = .ok (.goto 4, 3) := by decide +kernel
theorem dX7_isBetter_26 : decode cX7_isBetter 26 = .ok (.iconst 0, 1) := by decide +kernel
theorem dX7_isBetter_27 : decode cX7_isBetter 27 = .ok (.ireturn, 1) := by decide +kernel
theorem dJ9_floorMod_7cf53_0 : decode cJ9_floorMod_7cf53 0 = .ok (.iload_n 0, 1) := by decide +kernel
theorem dJ9_floorMod_7cf53_1 : decode cJ9_floorMod_7cf53 1 = .ok (.iload_n 1, 1) := by decide +kernel
theorem dJ9_floorMod_7cf53_2 : decode cJ9_floorMod_7cf53 2 = .ok (.irem, 1) := by decide +kernel
theorem dJ9_floorMod_7cf53_3 : decode cJ9_floorMod_7cf53 3 = .ok (.istore_n 2, 1) := by decide +kernel
theorem dJ9_floorMod_7cf53_4 : decode cJ9_floorMod_7cf53 4 = .ok (.iload_n 0, 1) := by decide +kernel
theorem dJ9_floorMod_7cf53_5 : decode cJ9_floorMod_7cf53 5 = .ok (.iload_n 1, 1) := by decide +kernel
theorem dJ9_floorMod_7cf53_6 : decode cJ9_floorMod_7cf53 6 = .ok (.ixor, 1) := by decide +kernel
theorem dJ9_floorMod_7cf53_7 : decode cJ9_floorMod_7cf53 7 = .ok (.ifCond .ge 11, 3) := by decide +kernel
theorem dJ9_floorMod_7cf53_10 : decode cJ9_floorMod_7cf53 10 = .ok (.iload_n 2, 1) := by decide +kernel
theorem dJ9_floorMod_7cf53_11 : decode cJ9_floorMod_7cf53 11 = .ok (.ifCond .eq 7, 3) := by decide +kernel
theorem dJ9_floorMod_7cf53_14 : decode cJ9_floorMod_7cf53 14 = .ok (.iload_n 2, 1) := by decide +kernel
theorem dJ9_floorMod_7cf53_15 : decode cJ9_floorMod_7cf53 15 = .ok (.iload_n 1, 1) := by decide +kernel
theorem dJ9_floorMod_7cf53_16 : decode cJ9_floorMod_7cf53 16 = .ok (.iadd, 1) := by decide +kernel
theorem dJ9_floorMod_7cf53_17 : decode cJ9_floorMod_7cf53 17 = .ok (.ireturn, 1) := by decide +kernel
theorem dJ9_floorMod_7cf53_18 : decode cJ9_floorMod_7cf53 18 = .ok (.iload_n 2, 1) := by decide +kernel
theorem dJ9_floorMod_7cf53_19 : decode cJ9_floorMod_7cf53 19 = .ok (.ireturn, 1) := by decide +kernel
theorem dJ9_min_7cf53_0 : decode cJ9_min_7cf53 0 = .ok (.iload_n 0, 1) := by decide +kernel
theorem dJ9_min_7cf53_1 : decode cJ9_min_7cf53 1 = .ok (.iload_n 1, 1) := by decide +kernel
theorem dJ9_min_7cf53_2 : decode cJ9_min_7cf53 2 = .ok (.if_icmp .gt 7, 3) := by decide +kernel
theorem dJ9_min_7cf53_5 : decode cJ9_min_7cf53 5 = .ok (.iload_n 0, 1) := by decide +kernel
theorem dJ9_min_7cf53_6 : decode cJ9_min_7cf53 6 = .ok (.goto 4, 3) := by decide +kernel
theorem dJ9_min_7cf53_9 : decode cJ9_min_7cf53 9 = .ok (.iload_n 1, 1) := by decide +kernel
theorem dJ9_min_7cf53_10 : decode cJ9_min_7cf53 10 = .ok (.ireturn, 1) := by decide +kernel
