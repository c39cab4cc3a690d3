theorem dX7_trade_30 : decode cX7_trade 30 = .ok (.getfield 10, 3) := by decide +kernel
theorem dX7_trade_33 : decode cX7_trade 33 = .ok (.getfield 224, 3) := by decide +kernel
theorem dX7_trade_36 : decode cX7_trade 36 = .ok (.iload_n 1, 1) := by decide +kernel
theorem dX7_trade_37 : decode cX7_trade 37 = .ok (.iload_n 2, 1) := by decide +kernel
theorem dX7_trade_38 : decode cX7_trade 38 = .ok (.invokevirtual 272, 3) := by decide +kernel
theorem dX7_trade_41 : decode cX7_trade 41 = .ok (.ireturn, 1) := by decide +kernel
set_option maxRecDepth 20000 in
theorem ggX7_position_X7_isTrader : GoodIn wsX7_position wsX7_isTrader := goodIn_r _ [9] (by decide +kernel) (by decide +kernel)
set_option maxRecDepth 20000 in
theorem gX7_position_X7_isTrader : GoodIn wsX7_position (va_wsS RX7 95 yX7_isTrader wsX7_isTrader) := goodIn_app (goodIn_of _ (by decide +kernel)) ggX7_position_X7_isTrader
theorem dX7_position_0 : decode cX7_position 0 = .ok (.iload_n 1, 1) := by decide +kernel
theorem dX7_position_1 : decode cX7_position 1 = .ok (.invokestatic 95, 3) := by decide +kernel
theorem dX7_position_4 : decode cX7_position 4 = .ok (.ifCond .ne 14, 3) := by decide +kernel
theorem dX7_position_7 : decode cX7_position 7 = .ok (.new 140, 3) := by decide +kernel
theorem dX7_position_10 : decode cX7_position 10 = .ok (.dup, 1) := by decide +kernel
theorem dX7_position_11 : decode cX7_position 11 = .ok (.ldc_w 275, 3) := by decide +kernel
theorem dX7_position_14 : decode cX7_position 14 = .ok (.invokespecial 144, 3) := by decide +kernel
theorem dX7_position_17 : decode cX7_position 17 = .ok (.athrow, 1) := by decide +kernel
theorem dX7_position_18 : decode cX7_position 18 = .ok (.aload_n 0, 1) := by decide +kernel
theorem dX7_position_19 : decode cX7_position 19 = .ok (.getfield 10, 3) := by decide +kernel
theorem dX7_position_22 : decode cX7_position 22 = .ok (.getfield 224, 3) := by decide +kernel
theorem dX7_position_25 : decode cX7_position 25 = .ok (.getfield 277, 3) := by decide +kernel
theorem dX7_position_28 : decode cX7_position 28 = .ok (.iload_n 1, 1) := by decide +kernel
theorem dX7_position_29 : decode cX7_position 29 = .ok (.iaload, 1) := by decide +kernel
theorem dX7_position_30 : decode cX7_position 30 = .ok (.ireturn, 1) := by decide +kernel
set_option maxRecDepth 20000 in
theorem ggX7_money_X7_isTrader : GoodIn wsX7_money wsX7_isTrader := goodIn_r _ [9] (by decide +kernel) (by decide +kernel)
set_option maxRecDepth 20000 in
theorem gX7_money_X7_isTrader : GoodIn wsX7_money (va_wsS RX7 95 yX7_isTrader wsX7_isTrader) := goodIn_app (goodIn_of _ (by decide +kernel)) ggX7_money_X7_isTrader
theorem dX7_money_0 : decode cX7_money 0 = .ok (.iload_n 1, 1) := by decide +kernel
theorem dX7_money_1 : decode cX7_money 1 = .ok (.invokestatic 95, 3) := by decide +kernel
theorem dX7_money_4 : decode cX7_money 4 = .ok (.ifCond .ne 14, 3) := by decide +kernel
theorem dX7_money_7 : decode cX7_money 7 = .ok (.new 140, 3) := by decide +kernel
theorem dX7_money_10 : decode cX7_money 10 = .ok (.dup, 1) := by decide +kernel
theorem dX7_money_11 : decode cX7_money 11 = .ok (.ldc_w 275, 3) := by decide +kernel
theorem dX7_money_14 : decode cX7_money 14 = .ok (.invokespecial 144, 3) := by decide +kernel
theorem dX7_money_17 : decode cX7_money 17 = .ok (.athrow, 1) := by decide +kernel
theorem dX7_money_18 : decode cX7_money 18 = .ok (.aload_n 0, 1) := by decide +kernel
theorem dX7_money_19 : decode cX7_money 19 = .ok (.getfield 10, 3) := by decide +kernel
theorem dX7_money_22 : decode cX7_money 22 = .ok (.getfield 224, 3) := by decide +kernel
theorem dX7_money_25 : decode cX7_money 25 = .ok (.getfield 248, 3) := by decide +kernel
theorem dX7_money_28 : decode cX7_money 28 = .ok (.iload_n 1, 1) := by decide +kernel
theorem dX7_money_29 : decode cX7_money 29 = .ok (.laload, 1) := by decide +kernel
theorem dX7_money_30 : decode cX7_money 30 = .ok (.lreturn, 1) := by decide +kernel
theorem dX7_count_0 : decode cX7_count 0 = .ok (.iload_n 1, 1) := by decide +kernel
theorem dX7_count_1 : decode cX7_count 1 = .ok (.tableswitch 167 0 10 #[59, 70, 86, 97, 105, 113, 121, 129, 140, 151, 159], 59) := by decide +kernel
theorem dX7_count_60 : decode cX7_count 60 = .ok (.aload_n 0, 1) := by decide +kernel
theorem dX7_count_61 : decode cX7_count 61 = .ok (.getfield 10, 3) := by decide +kernel
theorem dX7_count_64 : decode cX7_count 64 = .ok (.getfield 105, 3) := by decide +kernel
theorem dX7_count_67 : decode cX7_count 67 = .ok (.getfield 280, 3) := by decide +kernel
theorem dX7_count_70 : decode cX7_count 70 = .ok (.ireturn, 1) := by decide +kernel
theorem dX7_count_71 : decode cX7_count 71 = .ok (.aload_n 0, 1) := by decide +kernel
theorem dX7_count_72 : decode cX7_count 72 = .ok (.getfield 10, 3) := by decide +kernel
theorem dX7_count_75 : decode cX7_count 75 = .ok (.getfield 131, 3) := by decide +kernel
theorem dX7_count_78 : decode cX7_count 78 = .ok (.ifCond .eq 7, 3) := by decide +kernel
theorem dX7_count_81 : decode cX7_count 81 = .ok (.iconst 1, 1) := by decide +kernel
theorem dX7_count_82 : decode cX7_count 82 = .ok (.goto 4, 3) := by decide +kernel
theorem dX7_count_85 : decode cX7_count 85 = .ok (.iconst 0, 1) := by decide +kernel
theorem dX7_count_86 : decode cX7_count 86 = .ok (.ireturn, 1) := by decide +kernel
theorem dX7_count_87 : decode cX7_count 87 = .ok (.aload_n 0, 1) := by decide +kernel
theorem dX7_count_88 : decode cX7_count 88 = .ok (.getfield 10, 3) := by decide +kernel
theorem dX7_count_91 : decode cX7_count 91 = .ok (.getfield 224, 3) := by decide +kernel
theorem dX7_count_94 : decode cX7_count 94 = .ok (.getfield 237, 3) := by decide +kernel
theorem dX7_count_97 : decode cX7_count 97 = .ok (.ireturn, 1) := by decide +kernel
theorem dX7_count_98 : decode cX7_count 98 = .ok (.aload_n 0, 1) := by decide +kernel
theorem dX7_count_99 : decode cX7_count 99 = .ok (.getfield 10, 3) := by decide +kernel
theorem dX7_count_102 : decode cX7_count 102 = .ok (.getfield 127, 3) := by decide +kernel
theorem dX7_count_105 : decode cX7_count 105 = .ok (.ireturn, 1) := by decide +kernel
theorem dX7_count_106 : decode cX7_count 106 = .ok (.aload_n 0, 1) := by decide +kernel
theorem dX7_count_107 : decode cX7_count 107 = .ok (.getfield 10, 3) := by decide +kernel
theorem dX7_count_110 : decode cX7_count 110 = .ok (.getfield 129, 3) := by decide +kernel
theorem dX7_count_113 : decode cX7_count 113 = .ok (.ireturn, 1) := by decide +kernel
theorem dX7_count_114 : decode cX7_count 114 = .ok (.aload_n 0, 1) := by decide +kernel
theorem dX7_count_115 : decode cX7_count 115 = .ok (.getfield 10, 3) := by decide +kernel
theorem dX7_count_118 : decode cX7_count 118 = .ok (.getfield 283, 3) := by decide +kernel
theorem dX7_count_121 : decode cX7_count 121 = .ok (.ireturn, 1) := by decide +kernel
theorem dX7_count_122 : decode cX7_count 122 = .ok (.aload_n 0, 1) := by decide +kernel
theorem dX7_count_123 : decode cX7_count 123 = .ok (.getfield 22, 3) := by decide +kernel
theorem dX7_count_126 : decode cX7_count 126 = .ok (.getfield 26, 3) := by decide +kernel
theorem dX7_count_129 : decode cX7_count 129 = .ok (.ireturn, 1) := by decide +kernel
theorem dX7_count_130 : decode cX7_count 130 = .ok (.aload_n 0, 1) := by decide +kernel
theorem dX7_count_131 : decode cX7_count 131 = .ok (.getfield 10, 3) := by decide +kernel
theorem dX7_count_134 : decode cX7_count 134 = .ok (.getfield 224, 3) := by decide +kernel
theorem dX7_count_137 : decode cX7_count 137 = .ok (.getfield 269, 3) := by decide +kernel
theorem dX7_count_140 : decode cX7_count 140 = .ok (.ireturn, 1) := by decide +kernel
theorem dX7_count_141 : decode cX7_count 141 = .ok (.aload_n 0, 1) := by decide +kernel
theorem dX7_count_142 : decode cX7_count 142 = .ok (.getfield 10, 3) := by decide +kernel
theorem dX7_count_145 : decode cX7_count 145 = .ok (.getfield 224, 3) := by decide +kernel
theorem dX7_count_148 : decode cX7_count 148 = .ok (.getfield 228, 3) := by decide +kernel
theorem dX7_count_151 : decode cX7_count 151 = .ok (.ireturn, 1) := by decide +kernel
theorem dX7_count_152 : decode cX7_count 152 = .ok (.aload_n 0, 1) := by decide +kernel
theorem dX7_count_153 : decode cX7_count 153 = .ok (.getfield 10, 3) := by decide +kernel
theorem dX7_count_156 : decode cX7_count 156 = .ok (.getfield 286, 3) := by decide +kernel
theorem dX7_count_159 : decode cX7_count 159 = .ok (.ireturn, 1) := by decide +kernel
theorem dX7_count_160 : decode cX7_count 160 = .ok (.aload_n 0, 1) := by decide +kernel
theorem dX7_count_161 : decode cX7_count 161 = .ok (.getfield 10, 3) := by decide +kernel
theorem dX7_count_164 : decode cX7_count 164 = .ok (.getfield 243, 3) := by decide +kernel
theorem dX7_count_167 : decode cX7_count 167 = .ok (.ireturn, 1) := by decide +kernel
theorem dX7_count_168 : decode cX7_count 168 = .ok (.iconst (-1), 1) := by decide +kernel
theorem dX7_count_169 : decode cX7_count 169 = .ok (.ireturn, 1) := by decide +kernel
theorem dX7_isBetter_0 : decode cX7_isBetter 0 = .ok (.iload_n 0, 1) := by decide +kernel
theorem dX7_isBetter_1 : decode cX7_isBetter 1 = .ok (.ifCond .ne 16, 3) := by decide +kernel
theorem dX7_isBetter_4 : decode cX7_isBetter 4 = .ok (.iload_n 1, 1) := by decide +kernel
theorem dX7_isBetter_5 : decode cX7_isBetter 5 = .ok (.iload_n 2, 1) := by decide +kernel
theorem dX7_isBetter_6 : decode cX7_isBetter 6 = .ok (.if_icmp .le 7, 3) := by decide +kernel
theorem dX7_isBetter_9 : decode cX7_isBetter 9 = .ok (.iconst 1, 1) := by decide +kernel
theorem dX7_isBetter_10 : decode cX7_isBetter 10 = .ok (.goto 17, 3) := by decide +kernel
theorem dX7_isBetter_13 : decode cX7_isBetter 13 = .ok (.iconst 0, 1) := by decide +kernel
theorem dX7_isBetter_14 : decode cX7_isBetter 14 = .ok (.goto 13, 3) := by decide +kernel
theorem dX7_isBetter_17 : decode cX7_isBetter 17 = .ok (.iload_n 1, 1) := by decide +kernel
theorem dX7_isBetter_18 : decode cX7_isBetter 18 = .ok (.iload_n 2, 1) := by decide +kernel
theorem dX7_isBetter_19 : decode cX7_isBetter 19 = .ok (.if_icmp .ge 7, 3) := by decide +kernel
theorem dX7_isBetter_22 : decode cX7_isBetter 22 = .ok (.iconst 1, 1) := by decide +kernel
theorem dX7_isBetter_23 : decode cX7_isBetter 23 = .ok (.goto 4, 3) := by decide +kernel
theorem dX7_isBetter_26 : decode cX7_isBetter 26 = .ok (.iconst 0, 1) := by decide +kernel
theorem dX7_isBetter_27 : decode cX7_isBetter 27 = .ok (.ireturn, 1) := by decide +kernel
theorem dX8_init_0 : decode cX8_init 0 = .ok (.aload_n 0, 1) := by decide +kernel
theorem dX8_init_1 : decode cX8_init 1 = .ok (.invokespecial 1, 3) := by decide +kernel
theorem dX8_init_4 : decode cX8_init 4 = .ok (.aload_n 0, 1) := by decide +kernel
theorem dX8_init_5 : decode cX8_init 5 = .ok (.sipush 684, 3) := by decide +kernel
theorem dX8_init_8 : decode cX8_init 8 = .ok (.newarray .int, 2) := by decide +kernel
theorem dX8_init_10 : decode cX8_init 10 = .ok (.putfield 7, 3) := by decide +kernel
theorem dX8_init_13 : decode cX8_init 13 = .ok (.aload_n 0, 1) := by decide +kernel
theorem dX8_init_14 : decode cX8_init 14 = .ok (.sipush 684, 3) := by decide +kernel
theorem dX8_init_17 : decode cX8_init 17 = .ok (.newarray .int, 2) := by decide +kernel
theorem dX8_init_19 : decode cX8_init 19 = .ok (.putfield 13, 3) := by decide +kernel
theorem dX8_init_22 : decode cX8_init 22 = .ok (.aload_n 0, 1) := by decide +kernel
theorem dX8_init_23 : decode cX8_init 23 = .ok (.bipush 10, 2) := by decide +kernel
theorem dX8_init_25 : decode cX8_init 25 = .ok (.newarray .long, 2) := by decide +kernel
theorem dX8_init_27 : decode cX8_init 27 = .ok (.putfield 16, 3) := by decide +kernel
theorem dX8_init_30 : decode cX8_init 30 = .ok (.aload_n 0, 1) := by decide +kernel
theorem dX8_init_31 : decode cX8_init 31 = .ok (.bipush 10, 2) := by decide +kernel
theorem dX8_init_33 : decode cX8_init 33 = .ok (.newarray .long, 2) := by decide +kernel
theorem dX8_init_35 : decode cX8_init 35 = .ok (.putfield 20, 3) := by decide +kernel
theorem dX8_init_38 : decode cX8_init 38 = .ok (.aload_n 0, 1) := by decide +kernel
theorem dX8_init_39 : decode cX8_init 39 = .ok (.bipush 70, 2) := by decide +kernel
theorem dX8_init_41 : decode cX8_init 41 = .ok (.newarray .int, 2) := by decide +kernel
theorem dX8_init_43 : decode cX8_init 43 = .ok (.putfield 23, 3) := by decide +kernel
theorem dX8_init_46 : decode cX8_init 46 = .ok (.aload_n 0, 1) := by decide +kernel
theorem dX8_init_47 : decode cX8_init 47 = .ok (.bipush 70, 2) := by decide +kernel
theorem dX8_init_49 : decode cX8_init 49 = .ok (.newarray .int, 2) := by decide +kernel
theorem dX8_init_51 : decode cX8_init 51 = .ok (.putfield 26, 3) := by decide +kernel
theorem dX8_init_54 : decode cX8_init 54 = .ok (.aload_n 0, 1) := by decide +kernel
theorem dX8_init_55 : decode cX8_init 55 = .ok (.bipush 70, 2) := by decide +kernel
theorem dX8_init_57 : decode cX8_init 57 = .ok (.newarray .int, 2) := by decide +kernel
theorem dX8_init_59 : decode cX8_init 59 = .ok (.putfield 29, 3) := by decide +kernel
theorem dX8_init_62 : decode cX8_init 62 = .ok (.aload_n 0, 1) := by decide +kernel
theorem dX8_init_63 : decode cX8_init 63 = .ok (.bipush 70, 2) := by decide +kernel
theorem dX8_init_65 : decode cX8_init 65 = .ok (.newarray .int, 2) := by decide +kernel
theorem dX8_init_67 : decode cX8_init 67 = .ok (.putfield 32, 3) := by decide +kernel
theorem dX8_init_70 : decode cX8_init 70 = .ok (.aload_n 0, 1) := by decide +kernel
theorem dX8_init_71 : decode cX8_init 71 = .ok (.bipush 70, 2) := by decide +kernel
theorem dX8_init_73 : decode cX8_init 73 = .ok (.newarray .int, 2) := by decide +kernel
theorem dX8_init_75 : decode cX8_init 75 = .ok (.putfield 35, 3) := by decide +kernel
theorem dX8_init_78 : decode cX8_init 78 = .ok (.aload_n 0, 1) := by decide +kernel
theorem dX8_init_79 : decode cX8_init 79 = .ok (.sipush 500, 3) := by decide +kernel
theorem dX8_init_82 : decode cX8_init 82 = .ok (.newarray .byte, 2) := by decide +kernel
theorem dX8_init_84 : decode cX8_init 84 = .ok (.putfield 38, 3) := by decide +kernel
theorem dX8_init_87 : decode cX8_init 87 = .ok (.aload_n 0, 1) := by decide +kernel
theorem dX8_init_88 : decode cX8_init 88 = .ok (.sipush 650, 3) := by decide +kernel
theorem dX8_init_91 : decode cX8_init 91 = .ok (.newarray .int, 2) := by decide +kernel
theorem dX8_init_93 : decode cX8_init 93 = .ok (.putfield 42, 3) := by decide +kernel
theorem dX8_init_96 : decode cX8_init 96 = .ok (.aload_n 0, 1) := by decide +kernel
theorem dX8_init_97 : decode cX8_init 97 = .ok (.getfield 7, 3) := by decide +kernel
theorem dX8_init_100 : decode cX8_init 100 = .ok (.iconst 0, 1) := by decide +kernel
theorem dX8_init_101 : decode cX8_init 101 = .ok (.bipush 20, 2) := by decide +kernel
theorem dX8_init_103 : decode cX8_init 103 = .ok (.iastore, 1) := by decide +kernel
theorem dX8_init_104 : decode cX8_init 104 = .ok (.aload_n 0, 1) := by decide +kernel
theorem dX8_init_105 : decode cX8_init 105 = .ok (.getfield 7, 3) := by decide +kernel
theorem dX8_init_108 : decode cX8_init 108 = .ok (.iconst 1, 1) := by decide +kernel
theorem dX8_init_109 : decode cX8_init 109 = .ok (.iconst 2, 1) := by decide +kernel
theorem dX8_init_110 : decode cX8_init 110 = .ok (.iastore, 1) := by decide +kernel
theorem dX8_init_111 : decode cX8_init 111 = .ok (.aload_n 0, 1) := by decide +kernel
theorem dX8_init_112 : decode cX8_init 112 = .ok (.getfield 7, 3) := by decide +kernel
theorem dX8_init_115 : decode cX8_init 115 = .ok (.bipush 6, 2) := by decide +kernel
theorem dX8_init_117 : decode cX8_init 117 = .ok (.iconst (-1), 1) := by decide +kernel
theorem dX8_init_118 : decode cX8_init 118 = .ok (.iastore, 1) := by decide +kernel
theorem dX8_init_119 : decode cX8_init 119 = .ok (.aload_n 0, 1) := by decide +kernel
theorem dX8_init_120 : decode cX8_init 120 = .ok (.getfield 7, 3) := by decide +kernel
theorem dX8_init_123 : decode cX8_init 123 = .ok (.bipush 7, 2) := by decide +kernel
theorem dX8_init_125 : decode cX8_init 125 = .ok (.iconst (-1), 1) := by decide +kernel
theorem dX8_init_126 : decode cX8_init 126 = .ok (.iastore, 1) := by decide +kernel
theorem dX8_init_127 : decode cX8_init 127 = .ok (.return_, 1) := by decide +kernel
theorem dX8_thrown_0 : decode cX8_thrown 0 = .ok (.aload_n 0, 1) := by decide +kernel
theorem dX8_thrown_1 : decode cX8_thrown 1 = .ok (.getfield 45, 3) := by decide +kernel
theorem dX8_thrown_4 : decode cX8_thrown 4 = .ok (.ireturn, 1) := by decide +kernel
theorem dX8_within_0 : decode cX8_within 0 = .ok (.lload_n 0, 1) := by decide +kernel
theorem dX8_within_1 : decode cX8_within 1 = .ok (.lload_n 2, 1) := by decide +kernel
theorem dX8_within_2 : decode cX8_within 2 = .ok (.lcmp, 1) := by decide +kernel
theorem dX8_within_3 : decode cX8_within 3 = .ok (.ifCond .lt 14, 3) := by decide +kernel
theorem dX8_within_6 : decode cX8_within 6 = .ok (.lload_n 0, 1) := by decide +kernel
theorem dX8_within_7 : decode cX8_within 7 = .ok (.lload 4, 2) := by decide +kernel
theorem dX8_within_9 : decode cX8_within 9 = .ok (.lcmp, 1) := by decide +kernel
theorem dX8_within_10 : decode cX8_within 10 = .ok (.ifCond .gt 7, 3) := by decide +kernel
theorem dX8_within_13 : decode cX8_within 13 = .ok (.iconst 1, 1) := by decide +kernel
theorem dX8_within_14 : decode cX8_within 14 = .ok (.goto 4, 3) := by decide +kernel
theorem dX8_within_17 : decode cX8_within 17 = .ok (.iconst 0, 1) := by decide +kernel
theorem dX8_within_18 : decode cX8_within 18 = .ok (.ireturn, 1) := by decide +kernel
theorem dX8_ofOrder_0 : decode cX8_ofOrder 0 = .ok (.aload_n 0, 1) := by decide +kernel
theorem dX8_ofOrder_1 : decode cX8_ofOrder 1 = .ok (.getfield 7, 3) := by decide +kernel
theorem dX8_ofOrder_4 : decode cX8_ofOrder 4 = .ok (.bipush 24, 2) := by decide +kernel
theorem dX8_ofOrder_6 : decode cX8_ofOrder 6 = .ok (.bipush 6, 2) := by decide +kernel
theorem dX8_ofOrder_8 : decode cX8_ofOrder 8 = .ok (.iload_n 1, 1) := by decide +kernel
theorem dX8_ofOrder_9 : decode cX8_ofOrder 9 = .ok (.imul, 1) := by decide +kernel
theorem dX8_ofOrder_10 : decode cX8_ofOrder 10 = .ok (.iadd, 1) := by decide +kernel
theorem dX8_ofOrder_11 : decode cX8_ofOrder 11 = .ok (.iload_n 2, 1) := by decide +kernel
theorem dX8_ofOrder_12 : decode cX8_ofOrder 12 = .ok (.iadd, 1) := by decide +kernel
theorem dX8_ofOrder_13 : decode cX8_ofOrder 13 = .ok (.iaload, 1) := by decide +kernel
theorem dX8_ofOrder_14 : decode cX8_ofOrder 14 = .ok (.ireturn, 1) := by decide +kernel
theorem dX8_setOrder_0 : decode cX8_setOrder 0 = .ok (.aload_n 0, 1) := by decide +kernel
theorem dX8_setOrder_1 : decode cX8_setOrder 1 = .ok (.getfield 7, 3) := by decide +kernel
theorem dX8_setOrder_4 : decode cX8_setOrder 4 = .ok (.bipush 24, 2) := by decide +kernel
theorem dX8_setOrder_6 : decode cX8_setOrder 6 = .ok (.bipush 6, 2) := by decide +kernel
theorem dX8_setOrder_8 : decode cX8_setOrder 8 = .ok (.iload_n 1, 1) := by decide +kernel
theorem dX8_setOrder_9 : decode cX8_setOrder 9 = .ok (.imul, 1) := by decide +kernel
theorem dX8_setOrder_10 : decode cX8_setOrder 10 = .ok (.iadd, 1) := by decide +kernel
theorem dX8_setOrder_11 : decode cX8_setOrder 11 = .ok (.iload_n 2, 1) := by decide +kernel
theorem dX8_setOrder_12 : decode cX8_setOrder 12 = .ok (.iadd, 1) := by decide +kernel
theorem dX8_setOrder_13 : decode cX8_setOrder 13 = .ok (.iload_n 3, 1) := by decide +kernel
theorem dX8_setOrder_14 : decode cX8_setOrder 14 = .ok (.iastore, 1) := by decide +kernel
theorem dX8_setOrder_15 : decode cX8_setOrder 15 = .ok (.return_, 1) := by decide +kernel
theorem dX8_putsAside_0 : decode cX8_putsAside 0 = .ok (.iconst 0, 1) := by decide +kernel
theorem dX8_putsAside_1 : decode cX8_putsAside 1 = .ok (.istore_n 1, 1) := by decide +kernel
theorem dX8_putsAside_2 : decode cX8_putsAside 2 = .ok (.iload_n 1, 1) := by decide +kernel
theorem dX8_putsAside_3 : decode cX8_putsAside 3 = .ok (.sipush 684, 3) := by decide +kernel
theorem dX8_putsAside_6 : decode cX8_putsAside 6 = .ok (.if_icmp .ge 21, 3) := by decide +kernel
theorem dX8_putsAside_9 : decode cX8_putsAside 9 = .ok (.aload_n 0, 1) := by decide +kernel
theorem dX8_putsAside_10 : decode cX8_putsAside 10 = .ok (.getfield 13, 3) := by decide +kernel
theorem dX8_putsAside_13 : decode cX8_putsAside 13 = .ok (.iload_n 1, 1) := by decide +kernel
theorem dX8_putsAside_14 : decode cX8_putsAside 14 = .ok (.aload_n 0, 1) := by decide +kernel
theorem dX8_putsAside_15 : decode cX8_putsAside 15 = .ok (.getfield 7, 3) := by decide +kernel
theorem dX8_putsAside_18 : decode cX8_putsAside 18 = .ok (.iload_n 1, 1) := by decide +kernel
theorem dX8_putsAside_19 : decode cX8_putsAside 19 = .ok (.iaload, 1) := by decide +kernel
theorem dX8_putsAside_20 : decode cX8_putsAside 20 = .ok (.iastore, 1) := by decide +kernel
theorem dX8_putsAside_21 : decode cX8_putsAside 21 = .ok (.iinc 1 1, 3) := by decide +kernel
theorem dX8_putsAside_24 : decode cX8_putsAside 24 = .ok (.goto (-22), 3) := by decide +kernel
theorem dX8_putsAside_27 : decode cX8_putsAside 27 = .ok (.iconst 0, 1) := by decide +kernel
theorem dX8_putsAside_28 : decode cX8_putsAside 28 = .ok (.istore_n 1, 1) := by decide +kernel
theorem dX8_putsAside_29 : decode cX8_putsAside 29 = .ok (.iload_n 1, 1) := by decide +kernel
theorem dX8_putsAside_30 : decode cX8_putsAside 30 = .ok (.bipush 10, 2) := by decide +kernel
theorem dX8_putsAside_32 : decode cX8_putsAside 32 = .ok (.if_icmp .ge 21, 3) := by decide +kernel
theorem dX8_putsAside_35 : decode cX8_putsAside 35 = .ok (.aload_n 0, 1) := by decide +kernel
theorem dX8_putsAside_36 : decode cX8_putsAside 36 = .ok (.getfield 20, 3) := by decide +kernel
theorem dX8_putsAside_39 : decode cX8_putsAside 39 = .ok (.iload_n 1, 1) := by decide +kernel
theorem dX8_putsAside_40 : decode cX8_putsAside 40 = .ok (.aload_n 0, 1) := by decide +kernel
theorem dX8_putsAside_41 : decode cX8_putsAside 41 = .ok (.getfield 16, 3) := by decide +kernel
theorem dX8_putsAside_44 : decode cX8_putsAside 44 = .ok (.iload_n 1, 1) := by decide +kernel
theorem dX8_putsAside_45 : decode cX8_putsAside 45 = .ok (.laload, 1) := by decide +kernel
theorem dX8_putsAside_46 : decode cX8_putsAside 46 = .ok (.lastore, 1) := by decide +kernel
theorem dX8_putsAside_47 : decode cX8_putsAside 47 = .ok (.iinc 1 1, 3) := by decide +kernel
theorem dX8_putsAside_50 : decode cX8_putsAside 50 = .ok (.goto (-21), 3) := by decide +kernel
theorem dX8_putsAside_53 : decode cX8_putsAside 53 = .ok (.return_, 1) := by decide +kernel
theorem dX8_putsBack_0 : decode cX8_putsBack 0 = .ok (.iconst 0, 1) := by decide +kernel
theorem dX8_putsBack_1 : decode cX8_putsBack 1 = .ok (.istore_n 1, 1) := by decide +kernel
theorem dX8_putsBack_2 : decode cX8_putsBack 2 = .ok (.iload_n 1, 1) := by decide +kernel
theorem dX8_putsBack_3 : decode cX8_putsBack 3 = .ok (.sipush 684, 3) := by decide +kernel
theorem dX8_putsBack_6 : decode cX8_putsBack 6 = .ok (.if_icmp .ge 21, 3) := by decide +kernel
theorem dX8_putsBack_9 : decode cX8_putsBack 9 = .ok (.aload_n 0, 1) := by decide +kernel
theorem dX8_putsBack_10 : decode cX8_putsBack 10 = .ok (.getfield 7, 3) := by decide +kernel
theorem dX8_putsBack_13 : decode cX8_putsBack 13 = .ok (.iload_n 1, 1) := by decide +kernel
theorem dX8_putsBack_14 : decode cX8_putsBack 14 = .ok (.aload_n 0, 1) := by decide +kernel
theorem dX8_putsBack_15 : decode cX8_putsBack 15 = .ok (.getfield 13, 3) := by decide +kernel
theorem dX8_putsBack_18 : decode cX8_putsBack 18 = .ok (.iload_n 1, 1) := by decide +kernel
theorem dX8_putsBack_19 : decode cX8_putsBack 19 = .ok (.iaload, 1) := by decide +kernel
theorem dX8_putsBack_20 : decode cX8_putsBack 20 = .ok (.iastore, 1) := by decide +kernel
theorem dX8_putsBack_21 : decode cX8_putsBack 21 = .ok (.iinc 1 1, 3) := by decide +kernel
theorem dX8_putsBack_24 : decode cX8_putsBack 24 = .ok (.goto (-22), 3) := by decide +kernel
theorem dX8_putsBack_27 : decode cX8_putsBack 27 = .ok (.iconst 0, 1) := by decide +kernel
theorem dX8_putsBack_28 : decode cX8_putsBack 28 = .ok (.istore_n 1, 1) := by decide +kernel
theorem dX8_putsBack_29 : decode cX8_putsBack 29 = .ok (.iload_n 1, 1) := by decide +kernel
theorem dX8_putsBack_30 : decode cX8_putsBack 30 = .ok (.bipush 10, 2) := by decide +kernel
theorem dX8_putsBack_32 : decode cX8_putsBack 32 = .ok (.if_icmp .ge 21, 3) := by decide +kernel
theorem dX8_putsBack_35 : decode cX8_putsBack 35 = .ok (.aload_n 0, 1) := by decide +kernel
theorem dX8_putsBack_36 : decode cX8_putsBack 36 = .ok (.getfield 16, 3) := by decide +kernel
theorem dX8_putsBack_39 : decode cX8_putsBack 39 = .ok (.iload_n 1, 1) := by decide +kernel
theorem dX8_putsBack_40 : decode cX8_putsBack 40 = .ok (.aload_n 0, 1) := by decide +kernel
theorem dX8_putsBack_41 : decode cX8_putsBack 41 = .ok (.getfield 20, 3) := by decide +kernel
theorem dX8_putsBack_44 : decode cX8_putsBack 44 = .ok (.iload_n 1, 1) := by decide +kernel
theorem dX8_putsBack_45 : decode cX8_putsBack 45 = .ok (.laload, 1) := by decide +kernel
theorem dX8_putsBack_46 : decode cX8_putsBack 46 = .ok (.lastore, 1) := by decide +kernel
theorem dX8_putsBack_47 : decode cX8_putsBack 47 = .ok (.iinc 1 1, 3) := by decide +kernel
theorem dX8_putsBack_50 : decode cX8_putsBack 50 = .ok (.goto (-21), 3) := by decide +kernel
theorem dX8_putsBack_53 : decode cX8_putsBack 53 = .ok (.return_, 1) := by decide +kernel
set_option maxRecDepth 20000 in
theorem ggX8_placeOf_X8_ofOrder : GoodIn wsX8_placeOf wsX8_ofOrder := goodIn_r _ [6, 1, 7, 8, 9, 10, 11, 12, 13, 14, 15, 16, 17, 18, 19, 20, 21, 22, 23, 24, 25, 26, 27, 28, 29, 30, 31, 32, 33, 34, 35, 36, 37, 38] (by decide +kernel) (by decide +kernel)
set_option maxRecDepth 20000 in
theorem gX8_placeOf_X8_ofOrder : GoodIn wsX8_placeOf (wsV RX8 49 RX8 yX8_ofOrder wsX8_ofOrder) := goodIn_app (goodIn_of _ (by decide +kernel)) ggX8_placeOf_X8_ofOrder
theorem dX8_placeOf_0 : decode cX8_placeOf 0 = .ok (.iconst 0, 1) := by decide +kernel
theorem dX8_placeOf_1 : decode cX8_placeOf 1 = .ok (.istore_n 2, 1) := by decide +kernel
theorem dX8_placeOf_2 : decode cX8_placeOf 2 = .ok (.iload_n 2, 1) := by decide +kernel
theorem dX8_placeOf_3 : decode cX8_placeOf 3 = .ok (.aload_n 0, 1) := by decide +kernel
theorem dX8_placeOf_4 : decode cX8_placeOf 4 = .ok (.getfield 7, 3) := by decide +kernel
theorem dX8_placeOf_7 : decode cX8_placeOf 7 = .ok (.iconst 5, 1) := by decide +kernel
theorem dX8_placeOf_8 : decode cX8_placeOf 8 = .ok (.iaload, 1) := by decide +kernel
theorem dX8_placeOf_9 : decode cX8_placeOf 9 = .ok (.if_icmp .ge 21, 3) := by decide +kernel
theorem dX8_placeOf_12 : decode cX8_placeOf 12 = .ok (.aload_n 0, 1) := by decide +kernel
theorem dX8_placeOf_13 : decode cX8_placeOf 13 = .ok (.iload_n 2, 1) := by decide +kernel
theorem dX8_placeOf_14 : decode cX8_placeOf 14 = .ok (.iconst 0, 1) := by decide +kernel
theorem dX8_placeOf_15 : decode cX8_placeOf 15 = .ok (.invokevirtual 49, 3) := by decide +kernel
theorem dX8_placeOf_18 : decode cX8_placeOf 18 = .ok (.iload_n 1, 1) := by decide +kernel
theorem dX8_placeOf_19 : decode cX8_placeOf 19 = .ok (.if_icmp .ne 5, 3) := by decide +kernel
theorem dX8_placeOf_22 : decode cX8_placeOf 22 = .ok (.iload_n 2, 1) := by decide +kernel
theorem dX8_placeOf_23 : decode cX8_placeOf 23 = .ok (.ireturn, 1) := by decide +kernel
theorem dX8_placeOf_24 : decode cX8_placeOf 24 = .ok (.iinc 2 1, 3) := by decide +kernel
theorem dX8_placeOf_27 : decode cX8_placeOf 27 = .ok (.goto (-25), 3) := by decide +kernel
theorem dX8_placeOf_30 : decode cX8_placeOf 30 = .ok (.iconst (-1), 1) := by decide +kernel
theorem dX8_placeOf_31 : decode cX8_placeOf 31 = .ok (.ireturn, 1) := by decide +kernel
set_option maxRecDepth 20000 in
theorem ggX8_isAt_X8_ofOrder : GoodIn wsX8_isAt wsX8_ofOrder := goodIn_r _ [5, 6, 7, 8, 9, 10, 11, 12, 13, 14, 15, 16, 17, 18, 19, 20, 21, 22, 23, 24, 25, 26, 27, 28, 29, 30, 31, 32, 33, 34, 35, 36, 37, 38] (by decide +kernel) (by decide +kernel)
set_option maxRecDepth 20000 in
theorem gX8_isAt_X8_ofOrder : GoodIn wsX8_isAt (wsV RX8 49 RX8 yX8_ofOrder wsX8_ofOrder) := goodIn_app (goodIn_of _ (by decide +kernel)) ggX8_isAt_X8_ofOrder
theorem dX8_isAt_0 : decode cX8_isAt 0 = .ok (.aload_n 0, 1) := by decide +kernel
theorem dX8_isAt_1 : decode cX8_isAt 1 = .ok (.iload_n 1, 1) := by decide +kernel
theorem dX8_isAt_2 : decode cX8_isAt 2 = .ok (.iconst 2, 1) := by decide +kernel
theorem dX8_isAt_3 : decode cX8_isAt 3 = .ok (.invokevirtual 49, 3) := by decide +kernel
theorem dX8_isAt_6 : decode cX8_isAt 6 = .ok (.iload_n 2, 1) := by decide +kernel
theorem dX8_isAt_7 : decode cX8_isAt 7 = .ok (.if_icmp .ne 17, 3) := by decide +kernel
theorem dX8_isAt_10 : decode cX8_isAt 10 = .ok (.aload_n 0, 1) := by decide +kernel
theorem dX8_isAt_11 : decode cX8_isAt 11 = .ok (.iload_n 1, 1) := by decide +kernel
theorem dX8_isAt_12 : decode cX8_isAt 12 = .ok (.iconst 3, 1) := by decide +kernel
theorem dX8_isAt_13 : decode cX8_isAt 13 = .ok (.invokevirtual 49, 3) := by decide +kernel
theorem dX8_isAt_16 : decode cX8_isAt 16 = .ok (.iload_n 3, 1) := by decide +kernel
theorem dX8_isAt_17 : decode cX8_isAt 17 = .ok (.if_icmp .ne 7, 3) := by decide +kernel
theorem dX8_isAt_20 : decode cX8_isAt 20 = .ok (.iconst 1, 1) := by decide +kernel
theorem dX8_isAt_21 : decode cX8_isAt 21 = .ok (.goto 4, 3) := by decide +kernel
theorem dX8_isAt_24 : decode cX8_isAt 24 = .ok (.iconst 0, 1) := by decide +kernel
theorem dX8_isAt_25 : decode cX8_isAt 25 = .ok (.ireturn, 1) := by decide +kernel
theorem dX8_isBetter_0 : decode cX8_isBetter 0 = .ok (.iload_n 0, 1) := by decide +kernel
theorem dX8_isBetter_1 : decode cX8_isBetter 1 = .ok (.ifCond .ne 16, 3) := by decide +kernel
theorem dX8_isBetter_4 : decode cX8_isBetter 4 = .ok (.iload_n 1, 1) := by decide +kernel
theorem dX8_isBetter_5 : decode cX8_isBetter 5 = .ok (.iload_n 2, 1) := by decide +kernel
theorem dX8_isBetter_6 : decode cX8_isBetter 6 = .ok (.if_icmp .le 7, 3) := by decide +kernel
theorem dX8_isBetter_9 : decode cX8_isBetter 9 = .ok (.iconst 1, 1) := by decide +kernel
theorem dX8_isBetter_10 : decode cX8_isBetter 10 = .ok (.goto 17, 3) := by decide +kernel
theorem dX8_isBetter_13 : decode cX8_isBetter 13 = .ok (.iconst 0, 1) := by decide +kernel
theorem dX8_isBetter_14 : decode cX8_isBetter 14 = .ok (.goto 13, 3) := by decide +kernel
theorem dX8_isBetter_17 : decode cX8_isBetter 17 = .ok (.iload_n 1, 1) := by decide +kernel
theorem dX8_isBetter_18 : decode cX8_isBetter 18 = .ok (.iload_n 2, 1) := by decide +kernel
theorem dX8_isBetter_19 : decode cX8_isBetter 19 = .ok (.if_icmp .ge 7, 3) := by decide +kernel
theorem dX8_isBetter_22 : decode cX8_isBetter 22 = .ok (.iconst 1, 1) := by decide +kernel
theorem dX8_isBetter_23 : decode cX8_isBetter 23 = .ok (.goto 4, 3) := by decide +kernel
theorem dX8_isBetter_26 : decode cX8_isBetter 26 = .ok (.iconst 0, 1) := by decide +kernel
theorem dX8_isBetter_27 : decode cX8_isBetter 27 = .ok (.ireturn, 1) := by decide +kernel
set_option maxRecDepth 20000 in
theorem ggX8_bestOf_X8_ofOrder : GoodIn wsX8_bestOf wsX8_ofOrder := goodIn_r _ [6, 1, 10, 11, 12, 13, 14, 15, 16, 17, 18, 19, 20, 21, 22, 23, 24, 25, 26, 27, 28, 29, 30, 31, 32, 33, 34, 35, 36, 37, 38, 39, 40, 41] (by decide +kernel) (by decide +kernel)
set_option maxRecDepth 20000 in
theorem gX8_bestOf_X8_ofOrder : GoodIn wsX8_bestOf (wsV RX8 49 RX8 yX8_ofOrder wsX8_ofOrder) := goodIn_app (goodIn_of _ (by decide +kernel)) ggX8_bestOf_X8_ofOrder
set_option maxRecDepth 20000 in
theorem ggX8_bestOf_X8_isBetter : GoodIn wsX8_bestOf wsX8_isBetter := goodIn_r _ [9] (by decide +kernel) (by decide +kernel)
set_option maxRecDepth 20000 in
theorem gX8_bestOf_X8_isBetter : GoodIn wsX8_bestOf (va_wsS RX8 53 yX8_isBetter wsX8_isBetter) := goodIn_app (goodIn_of _ (by decide +kernel)) ggX8_bestOf_X8_isBetter
theorem dX8_bestOf_0 : decode cX8_bestOf 0 = .ok (.iconst 0, 1) := by decide +kernel
theorem dX8_bestOf_1 : decode cX8_bestOf 1 = .ok (.istore_n 2, 1) := by decide +kernel
theorem dX8_bestOf_2 : decode cX8_bestOf 2 = .ok (.iconst 0, 1) := by decide +kernel
theorem dX8_bestOf_3 : decode cX8_bestOf 3 = .ok (.istore_n 3, 1) := by decide +kernel
theorem dX8_bestOf_4 : decode cX8_bestOf 4 = .ok (.iload_n 3, 1) := by decide +kernel
theorem dX8_bestOf_5 : decode cX8_bestOf 5 = .ok (.aload_n 0, 1) := by decide +kernel
theorem dX8_bestOf_6 : decode cX8_bestOf 6 = .ok (.getfield 7, 3) := by decide +kernel
theorem dX8_bestOf_9 : decode cX8_bestOf 9 = .ok (.iconst 5, 1) := by decide +kernel
theorem dX8_bestOf_10 : decode cX8_bestOf 10 = .ok (.iaload, 1) := by decide +kernel
theorem dX8_bestOf_11 : decode cX8_bestOf 11 = .ok (.if_icmp .ge 47, 3) := by decide +kernel
theorem dX8_bestOf_14 : decode cX8_bestOf 14 = .ok (.aload_n 0, 1) := by decide +kernel
theorem dX8_bestOf_15 : decode cX8_bestOf 15 = .ok (.iload_n 3, 1) := by decide +kernel
theorem dX8_bestOf_16 : decode cX8_bestOf 16 = .ok (.iconst 2, 1) := by decide +kernel
theorem dX8_bestOf_17 : decode cX8_bestOf 17 = .ok (.invokevirtual 49, 3) := by decide +kernel
theorem dX8_bestOf_20 : decode cX8_bestOf 20 = .ok (.iload_n 1, 1) := by decide +kernel
theorem dX8_bestOf_21 : decode cX8_bestOf 21 = .ok (.if_icmp .eq 6, 3) := by decide +kernel
theorem dX8_bestOf_24 : decode cX8_bestOf 24 = .ok (.goto 28, 3) := by decide +kernel
theorem dX8_bestOf_27 : decode cX8_bestOf 27 = .ok (.aload_n 0, 1) := by decide +kernel
theorem dX8_bestOf_28 : decode cX8_bestOf 28 = .ok (.iload_n 3, 1) := by decide +kernel
theorem dX8_bestOf_29 : decode cX8_bestOf 29 = .ok (.iconst 3, 1) := by decide +kernel
theorem dX8_bestOf_30 : decode cX8_bestOf 30 = .ok (.invokevirtual 49, 3) := by decide +kernel
theorem dX8_bestOf_33 : decode cX8_bestOf 33 = .ok (.istore 4, 2) := by decide +kernel
theorem dX8_bestOf_35 : decode cX8_bestOf 35 = .ok (.iload_n 2, 1) := by decide +kernel
theorem dX8_bestOf_36 : decode cX8_bestOf 36 = .ok (.ifCond .eq 13, 3) := by decide +kernel
theorem dX8_bestOf_39 : decode cX8_bestOf 39 = .ok (.iload_n 1, 1) := by decide +kernel
theorem dX8_bestOf_40 : decode cX8_bestOf 40 = .ok (.iload 4, 2) := by decide +kernel
theorem dX8_bestOf_42 : decode cX8_bestOf 42 = .ok (.iload_n 2, 1) := by decide +kernel
theorem dX8_bestOf_43 : decode cX8_bestOf 43 = .ok (.invokestatic 53, 3) := by decide +kernel
theorem dX8_bestOf_46 : decode cX8_bestOf 46 = .ok (.ifCond .eq 6, 3) := by decide +kernel
theorem dX8_bestOf_49 : decode cX8_bestOf 49 = .ok (.iload 4, 2) := by decide +kernel
theorem dX8_bestOf_51 : decode cX8_bestOf 51 = .ok (.istore_n 2, 1) := by decide +kernel
theorem dX8_bestOf_52 : decode cX8_bestOf 52 = .ok (.iinc 3 1, 3) := by decide +kernel
theorem dX8_bestOf_55 : decode cX8_bestOf 55 = .ok (.goto (-51), 3) := by decide +kernel
theorem dX8_bestOf_58 : decode cX8_bestOf 58 = .ok (.iload_n 2, 1) := by decide +kernel
theorem dX8_bestOf_59 : decode cX8_bestOf 59 = .ok (.ireturn, 1) := by decide +kernel
set_option maxRecDepth 20000 in
theorem ggX8_sizesAt_X8_isAt : GoodIn wsX8_sizesAt wsX8_isAt := goodIn_r _ [6, 7, 8, 9, 5, 10, 1, 11, 12, 13, 14, 15, 16, 17, 18, 19, 20, 21, 22, 23, 24, 25, 26, 27, 28, 29, 30, 31, 32, 33, 34, 35, 36, 37, 38, 39, 40, 41, 42] (by decide +kernel) (by decide +kernel)
set_option maxRecDepth 20000 in
theorem gX8_sizesAt_X8_isAt : GoodIn wsX8_sizesAt (wsV RX8 57 RX8 yX8_isAt wsX8_isAt) := goodIn_app (goodIn_of _ (by decide +kernel)) ggX8_sizesAt_X8_isAt
set_option maxRecDepth 20000 in
theorem ggX8_sizesAt_X8_ofOrder : GoodIn wsX8_sizesAt wsX8_ofOrder := goodIn_r _ [10, 1, 11, 12, 13, 14, 15, 16, 17, 18, 19, 20, 21, 22, 23, 24, 25, 26, 27, 28, 29, 30, 31, 32, 33, 34, 35, 36, 37, 38, 39, 40, 41, 42] (by decide +kernel) (by decide +kernel)
set_option maxRecDepth 20000 in
theorem gX8_sizesAt_X8_ofOrder : GoodIn wsX8_sizesAt (wsV RX8 49 RX8 yX8_ofOrder wsX8_ofOrder) := goodIn_app (goodIn_of _ (by decide +kernel)) ggX8_sizesAt_X8_ofOrder
theorem dX8_sizesAt_0 : decode cX8_sizesAt 0 = .ok (.iconst 0, 1) := by decide +kernel
theorem dX8_sizesAt_1 : decode cX8_sizesAt 1 = .ok (.istore_n 3, 1) := by decide +kernel
theorem dX8_sizesAt_2 : decode cX8_sizesAt 2 = .ok (.iconst 0, 1) := by decide +kernel
theorem dX8_sizesAt_3 : decode cX8_sizesAt 3 = .ok (.istore 4, 2) := by decide +kernel
theorem dX8_sizesAt_5 : decode cX8_sizesAt 5 = .ok (.iload 4, 2) := by decide +kernel
theorem dX8_sizesAt_7 : decode cX8_sizesAt 7 = .ok (.aload_n 0, 1) := by decide +kernel
theorem dX8_sizesAt_8 : decode cX8_sizesAt 8 = .ok (.getfield 7, 3) := by decide +kernel
theorem dX8_sizesAt_11 : decode cX8_sizesAt 11 = .ok (.iconst 5, 1) := by decide +kernel
theorem dX8_sizesAt_12 : decode cX8_sizesAt 12 = .ok (.iaload, 1) := by decide +kernel
theorem dX8_sizesAt_13 : decode cX8_sizesAt 13 = .ok (.if_icmp .ge 30, 3) := by decide +kernel
theorem dX8_sizesAt_16 : decode cX8_sizesAt 16 = .ok (.aload_n 0, 1) := by decide +kernel
theorem dX8_sizesAt_17 : decode cX8_sizesAt 17 = .ok (.iload 4, 2) := by decide +kernel
theorem dX8_sizesAt_19 : decode cX8_sizesAt 19 = .ok (.iload_n 1, 1) := by decide +kernel
theorem dX8_sizesAt_20 : decode cX8_sizesAt 20 = .ok (.iload_n 2, 1) := by decide +kernel
theorem dX8_sizesAt_21 : decode cX8_sizesAt 21 = .ok (.invokevirtual 57, 3) := by decide +kernel
theorem dX8_sizesAt_24 : decode cX8_sizesAt 24 = .ok (.ifCond .eq 13, 3) := by decide +kernel
theorem dX8_sizesAt_27 : decode cX8_sizesAt 27 = .ok (.iload_n 3, 1) := by decide +kernel
theorem dX8_sizesAt_28 : decode cX8_sizesAt 28 = .ok (.aload_n 0, 1) := by decide +kernel
theorem dX8_sizesAt_29 : decode cX8_sizesAt 29 = .ok (.iload 4, 2) := by decide +kernel
theorem dX8_sizesAt_31 : decode cX8_sizesAt 31 = .ok (.iconst 4, 1) := by decide +kernel
theorem dX8_sizesAt_32 : decode cX8_sizesAt 32 = .ok (.invokevirtual 49, 3) := by decide +kernel
theorem dX8_sizesAt_35 : decode cX8_sizesAt 35 = .ok (.iadd, 1) := by decide +kernel
theorem dX8_sizesAt_36 : decode cX8_sizesAt 36 = .ok (.istore_n 3, 1) := by decide +kernel
theorem dX8_sizesAt_37 : decode cX8_sizesAt 37 = .ok (.iinc 4 1, 3) := by decide +kernel
theorem dX8_sizesAt_40 : decode cX8_sizesAt 40 = .ok (.goto (-35), 3) := by decide +kernel
theorem dX8_sizesAt_43 : decode cX8_sizesAt 43 = .ok (.iload_n 3, 1) := by decide +kernel
theorem dX8_sizesAt_44 : decode cX8_sizesAt 44 = .ok (.ireturn, 1) := by decide +kernel
theorem dX8_lapses_0 : decode cX8_lapses 0 = .ok (.aload_n 0, 1) := by decide +kernel
theorem dX8_lapses_1 : decode cX8_lapses 1 = .ok (.getfield 7, 3) := by decide +kernel
theorem dX8_lapses_4 : decode cX8_lapses 4 = .ok (.bipush 6, 2) := by decide +kernel
theorem dX8_lapses_6 : decode cX8_lapses 6 = .ok (.iload_n 1, 1) := by decide +kernel
theorem dX8_lapses_7 : decode cX8_lapses 7 = .ok (.iadd, 1) := by decide +kernel
theorem dX8_lapses_8 : decode cX8_lapses 8 = .ok (.iconst (-1), 1) := by decide +kernel
theorem dX8_lapses_9 : decode cX8_lapses 9 = .ok (.iastore, 1) := by decide +kernel
theorem dX8_lapses_10 : decode cX8_lapses 10 = .ok (.aload_n 0, 1) := by decide +kernel
theorem dX8_lapses_11 : decode cX8_lapses 11 = .ok (.getfield 7, 3) := by decide +kernel
theorem dX8_lapses_14 : decode cX8_lapses 14 = .ok (.bipush 8, 2) := by decide +kernel
theorem dX8_lapses_16 : decode cX8_lapses 16 = .ok (.iload_n 1, 1) := by decide +kernel
theorem dX8_lapses_17 : decode cX8_lapses 17 = .ok (.iadd, 1) := by decide +kernel
theorem dX8_lapses_18 : decode cX8_lapses 18 = .ok (.iconst 0, 1) := by decide +kernel
theorem dX8_lapses_19 : decode cX8_lapses 19 = .ok (.iastore, 1) := by decide +kernel
theorem dX8_lapses_20 : decode cX8_lapses 20 = .ok (.return_, 1) := by decide +kernel
set_option maxRecDepth 20000 in
theorem ggX8_goes_X8_ofOrder : GoodIn wsX8_goes wsX8_ofOrder := goodIn_r _ [6, 1, 11, 12, 13, 14, 15, 16, 17, 18, 19, 20, 21, 22, 23, 24, 25, 26, 27, 28, 29, 30, 31, 32, 33, 34, 35, 36, 37, 38, 39, 40, 41, 42] (by decide +kernel) (by decide +kernel)
set_option maxRecDepth 20000 in
theorem gX8_goes_X8_ofOrder : GoodIn wsX8_goes (wsV RX8 49 RX8 yX8_ofOrder wsX8_ofOrder) := goodIn_app (goodIn_of _ (by decide +kernel)) ggX8_goes_X8_ofOrder
set_option maxRecDepth 20000 in
theorem ggX8_goes_X8_lapses : GoodIn wsX8_goes wsX8_lapses := goodIn_r _ [10, 1, 11, 12, 13, 14, 15, 16, 17, 18, 19, 20, 21, 22, 23, 24, 25, 26, 27, 28, 29, 30, 31, 32, 33, 34, 35, 36, 37, 38, 39, 40, 41, 42] (by decide +kernel) (by decide +kernel)
set_option maxRecDepth 20000 in
theorem gX8_goes_X8_lapses : GoodIn wsX8_goes (wsV RX8 60 RX8 yX8_lapses wsX8_lapses) := goodIn_app (goodIn_of _ (by decide +kernel)) ggX8_goes_X8_lapses
theorem dX8_goes_0 : decode cX8_goes 0 = .ok (.aload_n 0, 1) := by decide +kernel
theorem dX8_goes_1 : decode cX8_goes 1 = .ok (.iload_n 1, 1) := by decide +kernel
theorem dX8_goes_2 : decode cX8_goes 2 = .ok (.iconst 2, 1) := by decide +kernel
theorem dX8_goes_3 : decode cX8_goes 3 = .ok (.invokevirtual 49, 3) := by decide +kernel
theorem dX8_goes_6 : decode cX8_goes 6 = .ok (.istore_n 2, 1) := by decide +kernel
theorem dX8_goes_7 : decode cX8_goes 7 = .ok (.aload_n 0, 1) := by decide +kernel
theorem dX8_goes_8 : decode cX8_goes 8 = .ok (.getfield 7, 3) := by decide +kernel
theorem dX8_goes_11 : decode cX8_goes 11 = .ok (.bipush 6, 2) := by decide +kernel
theorem dX8_goes_13 : decode cX8_goes 13 = .ok (.iload_n 2, 1) := by decide +kernel
theorem dX8_goes_14 : decode cX8_goes 14 = .ok (.iadd, 1) := by decide +kernel
theorem dX8_goes_15 : decode cX8_goes 15 = .ok (.iaload, 1) := by decide +kernel
theorem dX8_goes_16 : decode cX8_goes 16 = .ok (.aload_n 0, 1) := by decide +kernel
theorem dX8_goes_17 : decode cX8_goes 17 = .ok (.iload_n 1, 1) := by decide +kernel
theorem dX8_goes_18 : decode cX8_goes 18 = .ok (.iconst 0, 1) := by decide +kernel
theorem dX8_goes_19 : decode cX8_goes 19 = .ok (.invokevirtual 49, 3) := by decide +kernel
theorem dX8_goes_22 : decode cX8_goes 22 = .ok (.if_icmp .ne 8, 3) := by decide +kernel
theorem dX8_goes_25 : decode cX8_goes 25 = .ok (.aload_n 0, 1) := by decide +kernel
theorem dX8_goes_26 : decode cX8_goes 26 = .ok (.iload_n 2, 1) := by decide +kernel
theorem dX8_goes_27 : decode cX8_goes 27 = .ok (.invokevirtual 60, 3) := by decide +kernel
theorem dX8_goes_30 : decode cX8_goes 30 = .ok (.aload_n 0, 1) := by decide +kernel
theorem dX8_goes_31 : decode cX8_goes 31 = .ok (.getfield 7, 3) := by decide +kernel
theorem dX8_goes_34 : decode cX8_goes 34 = .ok (.iconst 5, 1) := by decide +kernel
theorem dX8_goes_35 : decode cX8_goes 35 = .ok (.dup2, 1) := by decide +kernel
theorem dX8_goes_36 : decode cX8_goes 36 = .ok (.iaload, 1) := by decide +kernel
theorem dX8_goes_37 : decode cX8_goes 37 = .ok (.iconst 1, 1) := by decide +kernel
theorem dX8_goes_38 : decode cX8_goes 38 = .ok (.isub, 1) := by decide +kernel
theorem dX8_goes_39 : decode cX8_goes 39 = .ok (.iastore, 1) := by decide +kernel
theorem dX8_goes_40 : decode cX8_goes 40 = .ok (.bipush 24, 2) := by decide +kernel
theorem dX8_goes_42 : decode cX8_goes 42 = .ok (.bipush 6, 2) := by decide +kernel
theorem dX8_goes_44 : decode cX8_goes 44 = .ok (.iload_n 1, 1) := by decide +kernel
theorem dX8_goes_45 : decode cX8_goes 45 = .ok (.imul, 1) := by decide +kernel
theorem dX8_goes_46 : decode cX8_goes 46 = .ok (.iadd, 1) := by decide +kernel
theorem dX8_goes_47 : decode cX8_goes 47 = .ok (.istore_n 3, 1) := by decide +kernel
theorem dX8_goes_48 : decode cX8_goes 48 = .ok (.iload_n 3, 1) := by decide +kernel
theorem dX8_goes_49 : decode cX8_goes 49 = .ok (.bipush 24, 2) := by decide +kernel
theorem dX8_goes_51 : decode cX8_goes 51 = .ok (.bipush 6, 2) := by decide +kernel
theorem dX8_goes_53 : decode cX8_goes 53 = .ok (.aload_n 0, 1) := by decide +kernel
theorem dX8_goes_54 : decode cX8_goes 54 = .ok (.getfield 7, 3) := by decide +kernel
theorem dX8_goes_57 : decode cX8_goes 57 = .ok (.iconst 5, 1) := by decide +kernel
theorem dX8_goes_58 : decode cX8_goes 58 = .ok (.iaload, 1) := by decide +kernel
theorem dX8_goes_59 : decode cX8_goes 59 = .ok (.imul, 1) := by decide +kernel
theorem dX8_goes_60 : decode cX8_goes 60 = .ok (.iadd, 1) := by decide +kernel
theorem dX8_goes_61 : decode cX8_goes 61 = .ok (.if_icmp .ge 24, 3) := by decide +kernel
theorem dX8_goes_64 : decode cX8_goes 64 = .ok (.aload_n 0, 1) := by decide +kernel
theorem dX8_goes_65 : decode cX8_goes 65 = .ok (.getfield 7, 3) := by decide +kernel
theorem dX8_goes_68 : decode cX8_goes 68 = .ok (.iload_n 3, 1) := by decide +kernel
theorem dX8_goes_69 : decode cX8_goes 69 = .ok (.aload_n 0, 1) := by decide +kernel
theorem dX8_goes_70 : decode cX8_goes 70 = .ok (.getfield 7, 3) := by decide +kernel
theorem dX8_goes_73 : decode cX8_goes 73 = .ok (.iload_n 3, 1) := by decide +kernel
theorem dX8_goes_74 : decode cX8_goes 74 = .ok (.bipush 6, 2) := by decide +kernel
theorem dX8_goes_76 : decode cX8_goes 76 = .ok (.iadd, 1) := by decide +kernel
theorem dX8_goes_77 : decode cX8_goes 77 = .ok (.iaload, 1) := by decide +kernel
theorem dX8_goes_78 : decode cX8_goes 78 = .ok (.iastore, 1) := by decide +kernel
theorem dX8_goes_79 : decode cX8_goes 79 = .ok (.iinc 3 1, 3) := by decide +kernel
theorem dX8_goes_82 : decode cX8_goes 82 = .ok (.goto (-34), 3) := by decide +kernel
theorem dX8_goes_85 : decode cX8_goes 85 = .ok (.return_, 1) := by decide +kernel
