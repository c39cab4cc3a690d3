theorem dX8_position_14 : decode cX8_position 14 = .ok (.goto 4, 3) := by decide +kernel
theorem dX8_position_17 : decode cX8_position 17 = .ok (.iconst 1, 1) := by decide +kernel
theorem dX8_position_18 : decode cX8_position 18 = .ok (.putfield 45, 3) := by decide +kernel
theorem dX8_position_21 : decode cX8_position 21 = .ok (.aload_n 0, 1) := by decide +kernel
theorem dX8_position_22 : decode cX8_position 22 = .ok (.getfield 45, 3) := by decide +kernel
theorem dX8_position_25 : decode cX8_position 25 = .ok (.ifCond .ne 15, 3) := by decide +kernel
theorem dX8_position_28 : decode cX8_position 28 = .ok (.aload_n 0, 1) := by decide +kernel
theorem dX8_position_29 : decode cX8_position 29 = .ok (.getfield 7, 3) := by decide +kernel
theorem dX8_position_32 : decode cX8_position 32 = .ok (.bipush 14, 2) := by decide +kernel
theorem dX8_position_34 : decode cX8_position 34 = .ok (.iload_n 1, 1) := by decide +kernel
theorem dX8_position_35 : decode cX8_position 35 = .ok (.iadd, 1) := by decide +kernel
theorem dX8_position_36 : decode cX8_position 36 = .ok (.iaload, 1) := by decide +kernel
theorem dX8_position_37 : decode cX8_position 37 = .ok (.goto 4, 3) := by decide +kernel
theorem dX8_position_40 : decode cX8_position 40 = .ok (.iconst 0, 1) := by decide +kernel
theorem dX8_position_41 : decode cX8_position 41 = .ok (.ireturn, 1) := by decide +kernel
set_option maxRecDepth 20000 in
theorem ggX8_money_X8_within : GoodIn wsX8_money wsX8_within := goodIn_r _ [7] (by decide +kernel) (by decide +kernel)
set_option maxRecDepth 20000 in
theorem gX8_money_X8_within : GoodIn wsX8_money (va_wsS RX8 158 yX8_within wsX8_within) := goodIn_app (goodIn_of _ (by decide +kernel)) ggX8_money_X8_within
theorem dX8_money_0 : decode cX8_money 0 = .ok (.aload_n 0, 1) := by decide +kernel
theorem dX8_money_1 : decode cX8_money 1 = .ok (.iload_n 1, 1) := by decide +kernel
theorem dX8_money_2 : decode cX8_money 2 = .ok (.i2l, 1) := by decide +kernel
theorem dX8_money_3 : decode cX8_money 3 = .ok (.lconst 0, 1) := by decide +kernel
theorem dX8_money_4 : decode cX8_money 4 = .ok (.ldc2_w 156, 3) := by decide +kernel
theorem dX8_money_7 : decode cX8_money 7 = .ok (.invokestatic 158, 3) := by decide +kernel
theorem dX8_money_10 : decode cX8_money 10 = .ok (.ifCond .eq 7, 3) := by decide +kernel
theorem dX8_money_13 : decode cX8_money 13 = .ok (.iconst 0, 1) := by decide +kernel
theorem dX8_money_14 : decode cX8_money 14 = .ok (.goto 4, 3) := by decide +kernel
theorem dX8_money_17 : decode cX8_money 17 = .ok (.iconst 1, 1) := by decide +kernel
theorem dX8_money_18 : decode cX8_money 18 = .ok (.putfield 45, 3) := by decide +kernel
theorem dX8_money_21 : decode cX8_money 21 = .ok (.aload_n 0, 1) := by decide +kernel
theorem dX8_money_22 : decode cX8_money 22 = .ok (.getfield 45, 3) := by decide +kernel
theorem dX8_money_25 : decode cX8_money 25 = .ok (.ifCond .ne 12, 3) := by decide +kernel
theorem dX8_money_28 : decode cX8_money 28 = .ok (.aload_n 0, 1) := by decide +kernel
theorem dX8_money_29 : decode cX8_money 29 = .ok (.getfield 16, 3) := by decide +kernel
theorem dX8_money_32 : decode cX8_money 32 = .ok (.iload_n 1, 1) := by decide +kernel
theorem dX8_money_33 : decode cX8_money 33 = .ok (.laload, 1) := by decide +kernel
theorem dX8_money_34 : decode cX8_money 34 = .ok (.goto 4, 3) := by decide +kernel
theorem dX8_money_37 : decode cX8_money 37 = .ok (.lconst 0, 1) := by decide +kernel
theorem dX8_money_38 : decode cX8_money 38 = .ok (.lreturn, 1) := by decide +kernel
theorem dX8_puts_0 : decode cX8_puts 0 = .ok (.bipush 24, 2) := by decide +kernel
theorem dX8_puts_2 : decode cX8_puts 2 = .ok (.istore_n 2, 1) := by decide +kernel
theorem dX8_puts_3 : decode cX8_puts 3 = .ok (.iload_n 2, 1) := by decide +kernel
theorem dX8_puts_4 : decode cX8_puts 4 = .ok (.ifCond .lt 32, 3) := by decide +kernel
theorem dX8_puts_7 : decode cX8_puts 7 = .ok (.aload_n 0, 1) := by decide +kernel
theorem dX8_puts_8 : decode cX8_puts 8 = .ok (.getfield 38, 3) := by decide +kernel
theorem dX8_puts_11 : decode cX8_puts 11 = .ok (.aload_n 0, 1) := by decide +kernel
theorem dX8_puts_12 : decode cX8_puts 12 = .ok (.getfield 264, 3) := by decide +kernel
theorem dX8_puts_15 : decode cX8_puts 15 = .ok (.iload_n 1, 1) := by decide +kernel
theorem dX8_puts_16 : decode cX8_puts 16 = .ok (.iload_n 2, 1) := by decide +kernel
theorem dX8_puts_17 : decode cX8_puts 17 = .ok (.ishr, 1) := by decide +kernel
theorem dX8_puts_18 : decode cX8_puts 18 = .ok (.i2b, 1) := by decide +kernel
theorem dX8_puts_19 : decode cX8_puts 19 = .ok (.bastore, 1) := by decide +kernel
theorem dX8_puts_20 : decode cX8_puts 20 = .ok (.aload_n 0, 1) := by decide +kernel
theorem dX8_puts_21 : decode cX8_puts 21 = .ok (.dup, 1) := by decide +kernel
theorem dX8_puts_22 : decode cX8_puts 22 = .ok (.getfield 264, 3) := by decide +kernel
theorem dX8_puts_25 : decode cX8_puts 25 = .ok (.iconst 1, 1) := by decide +kernel
theorem dX8_puts_26 : decode cX8_puts 26 = .ok (.iadd, 1) := by decide +kernel
theorem dX8_puts_27 : decode cX8_puts 27 = .ok (.putfield 264, 3) := by decide +kernel
theorem dX8_puts_30 : decode cX8_puts 30 = .ok (.iinc 2 (-8), 3) := by decide +kernel
theorem dX8_puts_33 : decode cX8_puts 33 = .ok (.goto (-30), 3) := by decide +kernel
theorem dX8_puts_36 : decode cX8_puts 36 = .ok (.return_, 1) := by decide +kernel
set_option maxRecDepth 20000 in
theorem ggX8_feed_X8_puts : GoodIn wsX8_feed wsX8_puts := goodIn_r _ [7, 8, 2, 9, 10, 11, 12, 13, 14, 15, 16, 17, 18, 19, 20, 21, 22, 23, 24, 25, 26, 27, 28, 29, 30, 31, 32, 33, 34, 35, 36, 37, 38, 39, 40] (by decide +kernel) (by decide +kernel)
set_option maxRecDepth 20000 in
theorem gX8_feed_X8_puts : GoodIn wsX8_feed (wsV RX8 267 RX8 yX8_puts wsX8_puts) := goodIn_app (goodIn_of _ (by decide +kernel)) ggX8_feed_X8_puts
theorem dX8_feed_0 : decode cX8_feed 0 = .ok (.aload_n 0, 1) := by decide +kernel
theorem dX8_feed_1 : decode cX8_feed 1 = .ok (.iconst 0, 1) := by decide +kernel
theorem dX8_feed_2 : decode cX8_feed 2 = .ok (.putfield 45, 3) := by decide +kernel
theorem dX8_feed_5 : decode cX8_feed 5 = .ok (.aload_n 0, 1) := by decide +kernel
theorem dX8_feed_6 : decode cX8_feed 6 = .ok (.getfield 264, 3) := by decide +kernel
theorem dX8_feed_9 : decode cX8_feed 9 = .ok (.bipush 20, 2) := by decide +kernel
theorem dX8_feed_11 : decode cX8_feed 11 = .ok (.iadd, 1) := by decide +kernel
theorem dX8_feed_12 : decode cX8_feed 12 = .ok (.sipush 500, 3) := by decide +kernel
theorem dX8_feed_15 : decode cX8_feed 15 = .ok (.if_icmp .le 5, 3) := by decide +kernel
theorem dX8_feed_18 : decode cX8_feed 18 = .ok (.iconst (-1), 1) := by decide +kernel
theorem dX8_feed_19 : decode cX8_feed 19 = .ok (.ireturn, 1) := by decide +kernel
theorem dX8_feed_20 : decode cX8_feed 20 = .ok (.aload_n 0, 1) := by decide +kernel
theorem dX8_feed_21 : decode cX8_feed 21 = .ok (.iload_n 1, 1) := by decide +kernel
theorem dX8_feed_22 : decode cX8_feed 22 = .ok (.invokevirtual 267, 3) := by decide +kernel
theorem dX8_feed_25 : decode cX8_feed 25 = .ok (.aload_n 0, 1) := by decide +kernel
theorem dX8_feed_26 : decode cX8_feed 26 = .ok (.iload_n 2, 1) := by decide +kernel
theorem dX8_feed_27 : decode cX8_feed 27 = .ok (.invokevirtual 267, 3) := by decide +kernel
theorem dX8_feed_30 : decode cX8_feed 30 = .ok (.aload_n 0, 1) := by decide +kernel
theorem dX8_feed_31 : decode cX8_feed 31 = .ok (.iload_n 3, 1) := by decide +kernel
theorem dX8_feed_32 : decode cX8_feed 32 = .ok (.invokevirtual 267, 3) := by decide +kernel
theorem dX8_feed_35 : decode cX8_feed 35 = .ok (.aload_n 0, 1) := by decide +kernel
theorem dX8_feed_36 : decode cX8_feed 36 = .ok (.iload 4, 2) := by decide +kernel
theorem dX8_feed_38 : decode cX8_feed 38 = .ok (.invokevirtual 267, 3) := by decide +kernel
theorem dX8_feed_41 : decode cX8_feed 41 = .ok (.aload_n 0, 1) := by decide +kernel
theorem dX8_feed_42 : decode cX8_feed 42 = .ok (.iload 5, 2) := by decide +kernel
theorem dX8_feed_44 : decode cX8_feed 44 = .ok (.invokevirtual 267, 3) := by decide +kernel
theorem dX8_feed_47 : decode cX8_feed 47 = .ok (.aload_n 0, 1) := by decide +kernel
theorem dX8_feed_48 : decode cX8_feed 48 = .ok (.getfield 264, 3) := by decide +kernel
theorem dX8_feed_51 : decode cX8_feed 51 = .ok (.ireturn, 1) := by decide +kernel
theorem dX8_see_0 : decode cX8_see 0 = .ok (.iload_n 1, 1) := by decide +kernel
theorem dX8_see_1 : decode cX8_see 1 = .ok (.aload_n 0, 1) := by decide +kernel
theorem dX8_see_2 : decode cX8_see 2 = .ok (.getfield 270, 3) := by decide +kernel
theorem dX8_see_5 : decode cX8_see 5 = .ok (.if_icmp .ge 16, 3) := by decide +kernel
theorem dX8_see_8 : decode cX8_see 8 = .ok (.aload_n 0, 1) := by decide +kernel
theorem dX8_see_9 : decode cX8_see 9 = .ok (.getfield 38, 3) := by decide +kernel
theorem dX8_see_12 : decode cX8_see 12 = .ok (.iload_n 1, 1) := by decide +kernel
theorem dX8_see_13 : decode cX8_see 13 = .ok (.baload, 1) := by decide +kernel
theorem dX8_see_14 : decode cX8_see 14 = .ok (.sipush 255, 3) := by decide +kernel
theorem dX8_see_17 : decode cX8_see 17 = .ok (.iand, 1) := by decide +kernel
theorem dX8_see_18 : decode cX8_see 18 = .ok (.goto 4, 3) := by decide +kernel
theorem dX8_see_21 : decode cX8_see 21 = .ok (.iconst (-1), 1) := by decide +kernel
theorem dX8_see_22 : decode cX8_see 22 = .ok (.ireturn, 1) := by decide +kernel
set_option maxRecDepth 20000 in
theorem ggX8_steps_X8_see : GoodIn wsX8_steps wsX8_see := goodIn_r _ [13, 14, 15, 19, 20, 21, 22, 23, 24, 25, 26, 27, 28, 29, 30, 31, 32, 33, 34, 35, 36, 37, 38, 39, 40, 41, 42, 43, 44, 45, 46, 47, 48, 49, 50] (by decide +kernel) (by decide +kernel)
set_option maxRecDepth 20000 in
theorem gX8_steps_X8_see : GoodIn wsX8_steps (wsV RX8 279 RX8 yX8_see wsX8_see) := goodIn_app (goodIn_of _ (by decide +kernel)) ggX8_steps_X8_see
set_option maxRecDepth 20000 in
theorem ggX8_steps_X8_within : GoodIn wsX8_steps wsX8_within := goodIn_r _ [18] (by decide +kernel) (by decide +kernel)
set_option maxRecDepth 20000 in
theorem gX8_steps_X8_within : GoodIn wsX8_steps (va_wsS RX8 158 yX8_within wsX8_within) := goodIn_app (goodIn_of _ (by decide +kernel)) ggX8_steps_X8_within
theorem dX8_steps_0 : decode cX8_steps 0 = .ok (.aload_n 0, 1) := by decide +kernel
theorem dX8_steps_1 : decode cX8_steps 1 = .ok (.aload_n 0, 1) := by decide +kernel
theorem dX8_steps_2 : decode cX8_steps 2 = .ok (.getfield 273, 3) := by decide +kernel
theorem dX8_steps_5 : decode cX8_steps 5 = .ok (.putfield 276, 3) := by decide +kernel
theorem dX8_steps_8 : decode cX8_steps 8 = .ok (.aload_n 0, 1) := by decide +kernel
theorem dX8_steps_9 : decode cX8_steps 9 = .ok (.aload_n 0, 1) := by decide +kernel
theorem dX8_steps_10 : decode cX8_steps 10 = .ok (.getfield 276, 3) := by decide +kernel
theorem dX8_steps_13 : decode cX8_steps 13 = .ok (.invokevirtual 279, 3) := by decide +kernel
theorem dX8_steps_16 : decode cX8_steps 16 = .ok (.bipush 32, 2) := by decide +kernel
theorem dX8_steps_18 : decode cX8_steps 18 = .ok (.if_icmp .eq 16, 3) := by decide +kernel
theorem dX8_steps_21 : decode cX8_steps 21 = .ok (.aload_n 0, 1) := by decide +kernel
theorem dX8_steps_22 : decode cX8_steps 22 = .ok (.aload_n 0, 1) := by decide +kernel
theorem dX8_steps_23 : decode cX8_steps 23 = .ok (.getfield 276, 3) := by decide +kernel
theorem dX8_steps_26 : decode cX8_steps 26 = .ok (.invokevirtual 279, 3) := by decide +kernel
theorem dX8_steps_29 : decode cX8_steps 29 = .ok (.bipush 10, 2) := by decide +kernel
theorem dX8_steps_31 : decode cX8_steps 31 = .ok (.if_icmp .ne 16, 3) := by decide +kernel
theorem dX8_steps_34 : decode cX8_steps 34 = .ok (.aload_n 0, 1) := by decide +kernel
theorem dX8_steps_35 : decode cX8_steps 35 = .ok (.dup, 1) := by decide +kernel
theorem dX8_steps_36 : decode cX8_steps 36 = .ok (.getfield 276, 3) := by decide +kernel
theorem dX8_steps_39 : decode cX8_steps 39 = .ok (.iconst 1, 1) := by decide +kernel
theorem dX8_steps_40 : decode cX8_steps 40 = .ok (.iadd, 1) := by decide +kernel
theorem dX8_steps_41 : decode cX8_steps 41 = .ok (.putfield 276, 3) := by decide +kernel
theorem dX8_steps_44 : decode cX8_steps 44 = .ok (.goto (-36), 3) := by decide +kernel
theorem dX8_steps_47 : decode cX8_steps 47 = .ok (.aload_n 0, 1) := by decide +kernel
theorem dX8_steps_48 : decode cX8_steps 48 = .ok (.aload_n 0, 1) := by decide +kernel
theorem dX8_steps_49 : decode cX8_steps 49 = .ok (.getfield 276, 3) := by decide +kernel
theorem dX8_steps_52 : decode cX8_steps 52 = .ok (.invokevirtual 279, 3) := by decide +kernel
theorem dX8_steps_55 : decode cX8_steps 55 = .ok (.istore_n 1, 1) := by decide +kernel
theorem dX8_steps_56 : decode cX8_steps 56 = .ok (.aload_n 0, 1) := by decide +kernel
theorem dX8_steps_57 : decode cX8_steps 57 = .ok (.aload_n 0, 1) := by decide +kernel
theorem dX8_steps_58 : decode cX8_steps 58 = .ok (.getfield 276, 3) := by decide +kernel
theorem dX8_steps_61 : decode cX8_steps 61 = .ok (.iconst 1, 1) := by decide +kernel
theorem dX8_steps_62 : decode cX8_steps 62 = .ok (.iadd, 1) := by decide +kernel
theorem dX8_steps_63 : decode cX8_steps 63 = .ok (.putfield 273, 3) := by decide +kernel
theorem dX8_steps_66 : decode cX8_steps 66 = .ok (.aload_n 0, 1) := by decide +kernel
theorem dX8_steps_67 : decode cX8_steps 67 = .ok (.iconst 4, 1) := by decide +kernel
theorem dX8_steps_68 : decode cX8_steps 68 = .ok (.putfield 282, 3) := by decide +kernel
theorem dX8_steps_71 : decode cX8_steps 71 = .ok (.aload_n 0, 1) := by decide +kernel
theorem dX8_steps_72 : decode cX8_steps 72 = .ok (.iconst 0, 1) := by decide +kernel
theorem dX8_steps_73 : decode cX8_steps 73 = .ok (.putfield 285, 3) := by decide +kernel
theorem dX8_steps_76 : decode cX8_steps 76 = .ok (.iload_n 1, 1) := by decide +kernel
theorem dX8_steps_77 : decode cX8_steps 77 = .ok (.iconst (-1), 1) := by decide +kernel
theorem dX8_steps_78 : decode cX8_steps 78 = .ok (.if_icmp .ne 19, 3) := by decide +kernel
theorem dX8_steps_81 : decode cX8_steps 81 = .ok (.aload_n 0, 1) := by decide +kernel
theorem dX8_steps_82 : decode cX8_steps 82 = .ok (.aload_n 0, 1) := by decide +kernel
theorem dX8_steps_83 : decode cX8_steps 83 = .ok (.getfield 276, 3) := by decide +kernel
theorem dX8_steps_86 : decode cX8_steps 86 = .ok (.putfield 273, 3) := by decide +kernel
theorem dX8_steps_89 : decode cX8_steps 89 = .ok (.aload_n 0, 1) := by decide +kernel
theorem dX8_steps_90 : decode cX8_steps 90 = .ok (.iconst 0, 1) := by decide +kernel
theorem dX8_steps_91 : decode cX8_steps 91 = .ok (.putfield 282, 3) := by decide +kernel
theorem dX8_steps_94 : decode cX8_steps 94 = .ok (.goto 204, 3) := by decide +kernel
theorem dX8_steps_97 : decode cX8_steps 97 = .ok (.iload_n 1, 1) := by decide +kernel
theorem dX8_steps_98 : decode cX8_steps 98 = .ok (.bipush 59, 2) := by decide +kernel
theorem dX8_steps_100 : decode cX8_steps 100 = .ok (.if_icmp .ne 11, 3) := by decide +kernel
theorem dX8_steps_103 : decode cX8_steps 103 = .ok (.aload_n 0, 1) := by decide +kernel
theorem dX8_steps_104 : decode cX8_steps 104 = .ok (.iconst 3, 1) := by decide +kernel
theorem dX8_steps_105 : decode cX8_steps 105 = .ok (.putfield 282, 3) := by decide +kernel
theorem dX8_steps_108 : decode cX8_steps 108 = .ok (.goto 190, 3) := by decide +kernel
theorem dX8_steps_111 : decode cX8_steps 111 = .ok (.iload_n 1, 1) := by decide +kernel
theorem dX8_steps_112 : decode cX8_steps 112 = .ok (.i2l, 1) := by decide +kernel
theorem dX8_steps_113 : decode cX8_steps 113 = .ok (.ldc2_w 288, 3) := by decide +kernel
theorem dX8_steps_116 : decode cX8_steps 116 = .ok (.ldc2_w 290, 3) := by decide +kernel
theorem dX8_steps_119 : decode cX8_steps 119 = .ok (.invokestatic 158, 3) := by decide +kernel
theorem dX8_steps_122 : decode cX8_steps 122 = .ok (.ifCond .eq 53, 3) := by decide +kernel
theorem dX8_steps_125 : decode cX8_steps 125 = .ok (.aload_n 0, 1) := by decide +kernel
theorem dX8_steps_126 : decode cX8_steps 126 = .ok (.aload_n 0, 1) := by decide +kernel
theorem dX8_steps_127 : decode cX8_steps 127 = .ok (.getfield 276, 3) := by decide +kernel
theorem dX8_steps_130 : decode cX8_steps 130 = .ok (.putfield 273, 3) := by decide +kernel
theorem dX8_steps_133 : decode cX8_steps 133 = .ok (.aload_n 0, 1) := by decide +kernel
theorem dX8_steps_134 : decode cX8_steps 134 = .ok (.aload_n 0, 1) := by decide +kernel
theorem dX8_steps_135 : decode cX8_steps 135 = .ok (.getfield 273, 3) := by decide +kernel
theorem dX8_steps_138 : decode cX8_steps 138 = .ok (.invokevirtual 279, 3) := by decide +kernel
theorem dX8_steps_141 : decode cX8_steps 141 = .ok (.i2l, 1) := by decide +kernel
theorem dX8_steps_142 : decode cX8_steps 142 = .ok (.ldc2_w 288, 3) := by decide +kernel
theorem dX8_steps_145 : decode cX8_steps 145 = .ok (.ldc2_w 290, 3) := by decide +kernel
theorem dX8_steps_148 : decode cX8_steps 148 = .ok (.invokestatic 158, 3) := by decide +kernel
theorem dX8_steps_151 : decode cX8_steps 151 = .ok (.ifCond .eq 16, 3) := by decide +kernel
theorem dX8_steps_154 : decode cX8_steps 154 = .ok (.aload_n 0, 1) := by decide +kernel
theorem dX8_steps_155 : decode cX8_steps 155 = .ok (.dup, 1) := by decide +kernel
theorem dX8_steps_156 : decode cX8_steps 156 = .ok (.getfield 273, 3) := by decide +kernel
theorem dX8_steps_159 : decode cX8_steps 159 = .ok (.iconst 1, 1) := by decide +kernel
theorem dX8_steps_160 : decode cX8_steps 160 = .ok (.iadd, 1) := by decide +kernel
theorem dX8_steps_161 : decode cX8_steps 161 = .ok (.putfield 273, 3) := by decide +kernel
theorem dX8_steps_164 : decode cX8_steps 164 = .ok (.goto (-31), 3) := by decide +kernel
theorem dX8_steps_167 : decode cX8_steps 167 = .ok (.aload_n 0, 1) := by decide +kernel
theorem dX8_steps_168 : decode cX8_steps 168 = .ok (.iconst 1, 1) := by decide +kernel
theorem dX8_steps_169 : decode cX8_steps 169 = .ok (.putfield 282, 3) := by decide +kernel
theorem dX8_steps_172 : decode cX8_steps 172 = .ok (.goto 126, 3) := by decide +kernel
theorem dX8_steps_175 : decode cX8_steps 175 = .ok (.iload_n 1, 1) := by decide +kernel
theorem dX8_steps_176 : decode cX8_steps 176 = .ok (.i2l, 1) := by decide +kernel
theorem dX8_steps_177 : decode cX8_steps 177 = .ok (.ldc2_w 292, 3) := by decide +kernel
theorem dX8_steps_180 : decode cX8_steps 180 = .ok (.ldc2_w 294, 3) := by decide +kernel
theorem dX8_steps_183 : decode cX8_steps 183 = .ok (.invokestatic 158, 3) := by decide +kernel
theorem dX8_steps_186 : decode cX8_steps 186 = .ok (.ifCond .eq 112, 3) := by decide +kernel
theorem dX8_steps_189 : decode cX8_steps 189 = .ok (.aload_n 0, 1) := by decide +kernel
theorem dX8_steps_190 : decode cX8_steps 190 = .ok (.aload_n 0, 1) := by decide +kernel
theorem dX8_steps_191 : decode cX8_steps 191 = .ok (.getfield 276, 3) := by decide +kernel
theorem dX8_steps_194 : decode cX8_steps 194 = .ok (.putfield 273, 3) := by decide +kernel
theorem dX8_steps_197 : decode cX8_steps 197 = .ok (.aload_n 0, 1) := by decide +kernel
theorem dX8_steps_198 : decode cX8_steps 198 = .ok (.aload_n 0, 1) := by decide +kernel
theorem dX8_steps_199 : decode cX8_steps 199 = .ok (.getfield 273, 3) := by decide +kernel
theorem dX8_steps_202 : decode cX8_steps 202 = .ok (.invokevirtual 279, 3) := by decide +kernel
theorem dX8_steps_205 : decode cX8_steps 205 = .ok (.i2l, 1) := by decide +kernel
theorem dX8_steps_206 : decode cX8_steps 206 = .ok (.ldc2_w 292, 3) := by decide +kernel
theorem dX8_steps_209 : decode cX8_steps 209 = .ok (.ldc2_w 294, 3) := by decide +kernel
theorem dX8_steps_212 : decode cX8_steps 212 = .ok (.invokestatic 158, 3) := by decide +kernel
theorem dX8_steps_215 : decode cX8_steps 215 = .ok (.ifCond .eq 60, 3) := by decide +kernel
theorem dX8_steps_218 : decode cX8_steps 218 = .ok (.aload_n 0, 1) := by decide +kernel
theorem dX8_steps_219 : decode cX8_steps 219 = .ok (.aload_n 0, 1) := by decide +kernel
theorem dX8_steps_220 : decode cX8_steps 220 = .ok (.getfield 273, 3) := by decide +kernel
theorem dX8_steps_223 : decode cX8_steps 223 = .ok (.aload_n 0, 1) := by decide +kernel
theorem dX8_steps_224 : decode cX8_steps 224 = .ok (.getfield 276, 3) := by decide +kernel
theorem dX8_steps_227 : decode cX8_steps 227 = .ok (.isub, 1) := by decide +kernel
theorem dX8_steps_228 : decode cX8_steps 228 = .ok (.bipush 7, 2) := by decide +kernel
theorem dX8_steps_230 : decode cX8_steps 230 = .ok (.if_icmp .ge 25, 3) := by decide +kernel
theorem dX8_steps_233 : decode cX8_steps 233 = .ok (.bipush 10, 2) := by decide +kernel
theorem dX8_steps_235 : decode cX8_steps 235 = .ok (.aload_n 0, 1) := by decide +kernel
theorem dX8_steps_236 : decode cX8_steps 236 = .ok (.getfield 285, 3) := by decide +kernel
theorem dX8_steps_239 : decode cX8_steps 239 = .ok (.imul, 1) := by decide +kernel
theorem dX8_steps_240 : decode cX8_steps 240 = .ok (.aload_n 0, 1) := by decide +kernel
theorem dX8_steps_241 : decode cX8_steps 241 = .ok (.aload_n 0, 1) := by decide +kernel
theorem dX8_steps_242 : decode cX8_steps 242 = .ok (.getfield 273, 3) := by decide +kernel
theorem dX8_steps_245 : decode cX8_steps 245 = .ok (.invokevirtual 279, 3) := by decide +kernel
theorem dX8_steps_248 : decode cX8_steps 248 = .ok (.iadd, 1) := by decide +kernel
theorem dX8_steps_249 : decode cX8_steps 249 = .ok (.bipush 48, 2) := by decide +kernel
theorem dX8_steps_251 : decode cX8_steps 251 = .ok (.isub, 1) := by decide +kernel
theorem dX8_steps_252 : decode cX8_steps 252 = .ok (.goto 7, 3) := by decide +kernel
theorem dX8_steps_255 : decode cX8_steps 255 = .ok (.aload_n 0, 1) := by decide +kernel
theorem dX8_steps_256 : decode cX8_steps 256 = .ok (.getfield 285, 3) := by decide +kernel
theorem dX8_steps_259 : decode cX8_steps 259 = .ok (.putfield 285, 3) := by decide +kernel
theorem dX8_steps_262 : decode cX8_steps 262 = .ok (.aload_n 0, 1) := by decide +kernel
theorem dX8_steps_263 : decode cX8_steps 263 = .ok (.dup, 1) := by decide +kernel
theorem dX8_steps_264 : decode cX8_steps 264 = .ok (.getfield 273, 3) := by decide +kernel
theorem dX8_steps_267 : decode cX8_steps 267 = .ok (.iconst 1, 1) := by decide +kernel
theorem dX8_steps_268 : decode cX8_steps 268 = .ok (.iadd, 1) := by decide +kernel
theorem dX8_steps_269 : decode cX8_steps 269 = .ok (.putfield 273, 3) := by decide +kernel
theorem dX8_steps_272 : decode cX8_steps 272 = .ok (.goto (-75), 3) := by decide +kernel
theorem dX8_steps_275 : decode cX8_steps 275 = .ok (.aload_n 0, 1) := by decide +kernel
theorem dX8_steps_276 : decode cX8_steps 276 = .ok (.aload_n 0, 1) := by decide +kernel
theorem dX8_steps_277 : decode cX8_steps 277 = .ok (.getfield 273, 3) := by decide +kernel
theorem dX8_steps_280 : decode cX8_steps 280 = .ok (.aload_n 0, 1) := by decide +kernel
theorem dX8_steps_281 : decode cX8_steps 281 = .ok (.getfield 276, 3) := by decide +kernel
theorem dX8_steps_284 : decode cX8_steps 284 = .ok (.isub, 1) := by decide +kernel
theorem dX8_steps_285 : decode cX8_steps 285 = .ok (.bipush 8, 2) := by decide +kernel
theorem dX8_steps_287 : decode cX8_steps 287 = .ok (.if_icmp .ge 7, 3) := by decide +kernel
theorem dX8_steps_290 : decode cX8_steps 290 = .ok (.iconst 2, 1) := by decide +kernel
theorem dX8_steps_291 : decode cX8_steps 291 = .ok (.goto 4, 3) := by decide +kernel
theorem dX8_steps_294 : decode cX8_steps 294 = .ok (.iconst 4, 1) := by decide +kernel
theorem dX8_steps_295 : decode cX8_steps 295 = .ok (.putfield 282, 3) := by decide +kernel
theorem dX8_steps_298 : decode cX8_steps 298 = .ok (.return_, 1) := by decide +kernel
theorem dX8_must_0 : decode cX8_must 0 = .ok (.aload_n 0, 1) := by decide +kernel
theorem dX8_must_1 : decode cX8_must 1 = .ok (.getfield 296, 3) := by decide +kernel
theorem dX8_must_4 : decode cX8_must 4 = .ok (.ifCond .ne 20, 3) := by decide +kernel
theorem dX8_must_7 : decode cX8_must 7 = .ok (.iload_n 1, 1) := by decide +kernel
theorem dX8_must_8 : decode cX8_must 8 = .ok (.ifCond .ne 16, 3) := by decide +kernel
theorem dX8_must_11 : decode cX8_must 11 = .ok (.aload_n 0, 1) := by decide +kernel
theorem dX8_must_12 : decode cX8_must 12 = .ok (.iload_n 2, 1) := by decide +kernel
theorem dX8_must_13 : decode cX8_must 13 = .ok (.putfield 296, 3) := by decide +kernel
theorem dX8_must_16 : decode cX8_must 16 = .ok (.aload_n 0, 1) := by decide +kernel
theorem dX8_must_17 : decode cX8_must 17 = .ok (.aload_n 0, 1) := by decide +kernel
theorem dX8_must_18 : decode cX8_must 18 = .ok (.getfield 276, 3) := by decide +kernel
theorem dX8_must_21 : decode cX8_must 21 = .ok (.putfield 299, 3) := by decide +kernel
theorem dX8_must_24 : decode cX8_must 24 = .ok (.aload_n 0, 1) := by decide +kernel
theorem dX8_must_25 : decode cX8_must 25 = .ok (.getfield 296, 3) := by decide +kernel
theorem dX8_must_28 : decode cX8_must 28 = .ok (.ifCond .ne 7, 3) := by decide +kernel
theorem dX8_must_31 : decode cX8_must 31 = .ok (.iconst 1, 1) := by decide +kernel
theorem dX8_must_32 : decode cX8_must 32 = .ok (.goto 4, 3) := by decide +kernel
theorem dX8_must_35 : decode cX8_must 35 = .ok (.iconst 0, 1) := by decide +kernel
theorem dX8_must_36 : decode cX8_must 36 = .ok (.ireturn, 1) := by decide +kernel
set_option maxRecDepth 20000 in
theorem ggX8_isWord_X8_see : GoodIn wsX8_isWord wsX8_see := goodIn_r _ [8, 9, 10, 11, 12, 13, 14, 15, 16, 17, 18, 19, 20, 21, 22, 23, 24, 25, 26, 27, 28, 29, 30, 31, 32, 33, 34, 35, 36, 37, 38, 39, 40, 41, 42] (by decide +kernel) (by decide +kernel)
set_option maxRecDepth 20000 in
theorem gX8_isWord_X8_see : GoodIn wsX8_isWord (wsV RX8 279 RX8 yX8_see wsX8_see) := goodIn_app (goodIn_of _ (by decide +kernel)) ggX8_isWord_X8_see
theorem dX8_isWord_0 : decode cX8_isWord 0 = .ok (.iload 5, 2) := by decide +kernel
theorem dX8_isWord_2 : decode cX8_isWord 2 = .ok (.ifCond .le 7, 3) := by decide +kernel
theorem dX8_isWord_5 : decode cX8_isWord 5 = .ok (.iconst 5, 1) := by decide +kernel
theorem dX8_isWord_6 : decode cX8_isWord 6 = .ok (.goto 13, 3) := by decide +kernel
theorem dX8_isWord_9 : decode cX8_isWord 9 = .ok (.iload 4, 2) := by decide +kernel
theorem dX8_isWord_11 : decode cX8_isWord 11 = .ok (.ifCond .le 7, 3) := by decide +kernel
theorem dX8_isWord_14 : decode cX8_isWord 14 = .ok (.iconst 4, 1) := by decide +kernel
theorem dX8_isWord_15 : decode cX8_isWord 15 = .ok (.goto 4, 3) := by decide +kernel
theorem dX8_isWord_18 : decode cX8_isWord 18 = .ok (.iconst 3, 1) := by decide +kernel
theorem dX8_isWord_19 : decode cX8_isWord 19 = .ok (.istore 6, 2) := by decide +kernel
theorem dX8_isWord_21 : decode cX8_isWord 21 = .ok (.aload_n 0, 1) := by decide +kernel
theorem dX8_isWord_22 : decode cX8_isWord 22 = .ok (.getfield 282, 3) := by decide +kernel
theorem dX8_isWord_25 : decode cX8_isWord 25 = .ok (.iconst 1, 1) := by decide +kernel
theorem dX8_isWord_26 : decode cX8_isWord 26 = .ok (.if_icmp .ne 17, 3) := by decide +kernel
theorem dX8_isWord_29 : decode cX8_isWord 29 = .ok (.aload_n 0, 1) := by decide +kernel
theorem dX8_isWord_30 : decode cX8_isWord 30 = .ok (.getfield 273, 3) := by decide +kernel
theorem dX8_isWord_33 : decode cX8_isWord 33 = .ok (.aload_n 0, 1) := by decide +kernel
theorem dX8_isWord_34 : decode cX8_isWord 34 = .ok (.getfield 276, 3) := by decide +kernel
theorem dX8_isWord_37 : decode cX8_isWord 37 = .ok (.isub, 1) := by decide +kernel
theorem dX8_isWord_38 : decode cX8_isWord 38 = .ok (.iload 6, 2) := by decide +kernel
theorem dX8_isWord_40 : decode cX8_isWord 40 = .ok (.if_icmp .eq 5, 3) := by decide +kernel
theorem dX8_isWord_43 : decode cX8_isWord 43 = .ok (.iconst 0, 1) := by decide +kernel
theorem dX8_isWord_44 : decode cX8_isWord 44 = .ok (.ireturn, 1) := by decide +kernel
theorem dX8_isWord_45 : decode cX8_isWord 45 = .ok (.aload_n 0, 1) := by decide +kernel
theorem dX8_isWord_46 : decode cX8_isWord 46 = .ok (.aload_n 0, 1) := by decide +kernel
theorem dX8_isWord_47 : decode cX8_isWord 47 = .ok (.getfield 276, 3) := by decide +kernel
theorem dX8_isWord_50 : decode cX8_isWord 50 = .ok (.invokevirtual 279, 3) := by decide +kernel
theorem dX8_isWord_53 : decode cX8_isWord 53 = .ok (.iload_n 1, 1) := by decide +kernel
theorem dX8_isWord_54 : decode cX8_isWord 54 = .ok (.if_icmp .ne 77, 3) := by decide +kernel
theorem dX8_isWord_57 : decode cX8_isWord 57 = .ok (.aload_n 0, 1) := by decide +kernel
theorem dX8_isWord_58 : decode cX8_isWord 58 = .ok (.aload_n 0, 1) := by decide +kernel
theorem dX8_isWord_59 : decode cX8_isWord 59 = .ok (.getfield 276, 3) := by decide +kernel
theorem dX8_isWord_62 : decode cX8_isWord 62 = .ok (.iconst 1, 1) := by decide +kernel
theorem dX8_isWord_63 : decode cX8_isWord 63 = .ok (.iadd, 1) := by decide +kernel
theorem dX8_isWord_64 : decode cX8_isWord 64 = .ok (.invokevirtual 279, 3) := by decide +kernel
theorem dX8_isWord_67 : decode cX8_isWord 67 = .ok (.iload_n 2, 1) := by decide +kernel
theorem dX8_isWord_68 : decode cX8_isWord 68 = .ok (.if_icmp .ne 63, 3) := by decide +kernel
theorem dX8_isWord_71 : decode cX8_isWord 71 = .ok (.aload_n 0, 1) := by decide +kernel
theorem dX8_isWord_72 : decode cX8_isWord 72 = .ok (.aload_n 0, 1) := by decide +kernel
theorem dX8_isWord_73 : decode cX8_isWord 73 = .ok (.getfield 276, 3) := by decide +kernel
theorem dX8_isWord_76 : decode cX8_isWord 76 = .ok (.iconst 2, 1) := by decide +kernel
theorem dX8_isWord_77 : decode cX8_isWord 77 = .ok (.iadd, 1) := by decide +kernel
theorem dX8_isWord_78 : decode cX8_isWord 78 = .ok (.invokevirtual 279, 3) := by decide +kernel
theorem dX8_isWord_81 : decode cX8_isWord 81 = .ok (.iload_n 3, 1) := by decide +kernel
theorem dX8_isWord_82 : decode cX8_isWord 82 = .ok (.if_icmp .ne 49, 3) := by decide +kernel
theorem dX8_isWord_85 : decode cX8_isWord 85 = .ok (.iload 6, 2) := by decide +kernel
theorem dX8_isWord_87 : decode cX8_isWord 87 = .ok (.iconst 4, 1) := by decide +kernel
theorem dX8_isWord_88 : decode cX8_isWord 88 = .ok (.if_icmp .lt 18, 3) := by decide +kernel
theorem dX8_isWord_91 : decode cX8_isWord 91 = .ok (.aload_n 0, 1) := by decide +kernel
theorem dX8_isWord_92 : decode cX8_isWord 92 = .ok (.aload_n 0, 1) := by decide +kernel
theorem dX8_isWord_93 : decode cX8_isWord 93 = .ok (.getfield 276, 3) := by decide +kernel
theorem dX8_isWord_96 : decode cX8_isWord 96 = .ok (.iconst 3, 1) := by decide +kernel
theorem dX8_isWord_97 : decode cX8_isWord 97 = .ok (.iadd, 1) := by decide +kernel
theorem dX8_isWord_98 : decode cX8_isWord 98 = .ok (.invokevirtual 279, 3) := by decide +kernel
theorem dX8_isWord_101 : decode cX8_isWord 101 = .ok (.iload 4, 2) := by decide +kernel
theorem dX8_isWord_103 : decode cX8_isWord 103 = .ok (.if_icmp .ne 28, 3) := by decide +kernel
theorem dX8_isWord_106 : decode cX8_isWord 106 = .ok (.iload 6, 2) := by decide +kernel
theorem dX8_isWord_108 : decode cX8_isWord 108 = .ok (.iconst 5, 1) := by decide +kernel
theorem dX8_isWord_109 : decode cX8_isWord 109 = .ok (.if_icmp .lt 18, 3) := by decide +kernel
theorem dX8_isWord_112 : decode cX8_isWord 112 = .ok (.aload_n 0, 1) := by decide +kernel
theorem dX8_isWord_113 : decode cX8_isWord 113 = .ok (.aload_n 0, 1) := by decide +kernel
theorem dX8_isWord_114 : decode cX8_isWord 114 = .ok (.getfield 276, 3) := by decide +kernel
theorem dX8_isWord_117 : decode cX8_isWord 117 = .ok (.iconst 4, 1) := by decide +kernel
theorem dX8_isWord_118 : decode cX8_isWord 118 = .ok (.iadd, 1) := by decide +kernel
theorem dX8_isWord_119 : decode cX8_isWord 119 = .ok (.invokevirtual 279, 3) := by decide +kernel
theorem dX8_isWord_122 : decode cX8_isWord 122 = .ok (.iload 5, 2) := by decide +kernel
theorem dX8_isWord_124 : decode cX8_isWord 124 = .ok (.if_icmp .ne 7, 3) := by decide +kernel
theorem dX8_isWord_127 : decode cX8_isWord 127 = .ok (.iconst 1, 1) := by decide +kernel
theorem dX8_isWord_128 : decode cX8_isWord 128 = .ok (.goto 4, 3) := by decide +kernel
theorem dX8_isWord_131 : decode cX8_isWord 131 = .ok (.iconst 0, 1) := by decide +kernel
theorem dX8_isWord_132 : decode cX8_isWord 132 = .ok (.ireturn, 1) := by decide +kernel
set_option maxRecDepth 20000 in
theorem ggX8_reads_X8_must : GoodIn wsX8_reads wsX8_must := goodIn_r _ [9, 10, 11, 12, 31, 32, 33, 34, 35, 36, 37, 38, 39, 40, 41, 42, 43, 44, 45, 46, 47, 48, 49, 50, 51, 52, 53, 54, 55, 56, 57, 58, 59, 60, 61, 62] (by decide +kernel) (by decide +kernel)
set_option maxRecDepth 20000 in
theorem gX8_reads_X8_must : GoodIn wsX8_reads (wsV RX8 302 RX8 yX8_must wsX8_must) := goodIn_app (goodIn_of _ (by decide +kernel)) ggX8_reads_X8_must
set_option maxRecDepth 20000 in
theorem ggX8_reads_X8_within : GoodIn wsX8_reads wsX8_within := goodIn_r _ [15] (by decide +kernel) (by decide +kernel)
set_option maxRecDepth 20000 in
theorem gX8_reads_X8_within : GoodIn wsX8_reads (va_wsS RX8 158 yX8_within wsX8_within) := goodIn_app (goodIn_of _ (by decide +kernel)) ggX8_reads_X8_within
set_option maxRecDepth 20000 in
theorem ggX8_reads_X8_steps : GoodIn wsX8_reads wsX8_steps := goodIn_r _ [19, 20, 11, 1, 2, 21, 22, 23, 24, 25, 26, 27, 8, 28, 29, 30, 13, 14, 15, 31, 32, 33, 34, 35, 36, 37, 38, 39, 40, 41, 42, 43, 44, 45, 46, 47, 48, 49, 50, 51, 52, 53, 54, 55, 56, 57, 58, 59, 60, 61, 62] (by decide +kernel) (by decide +kernel)
set_option maxRecDepth 20000 in
theorem gX8_reads_X8_steps : GoodIn wsX8_reads (wsV RX8 309 RX8 yX8_steps wsX8_steps) := goodIn_app (goodIn_of _ (by decide +kernel)) ggX8_reads_X8_steps
theorem dX8_reads_0 : decode cX8_reads 0 = .ok (.aload_n 0, 1) := by decide +kernel
theorem dX8_reads_1 : decode cX8_reads 1 = .ok (.aload_n 0, 1) := by decide +kernel
theorem dX8_reads_2 : decode cX8_reads 2 = .ok (.getfield 282, 3) := by decide +kernel
theorem dX8_reads_5 : decode cX8_reads 5 = .ok (.iconst 2, 1) := by decide +kernel
theorem dX8_reads_6 : decode cX8_reads 6 = .ok (.if_icmp .ne 7, 3) := by decide +kernel
theorem dX8_reads_9 : decode cX8_reads 9 = .ok (.iconst 1, 1) := by decide +kernel
theorem dX8_reads_10 : decode cX8_reads 10 = .ok (.goto 4, 3) := by decide +kernel
theorem dX8_reads_13 : decode cX8_reads 13 = .ok (.iconst 0, 1) := by decide +kernel
theorem dX8_reads_14 : decode cX8_reads 14 = .ok (.iconst 1, 1) := by decide +kernel
theorem dX8_reads_15 : decode cX8_reads 15 = .ok (.invokevirtual 302, 3) := by decide +kernel
theorem dX8_reads_18 : decode cX8_reads 18 = .ok (.ifCond .eq 23, 3) := by decide +kernel
theorem dX8_reads_21 : decode cX8_reads 21 = .ok (.aload_n 0, 1) := by decide +kernel
theorem dX8_reads_22 : decode cX8_reads 22 = .ok (.aload_n 0, 1) := by decide +kernel
theorem dX8_reads_23 : decode cX8_reads 23 = .ok (.getfield 285, 3) := by decide +kernel
theorem dX8_reads_26 : decode cX8_reads 26 = .ok (.i2l, 1) := by decide +kernel
theorem dX8_reads_27 : decode cX8_reads 27 = .ok (.iload_n 2, 1) := by decide +kernel
theorem dX8_reads_28 : decode cX8_reads 28 = .ok (.i2l, 1) := by decide +kernel
theorem dX8_reads_29 : decode cX8_reads 29 = .ok (.iload_n 3, 1) := by decide +kernel
theorem dX8_reads_30 : decode cX8_reads 30 = .ok (.i2l, 1) := by decide +kernel
theorem dX8_reads_31 : decode cX8_reads 31 = .ok (.invokestatic 158, 3) := by decide +kernel
theorem dX8_reads_34 : decode cX8_reads 34 = .ok (.iconst 2, 1) := by decide +kernel
theorem dX8_reads_35 : decode cX8_reads 35 = .ok (.invokevirtual 302, 3) := by decide +kernel
theorem dX8_reads_38 : decode cX8_reads 38 = .ok (.ifCond .ne 5, 3) := by decide +kernel
theorem dX8_reads_41 : decode cX8_reads 41 = .ok (.iconst 0, 1) := by decide +kernel
theorem dX8_reads_42 : decode cX8_reads 42 = .ok (.ireturn, 1) := by decide +kernel
theorem dX8_reads_43 : decode cX8_reads 43 = .ok (.aload_n 0, 1) := by decide +kernel
theorem dX8_reads_44 : decode cX8_reads 44 = .ok (.getfield 42, 3) := by decide +kernel
theorem dX8_reads_47 : decode cX8_reads 47 = .ok (.iconst 5, 1) := by decide +kernel
theorem dX8_reads_48 : decode cX8_reads 48 = .ok (.aload_n 0, 1) := by decide +kernel
theorem dX8_reads_49 : decode cX8_reads 49 = .ok (.getfield 306, 3) := by decide +kernel
theorem dX8_reads_52 : decode cX8_reads 52 = .ok (.imul, 1) := by decide +kernel
theorem dX8_reads_53 : decode cX8_reads 53 = .ok (.iload_n 1, 1) := by decide +kernel
theorem dX8_reads_54 : decode cX8_reads 54 = .ok (.iadd, 1) := by decide +kernel
theorem dX8_reads_55 : decode cX8_reads 55 = .ok (.aload_n 0, 1) := by decide +kernel
theorem dX8_reads_56 : decode cX8_reads 56 = .ok (.getfield 285, 3) := by decide +kernel
theorem dX8_reads_59 : decode cX8_reads 59 = .ok (.iastore, 1) := by decide +kernel
theorem dX8_reads_60 : decode cX8_reads 60 = .ok (.aload_n 0, 1) := by decide +kernel
theorem dX8_reads_61 : decode cX8_reads 61 = .ok (.invokevirtual 309, 3) := by decide +kernel
theorem dX8_reads_64 : decode cX8_reads 64 = .ok (.iconst 1, 1) := by decide +kernel
theorem dX8_reads_65 : decode cX8_reads 65 = .ok (.ireturn, 1) := by decide +kernel
set_option maxRecDepth 20000 in
theorem ggX8_kindHere_X8_isWord : GoodIn wsX8_kindHere wsX8_isWord := goodIn_r _ [5, 6, 7, 8, 9, 10, 11, 4, 12, 13, 14, 15, 16, 17, 18, 19, 20, 21, 22, 23, 24, 25, 26, 27, 28, 29, 30, 31, 32, 33, 34, 35, 36, 37, 38, 39, 40, 41, 42, 43, 44, 45, 46] (by decide +kernel) (by decide +kernel)
set_option maxRecDepth 20000 in
theorem gX8_kindHere_X8_isWord : GoodIn wsX8_kindHere (wsV RX8 312 RX8 yX8_isWord wsX8_isWord) := goodIn_app (goodIn_of _ (by decide +kernel)) ggX8_kindHere_X8_isWord
theorem dX8_kindHere_0 : decode cX8_kindHere 0 = .ok (.aload_n 0, 1) := by decide +kernel
theorem dX8_kindHere_1 : decode cX8_kindHere 1 = .ok (.bipush 98, 2) := by decide +kernel
theorem dX8_kindHere_3 : decode cX8_kindHere 3 = .ok (.bipush 117, 2) := by decide +kernel
theorem dX8_kindHere_5 : decode cX8_kindHere 5 = .ok (.bipush 121, 2) := by decide +kernel
theorem dX8_kindHere_7 : decode cX8_kindHere 7 = .ok (.iconst 0, 1) := by decide +kernel
theorem dX8_kindHere_8 : decode cX8_kindHere 8 = .ok (.iconst 0, 1) := by decide +kernel
theorem dX8_kindHere_9 : decode cX8_kindHere 9 = .ok (.invokevirtual 312, 3) := by decide +kernel
theorem dX8_kindHere_12 : decode cX8_kindHere 12 = .ok (.ifCond .eq 5, 3) := by decide +kernel
theorem dX8_kindHere_15 : decode cX8_kindHere 15 = .ok (.iconst 0, 1) := by decide +kernel
theorem dX8_kindHere_16 : decode cX8_kindHere 16 = .ok (.ireturn, 1) := by decide +kernel
theorem dX8_kindHere_17 : decode cX8_kindHere 17 = .ok (.aload_n 0, 1) := by decide +kernel
theorem dX8_kindHere_18 : decode cX8_kindHere 18 = .ok (.bipush 115, 2) := by decide +kernel
theorem dX8_kindHere_20 : decode cX8_kindHere 20 = .ok (.bipush 101, 2) := by decide +kernel
theorem dX8_kindHere_22 : decode cX8_kindHere 22 = .ok (.bipush 108, 2) := by decide +kernel
theorem dX8_kindHere_24 : decode cX8_kindHere 24 = .ok (.bipush 108, 2) := by decide +kernel
theorem dX8_kindHere_26 : decode cX8_kindHere 26 = .ok (.iconst 0, 1) := by decide +kernel
theorem dX8_kindHere_27 : decode cX8_kindHere 27 = .ok (.invokevirtual 312, 3) := by decide +kernel
theorem dX8_kindHere_30 : decode cX8_kindHere 30 = .ok (.ifCond .eq 5, 3) := by decide +kernel
theorem dX8_kindHere_33 : decode cX8_kindHere 33 = .ok (.iconst 1, 1) := by decide +kernel
theorem dX8_kindHere_34 : decode cX8_kindHere 34 = .ok (.ireturn, 1) := by decide +kernel
theorem dX8_kindHere_35 : decode cX8_kindHere 35 = .ok (.aload_n 0, 1) := by decide +kernel
theorem dX8_kindHere_36 : decode cX8_kindHere 36 = .ok (.bipush 111, 2) := by decide +kernel
theorem dX8_kindHere_38 : decode cX8_kindHere 38 = .ok (.bipush 102, 2) := by decide +kernel
theorem dX8_kindHere_40 : decode cX8_kindHere 40 = .ok (.bipush 102, 2) := by decide +kernel
theorem dX8_kindHere_42 : decode cX8_kindHere 42 = .ok (.iconst 0, 1) := by decide +kernel
theorem dX8_kindHere_43 : decode cX8_kindHere 43 = .ok (.iconst 0, 1) := by decide +kernel
theorem dX8_kindHere_44 : decode cX8_kindHere 44 = .ok (.invokevirtual 312, 3) := by decide +kernel
theorem dX8_kindHere_47 : decode cX8_kindHere 47 = .ok (.ifCond .eq 5, 3) := by decide +kernel
theorem dX8_kindHere_50 : decode cX8_kindHere 50 = .ok (.iconst 2, 1) := by decide +kernel
theorem dX8_kindHere_51 : decode cX8_kindHere 51 = .ok (.ireturn, 1) := by decide +kernel
theorem dX8_kindHere_52 : decode cX8_kindHere 52 = .ok (.aload_n 0, 1) := by decide +kernel
theorem dX8_kindHere_53 : decode cX8_kindHere 53 = .ok (.bipush 99, 2) := by decide +kernel
theorem dX8_kindHere_55 : decode cX8_kindHere 55 = .ok (.bipush 117, 2) := by decide +kernel
theorem dX8_kindHere_57 : decode cX8_kindHere 57 = .ok (.bipush 116, 2) := by decide +kernel
theorem dX8_kindHere_59 : decode cX8_kindHere 59 = .ok (.iconst 0, 1) := by decide +kernel
theorem dX8_kindHere_60 : decode cX8_kindHere 60 = .ok (.iconst 0, 1) := by decide +kernel
theorem dX8_kindHere_61 : decode cX8_kindHere 61 = .ok (.invokevirtual 312, 3) := by decide +kernel
theorem dX8_kindHere_64 : decode cX8_kindHere 64 = .ok (.ifCond .eq 5, 3) := by decide +kernel
theorem dX8_kindHere_67 : decode cX8_kindHere 67 = .ok (.iconst 3, 1) := by decide +kernel
theorem dX8_kindHere_68 : decode cX8_kindHere 68 = .ok (.ireturn, 1) := by decide +kernel
theorem dX8_kindHere_69 : decode cX8_kindHere 69 = .ok (.aload_n 0, 1) := by decide +kernel
theorem dX8_kindHere_70 : decode cX8_kindHere 70 = .ok (.bipush 103, 2) := by decide +kernel
theorem dX8_kindHere_72 : decode cX8_kindHere 72 = .ok (.bipush 114, 2) := by decide +kernel
theorem dX8_kindHere_74 : decode cX8_kindHere 74 = .ok (.bipush 97, 2) := by decide +kernel
theorem dX8_kindHere_76 : decode cX8_kindHere 76 = .ok (.bipush 110, 2) := by decide +kernel
theorem dX8_kindHere_78 : decode cX8_kindHere 78 = .ok (.bipush 116, 2) := by decide +kernel
theorem dX8_kindHere_80 : decode cX8_kindHere 80 = .ok (.invokevirtual 312, 3) := by decide +kernel
theorem dX8_kindHere_83 : decode cX8_kindHere 83 = .ok (.ifCond .eq 5, 3) := by decide +kernel
theorem dX8_kindHere_86 : decode cX8_kindHere 86 = .ok (.iconst 4, 1) := by decide +kernel
theorem dX8_kindHere_87 : decode cX8_kindHere 87 = .ok (.ireturn, 1) := by decide +kernel
theorem dX8_kindHere_88 : decode cX8_kindHere 88 = .ok (.aload_n 0, 1) := by decide +kernel
theorem dX8_kindHere_89 : decode cX8_kindHere 89 = .ok (.bipush 108, 2) := by decide +kernel
theorem dX8_kindHere_91 : decode cX8_kindHere 91 = .ok (.bipush 101, 2) := by decide +kernel
theorem dX8_kindHere_93 : decode cX8_kindHere 93 = .ok (.bipush 97, 2) := by decide +kernel
theorem dX8_kindHere_95 : decode cX8_kindHere 95 = .ok (.bipush 115, 2) := by decide +kernel
theorem dX8_kindHere_97 : decode cX8_kindHere 97 = .ok (.bipush 116, 2) := by decide +kernel
theorem dX8_kindHere_99 : decode cX8_kindHere 99 = .ok (.invokevirtual 312, 3) := by decide +kernel
theorem dX8_kindHere_102 : decode cX8_kindHere 102 = .ok (.ifCond .eq 5, 3) := by decide +kernel
theorem dX8_kindHere_105 : decode cX8_kindHere 105 = .ok (.iconst 5, 1) := by decide +kernel
theorem dX8_kindHere_106 : decode cX8_kindHere 106 = .ok (.ireturn, 1) := by decide +kernel
theorem dX8_kindHere_107 : decode cX8_kindHere 107 = .ok (.aload_n 0, 1) := by decide +kernel
theorem dX8_kindHere_108 : decode cX8_kindHere 108 = .ok (.bipush 99, 2) := by decide +kernel
theorem dX8_kindHere_110 : decode cX8_kindHere 110 = .ok (.bipush 97, 2) := by decide +kernel
theorem dX8_kindHere_112 : decode cX8_kindHere 112 = .ok (.bipush 108, 2) := by decide +kernel
theorem dX8_kindHere_114 : decode cX8_kindHere 114 = .ok (.bipush 108, 2) := by decide +kernel
theorem dX8_kindHere_116 : decode cX8_kindHere 116 = .ok (.iconst 0, 1) := by decide +kernel
theorem dX8_kindHere_117 : decode cX8_kindHere 117 = .ok (.invokevirtual 312, 3) := by decide +kernel
theorem dX8_kindHere_120 : decode cX8_kindHere 120 = .ok (.ifCond .eq 6, 3) := by decide +kernel
theorem dX8_kindHere_123 : decode cX8_kindHere 123 = .ok (.bipush 6, 2) := by decide +kernel
theorem dX8_kindHere_125 : decode cX8_kindHere 125 = .ok (.ireturn, 1) := by decide +kernel
theorem dX8_kindHere_126 : decode cX8_kindHere 126 = .ok (.aload_n 0, 1) := by decide +kernel
theorem dX8_kindHere_127 : decode cX8_kindHere 127 = .ok (.bipush 111, 2) := by decide +kernel
theorem dX8_kindHere_129 : decode cX8_kindHere 129 = .ok (.bipush 112, 2) := by decide +kernel
theorem dX8_kindHere_131 : decode cX8_kindHere 131 = .ok (.bipush 101, 2) := by decide +kernel
theorem dX8_kindHere_133 : decode cX8_kindHere 133 = .ok (.bipush 110, 2) := by decide +kernel
theorem dX8_kindHere_135 : decode cX8_kindHere 135 = .ok (.iconst 0, 1) := by decide +kernel
theorem dX8_kindHere_136 : decode cX8_kindHere 136 = .ok (.invokevirtual 312, 3) := by decide +kernel
theorem dX8_kindHere_139 : decode cX8_kindHere 139 = .ok (.ifCond .eq 8, 3) := by decide +kernel
theorem dX8_kindHere_142 : decode cX8_kindHere 142 = .ok (.bipush 7, 2) := by decide +kernel
theorem dX8_kindHere_144 : decode cX8_kindHere 144 = .ok (.goto 4, 3) := by decide +kernel
theorem dX8_kindHere_147 : decode cX8_kindHere 147 = .ok (.iconst (-1), 1) := by decide +kernel
theorem dX8_kindHere_148 : decode cX8_kindHere 148 = .ok (.ireturn, 1) := by decide +kernel
set_option maxRecDepth 20000 in
theorem ggX8_readsOrder_X8_reads : GoodIn wsX8_readsOrder wsX8_reads := goodIn_r _ [10, 1, 2, 4, 5, 11, 12, 13, 9, 14, 15, 16, 17, 18, 19, 20, 21, 22, 23, 24, 25, 26, 27, 28, 29, 30, 31, 32, 33, 34, 35, 44, 45, 46, 47, 48, 49, 50, 51, 52, 53, 54, 55, 56, 57, 58, 59, 60, 61, 62, 63, 64, 65, 66, 67, 68, 69, 70, 71, 72, 73, 74, 75] (by decide +kernel) (by decide +kernel)
