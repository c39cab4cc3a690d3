theorem dX6_readNumbers_93 : decode cX6_readNumbers 93 = .ok (.iconst 1, 1) := by decide +kernel
theorem dX6_readNumbers_94 : decode cX6_readNumbers 94 = .ok (.ldc 76, 2) := by decide +kernel
theorem dX6_readNumbers_96 : decode cX6_readNumbers 96 = .ok (.invokevirtual 68, 3) := by decide +kernel
theorem dX6_readNumbers_99 : decode cX6_readNumbers 99 = .ok (.ireturn, 1) := by decide +kernel
theorem dX6_readNumbers_100 : decode cX6_readNumbers 100 = .ok (.aload_n 0, 1) := by decide +kernel
theorem dX6_readNumbers_101 : decode cX6_readNumbers 101 = .ok (.iconst 0, 1) := by decide +kernel
theorem dX6_readNumbers_102 : decode cX6_readNumbers 102 = .ok (.iconst 1, 1) := by decide +kernel
theorem dX6_readNumbers_103 : decode cX6_readNumbers 103 = .ok (.ldc 76, 2) := by decide +kernel
theorem dX6_readNumbers_105 : decode cX6_readNumbers 105 = .ok (.invokevirtual 68, 3) := by decide +kernel
theorem dX6_readNumbers_108 : decode cX6_readNumbers 108 = .ok (.ifCond .eq 19, 3) := by decide +kernel
theorem dX6_readNumbers_111 : decode cX6_readNumbers 111 = .ok (.aload_n 0, 1) := by decide +kernel
theorem dX6_readNumbers_112 : decode cX6_readNumbers 112 = .ok (.iconst 1, 1) := by decide +kernel
theorem dX6_readNumbers_113 : decode cX6_readNumbers 113 = .ok (.iconst 1, 1) := by decide +kernel
theorem dX6_readNumbers_114 : decode cX6_readNumbers 114 = .ok (.sipush 1000, 3) := by decide +kernel
theorem dX6_readNumbers_117 : decode cX6_readNumbers 117 = .ok (.invokevirtual 68, 3) := by decide +kernel
theorem dX6_readNumbers_120 : decode cX6_readNumbers 120 = .ok (.ifCond .eq 7, 3) := by decide +kernel
theorem dX6_readNumbers_123 : decode cX6_readNumbers 123 = .ok (.iconst 1, 1) := by decide +kernel
theorem dX6_readNumbers_124 : decode cX6_readNumbers 124 = .ok (.goto 4, 3) := by decide +kernel
theorem dX6_readNumbers_127 : decode cX6_readNumbers 127 = .ok (.iconst 0, 1) := by decide +kernel
theorem dX6_readNumbers_128 : decode cX6_readNumbers 128 = .ok (.ireturn, 1) := by decide +kernel
theorem dX6_readNumbers_129 : decode cX6_readNumbers 129 = .ok (.aload_n 0, 1) := by decide +kernel
theorem dX6_readNumbers_130 : decode cX6_readNumbers 130 = .ok (.iconst 0, 1) := by decide +kernel
theorem dX6_readNumbers_131 : decode cX6_readNumbers 131 = .ok (.iconst 0, 1) := by decide +kernel
theorem dX6_readNumbers_132 : decode cX6_readNumbers 132 = .ok (.sipush 1000, 3) := by decide +kernel
theorem dX6_readNumbers_135 : decode cX6_readNumbers 135 = .ok (.invokevirtual 68, 3) := by decide +kernel
theorem dX6_readNumbers_138 : decode cX6_readNumbers 138 = .ok (.ireturn, 1) := by decide +kernel
theorem dX6_readNumbers_139 : decode cX6_readNumbers 139 = .ok (.aload_n 0, 1) := by decide +kernel
theorem dX6_readNumbers_140 : decode cX6_readNumbers 140 = .ok (.iconst 0, 1) := by decide +kernel
theorem dX6_readNumbers_141 : decode cX6_readNumbers 141 = .ok (.iconst 1, 1) := by decide +kernel
theorem dX6_readNumbers_142 : decode cX6_readNumbers 142 = .ok (.bipush 50, 2) := by decide +kernel
theorem dX6_readNumbers_144 : decode cX6_readNumbers 144 = .ok (.invokevirtual 68, 3) := by decide +kernel
theorem dX6_readNumbers_147 : decode cX6_readNumbers 147 = .ok (.ireturn, 1) := by decide +kernel
theorem dX6_readNumbers_148 : decode cX6_readNumbers 148 = .ok (.iconst 1, 1) := by decide +kernel
theorem dX6_readNumbers_149 : decode cX6_readNumbers 149 = .ok (.ireturn, 1) := by decide +kernel
theorem dX6_dearest_0 : decode cX6_dearest 0 = .ok (.iload_n 0, 1) := by decide +kernel
theorem dX6_dearest_1 : decode cX6_dearest 1 = .ok (.iconst 1, 1) := by decide +kernel
theorem dX6_dearest_2 : decode cX6_dearest 2 = .ok (.if_icmp .ge 8, 3) := by decide +kernel
theorem dX6_dearest_5 : decode cX6_dearest 5 = .ok (.ldc 76, 2) := by decide +kernel
theorem dX6_dearest_7 : decode cX6_dearest 7 = .ok (.goto 12, 3) := by decide +kernel
theorem dX6_dearest_10 : decode cX6_dearest 10 = .ok (.ldc 76, 2) := by decide +kernel
theorem dX6_dearest_12 : decode cX6_dearest 12 = .ok (.ldc 77, 2) := by decide +kernel
theorem dX6_dearest_14 : decode cX6_dearest 14 = .ok (.iload_n 0, 1) := by decide +kernel
theorem dX6_dearest_15 : decode cX6_dearest 15 = .ok (.idiv, 1) := by decide +kernel
theorem dX6_dearest_16 : decode cX6_dearest 16 = .ok (.invokestatic 22, 3) := by decide +kernel
theorem dX6_dearest_19 : decode cX6_dearest 19 = .ok (.ireturn, 1) := by decide +kernel
set_option maxRecDepth 20000 in
theorem ggX6_readNumber_X6_readToken : GoodIn wsX6_readNumber wsX6_readToken := goodIn_r _ [8, 9, 10, 11, 12, 1, 13, 14, 7, 15, 16, 17, 18, 19, 20, 21, 22, 23, 24, 25, 26, 2, 32, 33, 34, 35, 36, 37, 38, 39, 40, 41, 42, 43] (by decide +kernel) (by decide +kernel)
set_option maxRecDepth 20000 in
theorem gX6_readNumber_X6_readToken : GoodIn wsX6_readNumber (wsV RX6 38 RX6 yX6_readToken wsX6_readToken) := goodIn_app (goodIn_of _ (by decide +kernel)) ggX6_readNumber_X6_readToken
set_option maxRecDepth 20000 in
theorem ggX6_readNumber_X6_failBy : GoodIn wsX6_readNumber wsX6_failBy := goodIn_r _ [30, 12, 31, 32, 33, 34, 35, 36, 37, 38, 39, 40, 41, 42, 43] (by decide +kernel) (by decide +kernel)
set_option maxRecDepth 20000 in
theorem gX6_readNumber_X6_failBy : GoodIn wsX6_readNumber (wsV RX6 48 RX6 yX6_failBy wsX6_failBy) := goodIn_app (goodIn_of _ (by decide +kernel)) ggX6_readNumber_X6_failBy
theorem dX6_readNumber_0 : decode cX6_readNumber 0 = .ok (.aload_n 0, 1) := by decide +kernel
theorem dX6_readNumber_1 : decode cX6_readNumber 1 = .ok (.invokevirtual 38, 3) := by decide +kernel
theorem dX6_readNumber_4 : decode cX6_readNumber 4 = .ok (.aload_n 0, 1) := by decide +kernel
theorem dX6_readNumber_5 : decode cX6_readNumber 5 = .ok (.getfield 59, 3) := by decide +kernel
theorem dX6_readNumber_8 : decode cX6_readNumber 8 = .ok (.iconst 2, 1) := by decide +kernel
theorem dX6_readNumber_9 : decode cX6_readNumber 9 = .ok (.if_icmp .eq 9, 3) := by decide +kernel
theorem dX6_readNumber_12 : decode cX6_readNumber 12 = .ok (.aload_n 0, 1) := by decide +kernel
theorem dX6_readNumber_13 : decode cX6_readNumber 13 = .ok (.iconst 1, 1) := by decide +kernel
theorem dX6_readNumber_14 : decode cX6_readNumber 14 = .ok (.invokevirtual 48, 3) := by decide +kernel
theorem dX6_readNumber_17 : decode cX6_readNumber 17 = .ok (.ireturn, 1) := by decide +kernel
theorem dX6_readNumber_18 : decode cX6_readNumber 18 = .ok (.aload_n 0, 1) := by decide +kernel
theorem dX6_readNumber_19 : decode cX6_readNumber 19 = .ok (.getfield 78, 3) := by decide +kernel
theorem dX6_readNumber_22 : decode cX6_readNumber 22 = .ok (.iload_n 2, 1) := by decide +kernel
theorem dX6_readNumber_23 : decode cX6_readNumber 23 = .ok (.if_icmp .lt 11, 3) := by decide +kernel
theorem dX6_readNumber_26 : decode cX6_readNumber 26 = .ok (.aload_n 0, 1) := by decide +kernel
theorem dX6_readNumber_27 : decode cX6_readNumber 27 = .ok (.getfield 78, 3) := by decide +kernel
theorem dX6_readNumber_30 : decode cX6_readNumber 30 = .ok (.iload_n 3, 1) := by decide +kernel
theorem dX6_readNumber_31 : decode cX6_readNumber 31 = .ok (.if_icmp .le 9, 3) := by decide +kernel
theorem dX6_readNumber_34 : decode cX6_readNumber 34 = .ok (.aload_n 0, 1) := by decide +kernel
theorem dX6_readNumber_35 : decode cX6_readNumber 35 = .ok (.iconst 2, 1) := by decide +kernel
theorem dX6_readNumber_36 : decode cX6_readNumber 36 = .ok (.invokevirtual 48, 3) := by decide +kernel
theorem dX6_readNumber_39 : decode cX6_readNumber 39 = .ok (.ireturn, 1) := by decide +kernel
theorem dX6_readNumber_40 : decode cX6_readNumber 40 = .ok (.aload_n 0, 1) := by decide +kernel
theorem dX6_readNumber_41 : decode cX6_readNumber 41 = .ok (.getfield 15, 3) := by decide +kernel
theorem dX6_readNumber_44 : decode cX6_readNumber 44 = .ok (.iload_n 1, 1) := by decide +kernel
theorem dX6_readNumber_45 : decode cX6_readNumber 45 = .ok (.aload_n 0, 1) := by decide +kernel
theorem dX6_readNumber_46 : decode cX6_readNumber 46 = .ok (.getfield 78, 3) := by decide +kernel
theorem dX6_readNumber_49 : decode cX6_readNumber 49 = .ok (.iastore, 1) := by decide +kernel
theorem dX6_readNumber_50 : decode cX6_readNumber 50 = .ok (.iconst 1, 1) := by decide +kernel
theorem dX6_readNumber_51 : decode cX6_readNumber 51 = .ok (.ireturn, 1) := by decide +kernel
set_option maxRecDepth 20000 in
theorem ggX6_readToken_X6_isLetter : GoodIn wsX6_readToken wsX6_isLetter := goodIn_r _ [9] (by decide +kernel) (by decide +kernel)
set_option maxRecDepth 20000 in
theorem gX6_readToken_X6_isLetter : GoodIn wsX6_readToken (va_wsS RX6 81 yX6_isLetter wsX6_isLetter) := goodIn_app (goodIn_of _ (by decide +kernel)) ggX6_readToken_X6_isLetter
set_option maxRecDepth 20000 in
theorem ggX6_readToken_X6_readWord : GoodIn wsX6_readToken wsX6_readWord := goodIn_r _ [13, 5, 1, 2, 3, 6, 7, 8, 9, 22, 23, 24, 25, 26, 27, 28, 29, 30, 31, 32, 33] (by decide +kernel) (by decide +kernel)
set_option maxRecDepth 20000 in
theorem gX6_readToken_X6_readWord : GoodIn wsX6_readToken (wsV RX6 84 RX6 yX6_readWord wsX6_readWord) := goodIn_app (goodIn_of _ (by decide +kernel)) ggX6_readToken_X6_readWord
set_option maxRecDepth 20000 in
theorem ggX6_readToken_X6_isDigit : GoodIn wsX6_readToken wsX6_isDigit := goodIn_r _ [16] (by decide +kernel) (by decide +kernel)
set_option maxRecDepth 20000 in
theorem gX6_readToken_X6_isDigit : GoodIn wsX6_readToken (va_wsS RX6 87 yX6_isDigit wsX6_isDigit) := goodIn_app (goodIn_of _ (by decide +kernel)) ggX6_readToken_X6_isDigit
set_option maxRecDepth 20000 in
theorem ggX6_readToken_X6_readDigits : GoodIn wsX6_readToken wsX6_readDigits := goodIn_r _ [20, 21, 1, 2, 3, 4, 5, 14, 15, 8, 16, 22, 23, 24, 25, 26, 27, 28, 29, 30, 31, 32, 33] (by decide +kernel) (by decide +kernel)
set_option maxRecDepth 20000 in
theorem gX6_readToken_X6_readDigits : GoodIn wsX6_readToken (wsV RX6 90 RX6 yX6_readDigits wsX6_readDigits) := goodIn_app (goodIn_of _ (by decide +kernel)) ggX6_readToken_X6_readDigits
theorem dX6_readToken_0 : decode cX6_readToken 0 = .ok (.aload_n 0, 1) := by decide +kernel
theorem dX6_readToken_1 : decode cX6_readToken 1 = .ok (.getfield 31, 3) := by decide +kernel
theorem dX6_readToken_4 : decode cX6_readToken 4 = .ok (.aload_n 0, 1) := by decide +kernel
theorem dX6_readToken_5 : decode cX6_readToken 5 = .ok (.getfield 28, 3) := by decide +kernel
theorem dX6_readToken_8 : decode cX6_readToken 8 = .ok (.if_icmp .ge 44, 3) := by decide +kernel
theorem dX6_readToken_11 : decode cX6_readToken 11 = .ok (.aload_n 0, 1) := by decide +kernel
theorem dX6_readToken_12 : decode cX6_readToken 12 = .ok (.getfield 9, 3) := by decide +kernel
theorem dX6_readToken_15 : decode cX6_readToken 15 = .ok (.aload_n 0, 1) := by decide +kernel
theorem dX6_readToken_16 : decode cX6_readToken 16 = .ok (.getfield 31, 3) := by decide +kernel
theorem dX6_readToken_19 : decode cX6_readToken 19 = .ok (.iaload, 1) := by decide +kernel
theorem dX6_readToken_20 : decode cX6_readToken 20 = .ok (.bipush 32, 2) := by decide +kernel
theorem dX6_readToken_22 : decode cX6_readToken 22 = .ok (.if_icmp .eq 17, 3) := by decide +kernel
theorem dX6_readToken_25 : decode cX6_readToken 25 = .ok (.aload_n 0, 1) := by decide +kernel
theorem dX6_readToken_26 : decode cX6_readToken 26 = .ok (.getfield 9, 3) := by decide +kernel
theorem dX6_readToken_29 : decode cX6_readToken 29 = .ok (.aload_n 0, 1) := by decide +kernel
theorem dX6_readToken_30 : decode cX6_readToken 30 = .ok (.getfield 31, 3) := by decide +kernel
theorem dX6_readToken_33 : decode cX6_readToken 33 = .ok (.iaload, 1) := by decide +kernel
theorem dX6_readToken_34 : decode cX6_readToken 34 = .ok (.bipush 10, 2) := by decide +kernel
theorem dX6_readToken_36 : decode cX6_readToken 36 = .ok (.if_icmp .ne 16, 3) := by decide +kernel
theorem dX6_readToken_39 : decode cX6_readToken 39 = .ok (.aload_n 0, 1) := by decide +kernel
theorem dX6_readToken_40 : decode cX6_readToken 40 = .ok (.dup, 1) := by decide +kernel
theorem dX6_readToken_41 : decode cX6_readToken 41 = .ok (.getfield 31, 3) := by decide +kernel
theorem dX6_readToken_44 : decode cX6_readToken 44 = .ok (.iconst 1, 1) := by decide +kernel
theorem dX6_readToken_45 : decode cX6_readToken 45 = .ok (.iadd, 1) := by decide +kernel
theorem dX6_readToken_46 : decode cX6_readToken 46 = .ok (.putfield 31, 3) := by decide +kernel
theorem dX6_readToken_49 : decode cX6_readToken 49 = .ok (.goto (-49), 3) := by decide +kernel
theorem dX6_readToken_52 : decode cX6_readToken 52 = .ok (.aload_n 0, 1) := by decide +kernel
theorem dX6_readToken_53 : decode cX6_readToken 53 = .ok (.aload_n 0, 1) := by decide +kernel
theorem dX6_readToken_54 : decode cX6_readToken 54 = .ok (.getfield 31, 3) := by decide +kernel
theorem dX6_readToken_57 : decode cX6_readToken 57 = .ok (.putfield 62, 3) := by decide +kernel
theorem dX6_readToken_60 : decode cX6_readToken 60 = .ok (.aload_n 0, 1) := by decide +kernel
theorem dX6_readToken_61 : decode cX6_readToken 61 = .ok (.getfield 31, 3) := by decide +kernel
theorem dX6_readToken_64 : decode cX6_readToken 64 = .ok (.aload_n 0, 1) := by decide +kernel
theorem dX6_readToken_65 : decode cX6_readToken 65 = .ok (.getfield 28, 3) := by decide +kernel
theorem dX6_readToken_68 : decode cX6_readToken 68 = .ok (.if_icmp .lt 11, 3) := by decide +kernel
theorem dX6_readToken_71 : decode cX6_readToken 71 = .ok (.aload_n 0, 1) := by decide +kernel
theorem dX6_readToken_72 : decode cX6_readToken 72 = .ok (.iconst 0, 1) := by decide +kernel
theorem dX6_readToken_73 : decode cX6_readToken 73 = .ok (.putfield 59, 3) := by decide +kernel
theorem dX6_readToken_76 : decode cX6_readToken 76 = .ok (.goto 80, 3) := by decide +kernel
theorem dX6_readToken_79 : decode cX6_readToken 79 = .ok (.aload_n 0, 1) := by decide +kernel
theorem dX6_readToken_80 : decode cX6_readToken 80 = .ok (.getfield 9, 3) := by decide +kernel
theorem dX6_readToken_83 : decode cX6_readToken 83 = .ok (.aload_n 0, 1) := by decide +kernel
theorem dX6_readToken_84 : decode cX6_readToken 84 = .ok (.getfield 31, 3) := by decide +kernel
theorem dX6_readToken_87 : decode cX6_readToken 87 = .ok (.iaload, 1) := by decide +kernel
theorem dX6_readToken_88 : decode cX6_readToken 88 = .ok (.invokestatic 81, 3) := by decide +kernel
theorem dX6_readToken_91 : decode cX6_readToken 91 = .ok (.ifCond .eq 10, 3) := by decide +kernel
theorem dX6_readToken_94 : decode cX6_readToken 94 = .ok (.aload_n 0, 1) := by decide +kernel
theorem dX6_readToken_95 : decode cX6_readToken 95 = .ok (.invokevirtual 84, 3) := by decide +kernel
theorem dX6_readToken_98 : decode cX6_readToken 98 = .ok (.goto 58, 3) := by decide +kernel
theorem dX6_readToken_101 : decode cX6_readToken 101 = .ok (.aload_n 0, 1) := by decide +kernel
theorem dX6_readToken_102 : decode cX6_readToken 102 = .ok (.getfield 9, 3) := by decide +kernel
theorem dX6_readToken_105 : decode cX6_readToken 105 = .ok (.aload_n 0, 1) := by decide +kernel
theorem dX6_readToken_106 : decode cX6_readToken 106 = .ok (.getfield 31, 3) := by decide +kernel
theorem dX6_readToken_109 : decode cX6_readToken 109 = .ok (.iaload, 1) := by decide +kernel
theorem dX6_readToken_110 : decode cX6_readToken 110 = .ok (.invokestatic 87, 3) := by decide +kernel
theorem dX6_readToken_113 : decode cX6_readToken 113 = .ok (.ifCond .eq 10, 3) := by decide +kernel
theorem dX6_readToken_116 : decode cX6_readToken 116 = .ok (.aload_n 0, 1) := by decide +kernel
theorem dX6_readToken_117 : decode cX6_readToken 117 = .ok (.invokevirtual 90, 3) := by decide +kernel
theorem dX6_readToken_120 : decode cX6_readToken 120 = .ok (.goto 36, 3) := by decide +kernel
theorem dX6_readToken_123 : decode cX6_readToken 123 = .ok (.aload_n 0, 1) := by decide +kernel
theorem dX6_readToken_124 : decode cX6_readToken 124 = .ok (.aload_n 0, 1) := by decide +kernel
theorem dX6_readToken_125 : decode cX6_readToken 125 = .ok (.getfield 9, 3) := by decide +kernel
theorem dX6_readToken_128 : decode cX6_readToken 128 = .ok (.aload_n 0, 1) := by decide +kernel
theorem dX6_readToken_129 : decode cX6_readToken 129 = .ok (.getfield 31, 3) := by decide +kernel
theorem dX6_readToken_132 : decode cX6_readToken 132 = .ok (.iaload, 1) := by decide +kernel
theorem dX6_readToken_133 : decode cX6_readToken 133 = .ok (.bipush 59, 2) := by decide +kernel
theorem dX6_readToken_135 : decode cX6_readToken 135 = .ok (.if_icmp .ne 7, 3) := by decide +kernel
theorem dX6_readToken_138 : decode cX6_readToken 138 = .ok (.iconst 3, 1) := by decide +kernel
theorem dX6_readToken_139 : decode cX6_readToken 139 = .ok (.goto 4, 3) := by decide +kernel
theorem dX6_readToken_142 : decode cX6_readToken 142 = .ok (.iconst 4, 1) := by decide +kernel
theorem dX6_readToken_143 : decode cX6_readToken 143 = .ok (.putfield 59, 3) := by decide +kernel
theorem dX6_readToken_146 : decode cX6_readToken 146 = .ok (.aload_n 0, 1) := by decide +kernel
theorem dX6_readToken_147 : decode cX6_readToken 147 = .ok (.dup, 1) := by decide +kernel
theorem dX6_readToken_148 : decode cX6_readToken 148 = .ok (.getfield 31, 3) := by decide +kernel
theorem dX6_readToken_151 : decode cX6_readToken 151 = .ok (.iconst 1, 1) := by decide +kernel
theorem dX6_readToken_152 : decode cX6_readToken 152 = .ok (.iadd, 1) := by decide +kernel
theorem dX6_readToken_153 : decode cX6_readToken 153 = .ok (.putfield 31, 3) := by decide +kernel
theorem dX6_readToken_156 : decode cX6_readToken 156 = .ok (.return_, 1) := by decide +kernel
set_option maxRecDepth 20000 in
theorem ggX6_readWord_X6_isLetter : GoodIn wsX6_readWord wsX6_isLetter := goodIn_r _ [8] (by decide +kernel) (by decide +kernel)
set_option maxRecDepth 20000 in
theorem gX6_readWord_X6_isLetter : GoodIn wsX6_readWord (va_wsS RX6 81 yX6_isLetter wsX6_isLetter) := goodIn_app (goodIn_of _ (by decide +kernel)) ggX6_readWord_X6_isLetter
theorem dX6_readWord_0 : decode cX6_readWord 0 = .ok (.aload_n 0, 1) := by decide +kernel
theorem dX6_readWord_1 : decode cX6_readWord 1 = .ok (.iconst 1, 1) := by decide +kernel
theorem dX6_readWord_2 : decode cX6_readWord 2 = .ok (.putfield 59, 3) := by decide +kernel
theorem dX6_readWord_5 : decode cX6_readWord 5 = .ok (.aload_n 0, 1) := by decide +kernel
theorem dX6_readWord_6 : decode cX6_readWord 6 = .ok (.getfield 31, 3) := by decide +kernel
theorem dX6_readWord_9 : decode cX6_readWord 9 = .ok (.aload_n 0, 1) := by decide +kernel
theorem dX6_readWord_10 : decode cX6_readWord 10 = .ok (.getfield 28, 3) := by decide +kernel
theorem dX6_readWord_13 : decode cX6_readWord 13 = .ok (.if_icmp .ge 31, 3) := by decide +kernel
theorem dX6_readWord_16 : decode cX6_readWord 16 = .ok (.aload_n 0, 1) := by decide +kernel
theorem dX6_readWord_17 : decode cX6_readWord 17 = .ok (.getfield 9, 3) := by decide +kernel
theorem dX6_readWord_20 : decode cX6_readWord 20 = .ok (.aload_n 0, 1) := by decide +kernel
theorem dX6_readWord_21 : decode cX6_readWord 21 = .ok (.getfield 31, 3) := by decide +kernel
theorem dX6_readWord_24 : decode cX6_readWord 24 = .ok (.iaload, 1) := by decide +kernel
theorem dX6_readWord_25 : decode cX6_readWord 25 = .ok (.invokestatic 81, 3) := by decide +kernel
theorem dX6_readWord_28 : decode cX6_readWord 28 = .ok (.ifCond .eq 16, 3) := by decide +kernel
theorem dX6_readWord_31 : decode cX6_readWord 31 = .ok (.aload_n 0, 1) := by decide +kernel
theorem dX6_readWord_32 : decode cX6_readWord 32 = .ok (.dup, 1) := by decide +kernel
theorem dX6_readWord_33 : decode cX6_readWord 33 = .ok (.getfield 31, 3) := by decide +kernel
theorem dX6_readWord_36 : decode cX6_readWord 36 = .ok (.iconst 1, 1) := by decide +kernel
theorem dX6_readWord_37 : decode cX6_readWord 37 = .ok (.iadd, 1) := by decide +kernel
theorem dX6_readWord_38 : decode cX6_readWord 38 = .ok (.putfield 31, 3) := by decide +kernel
theorem dX6_readWord_41 : decode cX6_readWord 41 = .ok (.goto (-36), 3) := by decide +kernel
theorem dX6_readWord_44 : decode cX6_readWord 44 = .ok (.return_, 1) := by decide +kernel
set_option maxRecDepth 20000 in
theorem ggX6_readDigits_X6_isDigit : GoodIn wsX6_readDigits wsX6_isDigit := goodIn_r _ [10] (by decide +kernel) (by decide +kernel)
set_option maxRecDepth 20000 in
theorem gX6_readDigits_X6_isDigit : GoodIn wsX6_readDigits (va_wsS RX6 87 yX6_isDigit wsX6_isDigit) := goodIn_app (goodIn_of _ (by decide +kernel)) ggX6_readDigits_X6_isDigit
theorem dX6_readDigits_0 : decode cX6_readDigits 0 = .ok (.aload_n 0, 1) := by decide +kernel
theorem dX6_readDigits_1 : decode cX6_readDigits 1 = .ok (.iconst 0, 1) := by decide +kernel
theorem dX6_readDigits_2 : decode cX6_readDigits 2 = .ok (.putfield 78, 3) := by decide +kernel
theorem dX6_readDigits_5 : decode cX6_readDigits 5 = .ok (.aload_n 0, 1) := by decide +kernel
theorem dX6_readDigits_6 : decode cX6_readDigits 6 = .ok (.getfield 31, 3) := by decide +kernel
theorem dX6_readDigits_9 : decode cX6_readDigits 9 = .ok (.aload_n 0, 1) := by decide +kernel
theorem dX6_readDigits_10 : decode cX6_readDigits 10 = .ok (.getfield 28, 3) := by decide +kernel
theorem dX6_readDigits_13 : decode cX6_readDigits 13 = .ok (.if_icmp .ge 69, 3) := by decide +kernel
theorem dX6_readDigits_16 : decode cX6_readDigits 16 = .ok (.aload_n 0, 1) := by decide +kernel
theorem dX6_readDigits_17 : decode cX6_readDigits 17 = .ok (.getfield 9, 3) := by decide +kernel
theorem dX6_readDigits_20 : decode cX6_readDigits 20 = .ok (.aload_n 0, 1) := by decide +kernel
theorem dX6_readDigits_21 : decode cX6_readDigits 21 = .ok (.getfield 31, 3) := by decide +kernel
theorem dX6_readDigits_24 : decode cX6_readDigits 24 = .ok (.iaload, 1) := by decide +kernel
theorem dX6_readDigits_25 : decode cX6_readDigits 25 = .ok (.invokestatic 87, 3) := by decide +kernel
theorem dX6_readDigits_28 : decode cX6_readDigits 28 = .ok (.ifCond .eq 54, 3) := by decide +kernel
theorem dX6_readDigits_31 : decode cX6_readDigits 31 = .ok (.aload_n 0, 1) := by decide +kernel
theorem dX6_readDigits_32 : decode cX6_readDigits 32 = .ok (.getfield 31, 3) := by decide +kernel
theorem dX6_readDigits_35 : decode cX6_readDigits 35 = .ok (.aload_n 0, 1) := by decide +kernel
theorem dX6_readDigits_36 : decode cX6_readDigits 36 = .ok (.getfield 62, 3) := by decide +kernel
theorem dX6_readDigits_39 : decode cX6_readDigits 39 = .ok (.isub, 1) := by decide +kernel
theorem dX6_readDigits_40 : decode cX6_readDigits 40 = .ok (.bipush 7, 2) := by decide +kernel
theorem dX6_readDigits_42 : decode cX6_readDigits 42 = .ok (.if_icmp .ge 27, 3) := by decide +kernel
theorem dX6_readDigits_45 : decode cX6_readDigits 45 = .ok (.aload_n 0, 1) := by decide +kernel
theorem dX6_readDigits_46 : decode cX6_readDigits 46 = .ok (.bipush 10, 2) := by decide +kernel
theorem dX6_readDigits_48 : decode cX6_readDigits 48 = .ok (.aload_n 0, 1) := by decide +kernel
theorem dX6_readDigits_49 : decode cX6_readDigits 49 = .ok (.getfield 78, 3) := by decide +kernel
theorem dX6_readDigits_52 : decode cX6_readDigits 52 = .ok (.imul, 1) := by decide +kernel
theorem dX6_readDigits_53 : decode cX6_readDigits 53 = .ok (.aload_n 0, 1) := by decide +kernel
theorem dX6_readDigits_54 : decode cX6_readDigits 54 = .ok (.getfield 9, 3) := by decide +kernel
theorem dX6_readDigits_57 : decode cX6_readDigits 57 = .ok (.aload_n 0, 1) := by decide +kernel
theorem dX6_readDigits_58 : decode cX6_readDigits 58 = .ok (.getfield 31, 3) := by decide +kernel
theorem dX6_readDigits_61 : decode cX6_readDigits 61 = .ok (.iaload, 1) := by decide +kernel
theorem dX6_readDigits_62 : decode cX6_readDigits 62 = .ok (.iadd, 1) := by decide +kernel
theorem dX6_readDigits_63 : decode cX6_readDigits 63 = .ok (.bipush 48, 2) := by decide +kernel
theorem dX6_readDigits_65 : decode cX6_readDigits 65 = .ok (.isub, 1) := by decide +kernel
theorem dX6_readDigits_66 : decode cX6_readDigits 66 = .ok (.putfield 78, 3) := by decide +kernel
theorem dX6_readDigits_69 : decode cX6_readDigits 69 = .ok (.aload_n 0, 1) := by decide +kernel
theorem dX6_readDigits_70 : decode cX6_readDigits 70 = .ok (.dup, 1) := by decide +kernel
theorem dX6_readDigits_71 : decode cX6_readDigits 71 = .ok (.getfield 31, 3) := by decide +kernel
theorem dX6_readDigits_74 : decode cX6_readDigits 74 = .ok (.iconst 1, 1) := by decide +kernel
theorem dX6_readDigits_75 : decode cX6_readDigits 75 = .ok (.iadd, 1) := by decide +kernel
theorem dX6_readDigits_76 : decode cX6_readDigits 76 = .ok (.putfield 31, 3) := by decide +kernel
theorem dX6_readDigits_79 : decode cX6_readDigits 79 = .ok (.goto (-74), 3) := by decide +kernel
theorem dX6_readDigits_82 : decode cX6_readDigits 82 = .ok (.aload_n 0, 1) := by decide +kernel
theorem dX6_readDigits_83 : decode cX6_readDigits 83 = .ok (.aload_n 0, 1) := by decide +kernel
theorem dX6_readDigits_84 : decode cX6_readDigits 84 = .ok (.getfield 31, 3) := by decide +kernel
theorem dX6_readDigits_87 : decode cX6_readDigits 87 = .ok (.aload_n 0, 1) := by decide +kernel
theorem dX6_readDigits_88 : decode cX6_readDigits 88 = .ok (.getfield 62, 3) := by decide +kernel
theorem dX6_readDigits_91 : decode cX6_readDigits 91 = .ok (.isub, 1) := by decide +kernel
theorem dX6_readDigits_92 : decode cX6_readDigits 92 = .ok (.bipush 7, 2) := by decide +kernel
theorem dX6_readDigits_94 : decode cX6_readDigits 94 = .ok (.if_icmp .gt 7, 3) := by decide +kernel
theorem dX6_readDigits_97 : decode cX6_readDigits 97 = .ok (.iconst 2, 1) := by decide +kernel
theorem dX6_readDigits_98 : decode cX6_readDigits 98 = .ok (.goto 4, 3) := by decide +kernel
theorem dX6_readDigits_101 : decode cX6_readDigits 101 = .ok (.iconst 4, 1) := by decide +kernel
theorem dX6_readDigits_102 : decode cX6_readDigits 102 = .ok (.putfield 59, 3) := by decide +kernel
theorem dX6_readDigits_105 : decode cX6_readDigits 105 = .ok (.return_, 1) := by decide +kernel
theorem dX6_isLetter_0 : decode cX6_isLetter 0 = .ok (.iload_n 0, 1) := by decide +kernel
theorem dX6_isLetter_1 : decode cX6_isLetter 1 = .ok (.bipush 97, 2) := by decide +kernel
theorem dX6_isLetter_3 : decode cX6_isLetter 3 = .ok (.if_icmp .lt 13, 3) := by decide +kernel
theorem dX6_isLetter_6 : decode cX6_isLetter 6 = .ok (.iload_n 0, 1) := by decide +kernel
theorem dX6_isLetter_7 : decode cX6_isLetter 7 = .ok (.bipush 122, 2) := by decide +kernel
theorem dX6_isLetter_9 : decode cX6_isLetter 9 = .ok (.if_icmp .gt 7, 3) := by decide +kernel
theorem dX6_isLetter_12 : decode cX6_isLetter 12 = .ok (.iconst 1, 1) := by decide +kernel
theorem dX6_isLetter_13 : decode cX6_isLetter 13 = .ok (.goto 4, 3) := by decide +kernel
theorem dX6_isLetter_16 : decode cX6_isLetter 16 = .ok (.iconst 0, 1) := by decide +kernel
theorem dX6_isLetter_17 : decode cX6_isLetter 17 = .ok (.ireturn, 1) := by decide +kernel
theorem dX6_isDigit_0 : decode cX6_isDigit 0 = .ok (.iload_n 0, 1) := by decide +kernel
theorem dX6_isDigit_1 : decode cX6_isDigit 1 = .ok (.bipush 48, 2) := by decide +kernel
theorem dX6_isDigit_3 : decode cX6_isDigit 3 = .ok (.if_icmp .lt 13, 3) := by decide +kernel
theorem dX6_isDigit_6 : decode cX6_isDigit 6 = .ok (.iload_n 0, 1) := by decide +kernel
theorem dX6_isDigit_7 : decode cX6_isDigit 7 = .ok (.bipush 57, 2) := by decide +kernel
theorem dX6_isDigit_9 : decode cX6_isDigit 9 = .ok (.if_icmp .gt 7, 3) := by decide +kernel
theorem dX6_isDigit_12 : decode cX6_isDigit 12 = .ok (.iconst 1, 1) := by decide +kernel
theorem dX6_isDigit_13 : decode cX6_isDigit 13 = .ok (.goto 4, 3) := by decide +kernel
theorem dX6_isDigit_16 : decode cX6_isDigit 16 = .ok (.iconst 0, 1) := by decide +kernel
theorem dX6_isDigit_17 : decode cX6_isDigit 17 = .ok (.ireturn, 1) := by decide +kernel
set_option maxRecDepth 20000 in
theorem ggX6_wordIn_X6_verbText : GoodIn wsX6_wordIn wsX6_verbText := goodIn_r _ [4] (by decide +kernel) (by decide +kernel)
set_option maxRecDepth 20000 in
theorem gX6_wordIn_X6_verbText : GoodIn wsX6_wordIn (va_wsS RX6 93 yX6_verbText wsX6_verbText) := goodIn_app (goodIn_of _ (by decide +kernel)) ggX6_wordIn_X6_verbText
set_option maxRecDepth 20000 in
theorem ggX6_wordIn_X6_modeText : GoodIn wsX6_wordIn wsX6_modeText := goodIn_r _ [7] (by decide +kernel) (by decide +kernel)
set_option maxRecDepth 20000 in
theorem gX6_wordIn_X6_modeText : GoodIn wsX6_wordIn (va_wsS RX6 97 yX6_modeText wsX6_modeText) := goodIn_app (goodIn_of _ (by decide +kernel)) ggX6_wordIn_X6_modeText
set_option maxRecDepth 20000 in
theorem ggX6_wordIn_X6_isWord : GoodIn wsX6_wordIn wsX6_isWord := goodIn_r _ [11, 12, 13, 14, 15, 16, 17, 18, 19, 20, 21, 22, 23, 24, 25, 26, 27, 28, 29, 30, 31, 32, 33, 34, 35, 36, 37, 38, 39, 40, 41, 42, 43, 44, 45, 46, 47, 48, 49, 50, 51, 52, 53, 54, 55, 56, 57, 58, 59, 60, 61, 62, 63, 64, 65, 66, 67, 68, 69, 70, 71, 72, 73, 74, 75, 76] (by decide +kernel) (by decide +kernel)
set_option maxRecDepth 20000 in
theorem gX6_wordIn_X6_isWord : GoodIn wsX6_wordIn (wsV RX6 100 RX6 yX6_isWord wsX6_isWord) := goodIn_app (goodIn_of _ (by decide +kernel)) ggX6_wordIn_X6_isWord
theorem dX6_wordIn_0 : decode cX6_wordIn 0 = .ok (.iconst 0, 1) := by decide +kernel
theorem dX6_wordIn_1 : decode cX6_wordIn 1 = .ok (.istore_n 3, 1) := by decide +kernel
theorem dX6_wordIn_2 : decode cX6_wordIn 2 = .ok (.iload_n 3, 1) := by decide +kernel
theorem dX6_wordIn_3 : decode cX6_wordIn 3 = .ok (.iload_n 1, 1) := by decide +kernel
theorem dX6_wordIn_4 : decode cX6_wordIn 4 = .ok (.if_icmp .ge 33, 3) := by decide +kernel
theorem dX6_wordIn_7 : decode cX6_wordIn 7 = .ok (.aload_n 0, 1) := by decide +kernel
theorem dX6_wordIn_8 : decode cX6_wordIn 8 = .ok (.iload_n 2, 1) := by decide +kernel
theorem dX6_wordIn_9 : decode cX6_wordIn 9 = .ok (.ifCond .eq 10, 3) := by decide +kernel
theorem dX6_wordIn_12 : decode cX6_wordIn 12 = .ok (.iload_n 3, 1) := by decide +kernel
theorem dX6_wordIn_13 : decode cX6_wordIn 13 = .ok (.invokestatic 93, 3) := by decide +kernel
theorem dX6_wordIn_16 : decode cX6_wordIn 16 = .ok (.goto 7, 3) := by decide +kernel
theorem dX6_wordIn_19 : decode cX6_wordIn 19 = .ok (.iload_n 3, 1) := by decide +kernel
theorem dX6_wordIn_20 : decode cX6_wordIn 20 = .ok (.invokestatic 97, 3) := by decide +kernel
theorem dX6_wordIn_23 : decode cX6_wordIn 23 = .ok (.invokevirtual 100, 3) := by decide +kernel
theorem dX6_wordIn_26 : decode cX6_wordIn 26 = .ok (.ifCond .eq 5, 3) := by decide +kernel
theorem dX6_wordIn_29 : decode cX6_wordIn 29 = .ok (.iload_n 3, 1) := by decide +kernel
theorem dX6_wordIn_30 : decode cX6_wordIn 30 = .ok (.ireturn, 1) := by decide +kernel
theorem dX6_wordIn_31 : decode cX6_wordIn 31 = .ok (.iinc 3 1, 3) := by decide +kernel
theorem dX6_wordIn_34 : decode cX6_wordIn 34 = .ok (.goto (-32), 3) := by decide +kernel
theorem dX6_wordIn_37 : decode cX6_wordIn 37 = .ok (.iconst (-1), 1) := by decide +kernel
theorem dX6_wordIn_38 : decode cX6_wordIn 38 = .ok (.ireturn, 1) := by decide +kernel
set_option maxRecDepth 20000 in
theorem ggX6_isWord_J0_length_8abf5 : GoodIn wsX6_isWord wsJ0_length_8abf5 := goodIn_r _ [9, 10, 11, 12, 13, 8, 14, 15, 16] (by decide +kernel) (by decide +kernel)
set_option maxRecDepth 20000 in
theorem gX6_isWord_J0_length_8abf5 : GoodIn wsX6_isWord (wsV RX6 104 RJ0 yJ0_length_8abf5 wsJ0_length_8abf5) := goodIn_app (goodIn_of _ (by decide +kernel)) ggX6_isWord_J0_length_8abf5
set_option maxRecDepth 20000 in
theorem ggX6_isWord_J0_charAt_5068e : GoodIn wsX6_isWord wsJ0_charAt_5068e := goodIn_r _ [20, 10, 21, 22, 23, 8, 24, 15, 16, 25, 26, 27, 28, 29, 30, 31, 32, 33, 34, 35, 36, 37, 38, 39, 40, 41, 42, 43, 44, 45, 46, 47, 48, 49, 50, 51, 52, 53] (by decide +kernel) (by decide +kernel)
set_option maxRecDepth 20000 in
theorem gX6_isWord_J0_charAt_5068e : GoodIn wsX6_isWord (wsV RX6 110 RJ0 yJ0_charAt_5068e wsJ0_charAt_5068e) := goodIn_app (goodIn_of _ (by decide +kernel)) ggX6_isWord_J0_charAt_5068e
theorem dX6_isWord_0 : decode cX6_isWord 0 = .ok (.aload_n 0, 1) := by decide +kernel
theorem dX6_isWord_1 : decode cX6_isWord 1 = .ok (.getfield 59, 3) := by decide +kernel
theorem dX6_isWord_4 : decode cX6_isWord 4 = .ok (.iconst 1, 1) := by decide +kernel
theorem dX6_isWord_5 : decode cX6_isWord 5 = .ok (.if_icmp .ne 19, 3) := by decide +kernel
theorem dX6_isWord_8 : decode cX6_isWord 8 = .ok (.aload_n 0, 1) := by decide +kernel
theorem dX6_isWord_9 : decode cX6_isWord 9 = .ok (.getfield 31, 3) := by decide +kernel
theorem dX6_isWord_12 : decode cX6_isWord 12 = .ok (.aload_n 0, 1) := by decide +kernel
theorem dX6_isWord_13 : decode cX6_isWord 13 = .ok (.getfield 62, 3) := by decide +kernel
theorem dX6_isWord_16 : decode cX6_isWord 16 = .ok (.isub, 1) := by decide +kernel
theorem dX6_isWord_17 : decode cX6_isWord 17 = .ok (.aload_n 1, 1) := by decide +kernel
theorem dX6_isWord_18 : decode cX6_isWord 18 = .ok (.invokevirtual 104, 3) := by decide +kernel
theorem dX6_isWord_21 : decode cX6_isWord 21 = .ok (.if_icmp .eq 5, 3) := by decide +kernel
theorem dX6_isWord_24 : decode cX6_isWord 24 = .ok (.iconst 0, 1) := by decide +kernel
theorem dX6_isWord_25 : decode cX6_isWord 25 = .ok (.ireturn, 1) := by decide +kernel
theorem dX6_isWord_26 : decode cX6_isWord 26 = .ok (.iconst 0, 1) := by decide +kernel
theorem dX6_isWord_27 : decode cX6_isWord 27 = .ok (.istore_n 2, 1) := by decide +kernel
theorem dX6_isWord_28 : decode cX6_isWord 28 = .ok (.iload_n 2, 1) := by decide +kernel
theorem dX6_isWord_29 : decode cX6_isWord 29 = .ok (.aload_n 1, 1) := by decide +kernel
theorem dX6_isWord_30 : decode cX6_isWord 30 = .ok (.invokevirtual 104, 3) := by decide +kernel
theorem dX6_isWord_33 : decode cX6_isWord 33 = .ok (.if_icmp .ge 30, 3) := by decide +kernel
theorem dX6_isWord_36 : decode cX6_isWord 36 = .ok (.aload_n 0, 1) := by decide +kernel
theorem dX6_isWord_37 : decode cX6_isWord 37 = .ok (.getfield 9, 3) := by decide +kernel
theorem dX6_isWord_40 : decode cX6_isWord 40 = .ok (.aload_n 0, 1) := by decide +kernel
theorem dX6_isWord_41 : decode cX6_isWord 41 = .ok (.getfield 62, 3) := by decide +kernel
theorem dX6_isWord_44 : decode cX6_isWord 44 = .ok (.iload_n 2, 1) := by decide +kernel
theorem dX6_isWord_45 : decode cX6_isWord 45 = .ok (.iadd, 1) := by decide +kernel
theorem dX6_isWord_46 : decode cX6_isWord 46 = .ok (.iaload, 1) := by decide +kernel
theorem dX6_isWord_47 : decode cX6_isWord 47 = .ok (.aload_n 1, 1) := by decide +kernel
theorem dX6_isWord_48 : decode cX6_isWord 48 = .ok (.iload_n 2, 1) := by decide +kernel
theorem dX6_isWord_49 : decode cX6_isWord 49 = .ok (.invokevirtual 110, 3) := by decide +kernel
theorem dX6_isWord_52 : decode cX6_isWord 52 = .ok (.if_icmp .eq 5, 3) := by decide +kernel
theorem dX6_isWord_55 : decode cX6_isWord 55 = .ok (.iconst 0, 1) := by decide +kernel
theorem dX6_isWord_56 : decode cX6_isWord 56 = .ok (.ireturn, 1) := by decide +kernel
theorem dX6_isWord_57 : decode cX6_isWord 57 = .ok (.iinc 2 1, 3) := by decide +kernel
theorem dX6_isWord_60 : decode cX6_isWord 60 = .ok (.goto (-32), 3) := by decide +kernel
theorem dX6_isWord_63 : decode cX6_isWord 63 = .ok (.iconst 1, 1) := by decide +kernel
theorem dX6_isWord_64 : decode cX6_isWord 64 = .ok (.ireturn, 1) := by decide +kernel
theorem dX6_verbText_0 : decode cX6_verbText 0 = .ok (.iload_n 0, 1) := by decide +kernel
theorem dX6_verbText_1 : decode cX6_verbText 1 = .ok (.tableswitch 64 0 6 #[43, 46, 49, 52, 55, 58, 61], 43) := by decide +kernel
theorem dX6_verbText_44 : decode cX6_verbText 44 = .ok (.ldc 114, 2) := by decide +kernel
theorem dX6_verbText_46 : decode cX6_verbText 46 = .ok (.areturn, 1) := by decide +kernel
theorem dX6_verbText_47 : decode cX6_verbText 47 = .ok (.ldc 116, 2) := by decide +kernel
theorem dX6_verbText_49 : decode cX6_verbText 49 = .ok (.areturn, 1) := by decide +kernel
theorem dX6_verbText_50 : decode cX6_verbText 50 = .ok (.ldc 118, 2) := by decide +kernel
theorem dX6_verbText_52 : decode cX6_verbText 52 = .ok (.areturn, 1) := by decide +kernel
theorem dX6_verbText_53 : decode cX6_verbText 53 = .ok (.ldc 120, 2) := by decide +kernel
theorem dX6_verbText_55 : decode cX6_verbText 55 = .ok (.areturn, 1) := by decide +kernel
theorem dX6_verbText_56 : decode cX6_verbText 56 = .ok (.ldc 122, 2) := by decide +kernel
theorem dX6_verbText_58 : decode cX6_verbText 58 = .ok (.areturn, 1) := by decide +kernel
theorem dX6_verbText_59 : decode cX6_verbText 59 = .ok (.ldc 124, 2) := by decide +kernel
theorem dX6_verbText_61 : decode cX6_verbText 61 = .ok (.areturn, 1) := by decide +kernel
theorem dX6_verbText_62 : decode cX6_verbText 62 = .ok (.ldc 126, 2) := by decide +kernel
theorem dX6_verbText_64 : decode cX6_verbText 64 = .ok (.areturn, 1) := by decide +kernel
theorem dX6_verbText_65 : decode cX6_verbText 65 = .ok (.ldc 128, 2) := by decide +kernel
theorem dX6_verbText_67 : decode cX6_verbText 67 = .ok (.areturn, 1) := by decide +kernel
theorem dX6_modeText_0 : decode cX6_modeText 0 = .ok (.iload_n 0, 1) := by decide +kernel
theorem dX6_modeText_1 : decode cX6_modeText 1 = .ok (.tableswitch 36 0 2 #[27, 30, 33], 27) := by decide +kernel
theorem dX6_modeText_28 : decode cX6_modeText 28 = .ok (.ldc 130, 2) := by decide +kernel
theorem dX6_modeText_30 : decode cX6_modeText 30 = .ok (.areturn, 1) := by decide +kernel
theorem dX6_modeText_31 : decode cX6_modeText 31 = .ok (.ldc 132, 2) := by decide +kernel
theorem dX6_modeText_33 : decode cX6_modeText 33 = .ok (.areturn, 1) := by decide +kernel
theorem dX6_modeText_34 : decode cX6_modeText 34 = .ok (.ldc 134, 2) := by decide +kernel
theorem dX6_modeText_36 : decode cX6_modeText 36 = .ok (.areturn, 1) := by decide +kernel
theorem dX6_modeText_37 : decode cX6_modeText 37 = .ok (.ldc 136, 2) := by decide +kernel
theorem dX6_modeText_39 : decode cX6_modeText 39 = .ok (.areturn, 1) := by decide +kernel
set_option maxRecDepth 20000 in
theorem ggX7_init_X2_init : GoodIn wsX7_init wsX2_init := goodIn_r _ [14, 15, 2, 3, 16, 17, 18, 19, 20, 21, 22, 23, 24, 25, 26, 27, 28, 29, 30, 31, 32, 33, 34, 35, 36, 37, 38, 39, 40, 41, 42, 43, 44, 45, 46, 47, 48, 49, 50, 51, 52, 53, 54, 55, 56, 57, 58, 59, 60, 61, 62, 63, 64, 65, 66, 67, 68, 69, 70, 103, 104, 105, 106, 76, 77, 78, 79, 80, 81, 82, 83, 84, 85, 86, 87, 107, 108, 109, 110, 111, 112, 113, 114, 115, 116, 117, 118, 119, 120, 121, 122, 123, 124, 125, 126, 127, 128, 129, 130] (by decide +kernel) (by decide +kernel)
set_option maxRecDepth 20000 in
theorem gX7_init_X2_init_n9 : GoodIn wsX7_init (wsX2_init) := ggX7_init_X2_init
set_option maxRecDepth 20000 in
theorem ggX7_init_X6_init : GoodIn wsX7_init wsX6_init := goodIn_r _ [72, 73, 2, 3, 44, 74, 75, 91, 92, 93, 94, 95, 96, 97, 98, 99, 100, 101, 102] (by decide +kernel) (by decide +kernel)
set_option maxRecDepth 20000 in
theorem gX7_init_X6_init_n21 : GoodIn wsX7_init (wsX6_init) := ggX7_init_X6_init
theorem dX7_init_0 : decode cX7_init 0 = .ok (.aload_n 0, 1) := by decide +kernel
theorem dX7_init_1 : decode cX7_init 1 = .ok (.invokespecial 1, 3) := by decide +kernel
theorem dX7_init_4 : decode cX7_init 4 = .ok (.aload_n 0, 1) := by decide +kernel
theorem dX7_init_5 : decode cX7_init 5 = .ok (.new 7, 3) := by decide +kernel
theorem dX7_init_8 : decode cX7_init 8 = .ok (.dup, 1) := by decide +kernel
theorem dX7_init_9 : decode cX7_init 9 = .ok (.invokespecial 9, 3) := by decide +kernel
theorem dX7_init_12 : decode cX7_init 12 = .ok (.putfield 10, 3) := by decide +kernel
theorem dX7_init_15 : decode cX7_init 15 = .ok (.aload_n 0, 1) := by decide +kernel
theorem dX7_init_16 : decode cX7_init 16 = .ok (.new 7, 3) := by decide +kernel
theorem dX7_init_19 : decode cX7_init 19 = .ok (.dup, 1) := by decide +kernel
theorem dX7_init_20 : decode cX7_init 20 = .ok (.invokespecial 9, 3) := by decide +kernel
theorem dX7_init_23 : decode cX7_init 23 = .ok (.putfield 16, 3) := by decide +kernel
theorem dX7_init_26 : decode cX7_init 26 = .ok (.aload_n 0, 1) := by decide +kernel
theorem dX7_init_27 : decode cX7_init 27 = .ok (.new 19, 3) := by decide +kernel
theorem dX7_init_30 : decode cX7_init 30 = .ok (.dup, 1) := by decide +kernel
theorem dX7_init_31 : decode cX7_init 31 = .ok (.invokespecial 21, 3) := by decide +kernel
theorem dX7_init_34 : decode cX7_init 34 = .ok (.putfield 22, 3) := by decide +kernel
theorem dX7_init_37 : decode cX7_init 37 = .ok (.return_, 1) := by decide +kernel
set_option maxRecDepth 20000 in
theorem ggX7_feed_X6_put : GoodIn wsX7_feed wsX6_put := goodIn_r _ [7, 8, 9, 13, 14, 15, 16, 17, 18, 19, 20, 21, 22, 23, 24] (by decide +kernel) (by decide +kernel)
set_option maxRecDepth 20000 in
theorem gX7_feed_X6_put : GoodIn wsX7_feed (wsV RX7 30 RX6 yX6_put wsX6_put) := goodIn_app (goodIn_of _ (by decide +kernel)) ggX7_feed_X6_put
theorem dX7_feed_0 : decode cX7_feed 0 = .ok (.aload_n 0, 1) := by decide +kernel
theorem dX7_feed_1 : decode cX7_feed 1 = .ok (.getfield 22, 3) := by decide +kernel
theorem dX7_feed_4 : decode cX7_feed 4 = .ok (.getfield 26, 3) := by decide +kernel
theorem dX7_feed_7 : decode cX7_feed 7 = .ok (.bipush 20, 2) := by decide +kernel
theorem dX7_feed_9 : decode cX7_feed 9 = .ok (.iadd, 1) := by decide +kernel
theorem dX7_feed_10 : decode cX7_feed 10 = .ok (.sipush 500, 3) := by decide +kernel
theorem dX7_feed_13 : decode cX7_feed 13 = .ok (.if_icmp .le 5, 3) := by decide +kernel
theorem dX7_feed_16 : decode cX7_feed 16 = .ok (.iconst (-1), 1) := by decide +kernel
theorem dX7_feed_17 : decode cX7_feed 17 = .ok (.ireturn, 1) := by decide +kernel
theorem dX7_feed_18 : decode cX7_feed 18 = .ok (.aload_n 0, 1) := by decide +kernel
theorem dX7_feed_19 : decode cX7_feed 19 = .ok (.getfield 22, 3) := by decide +kernel
theorem dX7_feed_22 : decode cX7_feed 22 = .ok (.iload_n 1, 1) := by decide +kernel
theorem dX7_feed_23 : decode cX7_feed 23 = .ok (.invokevirtual 30, 3) := by decide +kernel
theorem dX7_feed_26 : decode cX7_feed 26 = .ok (.aload_n 0, 1) := by decide +kernel
theorem dX7_feed_27 : decode cX7_feed 27 = .ok (.getfield 22, 3) := by decide +kernel
theorem dX7_feed_30 : decode cX7_feed 30 = .ok (.iload_n 2, 1) := by decide +kernel
theorem dX7_feed_31 : decode cX7_feed 31 = .ok (.invokevirtual 30, 3) := by decide +kernel
theorem dX7_feed_34 : decode cX7_feed 34 = .ok (.aload_n 0, 1) := by decide +kernel
theorem dX7_feed_35 : decode cX7_feed 35 = .ok (.getfield 22, 3) := by decide +kernel
theorem dX7_feed_38 : decode cX7_feed 38 = .ok (.iload_n 3, 1) := by decide +kernel
theorem dX7_feed_39 : decode cX7_feed 39 = .ok (.invokevirtual 30, 3) := by decide +kernel
theorem dX7_feed_42 : decode cX7_feed 42 = .ok (.aload_n 0, 1) := by decide +kernel
theorem dX7_feed_43 : decode cX7_feed 43 = .ok (.getfield 22, 3) := by decide +kernel
theorem dX7_feed_46 : decode cX7_feed 46 = .ok (.iload 4, 2) := by decide +kernel
theorem dX7_feed_48 : decode cX7_feed 48 = .ok (.invokevirtual 30, 3) := by decide +kernel
theorem dX7_feed_51 : decode cX7_feed 51 = .ok (.aload_n 0, 1) := by decide +kernel
theorem dX7_feed_52 : decode cX7_feed 52 = .ok (.getfield 22, 3) := by decide +kernel
theorem dX7_feed_55 : decode cX7_feed 55 = .ok (.iload 5, 2) := by decide +kernel
theorem dX7_feed_57 : decode cX7_feed 57 = .ok (.invokevirtual 30, 3) := by decide +kernel
theorem dX7_feed_60 : decode cX7_feed 60 = .ok (.aload_n 0, 1) := by decide +kernel
theorem dX7_feed_61 : decode cX7_feed 61 = .ok (.getfield 22, 3) := by decide +kernel
theorem dX7_feed_64 : decode cX7_feed 64 = .ok (.getfield 26, 3) := by decide +kernel
theorem dX7_feed_67 : decode cX7_feed 67 = .ok (.ireturn, 1) := by decide +kernel
set_option maxRecDepth 20000 in
theorem ggX7_message_X6_rewind : GoodIn wsX7_message wsX6_rewind := goodIn_r _ [11, 12, 13, 14, 15, 16, 17, 18, 388, 389, 390, 391, 392, 393, 394, 395, 396, 397, 398, 399] (by decide +kernel) (by decide +kernel)
set_option maxRecDepth 20000 in
theorem gX7_message_X6_rewind : GoodIn wsX7_message (wsV RX7 34 RX6 yX6_rewind wsX6_rewind) := goodIn_app (goodIn_of _ (by decide +kernel)) ggX7_message_X6_rewind
set_option maxRecDepth 20000 in
theorem ggX7_message_X6_readLine_h : GoodIn wsX7_message [Cond.code yX6_readLine cX6_readLine 1 (some .boolean)] := goodIn_r _ [22] (by decide +kernel) (by decide +kernel)
set_option maxRecDepth 20000 in
theorem ggX7_message_X6_readLine_1 : GoodIn wsX7_message wsX6_readLine_r1 := goodIn_r _ [23, 24, 25, 18, 26, 27, 28, 10, 29, 17, 16, 30, 31, 32, 33, 34, 35, 36, 37, 38, 39, 40, 41, 42] (by decide +kernel) (by decide +kernel)
set_option maxRecDepth 20000 in
theorem ggX7_message_X6_readLine_2 : GoodIn wsX7_message wsX6_readLine_r2 := goodIn_r _ [43, 44, 45, 46, 47, 48, 49, 50, 51, 52, 53, 54, 55, 56, 57, 58, 59, 60, 61, 62, 63, 64, 65, 66] (by decide +kernel) (by decide +kernel)
set_option maxRecDepth 20000 in
theorem ggX7_message_X6_readLine_3 : GoodIn wsX7_message wsX6_readLine_r3 := goodIn_r _ [67, 68, 69, 70, 71, 72, 73, 74, 75, 76, 77, 78, 79, 80, 81, 82, 83, 84, 85, 86, 87, 88, 89, 90] (by decide +kernel) (by decide +kernel)
set_option maxRecDepth 20000 in
theorem ggX7_message_X6_readLine_4 : GoodIn wsX7_message wsX6_readLine_r4 := goodIn_r _ [91, 92, 93, 94, 95, 96, 97, 98, 99, 100, 101, 102, 103, 104, 105, 106, 107, 108, 109, 110, 111, 112, 113, 114] (by decide +kernel) (by decide +kernel)
set_option maxRecDepth 20000 in
theorem ggX7_message_X6_readLine_5 : GoodIn wsX7_message wsX6_readLine_r5 := goodIn_r _ [115, 116, 117, 118, 119, 120, 121, 122, 123, 124, 125, 126, 127, 128, 12, 13, 14, 15] (by decide +kernel) (by decide +kernel)
set_option maxRecDepth 20000 in
theorem ggX7_message_X6_readLine_6 : GoodIn wsX7_message wsX60 := goodIn_r _ [388, 389, 390, 391, 392, 393, 394, 395, 396, 397, 398, 399] (by decide +kernel) (by decide +kernel)
theorem ggX7_message_X6_readLine : GoodIn wsX7_message wsX6_readLine := goodIn_app ggX7_message_X6_readLine_h (goodIn_app (goodIn_app ggX7_message_X6_readLine_1 (goodIn_app ggX7_message_X6_readLine_2 (goodIn_app ggX7_message_X6_readLine_3 (goodIn_app ggX7_message_X6_readLine_4 ggX7_message_X6_readLine_5)))) ggX7_message_X6_readLine_6)
set_option maxRecDepth 20000 in
theorem gX7_message_X6_readLine : GoodIn wsX7_message (wsV RX7 41 RX6 yX6_readLine wsX6_readLine) := goodIn_app (goodIn_of _ (by decide +kernel)) ggX7_message_X6_readLine
set_option maxRecDepth 20000 in
theorem ggX7_message_X7_doLine_h : GoodIn wsX7_message [Cond.code yX7_doLine cX7_doLine 3 (some .boolean)] := goodIn_r _ [133] (by decide +kernel) (by decide +kernel)
set_option maxRecDepth 20000 in
theorem ggX7_message_X7_doLine_1 : GoodIn wsX7_message wsX7_doLine_r1 := goodIn_r _ [134, 1, 135, 136, 137, 138, 139, 140, 141, 142, 143, 144, 145, 146, 147, 148, 149, 150, 151, 152, 153, 154, 155, 156] (by decide +kernel) (by decide +kernel)
set_option maxRecDepth 20000 in
theorem ggX7_message_X7_doLine_2 : GoodIn wsX7_message wsX7_doLine_r2 := goodIn_r _ [157, 158, 159, 160, 161, 162, 163, 164, 165, 166, 167, 168, 169, 170, 171, 172, 173, 174, 175, 176, 177, 178, 179, 180] (by decide +kernel) (by decide +kernel)
set_option maxRecDepth 20000 in
theorem ggX7_message_X7_doLine_3 : GoodIn wsX7_message wsX7_doLine_r3 := goodIn_r _ [181, 132, 182, 183, 184, 185, 186, 187, 188, 189, 190, 191, 192, 193, 194, 195, 196, 197, 198, 199, 200, 13, 14, 15] (by decide +kernel) (by decide +kernel)
set_option maxRecDepth 20000 in
theorem ggX7_message_X7_doLine_4 : GoodIn wsX7_message wsX7_doLine_r4 := goodIn_r _ [201, 202, 203, 204, 205, 206, 207, 208, 209, 210, 211, 212, 213, 214, 215, 216, 217, 218, 219, 220, 221, 222, 223, 224] (by decide +kernel) (by decide +kernel)
set_option maxRecDepth 20000 in
theorem ggX7_message_X7_doLine_5 : GoodIn wsX7_message wsX7_doLine_r5 := goodIn_r _ [225, 226, 227, 228, 229, 230, 231, 232, 233, 234, 235, 236, 237, 238, 239, 240, 241, 242, 243, 244, 245, 246, 247, 248] (by decide +kernel) (by decide +kernel)
set_option maxRecDepth 20000 in
theorem ggX7_message_X7_doLine_6 : GoodIn wsX7_message wsX7_doLine_r6 := goodIn_r _ [249, 250, 251, 252, 253, 254, 255, 256, 257, 258, 259, 260, 261, 262, 263, 264, 265, 266, 267, 268, 269, 270, 271, 272] (by decide +kernel) (by decide +kernel)
set_option maxRecDepth 20000 in
theorem ggX7_message_X7_doLine_7 : GoodIn wsX7_message wsX7_doLine_r7 := goodIn_r _ [273, 274, 275, 276, 277, 278, 279, 280, 281, 282, 283, 284, 285, 286, 287, 288, 289, 290, 291, 292, 293, 294, 295, 296] (by decide +kernel) (by decide +kernel)
set_option maxRecDepth 20000 in
theorem ggX7_message_X7_doLine_8 : GoodIn wsX7_message wsX7_doLine_r8 := goodIn_r _ [297, 298, 299, 300, 301, 302, 303, 304, 305, 306, 307, 308, 309, 310, 311, 312, 313, 314, 315, 316, 317, 318, 319, 320] (by decide +kernel) (by decide +kernel)
set_option maxRecDepth 20000 in
theorem ggX7_message_X7_doLine_9 : GoodIn wsX7_message wsX7_doLine_r9 := goodIn_r _ [321, 322, 323, 324, 325, 326, 327, 328, 329, 330, 331, 332, 333, 334, 335, 336, 337, 338, 339, 340, 341, 342, 343, 344] (by decide +kernel) (by decide +kernel)
set_option maxRecDepth 20000 in
theorem ggX7_message_X7_doLine_10 : GoodIn wsX7_message wsX7_doLine_r10 := goodIn_r _ [345, 346, 347, 348, 349, 350, 351, 352, 353, 354, 355, 356, 357, 358, 359, 360, 361, 362, 363, 364, 365, 366, 367, 368] (by decide +kernel) (by decide +kernel)
set_option maxRecDepth 20000 in
theorem ggX7_message_X7_doLine_11 : GoodIn wsX7_message wsX7_doLine_r11 := goodIn_r _ [369, 370, 371, 372, 373, 374, 375, 376, 377, 378, 379, 380, 381, 382, 383, 384] (by decide +kernel) (by decide +kernel)
set_option maxRecDepth 20000 in
theorem ggX7_message_X7_doLine_12 : GoodIn wsX7_message wsX70 := goodIn_r _ [385, 386, 387] (by decide +kernel) (by decide +kernel)
set_option maxRecDepth 20000 in
theorem ggX7_message_X7_doLine_13 : GoodIn wsX7_message wsX60 := goodIn_r _ [388, 389, 390, 391, 392, 393, 394, 395, 396, 397, 398, 399] (by decide +kernel) (by decide +kernel)
set_option maxRecDepth 20000 in
theorem ggX7_message_X7_doLine_14 : GoodIn wsX7_message wsX20 := goodIn_r _ [400, 401, 402, 403, 404, 405, 406, 407, 408, 409, 410, 411] (by decide +kernel) (by decide +kernel)
set_option maxRecDepth 20000 in
theorem ggX7_message_X7_doLine_15 : GoodIn wsX7_message wsX40 := goodIn_r _ [412, 413, 414, 415, 416, 417] (by decide +kernel) (by decide +kernel)
set_option maxRecDepth 20000 in
theorem ggX7_message_X7_doLine_16 : GoodIn wsX7_message wsX00 := goodIn_r _ [418, 419, 420, 421] (by decide +kernel) (by decide +kernel)
set_option maxRecDepth 20000 in
theorem ggX7_message_X7_doLine_17 : GoodIn wsX7_message wsX50 := goodIn_r _ [422, 423, 424, 425, 426, 427, 428, 429] (by decide +kernel) (by decide +kernel)
set_option maxRecDepth 20000 in
theorem ggX7_message_X7_doLine_18 : GoodIn wsX7_message wsX30 := goodIn_r _ [430, 431, 432, 433, 434, 435, 436] (by decide +kernel) (by decide +kernel)
set_option maxRecDepth 20000 in
theorem ggX7_message_X7_doLine_19 : GoodIn wsX7_message wsX10 := goodIn_r _ [437, 438, 439] (by decide +kernel) (by decide +kernel)
theorem ggX7_message_X7_doLine : GoodIn wsX7_message wsX7_doLine := goodIn_app ggX7_message_X7_doLine_h (goodIn_app (goodIn_app (goodIn_app (goodIn_app (goodIn_app (goodIn_app (goodIn_app (goodIn_app (goodIn_app ggX7_message_X7_doLine_1 (goodIn_app ggX7_message_X7_doLine_2 (goodIn_app ggX7_message_X7_doLine_3 (goodIn_app ggX7_message_X7_doLine_4 (goodIn_app ggX7_message_X7_doLine_5 (goodIn_app ggX7_message_X7_doLine_6 (goodIn_app ggX7_message_X7_doLine_7 (goodIn_app ggX7_message_X7_doLine_8 (goodIn_app ggX7_message_X7_doLine_9 (goodIn_app ggX7_message_X7_doLine_10 ggX7_message_X7_doLine_11)))))))))) ggX7_message_X7_doLine_12) ggX7_message_X7_doLine_13) ggX7_message_X7_doLine_14) ggX7_message_X7_doLine_15) ggX7_message_X7_doLine_16) ggX7_message_X7_doLine_17) ggX7_message_X7_doLine_18) ggX7_message_X7_doLine_19)
set_option maxRecDepth 20000 in
theorem gX7_message_X7_doLine : GoodIn wsX7_message (wsV RX7 55 RX7 yX7_doLine wsX7_doLine) := goodIn_app (goodIn_of _ (by decide +kernel)) ggX7_message_X7_doLine
theorem dX7_message_0 : decode cX7_message 0 = .ok (.iload_n 1, 1) := by decide +kernel
theorem dX7_message_1 : decode cX7_message 1 = .ok (.ifCond .lt 14, 3) := by decide +kernel
theorem dX7_message_4 : decode cX7_message 4 = .ok (.iload_n 1, 1) := by decide +kernel
theorem dX7_message_5 : decode cX7_message 5 = .ok (.aload_n 0, 1) := by decide +kernel
theorem dX7_message_6 : decode cX7_message 6 = .ok (.getfield 22, 3) := by decide +kernel
theorem dX7_message_9 : decode cX7_message 9 = .ok (.getfield 26, 3) := by decide +kernel
theorem dX7_message_12 : decode cX7_message 12 = .ok (.if_icmp .le 5, 3) := by decide +kernel
theorem dX7_message_15 : decode cX7_message 15 = .ok (.iconst (-1), 1) := by decide +kernel
theorem dX7_message_16 : decode cX7_message 16 = .ok (.ireturn, 1) := by decide +kernel
theorem dX7_message_17 : decode cX7_message 17 = .ok (.aload_n 0, 1) := by decide +kernel
theorem dX7_message_18 : decode cX7_message 18 = .ok (.getfield 22, 3) := by decide +kernel
theorem dX7_message_21 : decode cX7_message 21 = .ok (.iconst 0, 1) := by decide +kernel
theorem dX7_message_22 : decode cX7_message 22 = .ok (.putfield 26, 3) := by decide +kernel
theorem dX7_message_25 : decode cX7_message 25 = .ok (.aload_n 0, 1) := by decide +kernel
theorem dX7_message_26 : decode cX7_message 26 = .ok (.getfield 22, 3) := by decide +kernel
theorem dX7_message_29 : decode cX7_message 29 = .ok (.iload_n 1, 1) := by decide +kernel
theorem dX7_message_30 : decode cX7_message 30 = .ok (.invokevirtual 34, 3) := by decide +kernel
theorem dX7_message_33 : decode cX7_message 33 = .ok (.iconst 0, 1) := by decide +kernel
theorem dX7_message_34 : decode cX7_message 34 = .ok (.istore_n 2, 1) := by decide +kernel
theorem dX7_message_35 : decode cX7_message 35 = .ok (.iload_n 2, 1) := by decide +kernel
theorem dX7_message_36 : decode cX7_message 36 = .ok (.sipush 500, 3) := by decide +kernel
theorem dX7_message_39 : decode cX7_message 39 = .ok (.if_icmp .ge 40, 3) := by decide +kernel
theorem dX7_message_42 : decode cX7_message 42 = .ok (.aload_n 0, 1) := by decide +kernel
theorem dX7_message_43 : decode cX7_message 43 = .ok (.getfield 22, 3) := by decide +kernel
theorem dX7_message_46 : decode cX7_message 46 = .ok (.getfield 37, 3) := by decide +kernel
theorem dX7_message_49 : decode cX7_message 49 = .ok (.ifCond .eq 30, 3) := by decide +kernel
theorem dX7_message_52 : decode cX7_message 52 = .ok (.aload_n 0, 1) := by decide +kernel
theorem dX7_message_53 : decode cX7_message 53 = .ok (.getfield 22, 3) := by decide +kernel
theorem dX7_message_56 : decode cX7_message 56 = .ok (.invokevirtual 41, 3) := by decide +kernel
theorem dX7_message_59 : decode cX7_message 59 = .ok (.ifCond .ne 14, 3) := by decide +kernel
theorem dX7_message_62 : decode cX7_message 62 = .ok (.bipush (-2), 2) := by decide +kernel
theorem dX7_message_64 : decode cX7_message 64 = .ok (.aload_n 0, 1) := by decide +kernel
theorem dX7_message_65 : decode cX7_message 65 = .ok (.getfield 22, 3) := by decide +kernel
theorem dX7_message_68 : decode cX7_message 68 = .ok (.getfield 45, 3) := by decide +kernel
theorem dX7_message_71 : decode cX7_message 71 = .ok (.isub, 1) := by decide +kernel
