set_option maxRecDepth 20000 in
theorem gX8_takeFor_X8_has : GoodIn wsX8_takeFor (wsV RX8 100 RX8 yX8_has wsX8_has) := goodIn_app (goodIn_of _ (by decide +kernel)) ggX8_takeFor_X8_has
theorem dX8_takeFor_0 : decode cX8_takeFor 0 = .ok (.aload_n 0, 1) := by decide +kernel
theorem dX8_takeFor_1 : decode cX8_takeFor 1 = .ok (.iconst 0, 1) := by decide +kernel
theorem dX8_takeFor_2 : decode cX8_takeFor 2 = .ok (.putfield 45, 3) := by decide +kernel
theorem dX8_takeFor_5 : decode cX8_takeFor 5 = .ok (.aload_n 0, 1) := by decide +kernel
theorem dX8_takeFor_6 : decode cX8_takeFor 6 = .ok (.iload_n 1, 1) := by decide +kernel
theorem dX8_takeFor_7 : decode cX8_takeFor 7 = .ok (.invokevirtual 246, 3) := by decide +kernel
theorem dX8_takeFor_10 : decode cX8_takeFor 10 = .ok (.istore_n 3, 1) := by decide +kernel
theorem dX8_takeFor_11 : decode cX8_takeFor 11 = .ok (.iload_n 3, 1) := by decide +kernel
theorem dX8_takeFor_12 : decode cX8_takeFor 12 = .ok (.ifCond .lt 13, 3) := by decide +kernel
theorem dX8_takeFor_15 : decode cX8_takeFor 15 = .ok (.iload_n 2, 1) := by decide +kernel
theorem dX8_takeFor_16 : decode cX8_takeFor 16 = .ok (.i2l, 1) := by decide +kernel
theorem dX8_takeFor_17 : decode cX8_takeFor 17 = .ok (.lconst 0, 1) := by decide +kernel
theorem dX8_takeFor_18 : decode cX8_takeFor 18 = .ok (.lconst 1, 1) := by decide +kernel
theorem dX8_takeFor_19 : decode cX8_takeFor 19 = .ok (.invokestatic 158, 3) := by decide +kernel
theorem dX8_takeFor_22 : decode cX8_takeFor 22 = .ok (.ifCond .ne 5, 3) := by decide +kernel
theorem dX8_takeFor_25 : decode cX8_takeFor 25 = .ok (.iconst (-1), 1) := by decide +kernel
theorem dX8_takeFor_26 : decode cX8_takeFor 26 = .ok (.ireturn, 1) := by decide +kernel
theorem dX8_takeFor_27 : decode cX8_takeFor 27 = .ok (.aload_n 0, 1) := by decide +kernel
theorem dX8_takeFor_28 : decode cX8_takeFor 28 = .ok (.iload_n 1, 1) := by decide +kernel
theorem dX8_takeFor_29 : decode cX8_takeFor 29 = .ok (.invokevirtual 252, 3) := by decide +kernel
theorem dX8_takeFor_32 : decode cX8_takeFor 32 = .ok (.istore 4, 2) := by decide +kernel
theorem dX8_takeFor_34 : decode cX8_takeFor 34 = .ok (.aload_n 0, 1) := by decide +kernel
theorem dX8_takeFor_35 : decode cX8_takeFor 35 = .ok (.iload 4, 2) := by decide +kernel
theorem dX8_takeFor_37 : decode cX8_takeFor 37 = .ok (.invokevirtual 111, 3) := by decide +kernel
theorem dX8_takeFor_40 : decode cX8_takeFor 40 = .ok (.istore 5, 2) := by decide +kernel
theorem dX8_takeFor_42 : decode cX8_takeFor 42 = .ok (.aload_n 0, 1) := by decide +kernel
theorem dX8_takeFor_43 : decode cX8_takeFor 43 = .ok (.invokevirtual 249, 3) := by decide +kernel
theorem dX8_takeFor_46 : decode cX8_takeFor 46 = .ok (.istore 6, 2) := by decide +kernel
theorem dX8_takeFor_48 : decode cX8_takeFor 48 = .ok (.iconst 1, 1) := by decide +kernel
theorem dX8_takeFor_49 : decode cX8_takeFor 49 = .ok (.istore 7, 2) := by decide +kernel
theorem dX8_takeFor_51 : decode cX8_takeFor 51 = .ok (.iload 7, 2) := by decide +kernel
theorem dX8_takeFor_53 : decode cX8_takeFor 53 = .ok (.iload 6, 2) := by decide +kernel
theorem dX8_takeFor_55 : decode cX8_takeFor 55 = .ok (.if_icmp .gt 59, 3) := by decide +kernel
theorem dX8_takeFor_58 : decode cX8_takeFor 58 = .ok (.aload_n 0, 1) := by decide +kernel
theorem dX8_takeFor_59 : decode cX8_takeFor 59 = .ok (.iload 7, 2) := by decide +kernel
theorem dX8_takeFor_61 : decode cX8_takeFor 61 = .ok (.iload 5, 2) := by decide +kernel
theorem dX8_takeFor_63 : decode cX8_takeFor 63 = .ok (.aload_n 0, 1) := by decide +kernel
theorem dX8_takeFor_64 : decode cX8_takeFor 64 = .ok (.getfield 7, 3) := by decide +kernel
theorem dX8_takeFor_67 : decode cX8_takeFor 67 = .ok (.bipush 8, 2) := by decide +kernel
theorem dX8_takeFor_69 : decode cX8_takeFor 69 = .ok (.iload 4, 2) := by decide +kernel
theorem dX8_takeFor_71 : decode cX8_takeFor 71 = .ok (.iadd, 1) := by decide +kernel
theorem dX8_takeFor_72 : decode cX8_takeFor 72 = .ok (.iaload, 1) := by decide +kernel
theorem dX8_takeFor_73 : decode cX8_takeFor 73 = .ok (.invokevirtual 114, 3) := by decide +kernel
theorem dX8_takeFor_76 : decode cX8_takeFor 76 = .ok (.iload_n 2, 1) := by decide +kernel
theorem dX8_takeFor_77 : decode cX8_takeFor 77 = .ok (.ifCond .ne 14, 3) := by decide +kernel
theorem dX8_takeFor_80 : decode cX8_takeFor 80 = .ok (.aload_n 0, 1) := by decide +kernel
theorem dX8_takeFor_81 : decode cX8_takeFor 81 = .ok (.iload_n 3, 1) := by decide +kernel
theorem dX8_takeFor_82 : decode cX8_takeFor 82 = .ok (.invokevirtual 100, 3) := by decide +kernel
theorem dX8_takeFor_85 : decode cX8_takeFor 85 = .ok (.ifCond .le 23, 3) := by decide +kernel
theorem dX8_takeFor_88 : decode cX8_takeFor 88 = .ok (.goto 17, 3) := by decide +kernel
theorem dX8_takeFor_91 : decode cX8_takeFor 91 = .ok (.aload_n 0, 1) := by decide +kernel
theorem dX8_takeFor_92 : decode cX8_takeFor 92 = .ok (.iload_n 3, 1) := by decide +kernel
theorem dX8_takeFor_93 : decode cX8_takeFor 93 = .ok (.invokevirtual 100, 3) := by decide +kernel
theorem dX8_takeFor_96 : decode cX8_takeFor 96 = .ok (.aload_n 0, 1) := by decide +kernel
theorem dX8_takeFor_97 : decode cX8_takeFor 97 = .ok (.getfield 26, 3) := by decide +kernel
theorem dX8_takeFor_100 : decode cX8_takeFor 100 = .ok (.iload_n 3, 1) := by decide +kernel
theorem dX8_takeFor_101 : decode cX8_takeFor 101 = .ok (.iaload, 1) := by decide +kernel
theorem dX8_takeFor_102 : decode cX8_takeFor 102 = .ok (.if_icmp .ne 6, 3) := by decide +kernel
theorem dX8_takeFor_105 : decode cX8_takeFor 105 = .ok (.iload 7, 2) := by decide +kernel
theorem dX8_takeFor_107 : decode cX8_takeFor 107 = .ok (.ireturn, 1) := by decide +kernel
theorem dX8_takeFor_108 : decode cX8_takeFor 108 = .ok (.iinc 7 1, 3) := by decide +kernel
theorem dX8_takeFor_111 : decode cX8_takeFor 111 = .ok (.goto (-60), 3) := by decide +kernel
theorem dX8_takeFor_114 : decode cX8_takeFor 114 = .ok (.iconst (-1), 1) := by decide +kernel
theorem dX8_takeFor_115 : decode cX8_takeFor 115 = .ok (.ireturn, 1) := by decide +kernel
set_option maxRecDepth 20000 in
theorem ggX8_splits_X8_laysFor : GoodIn wsX8_splits wsX8_laysFor := goodIn_r _ [13, 8, 14, 15, 16, 12, 17, 6, 18, 19, 20, 21, 22, 23, 24, 25, 7, 4, 26, 27, 28, 29, 56, 57, 58, 59, 60, 61, 62, 63, 64, 65, 66, 67, 68, 69, 70, 71, 72, 73, 74, 75, 76, 77, 78, 79, 80, 81, 82, 83, 84, 85, 86, 87] (by decide +kernel) (by decide +kernel)
set_option maxRecDepth 20000 in
theorem gX8_splits_X8_laysFor : GoodIn wsX8_splits (wsV RX8 246 RX8 yX8_laysFor wsX8_laysFor) := goodIn_app (goodIn_of _ (by decide +kernel)) ggX8_splits_X8_laysFor
set_option maxRecDepth 20000 in
theorem ggX8_splits_X8_within : GoodIn wsX8_splits wsX8_within := goodIn_r _ [32] (by decide +kernel) (by decide +kernel)
set_option maxRecDepth 20000 in
theorem gX8_splits_X8_within : GoodIn wsX8_splits (va_wsS RX8 158 yX8_within wsX8_within) := goodIn_app (goodIn_of _ (by decide +kernel)) ggX8_splits_X8_within
set_option maxRecDepth 20000 in
theorem ggX8_splits_X8_laidInAll : GoodIn wsX8_splits wsX8_laidInAll := goodIn_r _ [36, 7, 4, 56, 57, 58, 59, 60, 61, 62, 63, 64, 65, 66, 67, 68, 69, 70, 71, 72, 73, 74, 75, 76, 77, 78, 79, 80, 81, 82, 83, 84, 85, 86, 87] (by decide +kernel) (by decide +kernel)
set_option maxRecDepth 20000 in
theorem gX8_splits_X8_laidInAll : GoodIn wsX8_splits (wsV RX8 249 RX8 yX8_laidInAll wsX8_laidInAll) := goodIn_app (goodIn_of _ (by decide +kernel)) ggX8_splits_X8_laidInAll
set_option maxRecDepth 20000 in
theorem ggX8_splits_X8_sideOf : GoodIn wsX8_splits wsX8_sideOf := goodIn_r _ [40, 14, 15, 16, 12, 17, 6, 18, 19, 20, 21, 56, 57, 58, 59, 60, 61, 62, 63, 64, 65, 66, 67, 68, 69, 70, 71, 72, 73, 74, 75, 76, 77, 78, 79, 80, 81, 82, 83, 84, 85, 86, 87] (by decide +kernel) (by decide +kernel)
set_option maxRecDepth 20000 in
theorem gX8_splits_X8_sideOf : GoodIn wsX8_splits (wsV RX8 252 RX8 yX8_sideOf wsX8_sideOf) := goodIn_app (goodIn_of _ (by decide +kernel)) ggX8_splits_X8_sideOf
set_option maxRecDepth 20000 in
theorem ggX8_splits_X8_topLaid : GoodIn wsX8_splits wsX8_topLaid := goodIn_r _ [44, 7, 8, 6, 18, 19, 20, 12, 21, 56, 57, 58, 59, 60, 61, 62, 63, 64, 65, 66, 67, 68, 69, 70, 71, 72, 73, 74, 75, 76, 77, 78, 79, 80, 81, 82, 83, 84, 85, 86, 87] (by decide +kernel) (by decide +kernel)
set_option maxRecDepth 20000 in
theorem gX8_splits_X8_topLaid : GoodIn wsX8_splits (wsV RX8 111 RX8 yX8_topLaid wsX8_topLaid) := goodIn_app (goodIn_of _ (by decide +kernel)) ggX8_splits_X8_topLaid
set_option maxRecDepth 20000 in
theorem ggX8_splits_X8_shares : GoodIn wsX8_splits wsX8_shares := goodIn_r _ [48, 7, 49, 50, 51, 4, 6, 56, 57, 58, 59, 60, 61, 62, 63, 64, 65, 66, 67, 68, 69, 70, 71, 72, 73, 74, 75, 76, 77, 78, 79, 80, 81, 82, 83, 84, 85, 86, 87] (by decide +kernel) (by decide +kernel)
set_option maxRecDepth 20000 in
theorem gX8_splits_X8_shares : GoodIn wsX8_splits (wsV RX8 114 RX8 yX8_shares wsX8_shares) := goodIn_app (goodIn_of _ (by decide +kernel)) ggX8_splits_X8_shares
set_option maxRecDepth 20000 in
theorem ggX8_splits_X8_has : GoodIn wsX8_splits wsX8_has := goodIn_r _ [55, 49, 50, 51, 56, 57, 58, 59, 60, 61, 62, 63, 64, 65, 66, 67, 68, 69, 70, 71, 72, 73, 74, 75, 76, 77, 78, 79, 80, 81, 82, 83, 84, 85, 86, 87] (by decide +kernel) (by decide +kernel)
set_option maxRecDepth 20000 in
theorem gX8_splits_X8_has : GoodIn wsX8_splits (wsV RX8 100 RX8 yX8_has wsX8_has) := goodIn_app (goodIn_of _ (by decide +kernel)) ggX8_splits_X8_has
theorem dX8_splits_0 : decode cX8_splits 0 = .ok (.aload_n 0, 1) := by decide +kernel
theorem dX8_splits_1 : decode cX8_splits 1 = .ok (.iconst 0, 1) := by decide +kernel
theorem dX8_splits_2 : decode cX8_splits 2 = .ok (.putfield 45, 3) := by decide +kernel
theorem dX8_splits_5 : decode cX8_splits 5 = .ok (.aload_n 0, 1) := by decide +kernel
theorem dX8_splits_6 : decode cX8_splits 6 = .ok (.iload_n 1, 1) := by decide +kernel
theorem dX8_splits_7 : decode cX8_splits 7 = .ok (.invokevirtual 246, 3) := by decide +kernel
theorem dX8_splits_10 : decode cX8_splits 10 = .ok (.istore 4, 2) := by decide +kernel
theorem dX8_splits_12 : decode cX8_splits 12 = .ok (.iload 4, 2) := by decide +kernel
theorem dX8_splits_14 : decode cX8_splits 14 = .ok (.ifCond .lt 42, 3) := by decide +kernel
theorem dX8_splits_17 : decode cX8_splits 17 = .ok (.iload_n 2, 1) := by decide +kernel
theorem dX8_splits_18 : decode cX8_splits 18 = .ok (.i2l, 1) := by decide +kernel
theorem dX8_splits_19 : decode cX8_splits 19 = .ok (.ldc2_w 238, 3) := by decide +kernel
theorem dX8_splits_22 : decode cX8_splits 22 = .ok (.ldc2_w 156, 3) := by decide +kernel
theorem dX8_splits_25 : decode cX8_splits 25 = .ok (.invokestatic 158, 3) := by decide +kernel
theorem dX8_splits_28 : decode cX8_splits 28 = .ok (.ifCond .eq 28, 3) := by decide +kernel
theorem dX8_splits_31 : decode cX8_splits 31 = .ok (.aload_n 0, 1) := by decide +kernel
theorem dX8_splits_32 : decode cX8_splits 32 = .ok (.getfield 26, 3) := by decide +kernel
theorem dX8_splits_35 : decode cX8_splits 35 = .ok (.iload 4, 2) := by decide +kernel
theorem dX8_splits_37 : decode cX8_splits 37 = .ok (.iaload, 1) := by decide +kernel
theorem dX8_splits_38 : decode cX8_splits 38 = .ok (.iload_n 2, 1) := by decide +kernel
theorem dX8_splits_39 : decode cX8_splits 39 = .ok (.if_icmp .lt 17, 3) := by decide +kernel
theorem dX8_splits_42 : decode cX8_splits 42 = .ok (.iload_n 3, 1) := by decide +kernel
theorem dX8_splits_43 : decode cX8_splits 43 = .ok (.i2l, 1) := by decide +kernel
theorem dX8_splits_44 : decode cX8_splits 44 = .ok (.lconst 1, 1) := by decide +kernel
theorem dX8_splits_45 : decode cX8_splits 45 = .ok (.aload_n 0, 1) := by decide +kernel
theorem dX8_splits_46 : decode cX8_splits 46 = .ok (.invokevirtual 249, 3) := by decide +kernel
theorem dX8_splits_49 : decode cX8_splits 49 = .ok (.i2l, 1) := by decide +kernel
theorem dX8_splits_50 : decode cX8_splits 50 = .ok (.invokestatic 158, 3) := by decide +kernel
theorem dX8_splits_53 : decode cX8_splits 53 = .ok (.ifCond .ne 6, 3) := by decide +kernel
theorem dX8_splits_56 : decode cX8_splits 56 = .ok (.ldc 255, 2) := by decide +kernel
theorem dX8_splits_58 : decode cX8_splits 58 = .ok (.ireturn, 1) := by decide +kernel
theorem dX8_splits_59 : decode cX8_splits 59 = .ok (.aload_n 0, 1) := by decide +kernel
theorem dX8_splits_60 : decode cX8_splits 60 = .ok (.iload_n 1, 1) := by decide +kernel
theorem dX8_splits_61 : decode cX8_splits 61 = .ok (.invokevirtual 252, 3) := by decide +kernel
theorem dX8_splits_64 : decode cX8_splits 64 = .ok (.istore 5, 2) := by decide +kernel
theorem dX8_splits_66 : decode cX8_splits 66 = .ok (.aload_n 0, 1) := by decide +kernel
theorem dX8_splits_67 : decode cX8_splits 67 = .ok (.iload 5, 2) := by decide +kernel
theorem dX8_splits_69 : decode cX8_splits 69 = .ok (.invokevirtual 111, 3) := by decide +kernel
theorem dX8_splits_72 : decode cX8_splits 72 = .ok (.istore 6, 2) := by decide +kernel
theorem dX8_splits_74 : decode cX8_splits 74 = .ok (.aload_n 0, 1) := by decide +kernel
theorem dX8_splits_75 : decode cX8_splits 75 = .ok (.iload_n 3, 1) := by decide +kernel
theorem dX8_splits_76 : decode cX8_splits 76 = .ok (.iload 6, 2) := by decide +kernel
theorem dX8_splits_78 : decode cX8_splits 78 = .ok (.iload 4, 2) := by decide +kernel
theorem dX8_splits_80 : decode cX8_splits 80 = .ok (.if_icmp .ne 7, 3) := by decide +kernel
theorem dX8_splits_83 : decode cX8_splits 83 = .ok (.iconst (-1), 1) := by decide +kernel
theorem dX8_splits_84 : decode cX8_splits 84 = .ok (.goto 5, 3) := by decide +kernel
theorem dX8_splits_87 : decode cX8_splits 87 = .ok (.iload 6, 2) := by decide +kernel
theorem dX8_splits_89 : decode cX8_splits 89 = .ok (.aload_n 0, 1) := by decide +kernel
theorem dX8_splits_90 : decode cX8_splits 90 = .ok (.getfield 7, 3) := by decide +kernel
theorem dX8_splits_93 : decode cX8_splits 93 = .ok (.bipush 8, 2) := by decide +kernel
theorem dX8_splits_95 : decode cX8_splits 95 = .ok (.iload 5, 2) := by decide +kernel
theorem dX8_splits_97 : decode cX8_splits 97 = .ok (.iadd, 1) := by decide +kernel
theorem dX8_splits_98 : decode cX8_splits 98 = .ok (.iaload, 1) := by decide +kernel
theorem dX8_splits_99 : decode cX8_splits 99 = .ok (.invokevirtual 114, 3) := by decide +kernel
theorem dX8_splits_102 : decode cX8_splits 102 = .ok (.aload_n 0, 1) := by decide +kernel
theorem dX8_splits_103 : decode cX8_splits 103 = .ok (.iload 4, 2) := by decide +kernel
theorem dX8_splits_105 : decode cX8_splits 105 = .ok (.invokevirtual 100, 3) := by decide +kernel
theorem dX8_splits_108 : decode cX8_splits 108 = .ok (.istore 7, 2) := by decide +kernel
theorem dX8_splits_110 : decode cX8_splits 110 = .ok (.aload_n 0, 1) := by decide +kernel
theorem dX8_splits_111 : decode cX8_splits 111 = .ok (.getfield 26, 3) := by decide +kernel
theorem dX8_splits_114 : decode cX8_splits 114 = .ok (.iload 4, 2) := by decide +kernel
theorem dX8_splits_116 : decode cX8_splits 116 = .ok (.iaload, 1) := by decide +kernel
theorem dX8_splits_117 : decode cX8_splits 117 = .ok (.istore 8, 2) := by decide +kernel
theorem dX8_splits_119 : decode cX8_splits 119 = .ok (.aload_n 0, 1) := by decide +kernel
theorem dX8_splits_120 : decode cX8_splits 120 = .ok (.getfield 68, 3) := by decide +kernel
theorem dX8_splits_123 : decode cX8_splits 123 = .ok (.iconst 1, 1) := by decide +kernel
theorem dX8_splits_124 : decode cX8_splits 124 = .ok (.isub, 1) := by decide +kernel
theorem dX8_splits_125 : decode cX8_splits 125 = .ok (.istore 9, 2) := by decide +kernel
theorem dX8_splits_127 : decode cX8_splits 127 = .ok (.iload 9, 2) := by decide +kernel
theorem dX8_splits_129 : decode cX8_splits 129 = .ok (.iload 4, 2) := by decide +kernel
theorem dX8_splits_131 : decode cX8_splits 131 = .ok (.if_icmp .le 45, 3) := by decide +kernel
theorem dX8_splits_134 : decode cX8_splits 134 = .ok (.aload_n 0, 1) := by decide +kernel
theorem dX8_splits_135 : decode cX8_splits 135 = .ok (.getfield 26, 3) := by decide +kernel
theorem dX8_splits_138 : decode cX8_splits 138 = .ok (.iload 9, 2) := by decide +kernel
theorem dX8_splits_140 : decode cX8_splits 140 = .ok (.iload_n 2, 1) := by decide +kernel
theorem dX8_splits_141 : decode cX8_splits 141 = .ok (.iadd, 1) := by decide +kernel
theorem dX8_splits_142 : decode cX8_splits 142 = .ok (.iconst 1, 1) := by decide +kernel
theorem dX8_splits_143 : decode cX8_splits 143 = .ok (.isub, 1) := by decide +kernel
theorem dX8_splits_144 : decode cX8_splits 144 = .ok (.aload_n 0, 1) := by decide +kernel
theorem dX8_splits_145 : decode cX8_splits 145 = .ok (.getfield 26, 3) := by decide +kernel
theorem dX8_splits_148 : decode cX8_splits 148 = .ok (.iload 9, 2) := by decide +kernel
theorem dX8_splits_150 : decode cX8_splits 150 = .ok (.iaload, 1) := by decide +kernel
theorem dX8_splits_151 : decode cX8_splits 151 = .ok (.iastore, 1) := by decide +kernel
theorem dX8_splits_152 : decode cX8_splits 152 = .ok (.aload_n 0, 1) := by decide +kernel
theorem dX8_splits_153 : decode cX8_splits 153 = .ok (.getfield 23, 3) := by decide +kernel
theorem dX8_splits_156 : decode cX8_splits 156 = .ok (.iload 9, 2) := by decide +kernel
theorem dX8_splits_158 : decode cX8_splits 158 = .ok (.iload_n 2, 1) := by decide +kernel
theorem dX8_splits_159 : decode cX8_splits 159 = .ok (.iadd, 1) := by decide +kernel
theorem dX8_splits_160 : decode cX8_splits 160 = .ok (.iconst 1, 1) := by decide +kernel
theorem dX8_splits_161 : decode cX8_splits 161 = .ok (.isub, 1) := by decide +kernel
theorem dX8_splits_162 : decode cX8_splits 162 = .ok (.aload_n 0, 1) := by decide +kernel
theorem dX8_splits_163 : decode cX8_splits 163 = .ok (.getfield 23, 3) := by decide +kernel
theorem dX8_splits_166 : decode cX8_splits 166 = .ok (.iload 9, 2) := by decide +kernel
theorem dX8_splits_168 : decode cX8_splits 168 = .ok (.iaload, 1) := by decide +kernel
theorem dX8_splits_169 : decode cX8_splits 169 = .ok (.iastore, 1) := by decide +kernel
theorem dX8_splits_170 : decode cX8_splits 170 = .ok (.iinc 9 (-1), 3) := by decide +kernel
theorem dX8_splits_173 : decode cX8_splits 173 = .ok (.goto (-46), 3) := by decide +kernel
theorem dX8_splits_176 : decode cX8_splits 176 = .ok (.iconst 0, 1) := by decide +kernel
theorem dX8_splits_177 : decode cX8_splits 177 = .ok (.istore 9, 2) := by decide +kernel
theorem dX8_splits_179 : decode cX8_splits 179 = .ok (.iload 9, 2) := by decide +kernel
theorem dX8_splits_181 : decode cX8_splits 181 = .ok (.iload_n 2, 1) := by decide +kernel
theorem dX8_splits_182 : decode cX8_splits 182 = .ok (.if_icmp .ge 49, 3) := by decide +kernel
theorem dX8_splits_185 : decode cX8_splits 185 = .ok (.aload_n 0, 1) := by decide +kernel
theorem dX8_splits_186 : decode cX8_splits 186 = .ok (.getfield 26, 3) := by decide +kernel
theorem dX8_splits_189 : decode cX8_splits 189 = .ok (.iload 4, 2) := by decide +kernel
theorem dX8_splits_191 : decode cX8_splits 191 = .ok (.iload 9, 2) := by decide +kernel
theorem dX8_splits_193 : decode cX8_splits 193 = .ok (.iadd, 1) := by decide +kernel
theorem dX8_splits_194 : decode cX8_splits 194 = .ok (.iload 8, 2) := by decide +kernel
theorem dX8_splits_196 : decode cX8_splits 196 = .ok (.iload_n 2, 1) := by decide +kernel
theorem dX8_splits_197 : decode cX8_splits 197 = .ok (.idiv, 1) := by decide +kernel
theorem dX8_splits_198 : decode cX8_splits 198 = .ok (.iload 9, 2) := by decide +kernel
theorem dX8_splits_200 : decode cX8_splits 200 = .ok (.iload 8, 2) := by decide +kernel
theorem dX8_splits_202 : decode cX8_splits 202 = .ok (.iload_n 2, 1) := by decide +kernel
theorem dX8_splits_203 : decode cX8_splits 203 = .ok (.irem, 1) := by decide +kernel
theorem dX8_splits_204 : decode cX8_splits 204 = .ok (.if_icmp .ge 7, 3) := by decide +kernel
theorem dX8_splits_207 : decode cX8_splits 207 = .ok (.iconst 1, 1) := by decide +kernel
theorem dX8_splits_208 : decode cX8_splits 208 = .ok (.goto 4, 3) := by decide +kernel
theorem dX8_splits_211 : decode cX8_splits 211 = .ok (.iconst 0, 1) := by decide +kernel
theorem dX8_splits_212 : decode cX8_splits 212 = .ok (.iadd, 1) := by decide +kernel
theorem dX8_splits_213 : decode cX8_splits 213 = .ok (.iastore, 1) := by decide +kernel
theorem dX8_splits_214 : decode cX8_splits 214 = .ok (.aload_n 0, 1) := by decide +kernel
theorem dX8_splits_215 : decode cX8_splits 215 = .ok (.getfield 23, 3) := by decide +kernel
theorem dX8_splits_218 : decode cX8_splits 218 = .ok (.iload 4, 2) := by decide +kernel
theorem dX8_splits_220 : decode cX8_splits 220 = .ok (.iload 9, 2) := by decide +kernel
theorem dX8_splits_222 : decode cX8_splits 222 = .ok (.iadd, 1) := by decide +kernel
theorem dX8_splits_223 : decode cX8_splits 223 = .ok (.iconst (-1), 1) := by decide +kernel
theorem dX8_splits_224 : decode cX8_splits 224 = .ok (.iastore, 1) := by decide +kernel
theorem dX8_splits_225 : decode cX8_splits 225 = .ok (.iinc 9 1, 3) := by decide +kernel
theorem dX8_splits_228 : decode cX8_splits 228 = .ok (.goto (-49), 3) := by decide +kernel
theorem dX8_splits_231 : decode cX8_splits 231 = .ok (.aload_n 0, 1) := by decide +kernel
theorem dX8_splits_232 : decode cX8_splits 232 = .ok (.dup, 1) := by decide +kernel
theorem dX8_splits_233 : decode cX8_splits 233 = .ok (.getfield 68, 3) := by decide +kernel
theorem dX8_splits_236 : decode cX8_splits 236 = .ok (.iload_n 2, 1) := by decide +kernel
theorem dX8_splits_237 : decode cX8_splits 237 = .ok (.iconst 1, 1) := by decide +kernel
theorem dX8_splits_238 : decode cX8_splits 238 = .ok (.isub, 1) := by decide +kernel
theorem dX8_splits_239 : decode cX8_splits 239 = .ok (.iadd, 1) := by decide +kernel
theorem dX8_splits_240 : decode cX8_splits 240 = .ok (.putfield 68, 3) := by decide +kernel
theorem dX8_splits_243 : decode cX8_splits 243 = .ok (.aload_n 0, 1) := by decide +kernel
theorem dX8_splits_244 : decode cX8_splits 244 = .ok (.iload_n 3, 1) := by decide +kernel
theorem dX8_splits_245 : decode cX8_splits 245 = .ok (.iload 6, 2) := by decide +kernel
theorem dX8_splits_247 : decode cX8_splits 247 = .ok (.iload 4, 2) := by decide +kernel
theorem dX8_splits_249 : decode cX8_splits 249 = .ok (.if_icmp .ne 7, 3) := by decide +kernel
theorem dX8_splits_252 : decode cX8_splits 252 = .ok (.iconst (-1), 1) := by decide +kernel
theorem dX8_splits_253 : decode cX8_splits 253 = .ok (.goto 21, 3) := by decide +kernel
theorem dX8_splits_256 : decode cX8_splits 256 = .ok (.iload 6, 2) := by decide +kernel
theorem dX8_splits_258 : decode cX8_splits 258 = .ok (.iload 4, 2) := by decide +kernel
theorem dX8_splits_260 : decode cX8_splits 260 = .ok (.if_icmp .le 12, 3) := by decide +kernel
theorem dX8_splits_263 : decode cX8_splits 263 = .ok (.iload 6, 2) := by decide +kernel
theorem dX8_splits_265 : decode cX8_splits 265 = .ok (.iload_n 2, 1) := by decide +kernel
theorem dX8_splits_266 : decode cX8_splits 266 = .ok (.iadd, 1) := by decide +kernel
theorem dX8_splits_267 : decode cX8_splits 267 = .ok (.iconst 1, 1) := by decide +kernel
theorem dX8_splits_268 : decode cX8_splits 268 = .ok (.isub, 1) := by decide +kernel
theorem dX8_splits_269 : decode cX8_splits 269 = .ok (.goto 5, 3) := by decide +kernel
theorem dX8_splits_272 : decode cX8_splits 272 = .ok (.iload 6, 2) := by decide +kernel
theorem dX8_splits_274 : decode cX8_splits 274 = .ok (.aload_n 0, 1) := by decide +kernel
theorem dX8_splits_275 : decode cX8_splits 275 = .ok (.getfield 7, 3) := by decide +kernel
theorem dX8_splits_278 : decode cX8_splits 278 = .ok (.bipush 8, 2) := by decide +kernel
theorem dX8_splits_280 : decode cX8_splits 280 = .ok (.iload 5, 2) := by decide +kernel
theorem dX8_splits_282 : decode cX8_splits 282 = .ok (.iadd, 1) := by decide +kernel
theorem dX8_splits_283 : decode cX8_splits 283 = .ok (.iaload, 1) := by decide +kernel
theorem dX8_splits_284 : decode cX8_splits 284 = .ok (.invokevirtual 114, 3) := by decide +kernel
theorem dX8_splits_287 : decode cX8_splits 287 = .ok (.iconst 0, 1) := by decide +kernel
theorem dX8_splits_288 : decode cX8_splits 288 = .ok (.istore 9, 2) := by decide +kernel
theorem dX8_splits_290 : decode cX8_splits 290 = .ok (.iconst 0, 1) := by decide +kernel
theorem dX8_splits_291 : decode cX8_splits 291 = .ok (.istore 10, 2) := by decide +kernel
theorem dX8_splits_293 : decode cX8_splits 293 = .ok (.iload 10, 2) := by decide +kernel
theorem dX8_splits_295 : decode cX8_splits 295 = .ok (.iload_n 2, 1) := by decide +kernel
theorem dX8_splits_296 : decode cX8_splits 296 = .ok (.if_icmp .ge 23, 3) := by decide +kernel
theorem dX8_splits_299 : decode cX8_splits 299 = .ok (.iload 9, 2) := by decide +kernel
theorem dX8_splits_301 : decode cX8_splits 301 = .ok (.aload_n 0, 1) := by decide +kernel
theorem dX8_splits_302 : decode cX8_splits 302 = .ok (.iload 4, 2) := by decide +kernel
theorem dX8_splits_304 : decode cX8_splits 304 = .ok (.iload 10, 2) := by decide +kernel
theorem dX8_splits_306 : decode cX8_splits 306 = .ok (.iadd, 1) := by decide +kernel
theorem dX8_splits_307 : decode cX8_splits 307 = .ok (.invokevirtual 100, 3) := by decide +kernel
theorem dX8_splits_310 : decode cX8_splits 310 = .ok (.iadd, 1) := by decide +kernel
theorem dX8_splits_311 : decode cX8_splits 311 = .ok (.istore 9, 2) := by decide +kernel
theorem dX8_splits_313 : decode cX8_splits 313 = .ok (.iinc 10 1, 3) := by decide +kernel
theorem dX8_splits_316 : decode cX8_splits 316 = .ok (.goto (-23), 3) := by decide +kernel
theorem dX8_splits_319 : decode cX8_splits 319 = .ok (.iload 9, 2) := by decide +kernel
theorem dX8_splits_321 : decode cX8_splits 321 = .ok (.iload 7, 2) := by decide +kernel
theorem dX8_splits_323 : decode cX8_splits 323 = .ok (.isub, 1) := by decide +kernel
theorem dX8_splits_324 : decode cX8_splits 324 = .ok (.ireturn, 1) := by decide +kernel
set_option maxRecDepth 20000 in
theorem ggX8_would_X8_isOrder : GoodIn wsX8_would wsX8_isOrder := goodIn_r _ [9, 10, 11, 12, 2, 13, 14, 8, 15] (by decide +kernel) (by decide +kernel)
set_option maxRecDepth 20000 in
theorem gX8_would_X8_isOrder : GoodIn wsX8_would (va_wsS RX8 174 yX8_isOrder wsX8_isOrder) := goodIn_app (goodIn_of _ (by decide +kernel)) ggX8_would_X8_isOrder
set_option maxRecDepth 20000 in
theorem ggX8_would_X8_isInt : GoodIn wsX8_would wsX8_isInt := goodIn_r _ [18, 19] (by decide +kernel) (by decide +kernel)
set_option maxRecDepth 20000 in
theorem gX8_would_X8_isInt : GoodIn wsX8_would (va_wsS RX8 178 yX8_isInt wsX8_isInt) := goodIn_app (goodIn_of _ (by decide +kernel)) ggX8_would_X8_isInt
set_option maxRecDepth 20000 in
theorem ggX8_would_X8_within : GoodIn wsX8_would wsX8_within := goodIn_r _ [15] (by decide +kernel) (by decide +kernel)
set_option maxRecDepth 20000 in
theorem gX8_would_X8_within : GoodIn wsX8_would (va_wsS RX8 158 yX8_within wsX8_within) := goodIn_app (goodIn_of _ (by decide +kernel)) ggX8_would_X8_within
set_option maxRecDepth 20000 in
theorem ggX8_would_X8_putsAside : GoodIn wsX8_would wsX8_putsAside := goodIn_r _ [23, 24, 25, 26, 27, 138, 139, 140, 141, 142, 143, 144, 145, 146, 147, 148, 149, 150, 151, 152, 153, 154, 155, 156, 157, 158, 159, 160, 161, 162, 163, 164, 165, 166, 167, 168, 169] (by decide +kernel) (by decide +kernel)
set_option maxRecDepth 20000 in
theorem gX8_would_X8_putsAside : GoodIn wsX8_would (wsV RX8 256 RX8 yX8_putsAside wsX8_putsAside) := goodIn_app (goodIn_of _ (by decide +kernel)) ggX8_would_X8_putsAside
set_option maxRecDepth 20000 in
theorem ggX8_would_X8_trading_h : GoodIn wsX8_would [Cond.code yX8_trading cX8_trading 9 (some .int)] := goodIn_r _ [31] (by decide +kernel) (by decide +kernel)
set_option maxRecDepth 20000 in
theorem ggX8_would_X8_trading_1 : GoodIn wsX8_would wsX8_trading_r1 := goodIn_r _ [25, 32, 33, 34, 35, 8, 36, 37, 38, 3, 4, 39, 5, 40, 41, 42, 43, 44, 45, 46, 47, 48, 49, 50] (by decide +kernel) (by decide +kernel)
set_option maxRecDepth 20000 in
theorem ggX8_would_X8_trading_2 : GoodIn wsX8_would wsX8_trading_r2 := goodIn_r _ [51, 52, 53, 54, 55, 56, 57, 58, 59, 60, 61, 62, 63, 64, 65, 66, 67, 68, 69, 70, 71, 72, 73, 74] (by decide +kernel) (by decide +kernel)
set_option maxRecDepth 20000 in
theorem ggX8_would_X8_trading_3 : GoodIn wsX8_would wsX8_trading_r3 := goodIn_r _ [75, 76, 77, 78, 79, 80, 81, 82, 83, 84, 85, 86, 87, 88, 89, 90, 91, 92, 93, 94, 95, 96, 97, 98] (by decide +kernel) (by decide +kernel)
set_option maxRecDepth 20000 in
theorem ggX8_would_X8_trading_4 : GoodIn wsX8_would wsX8_trading_r4 := goodIn_r _ [99, 100, 101, 102, 103, 104, 105, 106, 107, 108, 109, 110, 111, 112, 113, 114, 115, 116, 117, 118, 119, 120, 27, 121] (by decide +kernel) (by decide +kernel)
set_option maxRecDepth 20000 in
theorem ggX8_would_X8_trading_5 : GoodIn wsX8_would wsX8_trading_r5 := goodIn_r _ [122, 123, 124, 125, 126, 127, 128, 129, 130, 131, 132, 133] (by decide +kernel) (by decide +kernel)
set_option maxRecDepth 20000 in
theorem ggX8_would_X8_trading_6 : GoodIn wsX8_would wsX80 := goodIn_r _ [138, 139, 140, 141, 142, 143, 144, 145, 146, 147, 148, 149, 150, 151, 152, 153, 154, 155, 156, 157, 158, 159, 160, 161, 162, 163, 164, 165, 166, 167, 168, 169] (by decide +kernel) (by decide +kernel)
theorem ggX8_would_X8_trading : GoodIn wsX8_would wsX8_trading := goodIn_app ggX8_would_X8_trading_h (goodIn_app (goodIn_app ggX8_would_X8_trading_1 (goodIn_app ggX8_would_X8_trading_2 (goodIn_app ggX8_would_X8_trading_3 (goodIn_app ggX8_would_X8_trading_4 ggX8_would_X8_trading_5)))) ggX8_would_X8_trading_6)
set_option maxRecDepth 20000 in
theorem gX8_would_X8_trading : GoodIn wsX8_would (wsV RX8 170 RX8 yX8_trading wsX8_trading) := goodIn_app (goodIn_of _ (by decide +kernel)) ggX8_would_X8_trading
set_option maxRecDepth 20000 in
theorem ggX8_would_X8_putsBack : GoodIn wsX8_would wsX8_putsBack := goodIn_r _ [137, 25, 24, 27, 26, 138, 139, 140, 141, 142, 143, 144, 145, 146, 147, 148, 149, 150, 151, 152, 153, 154, 155, 156, 157, 158, 159, 160, 161, 162, 163, 164, 165, 166, 167, 168, 169] (by decide +kernel) (by decide +kernel)
set_option maxRecDepth 20000 in
theorem gX8_would_X8_putsBack : GoodIn wsX8_would (wsV RX8 259 RX8 yX8_putsBack wsX8_putsBack) := goodIn_app (goodIn_of _ (by decide +kernel)) ggX8_would_X8_putsBack
theorem dX8_would_0 : decode cX8_would 0 = .ok (.aload_n 0, 1) := by decide +kernel
theorem dX8_would_1 : decode cX8_would 1 = .ok (.iconst 0, 1) := by decide +kernel
theorem dX8_would_2 : decode cX8_would 2 = .ok (.putfield 45, 3) := by decide +kernel
theorem dX8_would_5 : decode cX8_would 5 = .ok (.iload_n 1, 1) := by decide +kernel
theorem dX8_would_6 : decode cX8_would 6 = .ok (.iload_n 2, 1) := by decide +kernel
theorem dX8_would_7 : decode cX8_would 7 = .ok (.iload_n 3, 1) := by decide +kernel
theorem dX8_would_8 : decode cX8_would 8 = .ok (.iload 4, 2) := by decide +kernel
theorem dX8_would_10 : decode cX8_would 10 = .ok (.iload 5, 2) := by decide +kernel
theorem dX8_would_12 : decode cX8_would 12 = .ok (.invokestatic 174, 3) := by decide +kernel
theorem dX8_would_15 : decode cX8_would 15 = .ok (.ifCond .eq 25, 3) := by decide +kernel
theorem dX8_would_18 : decode cX8_would 18 = .ok (.iload_n 3, 1) := by decide +kernel
theorem dX8_would_19 : decode cX8_would 19 = .ok (.iload 4, 2) := by decide +kernel
theorem dX8_would_21 : decode cX8_would 21 = .ok (.invokestatic 178, 3) := by decide +kernel
theorem dX8_would_24 : decode cX8_would 24 = .ok (.ifCond .eq 16, 3) := by decide +kernel
theorem dX8_would_27 : decode cX8_would 27 = .ok (.iload 6, 2) := by decide +kernel
theorem dX8_would_29 : decode cX8_would 29 = .ok (.i2l, 1) := by decide +kernel
theorem dX8_would_30 : decode cX8_would 30 = .ok (.lconst 0, 1) := by decide +kernel
theorem dX8_would_31 : decode cX8_would 31 = .ok (.ldc2_w 166, 3) := by decide +kernel
theorem dX8_would_34 : decode cX8_would 34 = .ok (.invokestatic 158, 3) := by decide +kernel
theorem dX8_would_37 : decode cX8_would 37 = .ok (.ifCond .ne 5, 3) := by decide +kernel
theorem dX8_would_40 : decode cX8_would 40 = .ok (.iconst (-1), 1) := by decide +kernel
theorem dX8_would_41 : decode cX8_would 41 = .ok (.ireturn, 1) := by decide +kernel
theorem dX8_would_42 : decode cX8_would 42 = .ok (.aload_n 0, 1) := by decide +kernel
theorem dX8_would_43 : decode cX8_would 43 = .ok (.invokevirtual 256, 3) := by decide +kernel
theorem dX8_would_46 : decode cX8_would 46 = .ok (.aload_n 0, 1) := by decide +kernel
theorem dX8_would_47 : decode cX8_would 47 = .ok (.iload_n 1, 1) := by decide +kernel
theorem dX8_would_48 : decode cX8_would 48 = .ok (.iload_n 2, 1) := by decide +kernel
theorem dX8_would_49 : decode cX8_would 49 = .ok (.iload_n 3, 1) := by decide +kernel
theorem dX8_would_50 : decode cX8_would 50 = .ok (.iload 4, 2) := by decide +kernel
theorem dX8_would_52 : decode cX8_would 52 = .ok (.iload 5, 2) := by decide +kernel
theorem dX8_would_54 : decode cX8_would 54 = .ok (.invokevirtual 170, 3) := by decide +kernel
theorem dX8_would_57 : decode cX8_would 57 = .ok (.istore 7, 2) := by decide +kernel
theorem dX8_would_59 : decode cX8_would 59 = .ok (.aload_n 0, 1) := by decide +kernel
theorem dX8_would_60 : decode cX8_would 60 = .ok (.invokevirtual 259, 3) := by decide +kernel
theorem dX8_would_63 : decode cX8_would 63 = .ok (.iload 6, 2) := by decide +kernel
theorem dX8_would_65 : decode cX8_would 65 = .ok (.ifCond .ne 10, 3) := by decide +kernel
theorem dX8_would_68 : decode cX8_would 68 = .ok (.aload_n 0, 1) := by decide +kernel
theorem dX8_would_69 : decode cX8_would 69 = .ok (.getfield 90, 3) := by decide +kernel
theorem dX8_would_72 : decode cX8_would 72 = .ok (.goto 31, 3) := by decide +kernel
theorem dX8_would_75 : decode cX8_would 75 = .ok (.iload 6, 2) := by decide +kernel
theorem dX8_would_77 : decode cX8_would 77 = .ok (.iconst 1, 1) := by decide +kernel
theorem dX8_would_78 : decode cX8_would 78 = .ok (.if_icmp .ne 8, 3) := by decide +kernel
theorem dX8_would_81 : decode cX8_would 81 = .ok (.iload 7, 2) := by decide +kernel
theorem dX8_would_83 : decode cX8_would 83 = .ok (.goto 20, 3) := by decide +kernel
theorem dX8_would_86 : decode cX8_would 86 = .ok (.iload 6, 2) := by decide +kernel
theorem dX8_would_88 : decode cX8_would 88 = .ok (.iconst 2, 1) := by decide +kernel
theorem dX8_would_89 : decode cX8_would 89 = .ok (.if_icmp .ne 10, 3) := by decide +kernel
theorem dX8_would_92 : decode cX8_would 92 = .ok (.aload_n 0, 1) := by decide +kernel
theorem dX8_would_93 : decode cX8_would 93 = .ok (.getfield 93, 3) := by decide +kernel
theorem dX8_would_96 : decode cX8_would 96 = .ok (.goto 7, 3) := by decide +kernel
theorem dX8_would_99 : decode cX8_would 99 = .ok (.aload_n 0, 1) := by decide +kernel
theorem dX8_would_100 : decode cX8_would 100 = .ok (.getfield 123, 3) := by decide +kernel
theorem dX8_would_103 : decode cX8_would 103 = .ok (.ireturn, 1) := by decide +kernel
set_option maxRecDepth 20000 in
theorem ggX8_worth_X8_isOrder : GoodIn wsX8_worth wsX8_isOrder := goodIn_r _ [7, 8, 9, 10, 11, 12, 13, 6, 14] (by decide +kernel) (by decide +kernel)
set_option maxRecDepth 20000 in
theorem gX8_worth_X8_isOrder : GoodIn wsX8_worth (va_wsS RX8 174 yX8_isOrder wsX8_isOrder) := goodIn_app (goodIn_of _ (by decide +kernel)) ggX8_worth_X8_isOrder
set_option maxRecDepth 20000 in
theorem ggX8_worth_X8_isInt : GoodIn wsX8_worth wsX8_isInt := goodIn_r _ [17, 18] (by decide +kernel) (by decide +kernel)
set_option maxRecDepth 20000 in
theorem gX8_worth_X8_isInt : GoodIn wsX8_worth (va_wsS RX8 178 yX8_isInt wsX8_isInt) := goodIn_app (goodIn_of _ (by decide +kernel)) ggX8_worth_X8_isInt
set_option maxRecDepth 20000 in
theorem ggX8_worth_X8_putsAside : GoodIn wsX8_worth wsX8_putsAside := goodIn_r _ [22, 23, 24, 25, 26, 138, 139, 140, 141, 142, 143, 144, 145, 146, 147, 148, 149, 150, 151, 152, 153, 154, 155, 156, 157, 158, 159, 160, 161, 162, 163, 164, 165, 166, 167, 168, 169] (by decide +kernel) (by decide +kernel)
set_option maxRecDepth 20000 in
theorem gX8_worth_X8_putsAside : GoodIn wsX8_worth (wsV RX8 256 RX8 yX8_putsAside wsX8_putsAside) := goodIn_app (goodIn_of _ (by decide +kernel)) ggX8_worth_X8_putsAside
set_option maxRecDepth 20000 in
theorem ggX8_worth_X8_trading_h : GoodIn wsX8_worth [Cond.code yX8_trading cX8_trading 9 (some .int)] := goodIn_r _ [30] (by decide +kernel) (by decide +kernel)
set_option maxRecDepth 20000 in
theorem ggX8_worth_X8_trading_1 : GoodIn wsX8_worth wsX8_trading_r1 := goodIn_r _ [24, 31, 32, 33, 34, 6, 35, 36, 37, 38, 39, 3, 40, 41, 42, 43, 44, 45, 46, 47, 48, 49, 50, 51] (by decide +kernel) (by decide +kernel)
set_option maxRecDepth 20000 in
theorem ggX8_worth_X8_trading_2 : GoodIn wsX8_worth wsX8_trading_r2 := goodIn_r _ [52, 53, 54, 55, 56, 57, 58, 59, 60, 61, 62, 63, 64, 65, 66, 67, 68, 69, 70, 71, 72, 73, 74, 75] (by decide +kernel) (by decide +kernel)
set_option maxRecDepth 20000 in
theorem ggX8_worth_X8_trading_3 : GoodIn wsX8_worth wsX8_trading_r3 := goodIn_r _ [76, 77, 78, 79, 80, 81, 82, 83, 84, 85, 86, 87, 88, 89, 90, 91, 92, 93, 94, 95, 96, 97, 98, 99] (by decide +kernel) (by decide +kernel)
set_option maxRecDepth 20000 in
theorem ggX8_worth_X8_trading_4 : GoodIn wsX8_worth wsX8_trading_r4 := goodIn_r _ [100, 101, 102, 103, 104, 105, 106, 107, 108, 109, 110, 111, 112, 113, 114, 115, 116, 117, 118, 119, 120, 121, 26, 2] (by decide +kernel) (by decide +kernel)
set_option maxRecDepth 20000 in
theorem ggX8_worth_X8_trading_5 : GoodIn wsX8_worth wsX8_trading_r5 := goodIn_r _ [122, 123, 124, 125, 126, 127, 128, 129, 130, 131, 132, 133] (by decide +kernel) (by decide +kernel)
set_option maxRecDepth 20000 in
theorem ggX8_worth_X8_trading_6 : GoodIn wsX8_worth wsX80 := goodIn_r _ [138, 139, 140, 141, 142, 143, 144, 145, 146, 147, 148, 149, 150, 151, 152, 153, 154, 155, 156, 157, 158, 159, 160, 161, 162, 163, 164, 165, 166, 167, 168, 169] (by decide +kernel) (by decide +kernel)
theorem ggX8_worth_X8_trading : GoodIn wsX8_worth wsX8_trading := goodIn_app ggX8_worth_X8_trading_h (goodIn_app (goodIn_app ggX8_worth_X8_trading_1 (goodIn_app ggX8_worth_X8_trading_2 (goodIn_app ggX8_worth_X8_trading_3 (goodIn_app ggX8_worth_X8_trading_4 ggX8_worth_X8_trading_5)))) ggX8_worth_X8_trading_6)
set_option maxRecDepth 20000 in
theorem gX8_worth_X8_trading : GoodIn wsX8_worth (wsV RX8 170 RX8 yX8_trading wsX8_trading) := goodIn_app (goodIn_of _ (by decide +kernel)) ggX8_worth_X8_trading
set_option maxRecDepth 20000 in
theorem ggX8_worth_X8_putsBack : GoodIn wsX8_worth wsX8_putsBack := goodIn_r _ [137, 24, 23, 26, 25, 138, 139, 140, 141, 142, 143, 144, 145, 146, 147, 148, 149, 150, 151, 152, 153, 154, 155, 156, 157, 158, 159, 160, 161, 162, 163, 164, 165, 166, 167, 168, 169] (by decide +kernel) (by decide +kernel)
set_option maxRecDepth 20000 in
theorem gX8_worth_X8_putsBack : GoodIn wsX8_worth (wsV RX8 259 RX8 yX8_putsBack wsX8_putsBack) := goodIn_app (goodIn_of _ (by decide +kernel)) ggX8_worth_X8_putsBack
theorem dX8_worth_0 : decode cX8_worth 0 = .ok (.aload_n 0, 1) := by decide +kernel
theorem dX8_worth_1 : decode cX8_worth 1 = .ok (.iconst 0, 1) := by decide +kernel
theorem dX8_worth_2 : decode cX8_worth 2 = .ok (.putfield 45, 3) := by decide +kernel
theorem dX8_worth_5 : decode cX8_worth 5 = .ok (.iload_n 1, 1) := by decide +kernel
theorem dX8_worth_6 : decode cX8_worth 6 = .ok (.iload_n 2, 1) := by decide +kernel
theorem dX8_worth_7 : decode cX8_worth 7 = .ok (.iload_n 3, 1) := by decide +kernel
theorem dX8_worth_8 : decode cX8_worth 8 = .ok (.iload 4, 2) := by decide +kernel
theorem dX8_worth_10 : decode cX8_worth 10 = .ok (.iload 5, 2) := by decide +kernel
theorem dX8_worth_12 : decode cX8_worth 12 = .ok (.invokestatic 174, 3) := by decide +kernel
theorem dX8_worth_15 : decode cX8_worth 15 = .ok (.ifCond .eq 12, 3) := by decide +kernel
theorem dX8_worth_18 : decode cX8_worth 18 = .ok (.iload_n 3, 1) := by decide +kernel
theorem dX8_worth_19 : decode cX8_worth 19 = .ok (.iload 4, 2) := by decide +kernel
theorem dX8_worth_21 : decode cX8_worth 21 = .ok (.invokestatic 178, 3) := by decide +kernel
theorem dX8_worth_24 : decode cX8_worth 24 = .ok (.ifCond .ne 7, 3) := by decide +kernel
theorem dX8_worth_27 : decode cX8_worth 27 = .ok (.ldc2_w 71, 3) := by decide +kernel
theorem dX8_worth_30 : decode cX8_worth 30 = .ok (.lreturn, 1) := by decide +kernel
theorem dX8_worth_31 : decode cX8_worth 31 = .ok (.aload_n 0, 1) := by decide +kernel
theorem dX8_worth_32 : decode cX8_worth 32 = .ok (.invokevirtual 256, 3) := by decide +kernel
theorem dX8_worth_35 : decode cX8_worth 35 = .ok (.aload_n 0, 1) := by decide +kernel
theorem dX8_worth_36 : decode cX8_worth 36 = .ok (.iload_n 1, 1) := by decide +kernel
theorem dX8_worth_37 : decode cX8_worth 37 = .ok (.iload_n 2, 1) := by decide +kernel
theorem dX8_worth_38 : decode cX8_worth 38 = .ok (.iload_n 3, 1) := by decide +kernel
theorem dX8_worth_39 : decode cX8_worth 39 = .ok (.iload 4, 2) := by decide +kernel
theorem dX8_worth_41 : decode cX8_worth 41 = .ok (.iload 5, 2) := by decide +kernel
theorem dX8_worth_43 : decode cX8_worth 43 = .ok (.invokevirtual 170, 3) := by decide +kernel
theorem dX8_worth_46 : decode cX8_worth 46 = .ok (.istore 6, 2) := by decide +kernel
theorem dX8_worth_48 : decode cX8_worth 48 = .ok (.aload_n 0, 1) := by decide +kernel
theorem dX8_worth_49 : decode cX8_worth 49 = .ok (.invokevirtual 259, 3) := by decide +kernel
theorem dX8_worth_52 : decode cX8_worth 52 = .ok (.iload 6, 2) := by decide +kernel
theorem dX8_worth_54 : decode cX8_worth 54 = .ok (.ifCond .lt 10, 3) := by decide +kernel
theorem dX8_worth_57 : decode cX8_worth 57 = .ok (.aload_n 0, 1) := by decide +kernel
theorem dX8_worth_58 : decode cX8_worth 58 = .ok (.getfield 96, 3) := by decide +kernel
theorem dX8_worth_61 : decode cX8_worth 61 = .ok (.goto 6, 3) := by decide +kernel
theorem dX8_worth_64 : decode cX8_worth 64 = .ok (.ldc2_w 71, 3) := by decide +kernel
theorem dX8_worth_67 : decode cX8_worth 67 = .ok (.lreturn, 1) := by decide +kernel
set_option maxRecDepth 20000 in
theorem ggX8_clears_X8_within : GoodIn wsX8_clears wsX8_within := goodIn_r _ [10] (by decide +kernel) (by decide +kernel)
set_option maxRecDepth 20000 in
theorem gX8_clears_X8_within : GoodIn wsX8_clears (va_wsS RX8 158 yX8_within wsX8_within) := goodIn_app (goodIn_of _ (by decide +kernel)) ggX8_clears_X8_within
set_option maxRecDepth 20000 in
theorem ggX8_clears_X8_clearing : GoodIn wsX8_clears wsX8_clearing := goodIn_r _ [14, 4, 5, 6, 15, 16, 17, 18, 9, 19, 3, 20, 21, 22, 23, 24, 25, 26, 27, 28, 29, 30, 31, 32, 33, 34, 35, 36, 37, 38, 39, 40, 41, 42, 43, 44, 45, 46, 47, 48, 49, 50, 51, 52, 53, 54, 55, 56, 57, 58, 59, 60, 61, 62, 63, 64, 65, 66, 67, 68, 69] (by decide +kernel) (by decide +kernel)
set_option maxRecDepth 20000 in
theorem gX8_clears_X8_clearing : GoodIn wsX8_clears (wsV RX8 226 RX8 yX8_clearing wsX8_clearing) := goodIn_app (goodIn_of _ (by decide +kernel)) ggX8_clears_X8_clearing
theorem dX8_clears_0 : decode cX8_clears 0 = .ok (.aload_n 0, 1) := by decide +kernel
theorem dX8_clears_1 : decode cX8_clears 1 = .ok (.iconst 0, 1) := by decide +kernel
theorem dX8_clears_2 : decode cX8_clears 2 = .ok (.putfield 45, 3) := by decide +kernel
theorem dX8_clears_5 : decode cX8_clears 5 = .ok (.iload_n 1, 1) := by decide +kernel
theorem dX8_clears_6 : decode cX8_clears 6 = .ok (.i2l, 1) := by decide +kernel
theorem dX8_clears_7 : decode cX8_clears 7 = .ok (.lconst 0, 1) := by decide +kernel
theorem dX8_clears_8 : decode cX8_clears 8 = .ok (.ldc2_w 238, 3) := by decide +kernel
theorem dX8_clears_11 : decode cX8_clears 11 = .ok (.invokestatic 158, 3) := by decide +kernel
theorem dX8_clears_14 : decode cX8_clears 14 = .ok (.ifCond .ne 5, 3) := by decide +kernel
theorem dX8_clears_17 : decode cX8_clears 17 = .ok (.iconst (-1), 1) := by decide +kernel
theorem dX8_clears_18 : decode cX8_clears 18 = .ok (.ireturn, 1) := by decide +kernel
theorem dX8_clears_19 : decode cX8_clears 19 = .ok (.aload_n 0, 1) := by decide +kernel
theorem dX8_clears_20 : decode cX8_clears 20 = .ok (.getfield 7, 3) := by decide +kernel
theorem dX8_clears_23 : decode cX8_clears 23 = .ok (.iconst 2, 1) := by decide +kernel
theorem dX8_clears_24 : decode cX8_clears 24 = .ok (.iaload, 1) := by decide +kernel
theorem dX8_clears_25 : decode cX8_clears 25 = .ok (.ifCond .ne 5, 3) := by decide +kernel
theorem dX8_clears_28 : decode cX8_clears 28 = .ok (.iconst 0, 1) := by decide +kernel
theorem dX8_clears_29 : decode cX8_clears 29 = .ok (.ireturn, 1) := by decide +kernel
theorem dX8_clears_30 : decode cX8_clears 30 = .ok (.aload_n 0, 1) := by decide +kernel
theorem dX8_clears_31 : decode cX8_clears 31 = .ok (.invokevirtual 226, 3) := by decide +kernel
theorem dX8_clears_34 : decode cX8_clears 34 = .ok (.iload_n 1, 1) := by decide +kernel
theorem dX8_clears_35 : decode cX8_clears 35 = .ok (.ifCond .ne 10, 3) := by decide +kernel
theorem dX8_clears_38 : decode cX8_clears 38 = .ok (.aload_n 0, 1) := by decide +kernel
theorem dX8_clears_39 : decode cX8_clears 39 = .ok (.getfield 217, 3) := by decide +kernel
theorem dX8_clears_42 : decode cX8_clears 42 = .ok (.goto 19, 3) := by decide +kernel
theorem dX8_clears_45 : decode cX8_clears 45 = .ok (.iload_n 1, 1) := by decide +kernel
theorem dX8_clears_46 : decode cX8_clears 46 = .ok (.iconst 1, 1) := by decide +kernel
theorem dX8_clears_47 : decode cX8_clears 47 = .ok (.if_icmp .ne 10, 3) := by decide +kernel
theorem dX8_clears_50 : decode cX8_clears 50 = .ok (.aload_n 0, 1) := by decide +kernel
theorem dX8_clears_51 : decode cX8_clears 51 = .ok (.getfield 208, 3) := by decide +kernel
theorem dX8_clears_54 : decode cX8_clears 54 = .ok (.goto 7, 3) := by decide +kernel
theorem dX8_clears_57 : decode cX8_clears 57 = .ok (.aload_n 0, 1) := by decide +kernel
theorem dX8_clears_58 : decode cX8_clears 58 = .ok (.getfield 214, 3) := by decide +kernel
theorem dX8_clears_61 : decode cX8_clears 61 = .ok (.ireturn, 1) := by decide +kernel
set_option maxRecDepth 20000 in
theorem ggX8_trade_X8_within : GoodIn wsX8_trade wsX8_within := goodIn_r _ [7] (by decide +kernel) (by decide +kernel)
set_option maxRecDepth 20000 in
theorem gX8_trade_X8_within : GoodIn wsX8_trade (va_wsS RX8 158 yX8_within wsX8_within) := goodIn_app (goodIn_of _ (by decide +kernel)) ggX8_trade_X8_within
theorem dX8_trade_0 : decode cX8_trade 0 = .ok (.aload_n 0, 1) := by decide +kernel
theorem dX8_trade_1 : decode cX8_trade 1 = .ok (.iconst 0, 1) := by decide +kernel
theorem dX8_trade_2 : decode cX8_trade 2 = .ok (.putfield 45, 3) := by decide +kernel
theorem dX8_trade_5 : decode cX8_trade 5 = .ok (.iload_n 1, 1) := by decide +kernel
theorem dX8_trade_6 : decode cX8_trade 6 = .ok (.i2l, 1) := by decide +kernel
theorem dX8_trade_7 : decode cX8_trade 7 = .ok (.lconst 0, 1) := by decide +kernel
theorem dX8_trade_8 : decode cX8_trade 8 = .ok (.aload_n 0, 1) := by decide +kernel
theorem dX8_trade_9 : decode cX8_trade 9 = .ok (.getfield 7, 3) := by decide +kernel
theorem dX8_trade_12 : decode cX8_trade 12 = .ok (.bipush 10, 2) := by decide +kernel
theorem dX8_trade_14 : decode cX8_trade 14 = .ok (.iaload, 1) := by decide +kernel
theorem dX8_trade_15 : decode cX8_trade 15 = .ok (.iconst 1, 1) := by decide +kernel
theorem dX8_trade_16 : decode cX8_trade 16 = .ok (.isub, 1) := by decide +kernel
theorem dX8_trade_17 : decode cX8_trade 17 = .ok (.i2l, 1) := by decide +kernel
theorem dX8_trade_18 : decode cX8_trade 18 = .ok (.invokestatic 158, 3) := by decide +kernel
theorem dX8_trade_21 : decode cX8_trade 21 = .ok (.ifCond .eq 32, 3) := by decide +kernel
theorem dX8_trade_24 : decode cX8_trade 24 = .ok (.iload_n 2, 1) := by decide +kernel
theorem dX8_trade_25 : decode cX8_trade 25 = .ok (.i2l, 1) := by decide +kernel
theorem dX8_trade_26 : decode cX8_trade 26 = .ok (.lconst 0, 1) := by decide +kernel
theorem dX8_trade_27 : decode cX8_trade 27 = .ok (.ldc2_w 262, 3) := by decide +kernel
theorem dX8_trade_30 : decode cX8_trade 30 = .ok (.invokestatic 158, 3) := by decide +kernel
theorem dX8_trade_33 : decode cX8_trade 33 = .ok (.ifCond .eq 20, 3) := by decide +kernel
theorem dX8_trade_36 : decode cX8_trade 36 = .ok (.aload_n 0, 1) := by decide +kernel
theorem dX8_trade_37 : decode cX8_trade 37 = .ok (.getfield 7, 3) := by decide +kernel
theorem dX8_trade_40 : decode cX8_trade 40 = .ok (.sipush 384, 3) := by decide +kernel
theorem dX8_trade_43 : decode cX8_trade 43 = .ok (.iconst 5, 1) := by decide +kernel
theorem dX8_trade_44 : decode cX8_trade 44 = .ok (.iload_n 1, 1) := by decide +kernel
theorem dX8_trade_45 : decode cX8_trade 45 = .ok (.imul, 1) := by decide +kernel
theorem dX8_trade_46 : decode cX8_trade 46 = .ok (.iadd, 1) := by decide +kernel
theorem dX8_trade_47 : decode cX8_trade 47 = .ok (.iload_n 2, 1) := by decide +kernel
theorem dX8_trade_48 : decode cX8_trade 48 = .ok (.iadd, 1) := by decide +kernel
theorem dX8_trade_49 : decode cX8_trade 49 = .ok (.iaload, 1) := by decide +kernel
theorem dX8_trade_50 : decode cX8_trade 50 = .ok (.goto 4, 3) := by decide +kernel
theorem dX8_trade_53 : decode cX8_trade 53 = .ok (.iconst (-1), 1) := by decide +kernel
theorem dX8_trade_54 : decode cX8_trade 54 = .ok (.ireturn, 1) := by decide +kernel
set_option maxRecDepth 20000 in
theorem ggX8_position_X8_within : GoodIn wsX8_position wsX8_within := goodIn_r _ [7] (by decide +kernel) (by decide +kernel)
set_option maxRecDepth 20000 in
theorem gX8_position_X8_within : GoodIn wsX8_position (va_wsS RX8 158 yX8_within wsX8_within) := goodIn_app (goodIn_of _ (by decide +kernel)) ggX8_position_X8_within
theorem dX8_position_0 : decode cX8_position 0 = .ok (.aload_n 0, 1) := by decide +kernel
theorem dX8_position_1 : decode cX8_position 1 = .ok (.iload_n 1, 1) := by decide +kernel
theorem dX8_position_2 : decode cX8_position 2 = .ok (.i2l, 1) := by decide +kernel
theorem dX8_position_3 : decode cX8_position 3 = .ok (.lconst 0, 1) := by decide +kernel
theorem dX8_position_4 : decode cX8_position 4 = .ok (.ldc2_w 156, 3) := by decide +kernel
theorem dX8_position_7 : decode cX8_position 7 = .ok (.invokestatic 158, 3) := by decide +kernel
theorem dX8_position_10 : decode cX8_position 10 = .ok (.ifCond .eq 7, 3) := by decide +kernel
theorem dX8_position_13 : decode cX8_position 13 = .ok (.iconst 0, 1) := by decide +kernel
