set_option maxRecDepth 20000 in
theorem gX8_endOf_X8_ofOrder : GoodIn wsX8_endOf (wsV RX8 49 RX8 yX8_ofOrder wsX8_ofOrder) := goodIn_app (goodIn_of _ (by decide +kernel)) ggX8_endOf_X8_ofOrder
theorem dX8_endOf_0 : decode cX8_endOf 0 = .ok (.ldc 201, 2) := by decide +kernel
theorem dX8_endOf_2 : decode cX8_endOf 2 = .ok (.istore_n 2, 1) := by decide +kernel
theorem dX8_endOf_3 : decode cX8_endOf 3 = .ok (.iconst 0, 1) := by decide +kernel
theorem dX8_endOf_4 : decode cX8_endOf 4 = .ok (.istore_n 3, 1) := by decide +kernel
theorem dX8_endOf_5 : decode cX8_endOf 5 = .ok (.iload_n 3, 1) := by decide +kernel
theorem dX8_endOf_6 : decode cX8_endOf 6 = .ok (.aload_n 0, 1) := by decide +kernel
theorem dX8_endOf_7 : decode cX8_endOf 7 = .ok (.getfield 7, 3) := by decide +kernel
theorem dX8_endOf_10 : decode cX8_endOf 10 = .ok (.iconst 5, 1) := by decide +kernel
theorem dX8_endOf_11 : decode cX8_endOf 11 = .ok (.iaload, 1) := by decide +kernel
theorem dX8_endOf_12 : decode cX8_endOf 12 = .ok (.if_icmp .ge 52, 3) := by decide +kernel
theorem dX8_endOf_15 : decode cX8_endOf 15 = .ok (.aload_n 0, 1) := by decide +kernel
theorem dX8_endOf_16 : decode cX8_endOf 16 = .ok (.iload_n 3, 1) := by decide +kernel
theorem dX8_endOf_17 : decode cX8_endOf 17 = .ok (.iconst 2, 1) := by decide +kernel
theorem dX8_endOf_18 : decode cX8_endOf 18 = .ok (.invokevirtual 49, 3) := by decide +kernel
theorem dX8_endOf_21 : decode cX8_endOf 21 = .ok (.ifCond .ne 12, 3) := by decide +kernel
theorem dX8_endOf_24 : decode cX8_endOf 24 = .ok (.aload_n 0, 1) := by decide +kernel
theorem dX8_endOf_25 : decode cX8_endOf 25 = .ok (.iload_n 3, 1) := by decide +kernel
theorem dX8_endOf_26 : decode cX8_endOf 26 = .ok (.iconst 3, 1) := by decide +kernel
theorem dX8_endOf_27 : decode cX8_endOf 27 = .ok (.invokevirtual 49, 3) := by decide +kernel
theorem dX8_endOf_30 : decode cX8_endOf 30 = .ok (.goto 11, 3) := by decide +kernel
theorem dX8_endOf_33 : decode cX8_endOf 33 = .ok (.aload_n 0, 1) := by decide +kernel
theorem dX8_endOf_34 : decode cX8_endOf 34 = .ok (.iload_n 3, 1) := by decide +kernel
theorem dX8_endOf_35 : decode cX8_endOf 35 = .ok (.iconst 3, 1) := by decide +kernel
theorem dX8_endOf_36 : decode cX8_endOf 36 = .ok (.invokevirtual 49, 3) := by decide +kernel
theorem dX8_endOf_39 : decode cX8_endOf 39 = .ok (.iconst 1, 1) := by decide +kernel
theorem dX8_endOf_40 : decode cX8_endOf 40 = .ok (.isub, 1) := by decide +kernel
theorem dX8_endOf_41 : decode cX8_endOf 41 = .ok (.istore 4, 2) := by decide +kernel
theorem dX8_endOf_43 : decode cX8_endOf 43 = .ok (.iload 4, 2) := by decide +kernel
theorem dX8_endOf_45 : decode cX8_endOf 45 = .ok (.iload_n 1, 1) := by decide +kernel
theorem dX8_endOf_46 : decode cX8_endOf 46 = .ok (.if_icmp .lt 12, 3) := by decide +kernel
theorem dX8_endOf_49 : decode cX8_endOf 49 = .ok (.iload 4, 2) := by decide +kernel
theorem dX8_endOf_51 : decode cX8_endOf 51 = .ok (.iload_n 2, 1) := by decide +kernel
theorem dX8_endOf_52 : decode cX8_endOf 52 = .ok (.if_icmp .ge 6, 3) := by decide +kernel
theorem dX8_endOf_55 : decode cX8_endOf 55 = .ok (.iload 4, 2) := by decide +kernel
theorem dX8_endOf_57 : decode cX8_endOf 57 = .ok (.istore_n 2, 1) := by decide +kernel
theorem dX8_endOf_58 : decode cX8_endOf 58 = .ok (.iinc 3 1, 3) := by decide +kernel
theorem dX8_endOf_61 : decode cX8_endOf 61 = .ok (.goto (-56), 3) := by decide +kernel
theorem dX8_endOf_64 : decode cX8_endOf 64 = .ok (.iload_n 2, 1) := by decide +kernel
theorem dX8_endOf_65 : decode cX8_endOf 65 = .ok (.ireturn, 1) := by decide +kernel
set_option maxRecDepth 20000 in
theorem ggX8_weighs_X8_endOf : GoodIn wsX8_weighs wsX8_endOf := goodIn_r _ [9, 10, 1, 11, 12, 13, 8, 14, 25, 26, 27, 28, 29, 30, 31, 32, 33, 34, 35, 36, 37, 38, 39, 40, 41, 42, 43, 44, 45, 46, 47, 48, 49, 50, 51, 52, 53, 54, 55, 56] (by decide +kernel) (by decide +kernel)
set_option maxRecDepth 20000 in
theorem gX8_weighs_X8_endOf : GoodIn wsX8_weighs (wsV RX8 202 RX8 yX8_endOf wsX8_endOf) := goodIn_app (goodIn_of _ (by decide +kernel)) ggX8_weighs_X8_endOf
set_option maxRecDepth 20000 in
theorem ggX8_weighs_X8_wanted : GoodIn wsX8_weighs wsX8_wanted := goodIn_r _ [18, 1, 11, 12, 13, 8, 14, 19, 20, 21, 25, 26, 27, 28, 29, 30, 31, 32, 33, 34, 35, 36, 37, 38, 39, 40, 41, 42, 43, 44, 45, 46, 47, 48, 49, 50, 51, 52, 53, 54, 55, 56] (by decide +kernel) (by decide +kernel)
set_option maxRecDepth 20000 in
theorem gX8_weighs_X8_wanted : GoodIn wsX8_weighs (wsV RX8 205 RX8 yX8_wanted wsX8_wanted) := goodIn_app (goodIn_of _ (by decide +kernel)) ggX8_weighs_X8_wanted
set_option maxRecDepth 20000 in
theorem ggX8_weighs_X8_off0 : GoodIn wsX8_weighs wsX8_off0 := goodIn_r _ [24] (by decide +kernel) (by decide +kernel)
set_option maxRecDepth 20000 in
theorem gX8_weighs_X8_off0 : GoodIn wsX8_weighs (va_wsS RX8 211 yX8_off0 wsX8_off0) := goodIn_app (goodIn_of _ (by decide +kernel)) ggX8_weighs_X8_off0
theorem dX8_weighs_0 : decode cX8_weighs 0 = .ok (.aload_n 0, 1) := by decide +kernel
theorem dX8_weighs_1 : decode cX8_weighs 1 = .ok (.iload_n 1, 1) := by decide +kernel
theorem dX8_weighs_2 : decode cX8_weighs 2 = .ok (.invokevirtual 202, 3) := by decide +kernel
theorem dX8_weighs_5 : decode cX8_weighs 5 = .ok (.istore_n 2, 1) := by decide +kernel
theorem dX8_weighs_6 : decode cX8_weighs 6 = .ok (.aload_n 0, 1) := by decide +kernel
theorem dX8_weighs_7 : decode cX8_weighs 7 = .ok (.getfield 7, 3) := by decide +kernel
theorem dX8_weighs_10 : decode cX8_weighs 10 = .ok (.iconst 3, 1) := by decide +kernel
theorem dX8_weighs_11 : decode cX8_weighs 11 = .ok (.iaload, 1) := by decide +kernel
theorem dX8_weighs_12 : decode cX8_weighs 12 = .ok (.iload_n 1, 1) := by decide +kernel
theorem dX8_weighs_13 : decode cX8_weighs 13 = .ok (.if_icmp .ge 7, 3) := by decide +kernel
theorem dX8_weighs_16 : decode cX8_weighs 16 = .ok (.iload_n 1, 1) := by decide +kernel
theorem dX8_weighs_17 : decode cX8_weighs 17 = .ok (.goto 23, 3) := by decide +kernel
theorem dX8_weighs_20 : decode cX8_weighs 20 = .ok (.aload_n 0, 1) := by decide +kernel
theorem dX8_weighs_21 : decode cX8_weighs 21 = .ok (.getfield 7, 3) := by decide +kernel
theorem dX8_weighs_24 : decode cX8_weighs 24 = .ok (.iconst 3, 1) := by decide +kernel
theorem dX8_weighs_25 : decode cX8_weighs 25 = .ok (.iaload, 1) := by decide +kernel
theorem dX8_weighs_26 : decode cX8_weighs 26 = .ok (.iload_n 2, 1) := by decide +kernel
theorem dX8_weighs_27 : decode cX8_weighs 27 = .ok (.if_icmp .le 7, 3) := by decide +kernel
theorem dX8_weighs_30 : decode cX8_weighs 30 = .ok (.iload_n 2, 1) := by decide +kernel
theorem dX8_weighs_31 : decode cX8_weighs 31 = .ok (.goto 9, 3) := by decide +kernel
theorem dX8_weighs_34 : decode cX8_weighs 34 = .ok (.aload_n 0, 1) := by decide +kernel
theorem dX8_weighs_35 : decode cX8_weighs 35 = .ok (.getfield 7, 3) := by decide +kernel
theorem dX8_weighs_38 : decode cX8_weighs 38 = .ok (.iconst 3, 1) := by decide +kernel
theorem dX8_weighs_39 : decode cX8_weighs 39 = .ok (.iaload, 1) := by decide +kernel
theorem dX8_weighs_40 : decode cX8_weighs 40 = .ok (.istore_n 3, 1) := by decide +kernel
theorem dX8_weighs_41 : decode cX8_weighs 41 = .ok (.aload_n 0, 1) := by decide +kernel
theorem dX8_weighs_42 : decode cX8_weighs 42 = .ok (.iconst 0, 1) := by decide +kernel
theorem dX8_weighs_43 : decode cX8_weighs 43 = .ok (.iload_n 3, 1) := by decide +kernel
theorem dX8_weighs_44 : decode cX8_weighs 44 = .ok (.invokevirtual 205, 3) := by decide +kernel
theorem dX8_weighs_47 : decode cX8_weighs 47 = .ok (.istore 4, 2) := by decide +kernel
theorem dX8_weighs_49 : decode cX8_weighs 49 = .ok (.aload_n 0, 1) := by decide +kernel
theorem dX8_weighs_50 : decode cX8_weighs 50 = .ok (.iconst 1, 1) := by decide +kernel
theorem dX8_weighs_51 : decode cX8_weighs 51 = .ok (.iload_n 3, 1) := by decide +kernel
theorem dX8_weighs_52 : decode cX8_weighs 52 = .ok (.invokevirtual 205, 3) := by decide +kernel
theorem dX8_weighs_55 : decode cX8_weighs 55 = .ok (.istore 5, 2) := by decide +kernel
theorem dX8_weighs_57 : decode cX8_weighs 57 = .ok (.iload 5, 2) := by decide +kernel
theorem dX8_weighs_59 : decode cX8_weighs 59 = .ok (.iload 4, 2) := by decide +kernel
theorem dX8_weighs_61 : decode cX8_weighs 61 = .ok (.if_icmp .ge 8, 3) := by decide +kernel
theorem dX8_weighs_64 : decode cX8_weighs 64 = .ok (.iload 5, 2) := by decide +kernel
theorem dX8_weighs_66 : decode cX8_weighs 66 = .ok (.goto 5, 3) := by decide +kernel
theorem dX8_weighs_69 : decode cX8_weighs 69 = .ok (.iload 4, 2) := by decide +kernel
theorem dX8_weighs_71 : decode cX8_weighs 71 = .ok (.istore 6, 2) := by decide +kernel
theorem dX8_weighs_73 : decode cX8_weighs 73 = .ok (.iload 6, 2) := by decide +kernel
theorem dX8_weighs_75 : decode cX8_weighs 75 = .ok (.ifCond .eq 12, 3) := by decide +kernel
theorem dX8_weighs_78 : decode cX8_weighs 78 = .ok (.iload 6, 2) := by decide +kernel
theorem dX8_weighs_80 : decode cX8_weighs 80 = .ok (.aload_n 0, 1) := by decide +kernel
theorem dX8_weighs_81 : decode cX8_weighs 81 = .ok (.getfield 208, 3) := by decide +kernel
theorem dX8_weighs_84 : decode cX8_weighs 84 = .ok (.if_icmp .ge 4, 3) := by decide +kernel
theorem dX8_weighs_87 : decode cX8_weighs 87 = .ok (.return_, 1) := by decide +kernel
theorem dX8_weighs_88 : decode cX8_weighs 88 = .ok (.iload 6, 2) := by decide +kernel
theorem dX8_weighs_90 : decode cX8_weighs 90 = .ok (.aload_n 0, 1) := by decide +kernel
theorem dX8_weighs_91 : decode cX8_weighs 91 = .ok (.getfield 208, 3) := by decide +kernel
theorem dX8_weighs_94 : decode cX8_weighs 94 = .ok (.if_icmp .ne 74, 3) := by decide +kernel
theorem dX8_weighs_97 : decode cX8_weighs 97 = .ok (.iload 5, 2) := by decide +kernel
theorem dX8_weighs_99 : decode cX8_weighs 99 = .ok (.iload 4, 2) := by decide +kernel
theorem dX8_weighs_101 : decode cX8_weighs 101 = .ok (.invokestatic 211, 3) := by decide +kernel
theorem dX8_weighs_104 : decode cX8_weighs 104 = .ok (.istore 7, 2) := by decide +kernel
theorem dX8_weighs_106 : decode cX8_weighs 106 = .ok (.aload_n 0, 1) := by decide +kernel
theorem dX8_weighs_107 : decode cX8_weighs 107 = .ok (.getfield 214, 3) := by decide +kernel
theorem dX8_weighs_110 : decode cX8_weighs 110 = .ok (.ifCond .ge 11, 3) := by decide +kernel
theorem dX8_weighs_113 : decode cX8_weighs 113 = .ok (.aload_n 0, 1) := by decide +kernel
theorem dX8_weighs_114 : decode cX8_weighs 114 = .ok (.getfield 214, 3) := by decide +kernel
theorem dX8_weighs_117 : decode cX8_weighs 117 = .ok (.ineg, 1) := by decide +kernel
theorem dX8_weighs_118 : decode cX8_weighs 118 = .ok (.goto 7, 3) := by decide +kernel
theorem dX8_weighs_121 : decode cX8_weighs 121 = .ok (.aload_n 0, 1) := by decide +kernel
theorem dX8_weighs_122 : decode cX8_weighs 122 = .ok (.getfield 214, 3) := by decide +kernel
theorem dX8_weighs_125 : decode cX8_weighs 125 = .ok (.istore 8, 2) := by decide +kernel
theorem dX8_weighs_127 : decode cX8_weighs 127 = .ok (.iload 7, 2) := by decide +kernel
theorem dX8_weighs_129 : decode cX8_weighs 129 = .ok (.iload 8, 2) := by decide +kernel
theorem dX8_weighs_131 : decode cX8_weighs 131 = .ok (.if_icmp .gt 36, 3) := by decide +kernel
theorem dX8_weighs_134 : decode cX8_weighs 134 = .ok (.iload 7, 2) := by decide +kernel
theorem dX8_weighs_136 : decode cX8_weighs 136 = .ok (.iload 8, 2) := by decide +kernel
theorem dX8_weighs_138 : decode cX8_weighs 138 = .ok (.if_icmp .ne 30, 3) := by decide +kernel
theorem dX8_weighs_141 : decode cX8_weighs 141 = .ok (.iload_n 3, 1) := by decide +kernel
theorem dX8_weighs_142 : decode cX8_weighs 142 = .ok (.aload_n 0, 1) := by decide +kernel
theorem dX8_weighs_143 : decode cX8_weighs 143 = .ok (.getfield 7, 3) := by decide +kernel
theorem dX8_weighs_146 : decode cX8_weighs 146 = .ok (.iconst 3, 1) := by decide +kernel
theorem dX8_weighs_147 : decode cX8_weighs 147 = .ok (.iaload, 1) := by decide +kernel
theorem dX8_weighs_148 : decode cX8_weighs 148 = .ok (.invokestatic 211, 3) := by decide +kernel
theorem dX8_weighs_151 : decode cX8_weighs 151 = .ok (.aload_n 0, 1) := by decide +kernel
theorem dX8_weighs_152 : decode cX8_weighs 152 = .ok (.getfield 217, 3) := by decide +kernel
theorem dX8_weighs_155 : decode cX8_weighs 155 = .ok (.aload_n 0, 1) := by decide +kernel
theorem dX8_weighs_156 : decode cX8_weighs 156 = .ok (.getfield 7, 3) := by decide +kernel
theorem dX8_weighs_159 : decode cX8_weighs 159 = .ok (.iconst 3, 1) := by decide +kernel
theorem dX8_weighs_160 : decode cX8_weighs 160 = .ok (.iaload, 1) := by decide +kernel
theorem dX8_weighs_161 : decode cX8_weighs 161 = .ok (.invokestatic 211, 3) := by decide +kernel
theorem dX8_weighs_164 : decode cX8_weighs 164 = .ok (.if_icmp .lt 4, 3) := by decide +kernel
theorem dX8_weighs_167 : decode cX8_weighs 167 = .ok (.return_, 1) := by decide +kernel
theorem dX8_weighs_168 : decode cX8_weighs 168 = .ok (.aload_n 0, 1) := by decide +kernel
theorem dX8_weighs_169 : decode cX8_weighs 169 = .ok (.iload_n 3, 1) := by decide +kernel
theorem dX8_weighs_170 : decode cX8_weighs 170 = .ok (.putfield 217, 3) := by decide +kernel
theorem dX8_weighs_173 : decode cX8_weighs 173 = .ok (.aload_n 0, 1) := by decide +kernel
theorem dX8_weighs_174 : decode cX8_weighs 174 = .ok (.iload 6, 2) := by decide +kernel
theorem dX8_weighs_176 : decode cX8_weighs 176 = .ok (.putfield 208, 3) := by decide +kernel
theorem dX8_weighs_179 : decode cX8_weighs 179 = .ok (.aload_n 0, 1) := by decide +kernel
theorem dX8_weighs_180 : decode cX8_weighs 180 = .ok (.iload 4, 2) := by decide +kernel
theorem dX8_weighs_182 : decode cX8_weighs 182 = .ok (.iload 5, 2) := by decide +kernel
theorem dX8_weighs_184 : decode cX8_weighs 184 = .ok (.isub, 1) := by decide +kernel
theorem dX8_weighs_185 : decode cX8_weighs 185 = .ok (.putfield 214, 3) := by decide +kernel
theorem dX8_weighs_188 : decode cX8_weighs 188 = .ok (.return_, 1) := by decide +kernel
set_option maxRecDepth 20000 in
theorem ggX8_clearing_X8_weighs : GoodIn wsX8_clearing wsX8_weighs := goodIn_r _ [9, 10, 2, 3, 1, 11, 12, 13, 8, 14, 4, 15, 16, 17, 18, 19, 20, 21, 22, 23, 24, 25, 26, 27, 28, 29, 30, 31, 32, 33, 34, 35, 36, 37, 38, 39, 40, 41, 42, 43, 44, 45, 46, 47, 48, 49, 50, 51, 52, 53, 54, 55, 56, 57, 58, 59, 60] (by decide +kernel) (by decide +kernel)
set_option maxRecDepth 20000 in
theorem gX8_clearing_X8_weighs : GoodIn wsX8_clearing (wsV RX8 220 RX8 yX8_weighs wsX8_weighs) := goodIn_app (goodIn_of _ (by decide +kernel)) ggX8_clearing_X8_weighs
set_option maxRecDepth 20000 in
theorem ggX8_clearing_X8_endOf : GoodIn wsX8_clearing wsX8_endOf := goodIn_r _ [14, 4, 10, 15, 16, 17, 8, 18, 29, 30, 31, 32, 33, 34, 35, 36, 37, 38, 39, 40, 41, 42, 43, 44, 45, 46, 47, 48, 49, 50, 51, 52, 53, 54, 55, 56, 57, 58, 59, 60] (by decide +kernel) (by decide +kernel)
set_option maxRecDepth 20000 in
theorem gX8_clearing_X8_endOf : GoodIn wsX8_clearing (wsV RX8 202 RX8 yX8_endOf wsX8_endOf) := goodIn_app (goodIn_of _ (by decide +kernel)) ggX8_clearing_X8_endOf
theorem dX8_clearing_0 : decode cX8_clearing 0 = .ok (.aload_n 0, 1) := by decide +kernel
theorem dX8_clearing_1 : decode cX8_clearing 1 = .ok (.iconst 0, 1) := by decide +kernel
theorem dX8_clearing_2 : decode cX8_clearing 2 = .ok (.putfield 217, 3) := by decide +kernel
theorem dX8_clearing_5 : decode cX8_clearing 5 = .ok (.aload_n 0, 1) := by decide +kernel
theorem dX8_clearing_6 : decode cX8_clearing 6 = .ok (.iconst 0, 1) := by decide +kernel
theorem dX8_clearing_7 : decode cX8_clearing 7 = .ok (.putfield 208, 3) := by decide +kernel
theorem dX8_clearing_10 : decode cX8_clearing 10 = .ok (.aload_n 0, 1) := by decide +kernel
theorem dX8_clearing_11 : decode cX8_clearing 11 = .ok (.iconst 0, 1) := by decide +kernel
theorem dX8_clearing_12 : decode cX8_clearing 12 = .ok (.putfield 214, 3) := by decide +kernel
theorem dX8_clearing_15 : decode cX8_clearing 15 = .ok (.iconst 1, 1) := by decide +kernel
theorem dX8_clearing_16 : decode cX8_clearing 16 = .ok (.istore_n 1, 1) := by decide +kernel
theorem dX8_clearing_17 : decode cX8_clearing 17 = .ok (.iload_n 1, 1) := by decide +kernel
theorem dX8_clearing_18 : decode cX8_clearing 18 = .ok (.ldc 201, 2) := by decide +kernel
theorem dX8_clearing_20 : decode cX8_clearing 20 = .ok (.if_icmp .gt 19, 3) := by decide +kernel
theorem dX8_clearing_23 : decode cX8_clearing 23 = .ok (.aload_n 0, 1) := by decide +kernel
theorem dX8_clearing_24 : decode cX8_clearing 24 = .ok (.iload_n 1, 1) := by decide +kernel
theorem dX8_clearing_25 : decode cX8_clearing 25 = .ok (.invokevirtual 220, 3) := by decide +kernel
theorem dX8_clearing_28 : decode cX8_clearing 28 = .ok (.aload_n 0, 1) := by decide +kernel
theorem dX8_clearing_29 : decode cX8_clearing 29 = .ok (.iload_n 1, 1) := by decide +kernel
theorem dX8_clearing_30 : decode cX8_clearing 30 = .ok (.invokevirtual 202, 3) := by decide +kernel
theorem dX8_clearing_33 : decode cX8_clearing 33 = .ok (.iconst 1, 1) := by decide +kernel
theorem dX8_clearing_34 : decode cX8_clearing 34 = .ok (.iadd, 1) := by decide +kernel
theorem dX8_clearing_35 : decode cX8_clearing 35 = .ok (.istore_n 1, 1) := by decide +kernel
theorem dX8_clearing_36 : decode cX8_clearing 36 = .ok (.goto (-19), 3) := by decide +kernel
theorem dX8_clearing_39 : decode cX8_clearing 39 = .ok (.return_, 1) := by decide +kernel
set_option maxRecDepth 20000 in
theorem ggX8_opens_X8_ofOrder : GoodIn wsX8_opens wsX8_ofOrder := goodIn_r _ [7, 8, 19, 20, 21, 22, 23, 24, 25, 26, 27, 28, 29, 30, 31, 32, 33, 34, 35, 36, 37, 38, 39, 40, 41, 42, 43, 44, 45, 46, 47, 48, 49, 50] (by decide +kernel) (by decide +kernel)
set_option maxRecDepth 20000 in
theorem gX8_opens_X8_ofOrder : GoodIn wsX8_opens (wsV RX8 49 RX8 yX8_ofOrder wsX8_ofOrder) := goodIn_app (goodIn_of _ (by decide +kernel)) ggX8_opens_X8_ofOrder
set_option maxRecDepth 20000 in
theorem ggX8_opens_X8_tells : GoodIn wsX8_opens wsX8_tells := goodIn_r _ [12, 8, 19, 20, 21, 22, 23, 24, 25, 26, 27, 28, 29, 30, 31, 32, 33, 34, 35, 36, 37, 38, 39, 40, 41, 42, 43, 44, 45, 46, 47, 48, 49, 50] (by decide +kernel) (by decide +kernel)
set_option maxRecDepth 20000 in
theorem gX8_opens_X8_tells : GoodIn wsX8_opens (wsV RX8 76 RX8 yX8_tells wsX8_tells) := goodIn_app (goodIn_of _ (by decide +kernel)) ggX8_opens_X8_tells
set_option maxRecDepth 20000 in
theorem ggX8_opens_X8_moves : GoodIn wsX8_opens wsX8_moves := goodIn_r _ [16, 8, 17, 18, 19, 20, 21, 22, 23, 24, 25, 26, 27, 28, 29, 30, 31, 32, 33, 34, 35, 36, 37, 38, 39, 40, 41, 42, 43, 44, 45, 46, 47, 48, 49, 50] (by decide +kernel) (by decide +kernel)
set_option maxRecDepth 20000 in
theorem gX8_opens_X8_moves : GoodIn wsX8_opens (wsV RX8 83 RX8 yX8_moves wsX8_moves) := goodIn_app (goodIn_of _ (by decide +kernel)) ggX8_opens_X8_moves
theorem dX8_opens_0 : decode cX8_opens 0 = .ok (.iload_n 2, 1) := by decide +kernel
theorem dX8_opens_1 : decode cX8_opens 1 = .ok (.ifCond .ne 4, 3) := by decide +kernel
theorem dX8_opens_4 : decode cX8_opens 4 = .ok (.return_, 1) := by decide +kernel
theorem dX8_opens_5 : decode cX8_opens 5 = .ok (.aload_n 0, 1) := by decide +kernel
theorem dX8_opens_6 : decode cX8_opens 6 = .ok (.getfield 23, 3) := by decide +kernel
theorem dX8_opens_9 : decode cX8_opens 9 = .ok (.iload_n 1, 1) := by decide +kernel
theorem dX8_opens_10 : decode cX8_opens 10 = .ok (.iaload, 1) := by decide +kernel
theorem dX8_opens_11 : decode cX8_opens 11 = .ok (.istore 4, 2) := by decide +kernel
theorem dX8_opens_13 : decode cX8_opens 13 = .ok (.aload_n 0, 1) := by decide +kernel
theorem dX8_opens_14 : decode cX8_opens 14 = .ok (.aload_n 0, 1) := by decide +kernel
theorem dX8_opens_15 : decode cX8_opens 15 = .ok (.iload 4, 2) := by decide +kernel
theorem dX8_opens_17 : decode cX8_opens 17 = .ok (.iconst 0, 1) := by decide +kernel
theorem dX8_opens_18 : decode cX8_opens 18 = .ok (.invokevirtual 49, 3) := by decide +kernel
theorem dX8_opens_21 : decode cX8_opens 21 = .ok (.iconst 0, 1) := by decide +kernel
theorem dX8_opens_22 : decode cX8_opens 22 = .ok (.aload_n 0, 1) := by decide +kernel
theorem dX8_opens_23 : decode cX8_opens 23 = .ok (.getfield 217, 3) := by decide +kernel
theorem dX8_opens_26 : decode cX8_opens 26 = .ok (.iload_n 2, 1) := by decide +kernel
theorem dX8_opens_27 : decode cX8_opens 27 = .ok (.iload_n 3, 1) := by decide +kernel
theorem dX8_opens_28 : decode cX8_opens 28 = .ok (.invokevirtual 76, 3) := by decide +kernel
theorem dX8_opens_31 : decode cX8_opens 31 = .ok (.aload_n 0, 1) := by decide +kernel
theorem dX8_opens_32 : decode cX8_opens 32 = .ok (.aload_n 0, 1) := by decide +kernel
theorem dX8_opens_33 : decode cX8_opens 33 = .ok (.iload 4, 2) := by decide +kernel
theorem dX8_opens_35 : decode cX8_opens 35 = .ok (.iconst 1, 1) := by decide +kernel
theorem dX8_opens_36 : decode cX8_opens 36 = .ok (.invokevirtual 49, 3) := by decide +kernel
theorem dX8_opens_39 : decode cX8_opens 39 = .ok (.aload_n 0, 1) := by decide +kernel
theorem dX8_opens_40 : decode cX8_opens 40 = .ok (.iload 4, 2) := by decide +kernel
theorem dX8_opens_42 : decode cX8_opens 42 = .ok (.iconst 2, 1) := by decide +kernel
theorem dX8_opens_43 : decode cX8_opens 43 = .ok (.invokevirtual 49, 3) := by decide +kernel
theorem dX8_opens_46 : decode cX8_opens 46 = .ok (.aload_n 0, 1) := by decide +kernel
theorem dX8_opens_47 : decode cX8_opens 47 = .ok (.getfield 217, 3) := by decide +kernel
theorem dX8_opens_50 : decode cX8_opens 50 = .ok (.iload_n 2, 1) := by decide +kernel
theorem dX8_opens_51 : decode cX8_opens 51 = .ok (.invokevirtual 83, 3) := by decide +kernel
theorem dX8_opens_54 : decode cX8_opens 54 = .ok (.return_, 1) := by decide +kernel
set_option maxRecDepth 20000 in
theorem ggX8_opensSide_X8_bestOf : GoodIn wsX8_opensSide wsX8_bestOf := goodIn_r _ [11, 12, 13, 14, 15, 10, 16, 17, 18, 19, 72, 73, 74, 75, 76, 77, 78, 79, 80, 81, 82, 83, 84, 85, 86, 87, 88, 89, 90, 91, 92, 93, 94, 95, 96, 97, 98, 99, 100, 101, 102, 103] (by decide +kernel) (by decide +kernel)
set_option maxRecDepth 20000 in
theorem gX8_opensSide_X8_bestOf : GoodIn wsX8_opensSide (wsV RX8 126 RX8 yX8_bestOf wsX8_bestOf) := goodIn_app (goodIn_of _ (by decide +kernel)) ggX8_opensSide_X8_bestOf
set_option maxRecDepth 20000 in
theorem ggX8_opensSide_X8_lays : GoodIn wsX8_opensSide wsX8_lays := goodIn_r _ [23, 2, 12, 24, 5, 25, 26, 27, 10, 28, 13, 14, 15, 16, 72, 73, 74, 75, 76, 77, 78, 79, 80, 81, 82, 83, 84, 85, 86, 87, 88, 89, 90, 91, 92, 93, 94, 95, 96, 97, 98, 99, 100, 101, 102, 103] (by decide +kernel) (by decide +kernel)
set_option maxRecDepth 20000 in
theorem gX8_opensSide_X8_lays : GoodIn wsX8_opensSide (wsV RX8 107 RX8 yX8_lays wsX8_lays) := goodIn_app (goodIn_of _ (by decide +kernel)) ggX8_opensSide_X8_lays
set_option maxRecDepth 20000 in
theorem ggX8_opensSide_X8_sizesAt : GoodIn wsX8_opensSide wsX8_sizesAt := goodIn_r _ [32, 12, 25, 26, 27, 10, 28, 13, 14, 15, 16, 72, 73, 74, 75, 76, 77, 78, 79, 80, 81, 82, 83, 84, 85, 86, 87, 88, 89, 90, 91, 92, 93, 94, 95, 96, 97, 98, 99, 100, 101, 102, 103] (by decide +kernel) (by decide +kernel)
set_option maxRecDepth 20000 in
theorem gX8_opensSide_X8_sizesAt : GoodIn wsX8_opensSide (wsV RX8 140 RX8 yX8_sizesAt wsX8_sizesAt) := goodIn_app (goodIn_of _ (by decide +kernel)) ggX8_opensSide_X8_sizesAt
set_option maxRecDepth 20000 in
theorem ggX8_opensSide_X8_opens : GoodIn wsX8_opensSide wsX8_opens := goodIn_r _ [36, 24, 37, 13, 14, 15, 10, 16, 12, 38, 39, 40, 41, 42, 43, 44, 45, 46, 47, 72, 73, 74, 75, 76, 77, 78, 79, 80, 81, 82, 83, 84, 85, 86, 87, 88, 89, 90, 91, 92, 93, 94, 95, 96, 97, 98, 99, 100, 101, 102, 103] (by decide +kernel) (by decide +kernel)
set_option maxRecDepth 20000 in
theorem gX8_opensSide_X8_opens : GoodIn wsX8_opensSide (wsV RX8 223 RX8 yX8_opens wsX8_opens) := goodIn_app (goodIn_of _ (by decide +kernel)) ggX8_opensSide_X8_opens
set_option maxRecDepth 20000 in
theorem ggX8_opensSide_X8_shares : GoodIn wsX8_opensSide wsX8_shares := goodIn_r _ [51, 2, 3, 4, 6, 5, 12, 72, 73, 74, 75, 76, 77, 78, 79, 80, 81, 82, 83, 84, 85, 86, 87, 88, 89, 90, 91, 92, 93, 94, 95, 96, 97, 98, 99, 100, 101, 102, 103] (by decide +kernel) (by decide +kernel)
set_option maxRecDepth 20000 in
theorem gX8_opensSide_X8_shares : GoodIn wsX8_opensSide (wsV RX8 114 RX8 yX8_shares wsX8_shares) := goodIn_app (goodIn_of _ (by decide +kernel)) ggX8_opensSide_X8_shares
set_option maxRecDepth 20000 in
theorem ggX8_opensSide_X8_settles : GoodIn wsX8_opensSide wsX8_settles := goodIn_r _ [55, 12, 3, 2, 5, 24, 56, 57, 58, 10, 59, 60, 61, 62, 63, 4, 6, 64, 65, 66, 67, 68, 69, 70, 71, 13, 14, 15, 16, 72, 73, 74, 75, 76, 77, 78, 79, 80, 81, 82, 83, 84, 85, 86, 87, 88, 89, 90, 91, 92, 93, 94, 95, 96, 97, 98, 99, 100, 101, 102, 103] (by decide +kernel) (by decide +kernel)
set_option maxRecDepth 20000 in
theorem gX8_opensSide_X8_settles : GoodIn wsX8_opensSide (wsV RX8 120 RX8 yX8_settles wsX8_settles) := goodIn_app (goodIn_of _ (by decide +kernel)) ggX8_opensSide_X8_settles
theorem dX8_opensSide_0 : decode cX8_opensSide 0 = .ok (.aload_n 0, 1) := by decide +kernel
theorem dX8_opensSide_1 : decode cX8_opensSide 1 = .ok (.getfield 208, 3) := by decide +kernel
theorem dX8_opensSide_4 : decode cX8_opensSide 4 = .ok (.istore_n 2, 1) := by decide +kernel
theorem dX8_opensSide_5 : decode cX8_opensSide 5 = .ok (.iload_n 2, 1) := by decide +kernel
theorem dX8_opensSide_6 : decode cX8_opensSide 6 = .ok (.ifCond .le 189, 3) := by decide +kernel
theorem dX8_opensSide_9 : decode cX8_opensSide 9 = .ok (.aload_n 0, 1) := by decide +kernel
theorem dX8_opensSide_10 : decode cX8_opensSide 10 = .ok (.iload_n 1, 1) := by decide +kernel
theorem dX8_opensSide_11 : decode cX8_opensSide 11 = .ok (.invokevirtual 126, 3) := by decide +kernel
theorem dX8_opensSide_14 : decode cX8_opensSide 14 = .ok (.istore_n 3, 1) := by decide +kernel
theorem dX8_opensSide_15 : decode cX8_opensSide 15 = .ok (.aload_n 0, 1) := by decide +kernel
theorem dX8_opensSide_16 : decode cX8_opensSide 16 = .ok (.iload_n 1, 1) := by decide +kernel
theorem dX8_opensSide_17 : decode cX8_opensSide 17 = .ok (.iload_n 3, 1) := by decide +kernel
theorem dX8_opensSide_18 : decode cX8_opensSide 18 = .ok (.invokevirtual 107, 3) := by decide +kernel
theorem dX8_opensSide_21 : decode cX8_opensSide 21 = .ok (.aload_n 0, 1) := by decide +kernel
theorem dX8_opensSide_22 : decode cX8_opensSide 22 = .ok (.iload_n 1, 1) := by decide +kernel
theorem dX8_opensSide_23 : decode cX8_opensSide 23 = .ok (.iload_n 3, 1) := by decide +kernel
theorem dX8_opensSide_24 : decode cX8_opensSide 24 = .ok (.invokevirtual 140, 3) := by decide +kernel
theorem dX8_opensSide_27 : decode cX8_opensSide 27 = .ok (.istore 4, 2) := by decide +kernel
theorem dX8_opensSide_29 : decode cX8_opensSide 29 = .ok (.iload 4, 2) := by decide +kernel
theorem dX8_opensSide_31 : decode cX8_opensSide 31 = .ok (.iload_n 2, 1) := by decide +kernel
theorem dX8_opensSide_32 : decode cX8_opensSide 32 = .ok (.if_icmp .gt 68, 3) := by decide +kernel
theorem dX8_opensSide_35 : decode cX8_opensSide 35 = .ok (.iconst 0, 1) := by decide +kernel
theorem dX8_opensSide_36 : decode cX8_opensSide 36 = .ok (.istore 5, 2) := by decide +kernel
theorem dX8_opensSide_38 : decode cX8_opensSide 38 = .ok (.iload 5, 2) := by decide +kernel
theorem dX8_opensSide_40 : decode cX8_opensSide 40 = .ok (.aload_n 0, 1) := by decide +kernel
theorem dX8_opensSide_41 : decode cX8_opensSide 41 = .ok (.getfield 68, 3) := by decide +kernel
theorem dX8_opensSide_44 : decode cX8_opensSide 44 = .ok (.if_icmp .ge 53, 3) := by decide +kernel
theorem dX8_opensSide_47 : decode cX8_opensSide 47 = .ok (.aload_n 0, 1) := by decide +kernel
theorem dX8_opensSide_48 : decode cX8_opensSide 48 = .ok (.getfield 29, 3) := by decide +kernel
theorem dX8_opensSide_51 : decode cX8_opensSide 51 = .ok (.iload 5, 2) := by decide +kernel
theorem dX8_opensSide_53 : decode cX8_opensSide 53 = .ok (.iconst 0, 1) := by decide +kernel
theorem dX8_opensSide_54 : decode cX8_opensSide 54 = .ok (.iastore, 1) := by decide +kernel
theorem dX8_opensSide_55 : decode cX8_opensSide 55 = .ok (.aload_n 0, 1) := by decide +kernel
theorem dX8_opensSide_56 : decode cX8_opensSide 56 = .ok (.getfield 32, 3) := by decide +kernel
theorem dX8_opensSide_59 : decode cX8_opensSide 59 = .ok (.iload 5, 2) := by decide +kernel
theorem dX8_opensSide_61 : decode cX8_opensSide 61 = .ok (.aload_n 0, 1) := by decide +kernel
theorem dX8_opensSide_62 : decode cX8_opensSide 62 = .ok (.getfield 26, 3) := by decide +kernel
theorem dX8_opensSide_65 : decode cX8_opensSide 65 = .ok (.iload 5, 2) := by decide +kernel
theorem dX8_opensSide_67 : decode cX8_opensSide 67 = .ok (.iaload, 1) := by decide +kernel
theorem dX8_opensSide_68 : decode cX8_opensSide 68 = .ok (.iastore, 1) := by decide +kernel
theorem dX8_opensSide_69 : decode cX8_opensSide 69 = .ok (.aload_n 0, 1) := by decide +kernel
theorem dX8_opensSide_70 : decode cX8_opensSide 70 = .ok (.getfield 35, 3) := by decide +kernel
theorem dX8_opensSide_73 : decode cX8_opensSide 73 = .ok (.iload 5, 2) := by decide +kernel
theorem dX8_opensSide_75 : decode cX8_opensSide 75 = .ok (.iconst 0, 1) := by decide +kernel
theorem dX8_opensSide_76 : decode cX8_opensSide 76 = .ok (.iastore, 1) := by decide +kernel
theorem dX8_opensSide_77 : decode cX8_opensSide 77 = .ok (.aload_n 0, 1) := by decide +kernel
theorem dX8_opensSide_78 : decode cX8_opensSide 78 = .ok (.iload 5, 2) := by decide +kernel
theorem dX8_opensSide_80 : decode cX8_opensSide 80 = .ok (.aload_n 0, 1) := by decide +kernel
theorem dX8_opensSide_81 : decode cX8_opensSide 81 = .ok (.getfield 26, 3) := by decide +kernel
theorem dX8_opensSide_84 : decode cX8_opensSide 84 = .ok (.iload 5, 2) := by decide +kernel
theorem dX8_opensSide_86 : decode cX8_opensSide 86 = .ok (.iaload, 1) := by decide +kernel
theorem dX8_opensSide_87 : decode cX8_opensSide 87 = .ok (.iconst 3, 1) := by decide +kernel
theorem dX8_opensSide_88 : decode cX8_opensSide 88 = .ok (.invokevirtual 223, 3) := by decide +kernel
theorem dX8_opensSide_91 : decode cX8_opensSide 91 = .ok (.iinc 5 1, 3) := by decide +kernel
theorem dX8_opensSide_94 : decode cX8_opensSide 94 = .ok (.goto (-56), 3) := by decide +kernel
theorem dX8_opensSide_97 : decode cX8_opensSide 97 = .ok (.goto 74, 3) := by decide +kernel
theorem dX8_opensSide_100 : decode cX8_opensSide 100 = .ok (.aload_n 0, 1) := by decide +kernel
theorem dX8_opensSide_101 : decode cX8_opensSide 101 = .ok (.iload_n 2, 1) := by decide +kernel
theorem dX8_opensSide_102 : decode cX8_opensSide 102 = .ok (.iconst (-1), 1) := by decide +kernel
theorem dX8_opensSide_103 : decode cX8_opensSide 103 = .ok (.iconst 0, 1) := by decide +kernel
theorem dX8_opensSide_104 : decode cX8_opensSide 104 = .ok (.invokevirtual 114, 3) := by decide +kernel
theorem dX8_opensSide_107 : decode cX8_opensSide 107 = .ok (.iconst 0, 1) := by decide +kernel
theorem dX8_opensSide_108 : decode cX8_opensSide 108 = .ok (.istore 5, 2) := by decide +kernel
theorem dX8_opensSide_110 : decode cX8_opensSide 110 = .ok (.iload 5, 2) := by decide +kernel
theorem dX8_opensSide_112 : decode cX8_opensSide 112 = .ok (.aload_n 0, 1) := by decide +kernel
theorem dX8_opensSide_113 : decode cX8_opensSide 113 = .ok (.getfield 68, 3) := by decide +kernel
theorem dX8_opensSide_116 : decode cX8_opensSide 116 = .ok (.if_icmp .ge 23, 3) := by decide +kernel
theorem dX8_opensSide_119 : decode cX8_opensSide 119 = .ok (.aload_n 0, 1) := by decide +kernel
theorem dX8_opensSide_120 : decode cX8_opensSide 120 = .ok (.iload 5, 2) := by decide +kernel
theorem dX8_opensSide_122 : decode cX8_opensSide 122 = .ok (.aload_n 0, 1) := by decide +kernel
theorem dX8_opensSide_123 : decode cX8_opensSide 123 = .ok (.getfield 32, 3) := by decide +kernel
theorem dX8_opensSide_126 : decode cX8_opensSide 126 = .ok (.iload 5, 2) := by decide +kernel
theorem dX8_opensSide_128 : decode cX8_opensSide 128 = .ok (.iaload, 1) := by decide +kernel
theorem dX8_opensSide_129 : decode cX8_opensSide 129 = .ok (.iconst 1, 1) := by decide +kernel
theorem dX8_opensSide_130 : decode cX8_opensSide 130 = .ok (.invokevirtual 223, 3) := by decide +kernel
theorem dX8_opensSide_133 : decode cX8_opensSide 133 = .ok (.iinc 5 1, 3) := by decide +kernel
theorem dX8_opensSide_136 : decode cX8_opensSide 136 = .ok (.goto (-26), 3) := by decide +kernel
theorem dX8_opensSide_139 : decode cX8_opensSide 139 = .ok (.iconst 0, 1) := by decide +kernel
theorem dX8_opensSide_140 : decode cX8_opensSide 140 = .ok (.istore 5, 2) := by decide +kernel
theorem dX8_opensSide_142 : decode cX8_opensSide 142 = .ok (.iload 5, 2) := by decide +kernel
theorem dX8_opensSide_144 : decode cX8_opensSide 144 = .ok (.aload_n 0, 1) := by decide +kernel
theorem dX8_opensSide_145 : decode cX8_opensSide 145 = .ok (.getfield 68, 3) := by decide +kernel
theorem dX8_opensSide_148 : decode cX8_opensSide 148 = .ok (.if_icmp .ge 23, 3) := by decide +kernel
theorem dX8_opensSide_151 : decode cX8_opensSide 151 = .ok (.aload_n 0, 1) := by decide +kernel
theorem dX8_opensSide_152 : decode cX8_opensSide 152 = .ok (.iload 5, 2) := by decide +kernel
theorem dX8_opensSide_154 : decode cX8_opensSide 154 = .ok (.aload_n 0, 1) := by decide +kernel
theorem dX8_opensSide_155 : decode cX8_opensSide 155 = .ok (.getfield 35, 3) := by decide +kernel
theorem dX8_opensSide_158 : decode cX8_opensSide 158 = .ok (.iload 5, 2) := by decide +kernel
theorem dX8_opensSide_160 : decode cX8_opensSide 160 = .ok (.iaload, 1) := by decide +kernel
theorem dX8_opensSide_161 : decode cX8_opensSide 161 = .ok (.iconst 2, 1) := by decide +kernel
theorem dX8_opensSide_162 : decode cX8_opensSide 162 = .ok (.invokevirtual 223, 3) := by decide +kernel
theorem dX8_opensSide_165 : decode cX8_opensSide 165 = .ok (.iinc 5 1, 3) := by decide +kernel
theorem dX8_opensSide_168 : decode cX8_opensSide 168 = .ok (.goto (-26), 3) := by decide +kernel
theorem dX8_opensSide_171 : decode cX8_opensSide 171 = .ok (.iload_n 2, 1) := by decide +kernel
theorem dX8_opensSide_172 : decode cX8_opensSide 172 = .ok (.iload 4, 2) := by decide +kernel
theorem dX8_opensSide_174 : decode cX8_opensSide 174 = .ok (.iload_n 2, 1) := by decide +kernel
theorem dX8_opensSide_175 : decode cX8_opensSide 175 = .ok (.if_icmp .ge 8, 3) := by decide +kernel
theorem dX8_opensSide_178 : decode cX8_opensSide 178 = .ok (.iload 4, 2) := by decide +kernel
theorem dX8_opensSide_180 : decode cX8_opensSide 180 = .ok (.goto 4, 3) := by decide +kernel
theorem dX8_opensSide_183 : decode cX8_opensSide 183 = .ok (.iload_n 2, 1) := by decide +kernel
theorem dX8_opensSide_184 : decode cX8_opensSide 184 = .ok (.isub, 1) := by decide +kernel
theorem dX8_opensSide_185 : decode cX8_opensSide 185 = .ok (.istore_n 2, 1) := by decide +kernel
theorem dX8_opensSide_186 : decode cX8_opensSide 186 = .ok (.aload_n 0, 1) := by decide +kernel
theorem dX8_opensSide_187 : decode cX8_opensSide 187 = .ok (.iload_n 1, 1) := by decide +kernel
theorem dX8_opensSide_188 : decode cX8_opensSide 188 = .ok (.iconst (-1), 1) := by decide +kernel
theorem dX8_opensSide_189 : decode cX8_opensSide 189 = .ok (.invokevirtual 120, 3) := by decide +kernel
theorem dX8_opensSide_192 : decode cX8_opensSide 192 = .ok (.goto (-187), 3) := by decide +kernel
theorem dX8_opensSide_195 : decode cX8_opensSide 195 = .ok (.return_, 1) := by decide +kernel
set_option maxRecDepth 20000 in
theorem ggX8_opening_X8_clearing : GoodIn wsX8_opening wsX8_clearing := goodIn_r _ [8, 3, 2, 9, 10, 11, 12, 13, 7, 14, 1, 15, 16, 17, 18, 19, 20, 21, 22, 23, 24, 25, 26, 27, 28, 29, 30, 31, 32, 97, 98, 99, 100, 101, 102, 103, 104, 105, 106, 107, 108, 109, 110, 111, 112, 113, 114, 115, 116, 117, 118, 119, 120, 121, 122, 123, 124, 125, 126, 127, 128] (by decide +kernel) (by decide +kernel)
set_option maxRecDepth 20000 in
theorem gX8_opening_X8_clearing : GoodIn wsX8_opening (wsV RX8 226 RX8 yX8_clearing wsX8_clearing) := goodIn_app (goodIn_of _ (by decide +kernel)) ggX8_opening_X8_clearing
set_option maxRecDepth 20000 in
theorem ggX8_opening_X8_opensSide_h : GoodIn wsX8_opening [Cond.code yX8_opensSide cX8_opensSide 6 none] := goodIn_r _ [36] (by decide +kernel) (by decide +kernel)
set_option maxRecDepth 20000 in
theorem ggX8_opening_X8_opensSide_1 : GoodIn wsX8_opening wsX8_opensSide_r1 := goodIn_r _ [2, 37, 38, 39, 40, 41, 42, 43, 44, 7, 45, 1, 19, 20, 21, 22, 27, 28, 29, 46, 47, 48, 49, 50] (by decide +kernel) (by decide +kernel)
set_option maxRecDepth 20000 in
theorem ggX8_opening_X8_opensSide_2 : GoodIn wsX8_opening wsX8_opensSide_r2 := goodIn_r _ [51, 52, 53, 54, 55, 56, 57, 58, 59, 60, 61, 62, 3, 63, 64, 65, 66, 67, 68, 69, 70, 71, 72, 73] (by decide +kernel) (by decide +kernel)
set_option maxRecDepth 20000 in
theorem ggX8_opening_X8_opensSide_3 : GoodIn wsX8_opening wsX8_opensSide_r3 := goodIn_r _ [74, 75, 76, 77, 78, 79, 80, 81, 82, 83, 84, 85, 86, 87, 88, 89, 90, 91, 92, 93, 94, 95, 96] (by decide +kernel) (by decide +kernel)
set_option maxRecDepth 20000 in
theorem ggX8_opening_X8_opensSide_4 : GoodIn wsX8_opening wsX80 := goodIn_r _ [97, 98, 99, 100, 101, 102, 103, 104, 105, 106, 107, 108, 109, 110, 111, 112, 113, 114, 115, 116, 117, 118, 119, 120, 121, 122, 123, 124, 125, 126, 127, 128] (by decide +kernel) (by decide +kernel)
theorem ggX8_opening_X8_opensSide : GoodIn wsX8_opening wsX8_opensSide := goodIn_app ggX8_opening_X8_opensSide_h (goodIn_app (goodIn_app ggX8_opening_X8_opensSide_1 (goodIn_app ggX8_opening_X8_opensSide_2 ggX8_opening_X8_opensSide_3)) ggX8_opening_X8_opensSide_4)
set_option maxRecDepth 20000 in
theorem gX8_opening_X8_opensSide : GoodIn wsX8_opening (wsV RX8 229 RX8 yX8_opensSide wsX8_opensSide) := goodIn_app (goodIn_of _ (by decide +kernel)) ggX8_opening_X8_opensSide
theorem dX8_opening_0 : decode cX8_opening 0 = .ok (.aload_n 0, 1) := by decide +kernel
theorem dX8_opening_1 : decode cX8_opening 1 = .ok (.getfield 7, 3) := by decide +kernel
theorem dX8_opening_4 : decode cX8_opening 4 = .ok (.iconst 2, 1) := by decide +kernel
theorem dX8_opening_5 : decode cX8_opening 5 = .ok (.iaload, 1) := by decide +kernel
theorem dX8_opening_6 : decode cX8_opening 6 = .ok (.ifCond .ne 5, 3) := by decide +kernel
theorem dX8_opening_9 : decode cX8_opening 9 = .ok (.iconst (-1), 1) := by decide +kernel
theorem dX8_opening_10 : decode cX8_opening 10 = .ok (.ireturn, 1) := by decide +kernel
theorem dX8_opening_11 : decode cX8_opening 11 = .ok (.aload_n 0, 1) := by decide +kernel
theorem dX8_opening_12 : decode cX8_opening 12 = .ok (.getfield 7, 3) := by decide +kernel
theorem dX8_opening_15 : decode cX8_opening 15 = .ok (.iconst 2, 1) := by decide +kernel
theorem dX8_opening_16 : decode cX8_opening 16 = .ok (.iconst 0, 1) := by decide +kernel
theorem dX8_opening_17 : decode cX8_opening 17 = .ok (.iastore, 1) := by decide +kernel
theorem dX8_opening_18 : decode cX8_opening 18 = .ok (.aload_n 0, 1) := by decide +kernel
theorem dX8_opening_19 : decode cX8_opening 19 = .ok (.invokevirtual 226, 3) := by decide +kernel
theorem dX8_opening_22 : decode cX8_opening 22 = .ok (.aload_n 0, 1) := by decide +kernel
theorem dX8_opening_23 : decode cX8_opening 23 = .ok (.getfield 208, 3) := by decide +kernel
theorem dX8_opening_26 : decode cX8_opening 26 = .ok (.ifCond .ne 5, 3) := by decide +kernel
theorem dX8_opening_29 : decode cX8_opening 29 = .ok (.iconst 0, 1) := by decide +kernel
theorem dX8_opening_30 : decode cX8_opening 30 = .ok (.ireturn, 1) := by decide +kernel
theorem dX8_opening_31 : decode cX8_opening 31 = .ok (.aload_n 0, 1) := by decide +kernel
theorem dX8_opening_32 : decode cX8_opening 32 = .ok (.iconst 0, 1) := by decide +kernel
theorem dX8_opening_33 : decode cX8_opening 33 = .ok (.invokevirtual 229, 3) := by decide +kernel
theorem dX8_opening_36 : decode cX8_opening 36 = .ok (.aload_n 0, 1) := by decide +kernel
theorem dX8_opening_37 : decode cX8_opening 37 = .ok (.iconst 1, 1) := by decide +kernel
theorem dX8_opening_38 : decode cX8_opening 38 = .ok (.invokevirtual 229, 3) := by decide +kernel
theorem dX8_opening_41 : decode cX8_opening 41 = .ok (.aload_n 0, 1) := by decide +kernel
theorem dX8_opening_42 : decode cX8_opening 42 = .ok (.getfield 7, 3) := by decide +kernel
theorem dX8_opening_45 : decode cX8_opening 45 = .ok (.iconst 3, 1) := by decide +kernel
theorem dX8_opening_46 : decode cX8_opening 46 = .ok (.aload_n 0, 1) := by decide +kernel
theorem dX8_opening_47 : decode cX8_opening 47 = .ok (.getfield 217, 3) := by decide +kernel
theorem dX8_opening_50 : decode cX8_opening 50 = .ok (.iastore, 1) := by decide +kernel
theorem dX8_opening_51 : decode cX8_opening 51 = .ok (.aload_n 0, 1) := by decide +kernel
theorem dX8_opening_52 : decode cX8_opening 52 = .ok (.getfield 7, 3) := by decide +kernel
theorem dX8_opening_55 : decode cX8_opening 55 = .ok (.bipush 11, 2) := by decide +kernel
theorem dX8_opening_57 : decode cX8_opening 57 = .ok (.dup2, 1) := by decide +kernel
theorem dX8_opening_58 : decode cX8_opening 58 = .ok (.iaload, 1) := by decide +kernel
theorem dX8_opening_59 : decode cX8_opening 59 = .ok (.aload_n 0, 1) := by decide +kernel
theorem dX8_opening_60 : decode cX8_opening 60 = .ok (.getfield 208, 3) := by decide +kernel
theorem dX8_opening_63 : decode cX8_opening 63 = .ok (.iadd, 1) := by decide +kernel
theorem dX8_opening_64 : decode cX8_opening 64 = .ok (.iastore, 1) := by decide +kernel
theorem dX8_opening_65 : decode cX8_opening 65 = .ok (.aload_n 0, 1) := by decide +kernel
theorem dX8_opening_66 : decode cX8_opening 66 = .ok (.getfield 208, 3) := by decide +kernel
theorem dX8_opening_69 : decode cX8_opening 69 = .ok (.ireturn, 1) := by decide +kernel
set_option maxRecDepth 20000 in
theorem ggX8_open_X8_opening_h : GoodIn wsX8_open [Cond.code yX8_opening cX8_opening 1 (some .int)] := goodIn_r _ [6] (by decide +kernel) (by decide +kernel)
set_option maxRecDepth 20000 in
theorem ggX8_open_X8_opening_1 : GoodIn wsX8_open wsX8_opening_r1 := goodIn_r _ [7, 8, 9, 10, 11, 12, 5, 13, 14, 15, 16, 17, 18, 19, 20, 21, 22, 23, 24, 25, 26, 27, 28, 29] (by decide +kernel) (by decide +kernel)
set_option maxRecDepth 20000 in
theorem ggX8_open_X8_opening_2 : GoodIn wsX8_open wsX8_opening_r2 := goodIn_r _ [30, 31, 32, 33, 34, 35, 36, 37, 38, 39, 40, 41, 42, 43, 44, 45, 46, 47, 48, 49, 50, 51, 52, 53] (by decide +kernel) (by decide +kernel)
set_option maxRecDepth 20000 in
theorem ggX8_open_X8_opening_3 : GoodIn wsX8_open wsX8_opening_r3 := goodIn_r _ [54, 55, 56, 57, 58, 59, 60, 61, 62, 63, 64, 65, 66, 67, 68, 69, 70, 71, 72, 73, 74, 75, 76, 77] (by decide +kernel) (by decide +kernel)
set_option maxRecDepth 20000 in
theorem ggX8_open_X8_opening_4 : GoodIn wsX8_open wsX8_opening_r4 := goodIn_r _ [78, 79, 80, 81, 82, 83, 84, 85, 86, 87, 88, 89, 90, 91, 92, 93, 94, 95, 96, 97, 98, 99, 100, 101] (by decide +kernel) (by decide +kernel)
set_option maxRecDepth 20000 in
theorem ggX8_open_X8_opening_5 : GoodIn wsX8_open wsX80 := goodIn_r _ [102, 103, 104, 105, 106, 107, 108, 109, 110, 111, 112, 113, 114, 115, 116, 117, 118, 119, 120, 121, 122, 123, 124, 125, 126, 127, 128, 129, 130, 131, 132, 133] (by decide +kernel) (by decide +kernel)
theorem ggX8_open_X8_opening : GoodIn wsX8_open wsX8_opening := goodIn_app ggX8_open_X8_opening_h (goodIn_app (goodIn_app ggX8_open_X8_opening_1 (goodIn_app ggX8_open_X8_opening_2 (goodIn_app ggX8_open_X8_opening_3 ggX8_open_X8_opening_4))) ggX8_open_X8_opening_5)
set_option maxRecDepth 20000 in
theorem gX8_open_X8_opening : GoodIn wsX8_open (wsV RX8 232 RX8 yX8_opening wsX8_opening) := goodIn_app (goodIn_of _ (by decide +kernel)) ggX8_open_X8_opening
theorem dX8_open_0 : decode cX8_open 0 = .ok (.aload_n 0, 1) := by decide +kernel
theorem dX8_open_1 : decode cX8_open 1 = .ok (.iconst 0, 1) := by decide +kernel
theorem dX8_open_2 : decode cX8_open 2 = .ok (.putfield 45, 3) := by decide +kernel
theorem dX8_open_5 : decode cX8_open 5 = .ok (.aload_n 0, 1) := by decide +kernel
theorem dX8_open_6 : decode cX8_open 6 = .ok (.invokevirtual 232, 3) := by decide +kernel
theorem dX8_open_9 : decode cX8_open 9 = .ok (.ireturn, 1) := by decide +kernel
set_option maxRecDepth 20000 in
theorem ggX8_of_X8_placeOf : GoodIn wsX8_of wsX8_placeOf := goodIn_r _ [8, 3, 9, 10, 11, 7, 12, 16, 17, 18, 19, 20, 21, 22, 23, 24, 25, 26, 27, 28, 29, 30, 31, 32, 33, 34, 35, 36, 37, 38, 39, 40, 41, 42, 43, 44, 45, 46, 47] (by decide +kernel) (by decide +kernel)
set_option maxRecDepth 20000 in
theorem gX8_of_X8_placeOf : GoodIn wsX8_of (wsV RX8 184 RX8 yX8_placeOf wsX8_placeOf) := goodIn_app (goodIn_of _ (by decide +kernel)) ggX8_of_X8_placeOf
set_option maxRecDepth 20000 in
theorem ggX8_of_X8_within : GoodIn wsX8_of wsX8_within := goodIn_r _ [15] (by decide +kernel) (by decide +kernel)
set_option maxRecDepth 20000 in
theorem gX8_of_X8_within : GoodIn wsX8_of (va_wsS RX8 158 yX8_within wsX8_within) := goodIn_app (goodIn_of _ (by decide +kernel)) ggX8_of_X8_within
set_option maxRecDepth 20000 in
theorem ggX8_of_X8_ofOrder : GoodIn wsX8_of wsX8_ofOrder := goodIn_r _ [12, 3, 16, 17, 18, 19, 20, 21, 22, 23, 24, 25, 26, 27, 28, 29, 30, 31, 32, 33, 34, 35, 36, 37, 38, 39, 40, 41, 42, 43, 44, 45, 46, 47] (by decide +kernel) (by decide +kernel)
set_option maxRecDepth 20000 in
theorem gX8_of_X8_ofOrder : GoodIn wsX8_of (wsV RX8 49 RX8 yX8_ofOrder wsX8_ofOrder) := goodIn_app (goodIn_of _ (by decide +kernel)) ggX8_of_X8_ofOrder
theorem dX8_of_0 : decode cX8_of 0 = .ok (.aload_n 0, 1) := by decide +kernel
theorem dX8_of_1 : decode cX8_of 1 = .ok (.iconst 1, 1) := by decide +kernel
theorem dX8_of_2 : decode cX8_of 2 = .ok (.putfield 45, 3) := by decide +kernel
theorem dX8_of_5 : decode cX8_of 5 = .ok (.aload_n 0, 1) := by decide +kernel
theorem dX8_of_6 : decode cX8_of 6 = .ok (.iload_n 1, 1) := by decide +kernel
theorem dX8_of_7 : decode cX8_of 7 = .ok (.invokevirtual 184, 3) := by decide +kernel
theorem dX8_of_10 : decode cX8_of 10 = .ok (.istore_n 3, 1) := by decide +kernel
theorem dX8_of_11 : decode cX8_of 11 = .ok (.iload_n 3, 1) := by decide +kernel
theorem dX8_of_12 : decode cX8_of 12 = .ok (.ifCond .lt 15, 3) := by decide +kernel
theorem dX8_of_15 : decode cX8_of 15 = .ok (.iload_n 2, 1) := by decide +kernel
theorem dX8_of_16 : decode cX8_of 16 = .ok (.i2l, 1) := by decide +kernel
theorem dX8_of_17 : decode cX8_of 17 = .ok (.lconst 0, 1) := by decide +kernel
theorem dX8_of_18 : decode cX8_of 18 = .ok (.ldc2_w 236, 3) := by decide +kernel
theorem dX8_of_21 : decode cX8_of 21 = .ok (.invokestatic 158, 3) := by decide +kernel
theorem dX8_of_24 : decode cX8_of 24 = .ok (.ifCond .ne 5, 3) := by decide +kernel
theorem dX8_of_27 : decode cX8_of 27 = .ok (.iconst 0, 1) := by decide +kernel
theorem dX8_of_28 : decode cX8_of 28 = .ok (.ireturn, 1) := by decide +kernel
theorem dX8_of_29 : decode cX8_of 29 = .ok (.aload_n 0, 1) := by decide +kernel
theorem dX8_of_30 : decode cX8_of 30 = .ok (.iconst 0, 1) := by decide +kernel
theorem dX8_of_31 : decode cX8_of 31 = .ok (.putfield 45, 3) := by decide +kernel
theorem dX8_of_34 : decode cX8_of 34 = .ok (.iload_n 2, 1) := by decide +kernel
theorem dX8_of_35 : decode cX8_of 35 = .ok (.iconst 5, 1) := by decide +kernel
theorem dX8_of_36 : decode cX8_of 36 = .ok (.if_icmp .ge 12, 3) := by decide +kernel
theorem dX8_of_39 : decode cX8_of 39 = .ok (.aload_n 0, 1) := by decide +kernel
theorem dX8_of_40 : decode cX8_of 40 = .ok (.iload_n 3, 1) := by decide +kernel
theorem dX8_of_41 : decode cX8_of 41 = .ok (.iload_n 2, 1) := by decide +kernel
theorem dX8_of_42 : decode cX8_of 42 = .ok (.iconst 1, 1) := by decide +kernel
theorem dX8_of_43 : decode cX8_of 43 = .ok (.iadd, 1) := by decide +kernel
theorem dX8_of_44 : decode cX8_of 44 = .ok (.invokevirtual 49, 3) := by decide +kernel
theorem dX8_of_47 : decode cX8_of 47 = .ok (.ireturn, 1) := by decide +kernel
theorem dX8_of_48 : decode cX8_of 48 = .ok (.aload_n 0, 1) := by decide +kernel
theorem dX8_of_49 : decode cX8_of 49 = .ok (.iload_n 3, 1) := by decide +kernel
theorem dX8_of_50 : decode cX8_of 50 = .ok (.iconst 2, 1) := by decide +kernel
theorem dX8_of_51 : decode cX8_of 51 = .ok (.invokevirtual 49, 3) := by decide +kernel
theorem dX8_of_54 : decode cX8_of 54 = .ok (.istore 4, 2) := by decide +kernel
theorem dX8_of_56 : decode cX8_of 56 = .ok (.aload_n 0, 1) := by decide +kernel
theorem dX8_of_57 : decode cX8_of 57 = .ok (.getfield 7, 3) := by decide +kernel
theorem dX8_of_60 : decode cX8_of 60 = .ok (.bipush 6, 2) := by decide +kernel
theorem dX8_of_62 : decode cX8_of 62 = .ok (.iload 4, 2) := by decide +kernel
theorem dX8_of_64 : decode cX8_of 64 = .ok (.iadd, 1) := by decide +kernel
theorem dX8_of_65 : decode cX8_of 65 = .ok (.iaload, 1) := by decide +kernel
theorem dX8_of_66 : decode cX8_of 66 = .ok (.iload_n 1, 1) := by decide +kernel
theorem dX8_of_67 : decode cX8_of 67 = .ok (.if_icmp .ne 16, 3) := by decide +kernel
theorem dX8_of_70 : decode cX8_of 70 = .ok (.aload_n 0, 1) := by decide +kernel
theorem dX8_of_71 : decode cX8_of 71 = .ok (.getfield 7, 3) := by decide +kernel
theorem dX8_of_74 : decode cX8_of 74 = .ok (.bipush 8, 2) := by decide +kernel
theorem dX8_of_76 : decode cX8_of 76 = .ok (.iload 4, 2) := by decide +kernel
theorem dX8_of_78 : decode cX8_of 78 = .ok (.iadd, 1) := by decide +kernel
theorem dX8_of_79 : decode cX8_of 79 = .ok (.iaload, 1) := by decide +kernel
theorem dX8_of_80 : decode cX8_of 80 = .ok (.goto 4, 3) := by decide +kernel
theorem dX8_of_83 : decode cX8_of 83 = .ok (.iconst 0, 1) := by decide +kernel
theorem dX8_of_84 : decode cX8_of 84 = .ok (.ireturn, 1) := by decide +kernel
set_option maxRecDepth 20000 in
theorem ggX8_priceBehind_X8_ofOrder : GoodIn wsX8_priceBehind wsX8_ofOrder := goodIn_r _ [6, 1, 10, 11, 12, 13, 14, 15, 16, 17, 18, 19, 20, 21, 22, 23, 24, 25, 26, 27, 28, 29, 30, 31, 32, 33, 34, 35, 36, 37, 38, 39, 40, 41] (by decide +kernel) (by decide +kernel)
set_option maxRecDepth 20000 in
theorem gX8_priceBehind_X8_ofOrder : GoodIn wsX8_priceBehind (wsV RX8 49 RX8 yX8_ofOrder wsX8_ofOrder) := goodIn_app (goodIn_of _ (by decide +kernel)) ggX8_priceBehind_X8_ofOrder
set_option maxRecDepth 20000 in
theorem ggX8_priceBehind_X8_isBetter : GoodIn wsX8_priceBehind wsX8_isBetter := goodIn_r _ [9] (by decide +kernel) (by decide +kernel)
set_option maxRecDepth 20000 in
theorem gX8_priceBehind_X8_isBetter : GoodIn wsX8_priceBehind (va_wsS RX8 53 yX8_isBetter wsX8_isBetter) := goodIn_app (goodIn_of _ (by decide +kernel)) ggX8_priceBehind_X8_isBetter
theorem dX8_priceBehind_0 : decode cX8_priceBehind 0 = .ok (.iconst 0, 1) := by decide +kernel
theorem dX8_priceBehind_1 : decode cX8_priceBehind 1 = .ok (.istore_n 3, 1) := by decide +kernel
theorem dX8_priceBehind_2 : decode cX8_priceBehind 2 = .ok (.iconst 0, 1) := by decide +kernel
theorem dX8_priceBehind_3 : decode cX8_priceBehind 3 = .ok (.istore 4, 2) := by decide +kernel
