theorem dX5_deal_148 : decode cX5_deal 148 = .ok (.getfield 33, 3) := by decide +kernel
theorem dX5_deal_151 : decode cX5_deal 151 = .ok (.if_icmp .ge 53, 3) := by decide +kernel
theorem dX5_deal_154 : decode cX5_deal 154 = .ok (.aload_n 0, 1) := by decide +kernel
theorem dX5_deal_155 : decode cX5_deal 155 = .ok (.getfield 30, 3) := by decide +kernel
theorem dX5_deal_158 : decode cX5_deal 158 = .ok (.iload 6, 2) := by decide +kernel
theorem dX5_deal_160 : decode cX5_deal 160 = .ok (.iload_n 3, 1) := by decide +kernel
theorem dX5_deal_161 : decode cX5_deal 161 = .ok (.aload_n 0, 1) := by decide +kernel
theorem dX5_deal_162 : decode cX5_deal 162 = .ok (.getfield 17, 3) := by decide +kernel
theorem dX5_deal_165 : decode cX5_deal 165 = .ok (.iload 6, 2) := by decide +kernel
theorem dX5_deal_167 : decode cX5_deal 167 = .ok (.iaload, 1) := by decide +kernel
theorem dX5_deal_168 : decode cX5_deal 168 = .ok (.aload_n 0, 1) := by decide +kernel
theorem dX5_deal_169 : decode cX5_deal 169 = .ok (.getfield 24, 3) := by decide +kernel
theorem dX5_deal_172 : decode cX5_deal 172 = .ok (.iload 6, 2) := by decide +kernel
theorem dX5_deal_174 : decode cX5_deal 174 = .ok (.iaload, 1) := by decide +kernel
theorem dX5_deal_175 : decode cX5_deal 175 = .ok (.isub, 1) := by decide +kernel
theorem dX5_deal_176 : decode cX5_deal 176 = .ok (.aload_n 0, 1) := by decide +kernel
theorem dX5_deal_177 : decode cX5_deal 177 = .ok (.getfield 27, 3) := by decide +kernel
theorem dX5_deal_180 : decode cX5_deal 180 = .ok (.iload 6, 2) := by decide +kernel
theorem dX5_deal_182 : decode cX5_deal 182 = .ok (.iaload, 1) := by decide +kernel
theorem dX5_deal_183 : decode cX5_deal 183 = .ok (.isub, 1) := by decide +kernel
theorem dX5_deal_184 : decode cX5_deal 184 = .ok (.invokestatic 71, 3) := by decide +kernel
theorem dX5_deal_187 : decode cX5_deal 187 = .ok (.iastore, 1) := by decide +kernel
theorem dX5_deal_188 : decode cX5_deal 188 = .ok (.iload_n 3, 1) := by decide +kernel
theorem dX5_deal_189 : decode cX5_deal 189 = .ok (.aload_n 0, 1) := by decide +kernel
theorem dX5_deal_190 : decode cX5_deal 190 = .ok (.getfield 30, 3) := by decide +kernel
theorem dX5_deal_193 : decode cX5_deal 193 = .ok (.iload 6, 2) := by decide +kernel
theorem dX5_deal_195 : decode cX5_deal 195 = .ok (.iaload, 1) := by decide +kernel
theorem dX5_deal_196 : decode cX5_deal 196 = .ok (.isub, 1) := by decide +kernel
theorem dX5_deal_197 : decode cX5_deal 197 = .ok (.istore_n 3, 1) := by decide +kernel
theorem dX5_deal_198 : decode cX5_deal 198 = .ok (.iinc 6 1, 3) := by decide +kernel
theorem dX5_deal_201 : decode cX5_deal 201 = .ok (.goto (-56), 3) := by decide +kernel
theorem dX5_deal_204 : decode cX5_deal 204 = .ok (.return_, 1) := by decide +kernel
theorem dX5_portion_0 : decode cX5_portion 0 = .ok (.iload_n 2, 1) := by decide +kernel
theorem dX5_portion_1 : decode cX5_portion 1 = .ok (.ifCond .gt 5, 3) := by decide +kernel
theorem dX5_portion_4 : decode cX5_portion 4 = .ok (.iconst 0, 1) := by decide +kernel
theorem dX5_portion_5 : decode cX5_portion 5 = .ok (.ireturn, 1) := by decide +kernel
theorem dX5_portion_6 : decode cX5_portion 6 = .ok (.iload_n 0, 1) := by decide +kernel
theorem dX5_portion_7 : decode cX5_portion 7 = .ok (.iload_n 1, 1) := by decide +kernel
theorem dX5_portion_8 : decode cX5_portion 8 = .ok (.imul, 1) := by decide +kernel
theorem dX5_portion_9 : decode cX5_portion 9 = .ok (.iload_n 2, 1) := by decide +kernel
theorem dX5_portion_10 : decode cX5_portion 10 = .ok (.idiv, 1) := by decide +kernel
theorem dX5_portion_11 : decode cX5_portion 11 = .ok (.istore 4, 2) := by decide +kernel
theorem dX5_portion_13 : decode cX5_portion 13 = .ok (.iload 4, 2) := by decide +kernel
theorem dX5_portion_15 : decode cX5_portion 15 = .ok (.iload_n 3, 1) := by decide +kernel
theorem dX5_portion_16 : decode cX5_portion 16 = .ok (.if_icmp .ge 7, 3) := by decide +kernel
theorem dX5_portion_19 : decode cX5_portion 19 = .ok (.iconst 0, 1) := by decide +kernel
theorem dX5_portion_20 : decode cX5_portion 20 = .ok (.goto 5, 3) := by decide +kernel
theorem dX5_portion_23 : decode cX5_portion 23 = .ok (.iload 4, 2) := by decide +kernel
theorem dX5_portion_25 : decode cX5_portion 25 = .ok (.ireturn, 1) := by decide +kernel
theorem dX5_partAt_0 : decode cX5_partAt 0 = .ok (.iload_n 2, 1) := by decide +kernel
theorem dX5_partAt_1 : decode cX5_partAt 1 = .ok (.tableswitch 48 1 3 #[27, 34, 41], 27) := by decide +kernel
theorem dX5_partAt_28 : decode cX5_partAt 28 = .ok (.aload_n 0, 1) := by decide +kernel
theorem dX5_partAt_29 : decode cX5_partAt 29 = .ok (.getfield 24, 3) := by decide +kernel
theorem dX5_partAt_32 : decode cX5_partAt 32 = .ok (.iload_n 1, 1) := by decide +kernel
theorem dX5_partAt_33 : decode cX5_partAt 33 = .ok (.iaload, 1) := by decide +kernel
theorem dX5_partAt_34 : decode cX5_partAt 34 = .ok (.ireturn, 1) := by decide +kernel
theorem dX5_partAt_35 : decode cX5_partAt 35 = .ok (.aload_n 0, 1) := by decide +kernel
theorem dX5_partAt_36 : decode cX5_partAt 36 = .ok (.getfield 27, 3) := by decide +kernel
theorem dX5_partAt_39 : decode cX5_partAt 39 = .ok (.iload_n 1, 1) := by decide +kernel
theorem dX5_partAt_40 : decode cX5_partAt 40 = .ok (.iaload, 1) := by decide +kernel
theorem dX5_partAt_41 : decode cX5_partAt 41 = .ok (.ireturn, 1) := by decide +kernel
theorem dX5_partAt_42 : decode cX5_partAt 42 = .ok (.aload_n 0, 1) := by decide +kernel
theorem dX5_partAt_43 : decode cX5_partAt 43 = .ok (.getfield 30, 3) := by decide +kernel
theorem dX5_partAt_46 : decode cX5_partAt 46 = .ok (.iload_n 1, 1) := by decide +kernel
theorem dX5_partAt_47 : decode cX5_partAt 47 = .ok (.iaload, 1) := by decide +kernel
theorem dX5_partAt_48 : decode cX5_partAt 48 = .ok (.ireturn, 1) := by decide +kernel
theorem dX5_partAt_49 : decode cX5_partAt 49 = .ok (.aload_n 0, 1) := by decide +kernel
theorem dX5_partAt_50 : decode cX5_partAt 50 = .ok (.getfield 24, 3) := by decide +kernel
theorem dX5_partAt_53 : decode cX5_partAt 53 = .ok (.iload_n 1, 1) := by decide +kernel
theorem dX5_partAt_54 : decode cX5_partAt 54 = .ok (.iaload, 1) := by decide +kernel
theorem dX5_partAt_55 : decode cX5_partAt 55 = .ok (.aload_n 0, 1) := by decide +kernel
theorem dX5_partAt_56 : decode cX5_partAt 56 = .ok (.getfield 27, 3) := by decide +kernel
theorem dX5_partAt_59 : decode cX5_partAt 59 = .ok (.iload_n 1, 1) := by decide +kernel
theorem dX5_partAt_60 : decode cX5_partAt 60 = .ok (.iaload, 1) := by decide +kernel
theorem dX5_partAt_61 : decode cX5_partAt 61 = .ok (.iadd, 1) := by decide +kernel
theorem dX5_partAt_62 : decode cX5_partAt 62 = .ok (.aload_n 0, 1) := by decide +kernel
theorem dX5_partAt_63 : decode cX5_partAt 63 = .ok (.getfield 30, 3) := by decide +kernel
theorem dX5_partAt_66 : decode cX5_partAt 66 = .ok (.iload_n 1, 1) := by decide +kernel
theorem dX5_partAt_67 : decode cX5_partAt 67 = .ok (.iaload, 1) := by decide +kernel
theorem dX5_partAt_68 : decode cX5_partAt 68 = .ok (.iadd, 1) := by decide +kernel
theorem dX5_partAt_69 : decode cX5_partAt 69 = .ok (.ireturn, 1) := by decide +kernel
set_option maxRecDepth 20000 in
theorem ggX5_partOf_X5_partAt : GoodIn wsX5_partOf wsX5_partAt := goodIn_r _ [7, 8, 9, 10, 11, 12, 13, 14, 15, 16, 17, 18] (by decide +kernel) (by decide +kernel)
set_option maxRecDepth 20000 in
theorem gX5_partOf_X5_partAt : GoodIn wsX5_partOf (wsV RX5 81 RX5 yX5_partAt wsX5_partAt) := goodIn_app (goodIn_of _ (by decide +kernel)) ggX5_partOf_X5_partAt
theorem dX5_partOf_0 : decode cX5_partOf 0 = .ok (.iconst 0, 1) := by decide +kernel
theorem dX5_partOf_1 : decode cX5_partOf 1 = .ok (.istore_n 3, 1) := by decide +kernel
theorem dX5_partOf_2 : decode cX5_partOf 2 = .ok (.iconst 0, 1) := by decide +kernel
theorem dX5_partOf_3 : decode cX5_partOf 3 = .ok (.istore 4, 2) := by decide +kernel
theorem dX5_partOf_5 : decode cX5_partOf 5 = .ok (.iload 4, 2) := by decide +kernel
theorem dX5_partOf_7 : decode cX5_partOf 7 = .ok (.aload_n 0, 1) := by decide +kernel
theorem dX5_partOf_8 : decode cX5_partOf 8 = .ok (.getfield 33, 3) := by decide +kernel
theorem dX5_partOf_11 : decode cX5_partOf 11 = .ok (.if_icmp .ge 34, 3) := by decide +kernel
theorem dX5_partOf_14 : decode cX5_partOf 14 = .ok (.iload_n 3, 1) := by decide +kernel
theorem dX5_partOf_15 : decode cX5_partOf 15 = .ok (.aload_n 0, 1) := by decide +kernel
theorem dX5_partOf_16 : decode cX5_partOf 16 = .ok (.getfield 13, 3) := by decide +kernel
theorem dX5_partOf_19 : decode cX5_partOf 19 = .ok (.iload 4, 2) := by decide +kernel
theorem dX5_partOf_21 : decode cX5_partOf 21 = .ok (.aaload, 1) := by decide +kernel
theorem dX5_partOf_22 : decode cX5_partOf 22 = .ok (.aload_n 1, 1) := by decide +kernel
theorem dX5_partOf_23 : decode cX5_partOf 23 = .ok (.if_acmp .ne 13, 3) := by decide +kernel
theorem dX5_partOf_26 : decode cX5_partOf 26 = .ok (.aload_n 0, 1) := by decide +kernel
theorem dX5_partOf_27 : decode cX5_partOf 27 = .ok (.iload 4, 2) := by decide +kernel
theorem dX5_partOf_29 : decode cX5_partOf 29 = .ok (.iload_n 2, 1) := by decide +kernel
theorem dX5_partOf_30 : decode cX5_partOf 30 = .ok (.invokevirtual 81, 3) := by decide +kernel
theorem dX5_partOf_33 : decode cX5_partOf 33 = .ok (.goto 4, 3) := by decide +kernel
theorem dX5_partOf_36 : decode cX5_partOf 36 = .ok (.iconst 0, 1) := by decide +kernel
theorem dX5_partOf_37 : decode cX5_partOf 37 = .ok (.iadd, 1) := by decide +kernel
theorem dX5_partOf_38 : decode cX5_partOf 38 = .ok (.istore_n 3, 1) := by decide +kernel
theorem dX5_partOf_39 : decode cX5_partOf 39 = .ok (.iinc 4 1, 3) := by decide +kernel
theorem dX5_partOf_42 : decode cX5_partOf 42 = .ok (.goto (-37), 3) := by decide +kernel
theorem dX5_partOf_45 : decode cX5_partOf 45 = .ok (.iload_n 3, 1) := by decide +kernel
theorem dX5_partOf_46 : decode cX5_partOf 46 = .ok (.ireturn, 1) := by decide +kernel
set_option maxRecDepth 20000 in
theorem ggX5_leastTake_X5_deal : GoodIn wsX5_leastTake wsX5_deal := goodIn_r _ [17, 1, 18, 3, 4, 5, 6, 7, 8, 19, 20, 21, 22, 16, 23, 32, 33, 34, 35, 36, 37, 38, 39] (by decide +kernel) (by decide +kernel)
set_option maxRecDepth 20000 in
theorem gX5_leastTake_X5_deal : GoodIn wsX5_leastTake (wsV RX5 84 RX5 yX5_deal wsX5_deal) := goodIn_app (goodIn_of _ (by decide +kernel)) ggX5_leastTake_X5_deal
set_option maxRecDepth 20000 in
theorem ggX5_leastTake_X5_partAt : GoodIn wsX5_leastTake wsX5_partAt := goodIn_r _ [27, 18, 19, 20, 32, 33, 34, 35, 36, 37, 38, 39] (by decide +kernel) (by decide +kernel)
set_option maxRecDepth 20000 in
theorem gX5_leastTake_X5_partAt : GoodIn wsX5_leastTake (wsV RX5 81 RX5 yX5_partAt wsX5_partAt) := goodIn_app (goodIn_of _ (by decide +kernel)) ggX5_leastTake_X5_partAt
set_option maxRecDepth 20000 in
theorem ggX5_leastTake_X5_idleStep : GoodIn wsX5_leastTake wsX5_idleStep := goodIn_r _ [31, 3, 18, 5, 6, 7, 8, 1, 19, 32, 33, 34, 35, 36, 37, 38, 39] (by decide +kernel) (by decide +kernel)
set_option maxRecDepth 20000 in
theorem gX5_leastTake_X5_idleStep : GoodIn wsX5_leastTake (wsV RX5 88 RX5 yX5_idleStep wsX5_idleStep) := goodIn_app (goodIn_of _ (by decide +kernel)) ggX5_leastTake_X5_idleStep
theorem dX5_leastTake_0 : decode cX5_leastTake 0 = .ok (.iconst 0, 1) := by decide +kernel
theorem dX5_leastTake_1 : decode cX5_leastTake 1 = .ok (.istore 4, 2) := by decide +kernel
theorem dX5_leastTake_3 : decode cX5_leastTake 3 = .ok (.iconst 0, 1) := by decide +kernel
theorem dX5_leastTake_4 : decode cX5_leastTake 4 = .ok (.istore 5, 2) := by decide +kernel
theorem dX5_leastTake_6 : decode cX5_leastTake 6 = .ok (.iconst 0, 1) := by decide +kernel
theorem dX5_leastTake_7 : decode cX5_leastTake 7 = .ok (.istore 6, 2) := by decide +kernel
theorem dX5_leastTake_9 : decode cX5_leastTake 9 = .ok (.iload 6, 2) := by decide +kernel
theorem dX5_leastTake_11 : decode cX5_leastTake 11 = .ok (.aload_n 0, 1) := by decide +kernel
theorem dX5_leastTake_12 : decode cX5_leastTake 12 = .ok (.getfield 33, 3) := by decide +kernel
theorem dX5_leastTake_15 : decode cX5_leastTake 15 = .ok (.if_icmp .ge 51, 3) := by decide +kernel
theorem dX5_leastTake_18 : decode cX5_leastTake 18 = .ok (.aload_n 0, 1) := by decide +kernel
theorem dX5_leastTake_19 : decode cX5_leastTake 19 = .ok (.getfield 13, 3) := by decide +kernel
theorem dX5_leastTake_22 : decode cX5_leastTake 22 = .ok (.iload 6, 2) := by decide +kernel
theorem dX5_leastTake_24 : decode cX5_leastTake 24 = .ok (.aaload, 1) := by decide +kernel
theorem dX5_leastTake_25 : decode cX5_leastTake 25 = .ok (.aload_n 1, 1) := by decide +kernel
theorem dX5_leastTake_26 : decode cX5_leastTake 26 = .ok (.if_acmp .ne 8, 3) := by decide +kernel
theorem dX5_leastTake_29 : decode cX5_leastTake 29 = .ok (.iload 6, 2) := by decide +kernel
theorem dX5_leastTake_31 : decode cX5_leastTake 31 = .ok (.goto 5, 3) := by decide +kernel
theorem dX5_leastTake_34 : decode cX5_leastTake 34 = .ok (.iload 4, 2) := by decide +kernel
theorem dX5_leastTake_36 : decode cX5_leastTake 36 = .ok (.istore 4, 2) := by decide +kernel
theorem dX5_leastTake_38 : decode cX5_leastTake 38 = .ok (.iload 5, 2) := by decide +kernel
theorem dX5_leastTake_40 : decode cX5_leastTake 40 = .ok (.aload_n 0, 1) := by decide +kernel
theorem dX5_leastTake_41 : decode cX5_leastTake 41 = .ok (.getfield 17, 3) := by decide +kernel
theorem dX5_leastTake_44 : decode cX5_leastTake 44 = .ok (.iload 6, 2) := by decide +kernel
theorem dX5_leastTake_46 : decode cX5_leastTake 46 = .ok (.iaload, 1) := by decide +kernel
theorem dX5_leastTake_47 : decode cX5_leastTake 47 = .ok (.aload_n 0, 1) := by decide +kernel
theorem dX5_leastTake_48 : decode cX5_leastTake 48 = .ok (.getfield 21, 3) := by decide +kernel
theorem dX5_leastTake_51 : decode cX5_leastTake 51 = .ok (.iload 6, 2) := by decide +kernel
theorem dX5_leastTake_53 : decode cX5_leastTake 53 = .ok (.iaload, 1) := by decide +kernel
theorem dX5_leastTake_54 : decode cX5_leastTake 54 = .ok (.invokestatic 71, 3) := by decide +kernel
theorem dX5_leastTake_57 : decode cX5_leastTake 57 = .ok (.iadd, 1) := by decide +kernel
theorem dX5_leastTake_58 : decode cX5_leastTake 58 = .ok (.istore 5, 2) := by decide +kernel
theorem dX5_leastTake_60 : decode cX5_leastTake 60 = .ok (.iinc 6 1, 3) := by decide +kernel
theorem dX5_leastTake_63 : decode cX5_leastTake 63 = .ok (.goto (-54), 3) := by decide +kernel
theorem dX5_leastTake_66 : decode cX5_leastTake 66 = .ok (.aload_n 0, 1) := by decide +kernel
theorem dX5_leastTake_67 : decode cX5_leastTake 67 = .ok (.getfield 17, 3) := by decide +kernel
theorem dX5_leastTake_70 : decode cX5_leastTake 70 = .ok (.iload 4, 2) := by decide +kernel
theorem dX5_leastTake_72 : decode cX5_leastTake 72 = .ok (.iaload, 1) := by decide +kernel
theorem dX5_leastTake_73 : decode cX5_leastTake 73 = .ok (.aload_n 0, 1) := by decide +kernel
theorem dX5_leastTake_74 : decode cX5_leastTake 74 = .ok (.getfield 21, 3) := by decide +kernel
theorem dX5_leastTake_77 : decode cX5_leastTake 77 = .ok (.iload 4, 2) := by decide +kernel
theorem dX5_leastTake_79 : decode cX5_leastTake 79 = .ok (.iaload, 1) := by decide +kernel
theorem dX5_leastTake_80 : decode cX5_leastTake 80 = .ok (.invokestatic 71, 3) := by decide +kernel
theorem dX5_leastTake_83 : decode cX5_leastTake 83 = .ok (.iload_n 2, 1) := by decide +kernel
theorem dX5_leastTake_84 : decode cX5_leastTake 84 = .ok (.if_icmp .lt 5, 3) := by decide +kernel
theorem dX5_leastTake_87 : decode cX5_leastTake 87 = .ok (.iload_n 2, 1) := by decide +kernel
theorem dX5_leastTake_88 : decode cX5_leastTake 88 = .ok (.ireturn, 1) := by decide +kernel
theorem dX5_leastTake_89 : decode cX5_leastTake 89 = .ok (.iconst 1, 1) := by decide +kernel
theorem dX5_leastTake_90 : decode cX5_leastTake 90 = .ok (.istore 6, 2) := by decide +kernel
theorem dX5_leastTake_92 : decode cX5_leastTake 92 = .ok (.iload 5, 2) := by decide +kernel
theorem dX5_leastTake_94 : decode cX5_leastTake 94 = .ok (.iconst 1, 1) := by decide +kernel
theorem dX5_leastTake_95 : decode cX5_leastTake 95 = .ok (.iadd, 1) := by decide +kernel
theorem dX5_leastTake_96 : decode cX5_leastTake 96 = .ok (.istore 7, 2) := by decide +kernel
theorem dX5_leastTake_98 : decode cX5_leastTake 98 = .ok (.iload 7, 2) := by decide +kernel
theorem dX5_leastTake_100 : decode cX5_leastTake 100 = .ok (.aload_n 0, 1) := by decide +kernel
theorem dX5_leastTake_101 : decode cX5_leastTake 101 = .ok (.getfield 37, 3) := by decide +kernel
theorem dX5_leastTake_104 : decode cX5_leastTake 104 = .ok (.if_icmp .ge 53, 3) := by decide +kernel
theorem dX5_leastTake_107 : decode cX5_leastTake 107 = .ok (.aload_n 0, 1) := by decide +kernel
theorem dX5_leastTake_108 : decode cX5_leastTake 108 = .ok (.iload 7, 2) := by decide +kernel
theorem dX5_leastTake_110 : decode cX5_leastTake 110 = .ok (.iload_n 3, 1) := by decide +kernel
theorem dX5_leastTake_111 : decode cX5_leastTake 111 = .ok (.invokevirtual 84, 3) := by decide +kernel
theorem dX5_leastTake_114 : decode cX5_leastTake 114 = .ok (.aload_n 0, 1) := by decide +kernel
theorem dX5_leastTake_115 : decode cX5_leastTake 115 = .ok (.iload 4, 2) := by decide +kernel
theorem dX5_leastTake_117 : decode cX5_leastTake 117 = .ok (.iconst 0, 1) := by decide +kernel
theorem dX5_leastTake_118 : decode cX5_leastTake 118 = .ok (.invokevirtual 81, 3) := by decide +kernel
theorem dX5_leastTake_121 : decode cX5_leastTake 121 = .ok (.iload_n 2, 1) := by decide +kernel
theorem dX5_leastTake_122 : decode cX5_leastTake 122 = .ok (.if_icmp .lt 6, 3) := by decide +kernel
theorem dX5_leastTake_125 : decode cX5_leastTake 125 = .ok (.iload 7, 2) := by decide +kernel
theorem dX5_leastTake_127 : decode cX5_leastTake 127 = .ok (.ireturn, 1) := by decide +kernel
theorem dX5_leastTake_128 : decode cX5_leastTake 128 = .ok (.iconst 1, 1) := by decide +kernel
theorem dX5_leastTake_129 : decode cX5_leastTake 129 = .ok (.aload_n 0, 1) := by decide +kernel
theorem dX5_leastTake_130 : decode cX5_leastTake 130 = .ok (.iload 4, 2) := by decide +kernel
theorem dX5_leastTake_132 : decode cX5_leastTake 132 = .ok (.iload 7, 2) := by decide +kernel
theorem dX5_leastTake_134 : decode cX5_leastTake 134 = .ok (.iload 5, 2) := by decide +kernel
theorem dX5_leastTake_136 : decode cX5_leastTake 136 = .ok (.isub, 1) := by decide +kernel
theorem dX5_leastTake_137 : decode cX5_leastTake 137 = .ok (.iload_n 2, 1) := by decide +kernel
theorem dX5_leastTake_138 : decode cX5_leastTake 138 = .ok (.iload_n 3, 1) := by decide +kernel
theorem dX5_leastTake_139 : decode cX5_leastTake 139 = .ok (.invokevirtual 88, 3) := by decide +kernel
theorem dX5_leastTake_142 : decode cX5_leastTake 142 = .ok (.invokestatic 91, 3) := by decide +kernel
theorem dX5_leastTake_145 : decode cX5_leastTake 145 = .ok (.istore 6, 2) := by decide +kernel
theorem dX5_leastTake_147 : decode cX5_leastTake 147 = .ok (.iload 7, 2) := by decide +kernel
theorem dX5_leastTake_149 : decode cX5_leastTake 149 = .ok (.iload 6, 2) := by decide +kernel
theorem dX5_leastTake_151 : decode cX5_leastTake 151 = .ok (.iadd, 1) := by decide +kernel
theorem dX5_leastTake_152 : decode cX5_leastTake 152 = .ok (.istore 7, 2) := by decide +kernel
theorem dX5_leastTake_154 : decode cX5_leastTake 154 = .ok (.goto (-56), 3) := by decide +kernel
theorem dX5_leastTake_157 : decode cX5_leastTake 157 = .ok (.aload_n 0, 1) := by decide +kernel
theorem dX5_leastTake_158 : decode cX5_leastTake 158 = .ok (.getfield 37, 3) := by decide +kernel
theorem dX5_leastTake_161 : decode cX5_leastTake 161 = .ok (.ireturn, 1) := by decide +kernel
theorem dX5_idleStep_0 : decode cX5_idleStep 0 = .ok (.iconst 0, 1) := by decide +kernel
theorem dX5_idleStep_1 : decode cX5_idleStep 1 = .ok (.istore 5, 2) := by decide +kernel
theorem dX5_idleStep_3 : decode cX5_idleStep 3 = .ok (.iload_n 3, 1) := by decide +kernel
theorem dX5_idleStep_4 : decode cX5_idleStep 4 = .ok (.aload_n 0, 1) := by decide +kernel
theorem dX5_idleStep_5 : decode cX5_idleStep 5 = .ok (.getfield 17, 3) := by decide +kernel
theorem dX5_idleStep_8 : decode cX5_idleStep 8 = .ok (.iload_n 1, 1) := by decide +kernel
theorem dX5_idleStep_9 : decode cX5_idleStep 9 = .ok (.iaload, 1) := by decide +kernel
theorem dX5_idleStep_10 : decode cX5_idleStep 10 = .ok (.aload_n 0, 1) := by decide +kernel
theorem dX5_idleStep_11 : decode cX5_idleStep 11 = .ok (.getfield 24, 3) := by decide +kernel
theorem dX5_idleStep_14 : decode cX5_idleStep 14 = .ok (.iload_n 1, 1) := by decide +kernel
theorem dX5_idleStep_15 : decode cX5_idleStep 15 = .ok (.iaload, 1) := by decide +kernel
theorem dX5_idleStep_16 : decode cX5_idleStep 16 = .ok (.isub, 1) := by decide +kernel
theorem dX5_idleStep_17 : decode cX5_idleStep 17 = .ok (.invokestatic 71, 3) := by decide +kernel
theorem dX5_idleStep_20 : decode cX5_idleStep 20 = .ok (.istore 6, 2) := by decide +kernel
theorem dX5_idleStep_22 : decode cX5_idleStep 22 = .ok (.iconst 0, 1) := by decide +kernel
theorem dX5_idleStep_23 : decode cX5_idleStep 23 = .ok (.istore 7, 2) := by decide +kernel
theorem dX5_idleStep_25 : decode cX5_idleStep 25 = .ok (.iconst 0, 1) := by decide +kernel
theorem dX5_idleStep_26 : decode cX5_idleStep 26 = .ok (.istore 8, 2) := by decide +kernel
theorem dX5_idleStep_28 : decode cX5_idleStep 28 = .ok (.iload 8, 2) := by decide +kernel
theorem dX5_idleStep_30 : decode cX5_idleStep 30 = .ok (.aload_n 0, 1) := by decide +kernel
theorem dX5_idleStep_31 : decode cX5_idleStep 31 = .ok (.getfield 33, 3) := by decide +kernel
theorem dX5_idleStep_34 : decode cX5_idleStep 34 = .ok (.if_icmp .ge 72, 3) := by decide +kernel
theorem dX5_idleStep_37 : decode cX5_idleStep 37 = .ok (.aload_n 0, 1) := by decide +kernel
theorem dX5_idleStep_38 : decode cX5_idleStep 38 = .ok (.getfield 17, 3) := by decide +kernel
theorem dX5_idleStep_41 : decode cX5_idleStep 41 = .ok (.iload 8, 2) := by decide +kernel
theorem dX5_idleStep_43 : decode cX5_idleStep 43 = .ok (.iaload, 1) := by decide +kernel
theorem dX5_idleStep_44 : decode cX5_idleStep 44 = .ok (.aload_n 0, 1) := by decide +kernel
theorem dX5_idleStep_45 : decode cX5_idleStep 45 = .ok (.getfield 24, 3) := by decide +kernel
theorem dX5_idleStep_48 : decode cX5_idleStep 48 = .ok (.iload 8, 2) := by decide +kernel
theorem dX5_idleStep_50 : decode cX5_idleStep 50 = .ok (.iaload, 1) := by decide +kernel
theorem dX5_idleStep_51 : decode cX5_idleStep 51 = .ok (.isub, 1) := by decide +kernel
theorem dX5_idleStep_52 : decode cX5_idleStep 52 = .ok (.istore 9, 2) := by decide +kernel
theorem dX5_idleStep_54 : decode cX5_idleStep 54 = .ok (.iload 5, 2) := by decide +kernel
theorem dX5_idleStep_56 : decode cX5_idleStep 56 = .ok (.iload 9, 2) := by decide +kernel
theorem dX5_idleStep_58 : decode cX5_idleStep 58 = .ok (.iadd, 1) := by decide +kernel
theorem dX5_idleStep_59 : decode cX5_idleStep 59 = .ok (.istore 5, 2) := by decide +kernel
theorem dX5_idleStep_61 : decode cX5_idleStep 61 = .ok (.iload 6, 2) := by decide +kernel
theorem dX5_idleStep_63 : decode cX5_idleStep 63 = .ok (.iload 8, 2) := by decide +kernel
theorem dX5_idleStep_65 : decode cX5_idleStep 65 = .ok (.iload_n 1, 1) := by decide +kernel
theorem dX5_idleStep_66 : decode cX5_idleStep 66 = .ok (.if_icmp .ge 8, 3) := by decide +kernel
theorem dX5_idleStep_69 : decode cX5_idleStep 69 = .ok (.iload 9, 2) := by decide +kernel
theorem dX5_idleStep_71 : decode cX5_idleStep 71 = .ok (.goto 4, 3) := by decide +kernel
theorem dX5_idleStep_74 : decode cX5_idleStep 74 = .ok (.iconst 0, 1) := by decide +kernel
theorem dX5_idleStep_75 : decode cX5_idleStep 75 = .ok (.iadd, 1) := by decide +kernel
theorem dX5_idleStep_76 : decode cX5_idleStep 76 = .ok (.istore 6, 2) := by decide +kernel
theorem dX5_idleStep_78 : decode cX5_idleStep 78 = .ok (.iload 7, 2) := by decide +kernel
theorem dX5_idleStep_80 : decode cX5_idleStep 80 = .ok (.iload 8, 2) := by decide +kernel
theorem dX5_idleStep_82 : decode cX5_idleStep 82 = .ok (.iload_n 1, 1) := by decide +kernel
theorem dX5_idleStep_83 : decode cX5_idleStep 83 = .ok (.if_icmp .le 13, 3) := by decide +kernel
theorem dX5_idleStep_86 : decode cX5_idleStep 86 = .ok (.aload_n 0, 1) := by decide +kernel
theorem dX5_idleStep_87 : decode cX5_idleStep 87 = .ok (.getfield 27, 3) := by decide +kernel
theorem dX5_idleStep_90 : decode cX5_idleStep 90 = .ok (.iload 8, 2) := by decide +kernel
theorem dX5_idleStep_92 : decode cX5_idleStep 92 = .ok (.iaload, 1) := by decide +kernel
theorem dX5_idleStep_93 : decode cX5_idleStep 93 = .ok (.goto 4, 3) := by decide +kernel
theorem dX5_idleStep_96 : decode cX5_idleStep 96 = .ok (.iconst 0, 1) := by decide +kernel
theorem dX5_idleStep_97 : decode cX5_idleStep 97 = .ok (.iadd, 1) := by decide +kernel
theorem dX5_idleStep_98 : decode cX5_idleStep 98 = .ok (.istore 7, 2) := by decide +kernel
theorem dX5_idleStep_100 : decode cX5_idleStep 100 = .ok (.iinc 8 1, 3) := by decide +kernel
theorem dX5_idleStep_103 : decode cX5_idleStep 103 = .ok (.goto (-75), 3) := by decide +kernel
theorem dX5_idleStep_106 : decode cX5_idleStep 106 = .ok (.iload 6, 2) := by decide +kernel
theorem dX5_idleStep_108 : decode cX5_idleStep 108 = .ok (.iload_n 2, 1) := by decide +kernel
theorem dX5_idleStep_109 : decode cX5_idleStep 109 = .ok (.iload 7, 2) := by decide +kernel
theorem dX5_idleStep_111 : decode cX5_idleStep 111 = .ok (.isub, 1) := by decide +kernel
theorem dX5_idleStep_112 : decode cX5_idleStep 112 = .ok (.isub, 1) := by decide +kernel
theorem dX5_idleStep_113 : decode cX5_idleStep 113 = .ok (.istore 8, 2) := by decide +kernel
theorem dX5_idleStep_115 : decode cX5_idleStep 115 = .ok (.iload_n 3, 1) := by decide +kernel
theorem dX5_idleStep_116 : decode cX5_idleStep 116 = .ok (.iconst 1, 1) := by decide +kernel
theorem dX5_idleStep_117 : decode cX5_idleStep 117 = .ok (.if_icmp .gt 12, 3) := by decide +kernel
theorem dX5_idleStep_120 : decode cX5_idleStep 120 = .ok (.aload_n 0, 1) := by decide +kernel
theorem dX5_idleStep_121 : decode cX5_idleStep 121 = .ok (.getfield 17, 3) := by decide +kernel
theorem dX5_idleStep_124 : decode cX5_idleStep 124 = .ok (.iload_n 1, 1) := by decide +kernel
theorem dX5_idleStep_125 : decode cX5_idleStep 125 = .ok (.iaload, 1) := by decide +kernel
theorem dX5_idleStep_126 : decode cX5_idleStep 126 = .ok (.ifCond .gt 6, 3) := by decide +kernel
theorem dX5_idleStep_129 : decode cX5_idleStep 129 = .ok (.iload 8, 2) := by decide +kernel
theorem dX5_idleStep_131 : decode cX5_idleStep 131 = .ok (.ireturn, 1) := by decide +kernel
theorem dX5_idleStep_132 : decode cX5_idleStep 132 = .ok (.iload 4, 2) := by decide +kernel
theorem dX5_idleStep_134 : decode cX5_idleStep 134 = .ok (.iload 5, 2) := by decide +kernel
theorem dX5_idleStep_136 : decode cX5_idleStep 136 = .ok (.imul, 1) := by decide +kernel
theorem dX5_idleStep_137 : decode cX5_idleStep 137 = .ok (.aload_n 0, 1) := by decide +kernel
theorem dX5_idleStep_138 : decode cX5_idleStep 138 = .ok (.getfield 17, 3) := by decide +kernel
theorem dX5_idleStep_141 : decode cX5_idleStep 141 = .ok (.iload_n 1, 1) := by decide +kernel
theorem dX5_idleStep_142 : decode cX5_idleStep 142 = .ok (.iaload, 1) := by decide +kernel
theorem dX5_idleStep_143 : decode cX5_idleStep 143 = .ok (.iadd, 1) := by decide +kernel
theorem dX5_idleStep_144 : decode cX5_idleStep 144 = .ok (.iconst 1, 1) := by decide +kernel
theorem dX5_idleStep_145 : decode cX5_idleStep 145 = .ok (.isub, 1) := by decide +kernel
theorem dX5_idleStep_146 : decode cX5_idleStep 146 = .ok (.aload_n 0, 1) := by decide +kernel
theorem dX5_idleStep_147 : decode cX5_idleStep 147 = .ok (.getfield 17, 3) := by decide +kernel
theorem dX5_idleStep_150 : decode cX5_idleStep 150 = .ok (.iload_n 1, 1) := by decide +kernel
theorem dX5_idleStep_151 : decode cX5_idleStep 151 = .ok (.iaload, 1) := by decide +kernel
theorem dX5_idleStep_152 : decode cX5_idleStep 152 = .ok (.idiv, 1) := by decide +kernel
theorem dX5_idleStep_153 : decode cX5_idleStep 153 = .ok (.istore 9, 2) := by decide +kernel
theorem dX5_idleStep_155 : decode cX5_idleStep 155 = .ok (.iload 8, 2) := by decide +kernel
theorem dX5_idleStep_157 : decode cX5_idleStep 157 = .ok (.iload 9, 2) := by decide +kernel
theorem dX5_idleStep_159 : decode cX5_idleStep 159 = .ok (.iload_n 2, 1) := by decide +kernel
theorem dX5_idleStep_160 : decode cX5_idleStep 160 = .ok (.isub, 1) := by decide +kernel
theorem dX5_idleStep_161 : decode cX5_idleStep 161 = .ok (.invokestatic 71, 3) := by decide +kernel
theorem dX5_idleStep_164 : decode cX5_idleStep 164 = .ok (.ireturn, 1) := by decide +kernel
theorem dX6_init_0 : decode cX6_init 0 = .ok (.aload_n 0, 1) := by decide +kernel
theorem dX6_init_1 : decode cX6_init 1 = .ok (.invokespecial 3, 3) := by decide +kernel
theorem dX6_init_4 : decode cX6_init 4 = .ok (.aload_n 0, 1) := by decide +kernel
theorem dX6_init_5 : decode cX6_init 5 = .ok (.sipush 500, 3) := by decide +kernel
theorem dX6_init_8 : decode cX6_init 8 = .ok (.newarray .int, 2) := by decide +kernel
theorem dX6_init_10 : decode cX6_init 10 = .ok (.putfield 9, 3) := by decide +kernel
theorem dX6_init_13 : decode cX6_init 13 = .ok (.aload_n 0, 1) := by decide +kernel
theorem dX6_init_14 : decode cX6_init 14 = .ok (.iconst 3, 1) := by decide +kernel
theorem dX6_init_15 : decode cX6_init 15 = .ok (.newarray .int, 2) := by decide +kernel
theorem dX6_init_17 : decode cX6_init 17 = .ok (.putfield 15, 3) := by decide +kernel
theorem dX6_init_20 : decode cX6_init 20 = .ok (.return_, 1) := by decide +kernel
theorem dX6_put_0 : decode cX6_put 0 = .ok (.bipush 24, 2) := by decide +kernel
theorem dX6_put_2 : decode cX6_put 2 = .ok (.istore_n 2, 1) := by decide +kernel
theorem dX6_put_3 : decode cX6_put 3 = .ok (.iload_n 2, 1) := by decide +kernel
theorem dX6_put_4 : decode cX6_put 4 = .ok (.ifCond .lt 45, 3) := by decide +kernel
theorem dX6_put_7 : decode cX6_put 7 = .ok (.aload_n 0, 1) := by decide +kernel
theorem dX6_put_8 : decode cX6_put 8 = .ok (.getfield 18, 3) := by decide +kernel
theorem dX6_put_11 : decode cX6_put 11 = .ok (.sipush 500, 3) := by decide +kernel
theorem dX6_put_14 : decode cX6_put 14 = .ok (.if_icmp .ge 35, 3) := by decide +kernel
theorem dX6_put_17 : decode cX6_put 17 = .ok (.aload_n 0, 1) := by decide +kernel
theorem dX6_put_18 : decode cX6_put 18 = .ok (.getfield 9, 3) := by decide +kernel
theorem dX6_put_21 : decode cX6_put 21 = .ok (.aload_n 0, 1) := by decide +kernel
theorem dX6_put_22 : decode cX6_put 22 = .ok (.getfield 18, 3) := by decide +kernel
theorem dX6_put_25 : decode cX6_put 25 = .ok (.iload_n 1, 1) := by decide +kernel
theorem dX6_put_26 : decode cX6_put 26 = .ok (.iload_n 2, 1) := by decide +kernel
theorem dX6_put_27 : decode cX6_put 27 = .ok (.ishr, 1) := by decide +kernel
theorem dX6_put_28 : decode cX6_put 28 = .ok (.sipush 255, 3) := by decide +kernel
theorem dX6_put_31 : decode cX6_put 31 = .ok (.iand, 1) := by decide +kernel
theorem dX6_put_32 : decode cX6_put 32 = .ok (.iastore, 1) := by decide +kernel
theorem dX6_put_33 : decode cX6_put 33 = .ok (.aload_n 0, 1) := by decide +kernel
theorem dX6_put_34 : decode cX6_put 34 = .ok (.dup, 1) := by decide +kernel
theorem dX6_put_35 : decode cX6_put 35 = .ok (.getfield 18, 3) := by decide +kernel
theorem dX6_put_38 : decode cX6_put 38 = .ok (.iconst 1, 1) := by decide +kernel
theorem dX6_put_39 : decode cX6_put 39 = .ok (.iadd, 1) := by decide +kernel
theorem dX6_put_40 : decode cX6_put 40 = .ok (.putfield 18, 3) := by decide +kernel
theorem dX6_put_43 : decode cX6_put 43 = .ok (.iinc 2 (-8), 3) := by decide +kernel
theorem dX6_put_46 : decode cX6_put 46 = .ok (.goto (-43), 3) := by decide +kernel
theorem dX6_put_49 : decode cX6_put 49 = .ok (.return_, 1) := by decide +kernel
theorem dX6_rewind_0 : decode cX6_rewind 0 = .ok (.aload_n 0, 1) := by decide +kernel
theorem dX6_rewind_1 : decode cX6_rewind 1 = .ok (.iload_n 1, 1) := by decide +kernel
theorem dX6_rewind_2 : decode cX6_rewind 2 = .ok (.sipush 500, 3) := by decide +kernel
theorem dX6_rewind_5 : decode cX6_rewind 5 = .ok (.invokestatic 22, 3) := by decide +kernel
theorem dX6_rewind_8 : decode cX6_rewind 8 = .ok (.putfield 28, 3) := by decide +kernel
theorem dX6_rewind_11 : decode cX6_rewind 11 = .ok (.aload_n 0, 1) := by decide +kernel
theorem dX6_rewind_12 : decode cX6_rewind 12 = .ok (.iconst 0, 1) := by decide +kernel
theorem dX6_rewind_13 : decode cX6_rewind 13 = .ok (.putfield 31, 3) := by decide +kernel
theorem dX6_rewind_16 : decode cX6_rewind 16 = .ok (.aload_n 0, 1) := by decide +kernel
theorem dX6_rewind_17 : decode cX6_rewind 17 = .ok (.iconst 1, 1) := by decide +kernel
theorem dX6_rewind_18 : decode cX6_rewind 18 = .ok (.putfield 34, 3) := by decide +kernel
theorem dX6_rewind_21 : decode cX6_rewind 21 = .ok (.return_, 1) := by decide +kernel
set_option maxRecDepth 20000 in
theorem ggX6_readLine_X6_readToken : GoodIn wsX6_readLine wsX6_readToken := goodIn_r _ [9, 10, 11, 12, 13, 3, 14, 15, 8, 16, 17, 18, 19, 20, 21, 22, 23, 24, 25, 26, 27, 28, 115, 116, 117, 118, 119, 120, 121, 122, 123, 124, 125, 126] (by decide +kernel) (by decide +kernel)
set_option maxRecDepth 20000 in
theorem gX6_readLine_X6_readToken : GoodIn wsX6_readLine (wsV RX6 38 RX6 yX6_readToken wsX6_readToken) := goodIn_app (goodIn_of _ (by decide +kernel)) ggX6_readLine_X6_readToken
set_option maxRecDepth 20000 in
theorem ggX6_readLine_X6_wordIn : GoodIn wsX6_readLine wsX6_wordIn := goodIn_r _ [32, 33, 34, 8, 35, 36, 37, 38, 39, 40, 41, 42, 3, 10, 13, 12, 43, 44, 45, 46, 47, 48, 49, 50, 51, 52, 53, 54, 55, 56, 57, 58, 59, 60, 61, 62, 63, 64, 65, 66, 67, 68, 69, 70, 71, 72, 73, 74, 75, 76, 77, 78, 79, 80, 81, 82, 83, 84, 85, 86, 87, 88, 89, 90, 91, 115, 116, 117, 118, 119, 120, 121, 122, 123, 124, 125, 126] (by decide +kernel) (by decide +kernel)
set_option maxRecDepth 20000 in
theorem gX6_readLine_X6_wordIn : GoodIn wsX6_readLine (wsV RX6 41 RX6 yX6_wordIn wsX6_wordIn) := goodIn_app (goodIn_of _ (by decide +kernel)) ggX6_readLine_X6_wordIn
set_option maxRecDepth 20000 in
theorem ggX6_readLine_X6_failBy : GoodIn wsX6_readLine wsX6_failBy := goodIn_r _ [95, 13, 96, 115, 116, 117, 118, 119, 120, 121, 122, 123, 124, 125, 126] (by decide +kernel) (by decide +kernel)
set_option maxRecDepth 20000 in
theorem gX6_readLine_X6_failBy : GoodIn wsX6_readLine (wsV RX6 48 RX6 yX6_failBy wsX6_failBy) := goodIn_app (goodIn_of _ (by decide +kernel)) ggX6_readLine_X6_failBy
set_option maxRecDepth 20000 in
theorem ggX6_readLine_X6_readNumbers : GoodIn wsX6_readLine wsX6_readNumbers := goodIn_r _ [100, 1, 101, 102, 103, 104, 105, 8, 106, 3, 28, 5, 6, 7, 9, 10, 11, 12, 13, 14, 15, 16, 17, 18, 19, 20, 21, 22, 23, 24, 25, 26, 27, 92, 93, 94, 95, 96, 107, 108, 109, 110, 111, 112, 113, 114, 115, 116, 117, 118, 119, 120, 121, 122, 123, 124, 125, 126] (by decide +kernel) (by decide +kernel)
set_option maxRecDepth 20000 in
theorem gX6_readLine_X6_readNumbers : GoodIn wsX6_readLine (wsV RX6 52 RX6 yX6_readNumbers wsX6_readNumbers) := goodIn_app (goodIn_of _ (by decide +kernel)) ggX6_readLine_X6_readNumbers
theorem dX6_readLine_0 : decode cX6_readLine 0 = .ok (.aload_n 0, 1) := by decide +kernel
theorem dX6_readLine_1 : decode cX6_readLine 1 = .ok (.invokevirtual 38, 3) := by decide +kernel
theorem dX6_readLine_4 : decode cX6_readLine 4 = .ok (.aload_n 0, 1) := by decide +kernel
theorem dX6_readLine_5 : decode cX6_readLine 5 = .ok (.aload_n 0, 1) := by decide +kernel
theorem dX6_readLine_6 : decode cX6_readLine 6 = .ok (.bipush 8, 2) := by decide +kernel
theorem dX6_readLine_8 : decode cX6_readLine 8 = .ok (.iconst 1, 1) := by decide +kernel
theorem dX6_readLine_9 : decode cX6_readLine 9 = .ok (.invokevirtual 41, 3) := by decide +kernel
theorem dX6_readLine_12 : decode cX6_readLine 12 = .ok (.putfield 45, 3) := by decide +kernel
theorem dX6_readLine_15 : decode cX6_readLine 15 = .ok (.aload_n 0, 1) := by decide +kernel
theorem dX6_readLine_16 : decode cX6_readLine 16 = .ok (.getfield 45, 3) := by decide +kernel
theorem dX6_readLine_19 : decode cX6_readLine 19 = .ok (.iconst (-1), 1) := by decide +kernel
theorem dX6_readLine_20 : decode cX6_readLine 20 = .ok (.if_icmp .ne 9, 3) := by decide +kernel
theorem dX6_readLine_23 : decode cX6_readLine 23 = .ok (.aload_n 0, 1) := by decide +kernel
theorem dX6_readLine_24 : decode cX6_readLine 24 = .ok (.iconst 1, 1) := by decide +kernel
theorem dX6_readLine_25 : decode cX6_readLine 25 = .ok (.invokevirtual 48, 3) := by decide +kernel
theorem dX6_readLine_28 : decode cX6_readLine 28 = .ok (.ireturn, 1) := by decide +kernel
theorem dX6_readLine_29 : decode cX6_readLine 29 = .ok (.aload_n 0, 1) := by decide +kernel
theorem dX6_readLine_30 : decode cX6_readLine 30 = .ok (.invokevirtual 52, 3) := by decide +kernel
theorem dX6_readLine_33 : decode cX6_readLine 33 = .ok (.ifCond .ne 5, 3) := by decide +kernel
theorem dX6_readLine_36 : decode cX6_readLine 36 = .ok (.iconst 0, 1) := by decide +kernel
theorem dX6_readLine_37 : decode cX6_readLine 37 = .ok (.ireturn, 1) := by decide +kernel
theorem dX6_readLine_38 : decode cX6_readLine 38 = .ok (.aload_n 0, 1) := by decide +kernel
theorem dX6_readLine_39 : decode cX6_readLine 39 = .ok (.invokevirtual 38, 3) := by decide +kernel
theorem dX6_readLine_42 : decode cX6_readLine 42 = .ok (.aload_n 0, 1) := by decide +kernel
theorem dX6_readLine_43 : decode cX6_readLine 43 = .ok (.iconst 0, 1) := by decide +kernel
theorem dX6_readLine_44 : decode cX6_readLine 44 = .ok (.putfield 56, 3) := by decide +kernel
theorem dX6_readLine_47 : decode cX6_readLine 47 = .ok (.aload_n 0, 1) := by decide +kernel
theorem dX6_readLine_48 : decode cX6_readLine 48 = .ok (.getfield 45, 3) := by decide +kernel
theorem dX6_readLine_51 : decode cX6_readLine 51 = .ok (.ifCond .eq 11, 3) := by decide +kernel
theorem dX6_readLine_54 : decode cX6_readLine 54 = .ok (.aload_n 0, 1) := by decide +kernel
theorem dX6_readLine_55 : decode cX6_readLine 55 = .ok (.getfield 45, 3) := by decide +kernel
theorem dX6_readLine_58 : decode cX6_readLine 58 = .ok (.iconst 1, 1) := by decide +kernel
theorem dX6_readLine_59 : decode cX6_readLine 59 = .ok (.if_icmp .ne 39, 3) := by decide +kernel
theorem dX6_readLine_62 : decode cX6_readLine 62 = .ok (.aload_n 0, 1) := by decide +kernel
theorem dX6_readLine_63 : decode cX6_readLine 63 = .ok (.getfield 59, 3) := by decide +kernel
theorem dX6_readLine_66 : decode cX6_readLine 66 = .ok (.iconst 1, 1) := by decide +kernel
theorem dX6_readLine_67 : decode cX6_readLine 67 = .ok (.if_icmp .ne 31, 3) := by decide +kernel
theorem dX6_readLine_70 : decode cX6_readLine 70 = .ok (.aload_n 0, 1) := by decide +kernel
theorem dX6_readLine_71 : decode cX6_readLine 71 = .ok (.aload_n 0, 1) := by decide +kernel
theorem dX6_readLine_72 : decode cX6_readLine 72 = .ok (.iconst 4, 1) := by decide +kernel
theorem dX6_readLine_73 : decode cX6_readLine 73 = .ok (.iconst 0, 1) := by decide +kernel
theorem dX6_readLine_74 : decode cX6_readLine 74 = .ok (.invokevirtual 41, 3) := by decide +kernel
theorem dX6_readLine_77 : decode cX6_readLine 77 = .ok (.putfield 56, 3) := by decide +kernel
theorem dX6_readLine_80 : decode cX6_readLine 80 = .ok (.aload_n 0, 1) := by decide +kernel
theorem dX6_readLine_81 : decode cX6_readLine 81 = .ok (.getfield 56, 3) := by decide +kernel
theorem dX6_readLine_84 : decode cX6_readLine 84 = .ok (.iconst (-1), 1) := by decide +kernel
theorem dX6_readLine_85 : decode cX6_readLine 85 = .ok (.if_icmp .ne 9, 3) := by decide +kernel
theorem dX6_readLine_88 : decode cX6_readLine 88 = .ok (.aload_n 0, 1) := by decide +kernel
theorem dX6_readLine_89 : decode cX6_readLine 89 = .ok (.iconst 1, 1) := by decide +kernel
theorem dX6_readLine_90 : decode cX6_readLine 90 = .ok (.invokevirtual 48, 3) := by decide +kernel
theorem dX6_readLine_93 : decode cX6_readLine 93 = .ok (.ireturn, 1) := by decide +kernel
theorem dX6_readLine_94 : decode cX6_readLine 94 = .ok (.aload_n 0, 1) := by decide +kernel
theorem dX6_readLine_95 : decode cX6_readLine 95 = .ok (.invokevirtual 38, 3) := by decide +kernel
theorem dX6_readLine_98 : decode cX6_readLine 98 = .ok (.aload_n 0, 1) := by decide +kernel
theorem dX6_readLine_99 : decode cX6_readLine 99 = .ok (.aload_n 0, 1) := by decide +kernel
theorem dX6_readLine_100 : decode cX6_readLine 100 = .ok (.getfield 59, 3) := by decide +kernel
theorem dX6_readLine_103 : decode cX6_readLine 103 = .ok (.iconst 3, 1) := by decide +kernel
theorem dX6_readLine_104 : decode cX6_readLine 104 = .ok (.if_icmp .ne 7, 3) := by decide +kernel
theorem dX6_readLine_107 : decode cX6_readLine 107 = .ok (.iconst 1, 1) := by decide +kernel
theorem dX6_readLine_108 : decode cX6_readLine 108 = .ok (.goto 4, 3) := by decide +kernel
theorem dX6_readLine_111 : decode cX6_readLine 111 = .ok (.iconst 0, 1) := by decide +kernel
theorem dX6_readLine_112 : decode cX6_readLine 112 = .ok (.putfield 34, 3) := by decide +kernel
theorem dX6_readLine_115 : decode cX6_readLine 115 = .ok (.aload_n 0, 1) := by decide +kernel
theorem dX6_readLine_116 : decode cX6_readLine 116 = .ok (.getfield 34, 3) := by decide +kernel
theorem dX6_readLine_119 : decode cX6_readLine 119 = .ok (.ifCond .ne 18, 3) := by decide +kernel
theorem dX6_readLine_122 : decode cX6_readLine 122 = .ok (.aload_n 0, 1) := by decide +kernel
theorem dX6_readLine_123 : decode cX6_readLine 123 = .ok (.getfield 59, 3) := by decide +kernel
theorem dX6_readLine_126 : decode cX6_readLine 126 = .ok (.ifCond .eq 11, 3) := by decide +kernel
theorem dX6_readLine_129 : decode cX6_readLine 129 = .ok (.aload_n 0, 1) := by decide +kernel
theorem dX6_readLine_130 : decode cX6_readLine 130 = .ok (.iconst 1, 1) := by decide +kernel
theorem dX6_readLine_131 : decode cX6_readLine 131 = .ok (.invokevirtual 48, 3) := by decide +kernel
theorem dX6_readLine_134 : decode cX6_readLine 134 = .ok (.ifCond .eq 7, 3) := by decide +kernel
theorem dX6_readLine_137 : decode cX6_readLine 137 = .ok (.iconst 1, 1) := by decide +kernel
theorem dX6_readLine_138 : decode cX6_readLine 138 = .ok (.goto 4, 3) := by decide +kernel
theorem dX6_readLine_141 : decode cX6_readLine 141 = .ok (.iconst 0, 1) := by decide +kernel
theorem dX6_readLine_142 : decode cX6_readLine 142 = .ok (.ireturn, 1) := by decide +kernel
theorem dX6_failBy_0 : decode cX6_failBy 0 = .ok (.aload_n 0, 1) := by decide +kernel
theorem dX6_failBy_1 : decode cX6_failBy 1 = .ok (.bipush 8, 2) := by decide +kernel
theorem dX6_failBy_3 : decode cX6_failBy 3 = .ok (.aload_n 0, 1) := by decide +kernel
theorem dX6_failBy_4 : decode cX6_failBy 4 = .ok (.getfield 62, 3) := by decide +kernel
theorem dX6_failBy_7 : decode cX6_failBy 7 = .ok (.imul, 1) := by decide +kernel
theorem dX6_failBy_8 : decode cX6_failBy 8 = .ok (.iload_n 1, 1) := by decide +kernel
theorem dX6_failBy_9 : decode cX6_failBy 9 = .ok (.iadd, 1) := by decide +kernel
theorem dX6_failBy_10 : decode cX6_failBy 10 = .ok (.putfield 65, 3) := by decide +kernel
theorem dX6_failBy_13 : decode cX6_failBy 13 = .ok (.iconst 0, 1) := by decide +kernel
theorem dX6_failBy_14 : decode cX6_failBy 14 = .ok (.ireturn, 1) := by decide +kernel
set_option maxRecDepth 20000 in
theorem ggX6_readNumbers_X6_readNumber : GoodIn wsX6_readNumbers wsX6_readNumber := goodIn_r _ [8, 9, 10, 2, 11, 12, 13, 7, 14, 15, 16, 17, 18, 19, 20, 21, 22, 23, 24, 25, 26, 27, 28, 29, 30, 31, 32, 33, 34, 35, 36, 37, 46, 47, 48, 49, 50, 51, 52, 53, 54, 55, 56, 57] (by decide +kernel) (by decide +kernel)
set_option maxRecDepth 20000 in
theorem gX6_readNumbers_X6_readNumber : GoodIn wsX6_readNumbers (wsV RX6 68 RX6 yX6_readNumber wsX6_readNumber) := goodIn_app (goodIn_of _ (by decide +kernel)) ggX6_readNumbers_X6_readNumber
set_option maxRecDepth 20000 in
theorem ggX6_readNumbers_X6_dearest : GoodIn wsX6_readNumbers wsX6_dearest := goodIn_r _ [40, 3, 41, 42, 43, 44, 45] (by decide +kernel) (by decide +kernel)
set_option maxRecDepth 20000 in
theorem gX6_readNumbers_X6_dearest : GoodIn wsX6_readNumbers (va_wsS RX6 72 yX6_dearest wsX6_dearest) := goodIn_app (goodIn_of _ (by decide +kernel)) ggX6_readNumbers_X6_dearest
theorem dX6_readNumbers_0 : decode cX6_readNumbers 0 = .ok (.aload_n 0, 1) := by decide +kernel
theorem dX6_readNumbers_1 : decode cX6_readNumbers 1 = .ok (.getfield 45, 3) := by decide +kernel
theorem dX6_readNumbers_4 : decode cX6_readNumbers 4 = .ok (.tableswitch 144 0 5 #[40, 40, 87, 96, 125, 135], 40) := by decide +kernel
theorem dX6_readNumbers_44 : decode cX6_readNumbers 44 = .ok (.aload_n 0, 1) := by decide +kernel
theorem dX6_readNumbers_45 : decode cX6_readNumbers 45 = .ok (.iconst 0, 1) := by decide +kernel
theorem dX6_readNumbers_46 : decode cX6_readNumbers 46 = .ok (.iconst 0, 1) := by decide +kernel
theorem dX6_readNumbers_47 : decode cX6_readNumbers 47 = .ok (.bipush 9, 2) := by decide +kernel
theorem dX6_readNumbers_49 : decode cX6_readNumbers 49 = .ok (.invokevirtual 68, 3) := by decide +kernel
theorem dX6_readNumbers_52 : decode cX6_readNumbers 52 = .ok (.ifCond .eq 37, 3) := by decide +kernel
theorem dX6_readNumbers_55 : decode cX6_readNumbers 55 = .ok (.aload_n 0, 1) := by decide +kernel
theorem dX6_readNumbers_56 : decode cX6_readNumbers 56 = .ok (.iconst 1, 1) := by decide +kernel
theorem dX6_readNumbers_57 : decode cX6_readNumbers 57 = .ok (.iconst 1, 1) := by decide +kernel
theorem dX6_readNumbers_58 : decode cX6_readNumbers 58 = .ok (.sipush 1000, 3) := by decide +kernel
theorem dX6_readNumbers_61 : decode cX6_readNumbers 61 = .ok (.invokevirtual 68, 3) := by decide +kernel
theorem dX6_readNumbers_64 : decode cX6_readNumbers 64 = .ok (.ifCond .eq 25, 3) := by decide +kernel
theorem dX6_readNumbers_67 : decode cX6_readNumbers 67 = .ok (.aload_n 0, 1) := by decide +kernel
theorem dX6_readNumbers_68 : decode cX6_readNumbers 68 = .ok (.iconst 2, 1) := by decide +kernel
theorem dX6_readNumbers_69 : decode cX6_readNumbers 69 = .ok (.iconst 1, 1) := by decide +kernel
theorem dX6_readNumbers_70 : decode cX6_readNumbers 70 = .ok (.aload_n 0, 1) := by decide +kernel
theorem dX6_readNumbers_71 : decode cX6_readNumbers 71 = .ok (.getfield 15, 3) := by decide +kernel
theorem dX6_readNumbers_74 : decode cX6_readNumbers 74 = .ok (.iconst 1, 1) := by decide +kernel
theorem dX6_readNumbers_75 : decode cX6_readNumbers 75 = .ok (.iaload, 1) := by decide +kernel
theorem dX6_readNumbers_76 : decode cX6_readNumbers 76 = .ok (.invokestatic 72, 3) := by decide +kernel
theorem dX6_readNumbers_79 : decode cX6_readNumbers 79 = .ok (.invokevirtual 68, 3) := by decide +kernel
theorem dX6_readNumbers_82 : decode cX6_readNumbers 82 = .ok (.ifCond .eq 7, 3) := by decide +kernel
theorem dX6_readNumbers_85 : decode cX6_readNumbers 85 = .ok (.iconst 1, 1) := by decide +kernel
theorem dX6_readNumbers_86 : decode cX6_readNumbers 86 = .ok (.goto 4, 3) := by decide +kernel
theorem dX6_readNumbers_89 : decode cX6_readNumbers 89 = .ok (.iconst 0, 1) := by decide +kernel
theorem dX6_readNumbers_90 : decode cX6_readNumbers 90 = .ok (.ireturn, 1) := by decide +kernel
theorem dX6_readNumbers_91 : decode cX6_readNumbers 91 = .ok (.aload_n 0, 1) := by decide +kernel
theorem dX6_readNumbers_92 : decode cX6_readNumbers 92 = .ok (.iconst 0, 1) := by decide +kernel
