theorem dX5_init_32 : decode cX5_init 32 = .ok (.newarray .int, 2) := by decide +kernel
theorem dX5_init_34 : decode cX5_init 34 = .ok (.putfield 24, 3) := by decide +kernel
theorem dX5_init_37 : decode cX5_init 37 = .ok (.aload_n 0, 1) := by decide +kernel
theorem dX5_init_38 : decode cX5_init 38 = .ok (.bipush 68, 2) := by decide +kernel
theorem dX5_init_40 : decode cX5_init 40 = .ok (.newarray .int, 2) := by decide +kernel
theorem dX5_init_42 : decode cX5_init 42 = .ok (.putfield 27, 3) := by decide +kernel
theorem dX5_init_45 : decode cX5_init 45 = .ok (.aload_n 0, 1) := by decide +kernel
theorem dX5_init_46 : decode cX5_init 46 = .ok (.bipush 68, 2) := by decide +kernel
theorem dX5_init_48 : decode cX5_init 48 = .ok (.newarray .int, 2) := by decide +kernel
theorem dX5_init_50 : decode cX5_init 50 = .ok (.putfield 30, 3) := by decide +kernel
theorem dX5_init_53 : decode cX5_init 53 = .ok (.return_, 1) := by decide +kernel
set_option maxRecDepth 20000 in
theorem ggX5_load_X0_isAt : GoodIn wsX5_load wsX0_isAt := goodIn_r _ [10, 11, 12, 13, 37, 38, 39, 40, 41, 42, 43, 44, 45, 46] (by decide +kernel) (by decide +kernel)
set_option maxRecDepth 20000 in
theorem gX5_load_X0_isAt : GoodIn wsX5_load (wsV RX5 45 RX0 yX0_isAt wsX0_isAt) := goodIn_app (goodIn_of _ (by decide +kernel)) ggX5_load_X0_isAt
set_option maxRecDepth 20000 in
theorem ggX5_load_X0_grantOf : GoodIn wsX5_load wsX0_grantOf := goodIn_r _ [17, 18, 12, 19, 20, 37, 38, 39, 40, 41, 42, 43, 44, 45, 46] (by decide +kernel) (by decide +kernel)
set_option maxRecDepth 20000 in
theorem gX5_load_X0_grantOf : GoodIn wsX5_load (wsV RX5 53 RX0 yX0_grantOf wsX0_grantOf) := goodIn_app (goodIn_of _ (by decide +kernel)) ggX5_load_X0_grantOf
set_option maxRecDepth 20000 in
theorem ggX5_load_X5_put : GoodIn wsX5_load wsX5_put := goodIn_r _ [25, 1, 26, 27, 28, 2, 29, 30, 31, 32, 33, 34, 35, 36] (by decide +kernel) (by decide +kernel)
set_option maxRecDepth 20000 in
theorem gX5_load_X5_put : GoodIn wsX5_load (wsV RX5 57 RX5 yX5_put wsX5_put) := goodIn_app (goodIn_of _ (by decide +kernel)) ggX5_load_X5_put
theorem dX5_load_0 : decode cX5_load 0 = .ok (.aload_n 0, 1) := by decide +kernel
theorem dX5_load_1 : decode cX5_load 1 = .ok (.iconst 0, 1) := by decide +kernel
theorem dX5_load_2 : decode cX5_load 2 = .ok (.putfield 33, 3) := by decide +kernel
theorem dX5_load_5 : decode cX5_load 5 = .ok (.aload_n 0, 1) := by decide +kernel
theorem dX5_load_6 : decode cX5_load 6 = .ok (.iconst 0, 1) := by decide +kernel
theorem dX5_load_7 : decode cX5_load 7 = .ok (.putfield 37, 3) := by decide +kernel
theorem dX5_load_10 : decode cX5_load 10 = .ok (.iconst 0, 1) := by decide +kernel
theorem dX5_load_11 : decode cX5_load 11 = .ok (.istore 4, 2) := by decide +kernel
theorem dX5_load_13 : decode cX5_load 13 = .ok (.iload 4, 2) := by decide +kernel
theorem dX5_load_15 : decode cX5_load 15 = .ok (.aload_n 1, 1) := by decide +kernel
theorem dX5_load_16 : decode cX5_load 16 = .ok (.getfield 40, 3) := by decide +kernel
theorem dX5_load_19 : decode cX5_load 19 = .ok (.if_icmp .ge 46, 3) := by decide +kernel
theorem dX5_load_22 : decode cX5_load 22 = .ok (.aload_n 1, 1) := by decide +kernel
theorem dX5_load_23 : decode cX5_load 23 = .ok (.iload 4, 2) := by decide +kernel
theorem dX5_load_25 : decode cX5_load 25 = .ok (.iload_n 2, 1) := by decide +kernel
theorem dX5_load_26 : decode cX5_load 26 = .ok (.iload_n 3, 1) := by decide +kernel
theorem dX5_load_27 : decode cX5_load 27 = .ok (.invokevirtual 45, 3) := by decide +kernel
theorem dX5_load_30 : decode cX5_load 30 = .ok (.ifCond .eq 29, 3) := by decide +kernel
theorem dX5_load_33 : decode cX5_load 33 = .ok (.aload_n 1, 1) := by decide +kernel
theorem dX5_load_34 : decode cX5_load 34 = .ok (.getfield 49, 3) := by decide +kernel
theorem dX5_load_37 : decode cX5_load 37 = .ok (.iload 4, 2) := by decide +kernel
theorem dX5_load_39 : decode cX5_load 39 = .ok (.aaload, 1) := by decide +kernel
theorem dX5_load_40 : decode cX5_load 40 = .ok (.astore 5, 2) := by decide +kernel
theorem dX5_load_42 : decode cX5_load 42 = .ok (.aload_n 0, 1) := by decide +kernel
theorem dX5_load_43 : decode cX5_load 43 = .ok (.aload 5, 2) := by decide +kernel
theorem dX5_load_45 : decode cX5_load 45 = .ok (.aload 5, 2) := by decide +kernel
theorem dX5_load_47 : decode cX5_load 47 = .ok (.getfield 51, 3) := by decide +kernel
theorem dX5_load_50 : decode cX5_load 50 = .ok (.aload_n 1, 1) := by decide +kernel
theorem dX5_load_51 : decode cX5_load 51 = .ok (.aload 5, 2) := by decide +kernel
theorem dX5_load_53 : decode cX5_load 53 = .ok (.invokevirtual 53, 3) := by decide +kernel
theorem dX5_load_56 : decode cX5_load 56 = .ok (.invokevirtual 57, 3) := by decide +kernel
theorem dX5_load_59 : decode cX5_load 59 = .ok (.iinc 4 1, 3) := by decide +kernel
theorem dX5_load_62 : decode cX5_load 62 = .ok (.goto (-49), 3) := by decide +kernel
theorem dX5_load_65 : decode cX5_load 65 = .ok (.return_, 1) := by decide +kernel
theorem dX5_put_0 : decode cX5_put 0 = .ok (.aload_n 0, 1) := by decide +kernel
theorem dX5_put_1 : decode cX5_put 1 = .ok (.getfield 33, 3) := by decide +kernel
theorem dX5_put_4 : decode cX5_put 4 = .ok (.bipush 68, 2) := by decide +kernel
theorem dX5_put_6 : decode cX5_put 6 = .ok (.if_icmp .lt 4, 3) := by decide +kernel
theorem dX5_put_9 : decode cX5_put 9 = .ok (.return_, 1) := by decide +kernel
theorem dX5_put_10 : decode cX5_put 10 = .ok (.aload_n 0, 1) := by decide +kernel
theorem dX5_put_11 : decode cX5_put 11 = .ok (.getfield 13, 3) := by decide +kernel
theorem dX5_put_14 : decode cX5_put 14 = .ok (.aload_n 0, 1) := by decide +kernel
theorem dX5_put_15 : decode cX5_put 15 = .ok (.getfield 33, 3) := by decide +kernel
theorem dX5_put_18 : decode cX5_put 18 = .ok (.aload_n 1, 1) := by decide +kernel
theorem dX5_put_19 : decode cX5_put 19 = .ok (.aastore, 1) := by decide +kernel
theorem dX5_put_20 : decode cX5_put 20 = .ok (.aload_n 0, 1) := by decide +kernel
theorem dX5_put_21 : decode cX5_put 21 = .ok (.getfield 17, 3) := by decide +kernel
theorem dX5_put_24 : decode cX5_put 24 = .ok (.aload_n 0, 1) := by decide +kernel
theorem dX5_put_25 : decode cX5_put 25 = .ok (.getfield 33, 3) := by decide +kernel
theorem dX5_put_28 : decode cX5_put 28 = .ok (.iload_n 2, 1) := by decide +kernel
theorem dX5_put_29 : decode cX5_put 29 = .ok (.iastore, 1) := by decide +kernel
theorem dX5_put_30 : decode cX5_put 30 = .ok (.aload_n 0, 1) := by decide +kernel
theorem dX5_put_31 : decode cX5_put 31 = .ok (.getfield 21, 3) := by decide +kernel
theorem dX5_put_34 : decode cX5_put 34 = .ok (.aload_n 0, 1) := by decide +kernel
theorem dX5_put_35 : decode cX5_put 35 = .ok (.getfield 33, 3) := by decide +kernel
theorem dX5_put_38 : decode cX5_put 38 = .ok (.iload_n 3, 1) := by decide +kernel
theorem dX5_put_39 : decode cX5_put 39 = .ok (.iastore, 1) := by decide +kernel
theorem dX5_put_40 : decode cX5_put 40 = .ok (.aload_n 0, 1) := by decide +kernel
theorem dX5_put_41 : decode cX5_put 41 = .ok (.dup, 1) := by decide +kernel
theorem dX5_put_42 : decode cX5_put 42 = .ok (.getfield 33, 3) := by decide +kernel
theorem dX5_put_45 : decode cX5_put 45 = .ok (.iconst 1, 1) := by decide +kernel
theorem dX5_put_46 : decode cX5_put 46 = .ok (.iadd, 1) := by decide +kernel
theorem dX5_put_47 : decode cX5_put 47 = .ok (.putfield 33, 3) := by decide +kernel
theorem dX5_put_50 : decode cX5_put 50 = .ok (.aload_n 0, 1) := by decide +kernel
theorem dX5_put_51 : decode cX5_put 51 = .ok (.dup, 1) := by decide +kernel
theorem dX5_put_52 : decode cX5_put 52 = .ok (.getfield 37, 3) := by decide +kernel
theorem dX5_put_55 : decode cX5_put 55 = .ok (.iload_n 2, 1) := by decide +kernel
theorem dX5_put_56 : decode cX5_put 56 = .ok (.iadd, 1) := by decide +kernel
theorem dX5_put_57 : decode cX5_put 57 = .ok (.putfield 37, 3) := by decide +kernel
theorem dX5_put_60 : decode cX5_put 60 = .ok (.return_, 1) := by decide +kernel
set_option maxRecDepth 20000 in
theorem ggX5_deal_X5_portion : GoodIn wsX5_deal wsX5_portion := goodIn_r _ [14] (by decide +kernel) (by decide +kernel)
set_option maxRecDepth 20000 in
theorem gX5_deal_X5_portion : GoodIn wsX5_deal (va_wsS RX5 77 yX5_portion wsX5_portion) := goodIn_app (goodIn_of _ (by decide +kernel)) ggX5_deal_X5_portion
theorem dX5_deal_0 : decode cX5_deal 0 = .ok (.iload_n 1, 1) := by decide +kernel
theorem dX5_deal_1 : decode cX5_deal 1 = .ok (.istore_n 3, 1) := by decide +kernel
theorem dX5_deal_2 : decode cX5_deal 2 = .ok (.iconst 0, 1) := by decide +kernel
theorem dX5_deal_3 : decode cX5_deal 3 = .ok (.istore 4, 2) := by decide +kernel
theorem dX5_deal_5 : decode cX5_deal 5 = .ok (.iconst 0, 1) := by decide +kernel
theorem dX5_deal_6 : decode cX5_deal 6 = .ok (.istore 5, 2) := by decide +kernel
theorem dX5_deal_8 : decode cX5_deal 8 = .ok (.iload 5, 2) := by decide +kernel
theorem dX5_deal_10 : decode cX5_deal 10 = .ok (.aload_n 0, 1) := by decide +kernel
theorem dX5_deal_11 : decode cX5_deal 11 = .ok (.getfield 33, 3) := by decide +kernel
theorem dX5_deal_14 : decode cX5_deal 14 = .ok (.if_icmp .ge 67, 3) := by decide +kernel
theorem dX5_deal_17 : decode cX5_deal 17 = .ok (.aload_n 0, 1) := by decide +kernel
theorem dX5_deal_18 : decode cX5_deal 18 = .ok (.getfield 24, 3) := by decide +kernel
theorem dX5_deal_21 : decode cX5_deal 21 = .ok (.iload 5, 2) := by decide +kernel
theorem dX5_deal_23 : decode cX5_deal 23 = .ok (.iload_n 3, 1) := by decide +kernel
theorem dX5_deal_24 : decode cX5_deal 24 = .ok (.aload_n 0, 1) := by decide +kernel
theorem dX5_deal_25 : decode cX5_deal 25 = .ok (.getfield 17, 3) := by decide +kernel
theorem dX5_deal_28 : decode cX5_deal 28 = .ok (.iload 5, 2) := by decide +kernel
theorem dX5_deal_30 : decode cX5_deal 30 = .ok (.iaload, 1) := by decide +kernel
theorem dX5_deal_31 : decode cX5_deal 31 = .ok (.aload_n 0, 1) := by decide +kernel
theorem dX5_deal_32 : decode cX5_deal 32 = .ok (.getfield 21, 3) := by decide +kernel
theorem dX5_deal_35 : decode cX5_deal 35 = .ok (.iload 5, 2) := by decide +kernel
theorem dX5_deal_37 : decode cX5_deal 37 = .ok (.iaload, 1) := by decide +kernel
theorem dX5_deal_38 : decode cX5_deal 38 = .ok (.invokestatic 71, 3) := by decide +kernel
theorem dX5_deal_41 : decode cX5_deal 41 = .ok (.invokestatic 71, 3) := by decide +kernel
theorem dX5_deal_44 : decode cX5_deal 44 = .ok (.iastore, 1) := by decide +kernel
theorem dX5_deal_45 : decode cX5_deal 45 = .ok (.iload_n 3, 1) := by decide +kernel
theorem dX5_deal_46 : decode cX5_deal 46 = .ok (.aload_n 0, 1) := by decide +kernel
theorem dX5_deal_47 : decode cX5_deal 47 = .ok (.getfield 24, 3) := by decide +kernel
theorem dX5_deal_50 : decode cX5_deal 50 = .ok (.iload 5, 2) := by decide +kernel
theorem dX5_deal_52 : decode cX5_deal 52 = .ok (.iaload, 1) := by decide +kernel
theorem dX5_deal_53 : decode cX5_deal 53 = .ok (.isub, 1) := by decide +kernel
theorem dX5_deal_54 : decode cX5_deal 54 = .ok (.istore_n 3, 1) := by decide +kernel
theorem dX5_deal_55 : decode cX5_deal 55 = .ok (.iload 4, 2) := by decide +kernel
theorem dX5_deal_57 : decode cX5_deal 57 = .ok (.aload_n 0, 1) := by decide +kernel
theorem dX5_deal_58 : decode cX5_deal 58 = .ok (.getfield 17, 3) := by decide +kernel
theorem dX5_deal_61 : decode cX5_deal 61 = .ok (.iload 5, 2) := by decide +kernel
theorem dX5_deal_63 : decode cX5_deal 63 = .ok (.iaload, 1) := by decide +kernel
theorem dX5_deal_64 : decode cX5_deal 64 = .ok (.aload_n 0, 1) := by decide +kernel
theorem dX5_deal_65 : decode cX5_deal 65 = .ok (.getfield 24, 3) := by decide +kernel
theorem dX5_deal_68 : decode cX5_deal 68 = .ok (.iload 5, 2) := by decide +kernel
theorem dX5_deal_70 : decode cX5_deal 70 = .ok (.iaload, 1) := by decide +kernel
theorem dX5_deal_71 : decode cX5_deal 71 = .ok (.isub, 1) := by decide +kernel
theorem dX5_deal_72 : decode cX5_deal 72 = .ok (.iadd, 1) := by decide +kernel
theorem dX5_deal_73 : decode cX5_deal 73 = .ok (.istore 4, 2) := by decide +kernel
theorem dX5_deal_75 : decode cX5_deal 75 = .ok (.iinc 5 1, 3) := by decide +kernel
theorem dX5_deal_78 : decode cX5_deal 78 = .ok (.goto (-70), 3) := by decide +kernel
theorem dX5_deal_81 : decode cX5_deal 81 = .ok (.iload_n 3, 1) := by decide +kernel
theorem dX5_deal_82 : decode cX5_deal 82 = .ok (.istore 5, 2) := by decide +kernel
theorem dX5_deal_84 : decode cX5_deal 84 = .ok (.iconst 0, 1) := by decide +kernel
theorem dX5_deal_85 : decode cX5_deal 85 = .ok (.istore 6, 2) := by decide +kernel
theorem dX5_deal_87 : decode cX5_deal 87 = .ok (.iload 6, 2) := by decide +kernel
theorem dX5_deal_89 : decode cX5_deal 89 = .ok (.aload_n 0, 1) := by decide +kernel
theorem dX5_deal_90 : decode cX5_deal 90 = .ok (.getfield 33, 3) := by decide +kernel
theorem dX5_deal_93 : decode cX5_deal 93 = .ok (.if_icmp .ge 49, 3) := by decide +kernel
theorem dX5_deal_96 : decode cX5_deal 96 = .ok (.aload_n 0, 1) := by decide +kernel
theorem dX5_deal_97 : decode cX5_deal 97 = .ok (.getfield 27, 3) := by decide +kernel
theorem dX5_deal_100 : decode cX5_deal 100 = .ok (.iload 6, 2) := by decide +kernel
theorem dX5_deal_102 : decode cX5_deal 102 = .ok (.iload 5, 2) := by decide +kernel
theorem dX5_deal_104 : decode cX5_deal 104 = .ok (.aload_n 0, 1) := by decide +kernel
theorem dX5_deal_105 : decode cX5_deal 105 = .ok (.getfield 17, 3) := by decide +kernel
theorem dX5_deal_108 : decode cX5_deal 108 = .ok (.iload 6, 2) := by decide +kernel
theorem dX5_deal_110 : decode cX5_deal 110 = .ok (.iaload, 1) := by decide +kernel
theorem dX5_deal_111 : decode cX5_deal 111 = .ok (.aload_n 0, 1) := by decide +kernel
theorem dX5_deal_112 : decode cX5_deal 112 = .ok (.getfield 24, 3) := by decide +kernel
theorem dX5_deal_115 : decode cX5_deal 115 = .ok (.iload 6, 2) := by decide +kernel
theorem dX5_deal_117 : decode cX5_deal 117 = .ok (.iaload, 1) := by decide +kernel
theorem dX5_deal_118 : decode cX5_deal 118 = .ok (.isub, 1) := by decide +kernel
theorem dX5_deal_119 : decode cX5_deal 119 = .ok (.iload 4, 2) := by decide +kernel
theorem dX5_deal_121 : decode cX5_deal 121 = .ok (.iload_n 2, 1) := by decide +kernel
theorem dX5_deal_122 : decode cX5_deal 122 = .ok (.invokestatic 77, 3) := by decide +kernel
theorem dX5_deal_125 : decode cX5_deal 125 = .ok (.iastore, 1) := by decide +kernel
theorem dX5_deal_126 : decode cX5_deal 126 = .ok (.iload_n 3, 1) := by decide +kernel
theorem dX5_deal_127 : decode cX5_deal 127 = .ok (.aload_n 0, 1) := by decide +kernel
theorem dX5_deal_128 : decode cX5_deal 128 = .ok (.getfield 27, 3) := by decide +kernel
theorem dX5_deal_131 : decode cX5_deal 131 = .ok (.iload 6, 2) := by decide +kernel
theorem dX5_deal_133 : decode cX5_deal 133 = .ok (.iaload, 1) := by decide +kernel
theorem dX5_deal_134 : decode cX5_deal 134 = .ok (.isub, 1) := by decide +kernel
theorem dX5_deal_135 : decode cX5_deal 135 = .ok (.istore_n 3, 1) := by decide +kernel
theorem dX5_deal_136 : decode cX5_deal 136 = .ok (.iinc 6 1, 3) := by decide +kernel
theorem dX5_deal_139 : decode cX5_deal 139 = .ok (.goto (-52), 3) := by decide +kernel
theorem dX5_deal_142 : decode cX5_deal 142 = .ok (.iconst 0, 1) := by decide +kernel
theorem dX5_deal_143 : decode cX5_deal 143 = .ok (.istore 6, 2) := by decide +kernel
theorem dX5_deal_145 : decode cX5_deal 145 = .ok (.iload 6, 2) := by decide +kernel
theorem dX5_deal_147 : decode cX5_deal 147 = .ok (.aload_n 0, 1) := by decide +kernel
theorem dX5_deal_148 : decode cX5_deal 148 = .ok (.getfield 33, 3) := by decide +kernel
theorem dX5_deal_151 : decode cX5_deal 151 = .ok (.if_icmp .ge 53, 3) := by decide +kernel
theorem dX5_deal_154 : decode cX5_deal 154 = .ok (.aload_n 0, 1) := by decide +kernel
theorem dX5_deal_155 : decode cX5_deal 155 = .ok (.getfield 30, 3) := by decide +kernel
theorem dX5_deal_158 : decode cX5_deal 158 = .ok (.iload 6, 2) := by decide +kernel
theorem dX5_deal_160 : decode cX5_deal 160 = .ok (.iload_n 3, 1) := by decide +kernel
theorem dX5_deal_161 : decode cX5_deal 161 = .ok (.aload_n 0, 1) := by decide +kernel
theorem dX5_deal_162 : decode cX5_deal 162 = .ok (.getfield 17, 3) := by decide +kernel
theorem dX5_deal_165 : decode cX5_deal 165 = .ok (.iload 6, 2) := by decide +kernel
theorem dX5_deal_167 : decode cX5_deal 167 = .ok (.iaload, 1) := by decide +kernel
theorem dX5_deal_168 : decode cX5_deal 168 = .ok (.aload_n 0, 1) := by decide +kernel
theorem dX5_deal_169 : decode cX5_deal 169 = .ok (.getfield 24, 3) := by decide +kernel
theorem dX5_deal_172 : decode cX5_deal 172 = .ok (.iload 6, 2) := by decide +kernel
theorem dX5_deal_174 : decode cX5_deal 174 = .ok (.iaload, 1) := by decide +kernel
theorem dX5_deal_175 : decode cX5_deal 175 = .ok (.isub, 1) := by decide +kernel
theorem dX5_deal_176 : decode cX5_deal 176 = .ok (.aload_n 0, 1) := by decide +kernel
theorem dX5_deal_177 : decode cX5_deal 177 = .ok (.getfield 27, 3) := by decide +kernel
theorem dX5_deal_180 : decode cX5_deal 180 = .ok (.iload 6, 2) := by decide +kernel
theorem dX5_deal_182 : decode cX5_deal 182 = .ok (.iaload, 1) := by decide +kernel
theorem dX5_deal_183 : decode cX5_deal 183 = .ok (.isub, 1) := by decide +kernel
theorem dX5_deal_184 : decode cX5_deal 184 = .ok (.invokestatic 71, 3) := by decide +kernel
theorem dX5_deal_187 : decode cX5_deal 187 = .ok (.iastore, 1) := by decide +kernel
theorem dX5_deal_188 : decode cX5_deal 188 = .ok (.iload_n 3, 1) := by decide +kernel
theorem dX5_deal_189 : decode cX5_deal 189 = .ok (.aload_n 0, 1) := by decide +kernel
theorem dX5_deal_190 : decode cX5_deal 190 = .ok (.getfield 30, 3) := by decide +kernel
theorem dX5_deal_193 : decode cX5_deal 193 = .ok (.iload 6, 2) := by decide +kernel
theorem dX5_deal_195 : decode cX5_deal 195 = .ok (.iaload, 1) := by decide +kernel
theorem dX5_deal_196 : decode cX5_deal 196 = .ok (.isub, 1) := by decide +kernel
theorem dX5_deal_197 : decode cX5_deal 197 = .ok (.istore_n 3, 1) := by decide +kernel
theorem dX5_deal_198 : decode cX5_deal 198 = .ok (.iinc 6 1, 3) := by decide +kernel
theorem dX5_deal_201 : decode cX5_deal 201 = .ok (.goto (-56), 3) := by decide +kernel
theorem dX5_deal_204 : decode cX5_deal 204 = .ok (.return_, 1) := by decide +kernel
theorem dX5_portion_0 : decode cX5_portion 0 = .ok (.iload_n 2, 1) := by decide +kernel
theorem dX5_portion_1 : decode cX5_portion 1 = .ok (.ifCond .gt 5, 3) := by decide +kernel
theorem dX5_portion_4 : decode cX5_portion 4 = .ok (.iconst 0, 1) := by decide +kernel
theorem dX5_portion_5 : decode cX5_portion 5 = .ok (.ireturn, 1) := by decide +kernel
theorem dX5_portion_6 : decode cX5_portion 6 = .ok (.iload_n 0, 1) := by decide +kernel
theorem dX5_portion_7 : decode cX5_portion 7 = .ok (.iload_n 1, 1) := by decide +kernel
theorem dX5_portion_8 : decode cX5_portion 8 = .ok (.imul, 1) := by decide +kernel
theorem dX5_portion_9 : decode cX5_portion 9 = .ok (.iload_n 2, 1) := by decide +kernel
theorem dX5_portion_10 : decode cX5_portion 10 = .ok (.idiv, 1) := by decide +kernel
theorem dX5_portion_11 : decode cX5_portion 11 = .ok (.istore 4, 2) := by decide +kernel
theorem dX5_portion_13 : decode cX5_portion 13 = .ok (.iload 4, 2) := by decide +kernel
theorem dX5_portion_15 : decode cX5_portion 15 = .ok (.iload_n 3, 1) := by decide +kernel
theorem dX5_portion_16 : decode cX5_portion 16 = .ok (.if_icmp .ge 7, 3) := by decide +kernel
theorem dX5_portion_19 : decode cX5_portion 19 = .ok (.iconst 0, 1) := by decide +kernel
theorem dX5_portion_20 : decode cX5_portion 20 = .ok (.goto 5, 3) := by decide +kernel
theorem dX5_portion_23 : decode cX5_portion 23 = .ok (.iload 4, 2) := by decide +kernel
theorem dX5_portion_25 : decode cX5_portion 25 = .ok (.ireturn, 1) := by decide +kernel
theorem dX5_partAt_0 : decode cX5_partAt 0 = .ok (.iload_n 2, 1) := by decide +kernel
theorem dX5_partAt_1 : decode cX5_partAt 1 = .ok (.tableswitch 48 1 3 #[27, 34, 41], 27) := by decide +kernel
theorem dX5_partAt_28 : decode cX5_partAt 28 = .ok (.aload_n 0, 1) := by decide +kernel
theorem dX5_partAt_29 : decode cX5_partAt 29 = .ok (.getfield 24, 3) := by decide +kernel
theorem dX5_partAt_32 : decode cX5_partAt 32 = .ok (.iload_n 1, 1) := by decide +kernel
theorem dX5_partAt_33 : decode cX5_partAt 33 = .ok (.iaload, 1) := by decide +kernel
theorem dX5_partAt_34 : decode cX5_partAt 34 = .ok (.ireturn, 1) := by decide +kernel
theorem dX5_partAt_35 : decode cX5_partAt 35 = .ok (.aload_n 0, 1) := by decide +kernel
theorem dX5_partAt_36 : decode cX5_partAt 36 = .ok (.getfield 27, 3) := by decide +kernel
theorem dX5_partAt_39 : decode cX5_partAt 39 = .ok (.iload_n 1, 1) := by decide +kernel
theorem dX5_partAt_40 : decode cX5_partAt 40 = .ok (.iaload, 1) := by decide +kernel
theorem dX5_partAt_41 : decode cX5_partAt 41 = .ok (.ireturn, 1) := by decide +kernel
theorem dX5_partAt_42 : decode cX5_partAt 42 = .ok (.aload_n 0, 1) := by decide +kernel
theorem dX5_partAt_43 : decode cX5_partAt 43 = .ok (.getfield 30, 3) := by decide +kernel
theorem dX5_partAt_46 : decode cX5_partAt 46 = .ok (.iload_n 1, 1) := by decide +kernel
theorem dX5_partAt_47 : decode cX5_partAt 47 = .ok (.iaload, 1) := by decide +kernel
theorem dX5_partAt_48 : decode cX5_partAt 48 = .ok (.ireturn, 1) := by decide +kernel
theorem dX5_partAt_49 : decode cX5_partAt 49 = .ok (.aload_n 0, 1) := by decide +kernel
theorem dX5_partAt_50 : decode cX5_partAt 50 = .ok (.getfield 24, 3) := by decide +kernel
theorem dX5_partAt_53 : decode cX5_partAt 53 = .ok (.iload_n 1, 1) := by decide +kernel
theorem dX5_partAt_54 : decode cX5_partAt 54 = .ok (.iaload, 1) := by decide +kernel
theorem dX5_partAt_55 : decode cX5_partAt 55 = .ok (.aload_n 0, 1) := by decide +kernel
theorem dX5_partAt_56 : decode cX5_partAt 56 = .ok (.getfield 27, 3) := by decide +kernel
theorem dX5_partAt_59 : decode cX5_partAt 59 = .ok (.iload_n 1, 1) := by decide +kernel
theorem dX5_partAt_60 : decode cX5_partAt 60 = .ok (.iaload, 1) := by decide +kernel
theorem dX5_partAt_61 : decode cX5_partAt 61 = .ok (.iadd, 1) := by decide +kernel
theorem dX5_partAt_62 : decode cX5_partAt 62 = .ok (.aload_n 0, 1) := by decide +kernel
theorem dX5_partAt_63 : decode cX5_partAt 63 = .ok (.getfield 30, 3) := by decide +kernel
theorem dX5_partAt_66 : decode cX5_partAt 66 = .ok (.iload_n 1, 1) := by decide +kernel
theorem dX5_partAt_67 : decode cX5_partAt 67 = .ok (.iaload, 1) := by decide +kernel
theorem dX5_partAt_68 : decode cX5_partAt 68 = .ok (.iadd, 1) := by decide +kernel
theorem dX5_partAt_69 : decode cX5_partAt 69 = .ok (.ireturn, 1) := by decide +kernel
set_option maxRecDepth 20000 in
theorem ggX5_partOf_X5_partAt : GoodIn wsX5_partOf wsX5_partAt := goodIn_r _ [7, 8, 9, 10, 11, 12, 13, 14, 15, 16, 17, 18] (by decide +kernel) (by decide +kernel)
set_option maxRecDepth 20000 in
theorem gX5_partOf_X5_partAt : GoodIn wsX5_partOf (wsV RX5 81 RX5 yX5_partAt wsX5_partAt) := goodIn_app (goodIn_of _ (by decide +kernel)) ggX5_partOf_X5_partAt
theorem dX5_partOf_0 : decode cX5_partOf 0 = .ok (.iconst 0, 1) := by decide +kernel
theorem dX5_partOf_1 : decode cX5_partOf 1 = .ok (.istore_n 3, 1) := by decide +kernel
theorem dX5_partOf_2 : decode cX5_partOf 2 = .ok (.iconst 0, 1) := by decide +kernel
theorem dX5_partOf_3 : decode cX5_partOf 3 = .ok (.istore 4, 2) := by decide +kernel
theorem dX5_partOf_5 : decode cX5_partOf 5 = .ok (.iload 4, 2) := by decide +kernel
theorem dX5_partOf_7 : decode cX5_partOf 7 = .ok (.aload_n 0, 1) := by decide +kernel
theorem dX5_partOf_8 : decode cX5_partOf 8 = .ok (.getfield 33, 3) := by decide +kernel
theorem dX5_partOf_11 : decode cX5_partOf 11 = .ok (.if_icmp .ge 34, 3) := by decide +kernel
theorem dX5_partOf_14 : decode cX5_partOf 14 = .ok (.iload_n 3, 1) := by decide +kernel
theorem dX5_partOf_15 : decode cX5_partOf 15 = .ok (.aload_n 0, 1) := by decide +kernel
theorem dX5_partOf_16 : decode cX5_partOf 16 = .ok (.getfield 13, 3) := by decide +kernel
theorem dX5_partOf_19 : decode cX5_partOf 19 = .ok (.iload 4, 2) := by decide +kernel
theorem dX5_partOf_21 : decode cX5_partOf 21 = .ok (.aaload, 1) := by decide +kernel
theorem dX5_partOf_22 : decode cX5_partOf 22 = .ok (.aload_n 1, 1) := by decide +kernel
theorem dX5_partOf_23 : decode cX5_partOf 23 = .ok (.if_acmp .ne 13, 3) := by decide +kernel
theorem dX5_partOf_26 : decode cX5_partOf 26 = .ok (.aload_n 0, 1) := by decide +kernel
theorem dX5_partOf_27 : decode cX5_partOf 27 = .ok (.iload 4, 2) := by decide +kernel
theorem dX5_partOf_29 : decode cX5_partOf 29 = .ok (.iload_n 2, 1) := by decide +kernel
theorem dX5_partOf_30 : decode cX5_partOf 30 = .ok (.invokevirtual 81, 3) := by decide +kernel
theorem dX5_partOf_33 : decode cX5_partOf 33 = .ok (.goto 4, 3) := by decide +kernel
theorem dX5_partOf_36 : decode cX5_partOf 36 = .ok (.iconst 0, 1) := by decide +kernel
theorem dX5_partOf_37 : decode cX5_partOf 37 = .ok (.iadd, 1) := by decide +kernel
theorem dX5_partOf_38 : decode cX5_partOf 38 = .ok (.istore_n 3, 1) := by decide +kernel
theorem dX5_partOf_39 : decode cX5_partOf 39 = .ok (.iinc 4 1, 3) := by decide +kernel
theorem dX5_partOf_42 : decode cX5_partOf 42 = .ok (.goto (-37), 3) := by decide +kernel
theorem dX5_partOf_45 : decode cX5_partOf 45 = .ok (.iload_n 3, 1) := by decide +kernel
theorem dX5_partOf_46 : decode cX5_partOf 46 = .ok (.ireturn, 1) := by decide +kernel
theorem dX6_init_0 : decode cX6_init 0 = .ok (.aload_n 0, 1) := by decide +kernel
theorem dX6_init_1 : decode cX6_init 1 = .ok (.invokespecial 3, 3) := by decide +kernel
theorem dX6_init_4 : decode cX6_init 4 = .ok (.aload_n 0, 1) := by decide +kernel
theorem dX6_init_5 : decode cX6_init 5 = .ok (.sipush 500, 3) := by decide +kernel
theorem dX6_init_8 : decode cX6_init 8 = .ok (.newarray .int, 2) := by decide +kernel
theorem dX6_init_10 : decode cX6_init 10 = .ok (.putfield 9, 3) := by decide +kernel
theorem dX6_init_13 : decode cX6_init 13 = .ok (.aload_n 0, 1) := by decide +kernel
theorem dX6_init_14 : decode cX6_init 14 = .ok (.iconst 3, 1) := by decide +kernel
theorem dX6_init_15 : decode cX6_init 15 = .ok (.newarray .int, 2) := by decide +kernel
theorem dX6_init_17 : decode cX6_init 17 = .ok (.putfield 15, 3) := by decide +kernel
theorem dX6_init_20 : decode cX6_init 20 = .ok (.return_, 1) := by decide +kernel
set_option maxRecDepth 20000 in
theorem ggX7_init_X2_init : GoodIn wsX7_init wsX2_init := goodIn_r _ [14, 15, 2, 3, 16, 17, 18, 19, 20, 21, 22, 23, 24, 25, 26, 27, 28, 29, 30, 31, 32, 33, 34, 35, 36, 37, 38, 39, 40, 41, 42, 43, 44, 45, 46, 47, 48, 49, 50, 51, 52, 53, 54, 55, 56, 57, 58, 59, 60, 61, 62, 63, 64, 65, 66, 67, 68, 69, 70, 103, 104, 105, 106, 76, 77, 78, 79, 80, 81, 82, 83, 84, 85, 86, 87, 107, 108, 109, 110, 111, 112, 113, 114, 115, 116, 117, 118, 119, 120, 121, 122, 123, 124, 125, 126, 127, 128, 129, 130] (by decide +kernel) (by decide +kernel)
set_option maxRecDepth 20000 in
theorem gX7_init_X2_init_n9 : GoodIn wsX7_init (wsX2_init) := ggX7_init_X2_init
set_option maxRecDepth 20000 in
theorem ggX7_init_X6_init : GoodIn wsX7_init wsX6_init := goodIn_r _ [72, 73, 2, 3, 44, 74, 75, 91, 92, 93, 94, 95, 96, 97, 98, 99, 100, 101, 102] (by decide +kernel) (by decide +kernel)
set_option maxRecDepth 20000 in
theorem gX7_init_X6_init_n21 : GoodIn wsX7_init (wsX6_init) := ggX7_init_X6_init
theorem dX7_init_0 : decode cX7_init 0 = .ok (.aload_n 0, 1) := by decide +kernel
theorem dX7_init_1 : decode cX7_init 1 = .ok (.invokespecial 1, 3) := by decide +kernel
theorem dX7_init_4 : decode cX7_init 4 = .ok (.aload_n 0, 1) := by decide +kernel
theorem dX7_init_5 : decode cX7_init 5 = .ok (.new 7, 3) := by decide +kernel
theorem dX7_init_8 : decode cX7_init 8 = .ok (.dup, 1) := by decide +kernel
theorem dX7_init_9 : decode cX7_init 9 = .ok (.invokespecial 9, 3) := by decide +kernel
theorem dX7_init_12 : decode cX7_init 12 = .ok (.putfield 10, 3) := by decide +kernel
theorem dX7_init_15 : decode cX7_init 15 = .ok (.aload_n 0, 1) := by decide +kernel
theorem dX7_init_16 : decode cX7_init 16 = .ok (.new 7, 3) := by decide +kernel
theorem dX7_init_19 : decode cX7_init 19 = .ok (.dup, 1) := by decide +kernel
theorem dX7_init_20 : decode cX7_init 20 = .ok (.invokespecial 9, 3) := by decide +kernel
theorem dX7_init_23 : decode cX7_init 23 = .ok (.putfield 16, 3) := by decide +kernel
theorem dX7_init_26 : decode cX7_init 26 = .ok (.aload_n 0, 1) := by decide +kernel
theorem dX7_init_27 : decode cX7_init 27 = .ok (.new 19, 3) := by decide +kernel
theorem dX7_init_30 : decode cX7_init 30 = .ok (.dup, 1) := by decide +kernel
theorem dX7_init_31 : decode cX7_init 31 = .ok (.invokespecial 21, 3) := by decide +kernel
theorem dX7_init_34 : decode cX7_init 34 = .ok (.putfield 22, 3) := by decide +kernel
theorem dX7_init_37 : decode cX7_init 37 = .ok (.return_, 1) := by decide +kernel
set_option maxRecDepth 20000 in
theorem ggX7_order_X7_isForm : GoodIn wsX7_order wsX7_isForm := goodIn_r _ [5, 6, 7, 8, 4, 9, 10, 11, 12] (by decide +kernel) (by decide +kernel)
set_option maxRecDepth 20000 in
theorem gX7_order_X7_isForm : GoodIn wsX7_order (va_wsS RX7 87 yX7_isForm wsX7_isForm) := goodIn_app (goodIn_of _ (by decide +kernel)) ggX7_order_X7_isForm
set_option maxRecDepth 20000 in
theorem ggX7_order_X7_isWorthInt : GoodIn wsX7_order wsX7_isWorthInt := goodIn_r _ [15, 16] (by decide +kernel) (by decide +kernel)
set_option maxRecDepth 20000 in
theorem gX7_order_X7_isWorthInt : GoodIn wsX7_order (va_wsS RX7 91 yX7_isWorthInt wsX7_isWorthInt) := goodIn_app (goodIn_of _ (by decide +kernel)) ggX7_order_X7_isWorthInt
set_option maxRecDepth 20000 in
theorem ggX7_order_X2_comeIn : GoodIn wsX7_order wsX2_comeIn := goodIn_r _ [21, 22, 23, 24, 25, 26, 27, 28, 29, 30, 31, 32, 33, 34, 35, 36, 37, 38, 39, 40, 41, 42, 43, 44, 45, 46, 20, 47, 48, 49, 50, 51, 52, 53, 54, 55, 56, 57, 58, 59, 60, 61, 62, 4, 63, 64, 65, 66, 67, 68, 69, 70, 71, 72, 73, 74, 75, 76, 77, 78, 79, 80, 81, 82, 83, 84, 85, 86, 87, 88, 89, 90, 91, 92, 93, 94, 95, 96, 97, 98, 99, 100, 101, 102, 103, 104, 105, 106, 107, 108, 109, 110, 111, 112, 113, 114, 115, 116, 117, 118, 119, 120, 121, 122, 123, 124, 125, 126, 127, 128, 129, 130, 131, 132, 133, 134, 135, 136, 137, 138, 139, 140, 141, 142, 143, 144, 145, 146, 147, 148, 149, 150, 151, 152, 153, 154, 155, 156, 157, 158, 159, 160, 161, 162, 163, 164, 165, 166, 167, 168, 169, 170, 171, 172, 173, 174, 175, 176, 177, 178, 179, 180, 181, 182, 183, 184, 185, 186, 187, 188, 189, 193, 194, 195, 196, 197, 198, 199, 200, 201, 202, 203, 204, 205, 206, 207, 208, 209, 210, 211, 212, 213, 214, 215, 216, 217, 218, 219, 220, 221, 222, 223, 224, 225, 226, 227, 228, 229] (by decide +kernel) (by decide +kernel)
set_option maxRecDepth 20000 in
theorem gX7_order_X2_comeIn : GoodIn wsX7_order (wsV RX7 62 RX2 yX2_comeIn wsX2_comeIn) := goodIn_app (goodIn_of _ (by decide +kernel)) ggX7_order_X2_comeIn
theorem dX7_order_0 : decode cX7_order 0 = .ok (.iload_n 1, 1) := by decide +kernel
theorem dX7_order_1 : decode cX7_order 1 = .ok (.iload_n 2, 1) := by decide +kernel
theorem dX7_order_2 : decode cX7_order 2 = .ok (.iload_n 3, 1) := by decide +kernel
theorem dX7_order_3 : decode cX7_order 3 = .ok (.iload 4, 2) := by decide +kernel
theorem dX7_order_5 : decode cX7_order 5 = .ok (.iload 5, 2) := by decide +kernel
theorem dX7_order_7 : decode cX7_order 7 = .ok (.invokestatic 87, 3) := by decide +kernel
theorem dX7_order_10 : decode cX7_order 10 = .ok (.ifCond .ne 5, 3) := by decide +kernel
theorem dX7_order_13 : decode cX7_order 13 = .ok (.iconst (-1), 1) := by decide +kernel
theorem dX7_order_14 : decode cX7_order 14 = .ok (.ireturn, 1) := by decide +kernel
theorem dX7_order_15 : decode cX7_order 15 = .ok (.iload_n 3, 1) := by decide +kernel
theorem dX7_order_16 : decode cX7_order 16 = .ok (.iload 4, 2) := by decide +kernel
theorem dX7_order_18 : decode cX7_order 18 = .ok (.invokestatic 91, 3) := by decide +kernel
theorem dX7_order_21 : decode cX7_order 21 = .ok (.ifCond .ne 6, 3) := by decide +kernel
theorem dX7_order_24 : decode cX7_order 24 = .ok (.bipush (-2), 2) := by decide +kernel
theorem dX7_order_26 : decode cX7_order 26 = .ok (.ireturn, 1) := by decide +kernel
theorem dX7_order_27 : decode cX7_order 27 = .ok (.aload_n 0, 1) := by decide +kernel
theorem dX7_order_28 : decode cX7_order 28 = .ok (.getfield 10, 3) := by decide +kernel
theorem dX7_order_31 : decode cX7_order 31 = .ok (.iload_n 1, 1) := by decide +kernel
theorem dX7_order_32 : decode cX7_order 32 = .ok (.iload_n 2, 1) := by decide +kernel
theorem dX7_order_33 : decode cX7_order 33 = .ok (.iload_n 3, 1) := by decide +kernel
theorem dX7_order_34 : decode cX7_order 34 = .ok (.iload 4, 2) := by decide +kernel
theorem dX7_order_36 : decode cX7_order 36 = .ok (.iload 5, 2) := by decide +kernel
theorem dX7_order_38 : decode cX7_order 38 = .ok (.invokevirtual 62, 3) := by decide +kernel
theorem dX7_order_41 : decode cX7_order 41 = .ok (.ireturn, 1) := by decide +kernel
set_option maxRecDepth 20000 in
theorem ggX7_isForm_X7_isTrader : GoodIn wsX7_isForm wsX7_isTrader := goodIn_r _ [5] (by decide +kernel) (by decide +kernel)
set_option maxRecDepth 20000 in
theorem gX7_isForm_X7_isTrader : GoodIn wsX7_isForm (va_wsS RX7 95 yX7_isTrader wsX7_isTrader) := goodIn_app (goodIn_of _ (by decide +kernel)) ggX7_isForm_X7_isTrader
set_option maxRecDepth 20000 in
theorem ggX7_isForm_X7_isSide : GoodIn wsX7_isForm wsX7_isSide := goodIn_r _ [8] (by decide +kernel) (by decide +kernel)
set_option maxRecDepth 20000 in
theorem gX7_isForm_X7_isSide : GoodIn wsX7_isForm (va_wsS RX7 99 yX7_isSide wsX7_isSide) := goodIn_app (goodIn_of _ (by decide +kernel)) ggX7_isForm_X7_isSide
theorem dX7_isForm_0 : decode cX7_isForm 0 = .ok (.iload_n 0, 1) := by decide +kernel
theorem dX7_isForm_1 : decode cX7_isForm 1 = .ok (.invokestatic 95, 3) := by decide +kernel
theorem dX7_isForm_4 : decode cX7_isForm 4 = .ok (.ifCond .eq 48, 3) := by decide +kernel
theorem dX7_isForm_7 : decode cX7_isForm 7 = .ok (.iload_n 1, 1) := by decide +kernel
theorem dX7_isForm_8 : decode cX7_isForm 8 = .ok (.invokestatic 99, 3) := by decide +kernel
theorem dX7_isForm_11 : decode cX7_isForm 11 = .ok (.ifCond .eq 41, 3) := by decide +kernel
theorem dX7_isForm_14 : decode cX7_isForm 14 = .ok (.iload_n 2, 1) := by decide +kernel
theorem dX7_isForm_15 : decode cX7_isForm 15 = .ok (.iconst 1, 1) := by decide +kernel
theorem dX7_isForm_16 : decode cX7_isForm 16 = .ok (.if_icmp .lt 36, 3) := by decide +kernel
theorem dX7_isForm_19 : decode cX7_isForm 19 = .ok (.iload_n 2, 1) := by decide +kernel
theorem dX7_isForm_20 : decode cX7_isForm 20 = .ok (.ldc 102, 2) := by decide +kernel
theorem dX7_isForm_22 : decode cX7_isForm 22 = .ok (.if_icmp .gt 30, 3) := by decide +kernel
theorem dX7_isForm_25 : decode cX7_isForm 25 = .ok (.iload_n 3, 1) := by decide +kernel
theorem dX7_isForm_26 : decode cX7_isForm 26 = .ok (.iconst 1, 1) := by decide +kernel
theorem dX7_isForm_27 : decode cX7_isForm 27 = .ok (.if_icmp .lt 25, 3) := by decide +kernel
theorem dX7_isForm_30 : decode cX7_isForm 30 = .ok (.iload_n 3, 1) := by decide +kernel
theorem dX7_isForm_31 : decode cX7_isForm 31 = .ok (.sipush 1000, 3) := by decide +kernel
theorem dX7_isForm_34 : decode cX7_isForm 34 = .ok (.if_icmp .gt 18, 3) := by decide +kernel
theorem dX7_isForm_37 : decode cX7_isForm 37 = .ok (.iload 4, 2) := by decide +kernel
theorem dX7_isForm_39 : decode cX7_isForm 39 = .ok (.ifCond .lt 13, 3) := by decide +kernel
theorem dX7_isForm_42 : decode cX7_isForm 42 = .ok (.iload 4, 2) := by decide +kernel
theorem dX7_isForm_44 : decode cX7_isForm 44 = .ok (.iconst 4, 1) := by decide +kernel
theorem dX7_isForm_45 : decode cX7_isForm 45 = .ok (.if_icmp .ge 7, 3) := by decide +kernel
theorem dX7_isForm_48 : decode cX7_isForm 48 = .ok (.iconst 1, 1) := by decide +kernel
theorem dX7_isForm_49 : decode cX7_isForm 49 = .ok (.goto 4, 3) := by decide +kernel
theorem dX7_isForm_52 : decode cX7_isForm 52 = .ok (.iconst 0, 1) := by decide +kernel
theorem dX7_isForm_53 : decode cX7_isForm 53 = .ok (.ireturn, 1) := by decide +kernel
theorem dX7_isTrader_0 : decode cX7_isTrader 0 = .ok (.iload_n 0, 1) := by decide +kernel
theorem dX7_isTrader_1 : decode cX7_isTrader 1 = .ok (.ifCond .lt 13, 3) := by decide +kernel
theorem dX7_isTrader_4 : decode cX7_isTrader 4 = .ok (.iload_n 0, 1) := by decide +kernel
theorem dX7_isTrader_5 : decode cX7_isTrader 5 = .ok (.bipush 10, 2) := by decide +kernel
theorem dX7_isTrader_7 : decode cX7_isTrader 7 = .ok (.if_icmp .ge 7, 3) := by decide +kernel
theorem dX7_isTrader_10 : decode cX7_isTrader 10 = .ok (.iconst 1, 1) := by decide +kernel
theorem dX7_isTrader_11 : decode cX7_isTrader 11 = .ok (.goto 4, 3) := by decide +kernel
theorem dX7_isTrader_14 : decode cX7_isTrader 14 = .ok (.iconst 0, 1) := by decide +kernel
theorem dX7_isTrader_15 : decode cX7_isTrader 15 = .ok (.ireturn, 1) := by decide +kernel
theorem dX7_isSide_0 : decode cX7_isSide 0 = .ok (.iload_n 0, 1) := by decide +kernel
theorem dX7_isSide_1 : decode cX7_isSide 1 = .ok (.ifCond .eq 8, 3) := by decide +kernel
theorem dX7_isSide_4 : decode cX7_isSide 4 = .ok (.iload_n 0, 1) := by decide +kernel
theorem dX7_isSide_5 : decode cX7_isSide 5 = .ok (.iconst 1, 1) := by decide +kernel
theorem dX7_isSide_6 : decode cX7_isSide 6 = .ok (.if_icmp .ne 7, 3) := by decide +kernel
theorem dX7_isSide_9 : decode cX7_isSide 9 = .ok (.iconst 1, 1) := by decide +kernel
theorem dX7_isSide_10 : decode cX7_isSide 10 = .ok (.goto 4, 3) := by decide +kernel
theorem dX7_isSide_13 : decode cX7_isSide 13 = .ok (.iconst 0, 1) := by decide +kernel
theorem dX7_isSide_14 : decode cX7_isSide 14 = .ok (.ireturn, 1) := by decide +kernel
theorem dX7_isWorthInt_0 : decode cX7_isWorthInt 0 = .ok (.iload_n 0, 1) := by decide +kernel
theorem dX7_isWorthInt_1 : decode cX7_isWorthInt 1 = .ok (.i2l, 1) := by decide +kernel
theorem dX7_isWorthInt_2 : decode cX7_isWorthInt 2 = .ok (.iload_n 1, 1) := by decide +kernel
theorem dX7_isWorthInt_3 : decode cX7_isWorthInt 3 = .ok (.i2l, 1) := by decide +kernel
theorem dX7_isWorthInt_4 : decode cX7_isWorthInt 4 = .ok (.lmul, 1) := by decide +kernel
theorem dX7_isWorthInt_5 : decode cX7_isWorthInt 5 = .ok (.ldc2_w 103, 3) := by decide +kernel
theorem dX7_isWorthInt_8 : decode cX7_isWorthInt 8 = .ok (.lcmp, 1) := by decide +kernel
theorem dX7_isWorthInt_9 : decode cX7_isWorthInt 9 = .ok (.ifCond .gt 7, 3) := by decide +kernel
theorem dX7_isWorthInt_12 : decode cX7_isWorthInt 12 = .ok (.iconst 1, 1) := by decide +kernel
theorem dX7_isWorthInt_13 : decode cX7_isWorthInt 13 = .ok (.goto 4, 3) := by decide +kernel
theorem dX7_isWorthInt_16 : decode cX7_isWorthInt 16 = .ok (.iconst 0, 1) := by decide +kernel
theorem dX7_isWorthInt_17 : decode cX7_isWorthInt 17 = .ok (.ireturn, 1) := by decide +kernel
theorem dX7_grant_0 : decode cX7_grant 0 = .ok (.iload_n 1, 1) := by decide +kernel
theorem dX7_grant_1 : decode cX7_grant 1 = .ok (.ifCond .lt 10, 3) := by decide +kernel
theorem dX7_grant_4 : decode cX7_grant 4 = .ok (.iload_n 1, 1) := by decide +kernel
theorem dX7_grant_5 : decode cX7_grant 5 = .ok (.sipush 1000, 3) := by decide +kernel
theorem dX7_grant_8 : decode cX7_grant 8 = .ok (.if_icmp .le 5, 3) := by decide +kernel
theorem dX7_grant_11 : decode cX7_grant 11 = .ok (.iconst (-1), 1) := by decide +kernel
theorem dX7_grant_12 : decode cX7_grant 12 = .ok (.ireturn, 1) := by decide +kernel
theorem dX7_grant_13 : decode cX7_grant 13 = .ok (.aload_n 0, 1) := by decide +kernel
theorem dX7_grant_14 : decode cX7_grant 14 = .ok (.getfield 10, 3) := by decide +kernel
theorem dX7_grant_17 : decode cX7_grant 17 = .ok (.getfield 127, 3) := by decide +kernel
theorem dX7_grant_20 : decode cX7_grant 20 = .ok (.istore_n 2, 1) := by decide +kernel
theorem dX7_grant_21 : decode cX7_grant 21 = .ok (.aload_n 0, 1) := by decide +kernel
theorem dX7_grant_22 : decode cX7_grant 22 = .ok (.getfield 10, 3) := by decide +kernel
theorem dX7_grant_25 : decode cX7_grant 25 = .ok (.iload_n 1, 1) := by decide +kernel
theorem dX7_grant_26 : decode cX7_grant 26 = .ok (.putfield 127, 3) := by decide +kernel
theorem dX7_grant_29 : decode cX7_grant 29 = .ok (.iload_n 2, 1) := by decide +kernel
theorem dX7_grant_30 : decode cX7_grant 30 = .ok (.ireturn, 1) := by decide +kernel
theorem dX7_least_0 : decode cX7_least 0 = .ok (.iload_n 1, 1) := by decide +kernel
theorem dX7_least_1 : decode cX7_least 1 = .ok (.iconst 1, 1) := by decide +kernel
theorem dX7_least_2 : decode cX7_least 2 = .ok (.if_icmp .lt 9, 3) := by decide +kernel
theorem dX7_least_5 : decode cX7_least 5 = .ok (.iload_n 1, 1) := by decide +kernel
theorem dX7_least_6 : decode cX7_least 6 = .ok (.bipush 50, 2) := by decide +kernel
theorem dX7_least_8 : decode cX7_least 8 = .ok (.if_icmp .le 5, 3) := by decide +kernel
theorem dX7_least_11 : decode cX7_least 11 = .ok (.iconst (-1), 1) := by decide +kernel
theorem dX7_least_12 : decode cX7_least 12 = .ok (.ireturn, 1) := by decide +kernel
theorem dX7_least_13 : decode cX7_least 13 = .ok (.aload_n 0, 1) := by decide +kernel
theorem dX7_least_14 : decode cX7_least 14 = .ok (.getfield 10, 3) := by decide +kernel
theorem dX7_least_17 : decode cX7_least 17 = .ok (.getfield 129, 3) := by decide +kernel
theorem dX7_least_20 : decode cX7_least 20 = .ok (.istore_n 2, 1) := by decide +kernel
theorem dX7_least_21 : decode cX7_least 21 = .ok (.aload_n 0, 1) := by decide +kernel
theorem dX7_least_22 : decode cX7_least 22 = .ok (.getfield 10, 3) := by decide +kernel
theorem dX7_least_25 : decode cX7_least 25 = .ok (.iload_n 1, 1) := by decide +kernel
theorem dX7_least_26 : decode cX7_least 26 = .ok (.putfield 129, 3) := by decide +kernel
theorem dX7_least_29 : decode cX7_least 29 = .ok (.iload_n 2, 1) := by decide +kernel
theorem dX7_least_30 : decode cX7_least 30 = .ok (.ireturn, 1) := by decide +kernel
set_option maxRecDepth 20000 in
theorem ggX7_of_X0_find : GoodIn wsX7_of wsX0_find := goodIn_r _ [14, 15, 16, 17, 46, 47, 48, 49, 40, 41, 42, 43, 44, 45] (by decide +kernel) (by decide +kernel)
set_option maxRecDepth 20000 in
theorem gX7_of_X0_find : GoodIn wsX7_of (wsV RX7 109 RX0 yX0_find wsX0_find) := goodIn_app (goodIn_of _ (by decide +kernel)) ggX7_of_X0_find
set_option maxRecDepth 20000 in
theorem ggX7_of_X0_grantOf : GoodIn wsX7_of wsX0_grantOf := goodIn_r _ [21, 22, 23, 17, 24, 46, 47, 48, 49, 40, 41, 42, 43, 44, 45] (by decide +kernel) (by decide +kernel)
set_option maxRecDepth 20000 in
theorem gX7_of_X0_grantOf : GoodIn wsX7_of (wsV RX7 159 RX0 yX0_grantOf wsX0_grantOf) := goodIn_app (goodIn_of _ (by decide +kernel)) ggX7_of_X0_grantOf
theorem dX7_of_0 : decode cX7_of 0 = .ok (.aload_n 0, 1) := by decide +kernel
theorem dX7_of_1 : decode cX7_of 1 = .ok (.getfield 10, 3) := by decide +kernel
theorem dX7_of_4 : decode cX7_of 4 = .ok (.getfield 105, 3) := by decide +kernel
theorem dX7_of_7 : decode cX7_of 7 = .ok (.iload_n 1, 1) := by decide +kernel
theorem dX7_of_8 : decode cX7_of 8 = .ok (.invokevirtual 109, 3) := by decide +kernel
theorem dX7_of_11 : decode cX7_of 11 = .ok (.astore_n 3, 1) := by decide +kernel
theorem dX7_of_12 : decode cX7_of 12 = .ok (.aload_n 3, 1) := by decide +kernel
theorem dX7_of_13 : decode cX7_of 13 = .ok (.ifnonnull 13, 3) := by decide +kernel
theorem dX7_of_16 : decode cX7_of 16 = .ok (.new 140, 3) := by decide +kernel
theorem dX7_of_19 : decode cX7_of 19 = .ok (.dup, 1) := by decide +kernel
theorem dX7_of_20 : decode cX7_of 20 = .ok (.ldc 142, 2) := by decide +kernel
theorem dX7_of_22 : decode cX7_of 22 = .ok (.invokespecial 144, 3) := by decide +kernel
theorem dX7_of_25 : decode cX7_of 25 = .ok (.athrow, 1) := by decide +kernel
theorem dX7_of_26 : decode cX7_of 26 = .ok (.iload_n 2, 1) := by decide +kernel
theorem dX7_of_27 : decode cX7_of 27 = .ok (.tableswitch 74 0 5 #[37, 42, 47, 52, 57, 62], 37) := by decide +kernel
theorem dX7_of_64 : decode cX7_of 64 = .ok (.aload_n 3, 1) := by decide +kernel
theorem dX7_of_65 : decode cX7_of 65 = .ok (.getfield 147, 3) := by decide +kernel
theorem dX7_of_68 : decode cX7_of 68 = .ok (.ireturn, 1) := by decide +kernel
theorem dX7_of_69 : decode cX7_of 69 = .ok (.aload_n 3, 1) := by decide +kernel
theorem dX7_of_70 : decode cX7_of 70 = .ok (.getfield 150, 3) := by decide +kernel
theorem dX7_of_73 : decode cX7_of 73 = .ok (.ireturn, 1) := by decide +kernel
theorem dX7_of_74 : decode cX7_of 74 = .ok (.aload_n 3, 1) := by decide +kernel
theorem dX7_of_75 : decode cX7_of 75 = .ok (.getfield 153, 3) := by decide +kernel
theorem dX7_of_78 : decode cX7_of 78 = .ok (.ireturn, 1) := by decide +kernel
theorem dX7_of_79 : decode cX7_of 79 = .ok (.aload_n 3, 1) := by decide +kernel
theorem dX7_of_80 : decode cX7_of 80 = .ok (.getfield 115, 3) := by decide +kernel
