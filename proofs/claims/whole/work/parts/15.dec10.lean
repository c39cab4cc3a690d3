set_option maxRecDepth 20000 in
theorem gX8_settles_X8_has : GoodIn wsX8_settles (wsV RX8 100 RX8 yX8_has wsX8_has) := goodIn_app (goodIn_of _ (by decide +kernel)) ggX8_settles_X8_has
set_option maxRecDepth 20000 in
theorem ggX8_settles_X8_setOrder : GoodIn wsX8_settles wsX8_setOrder := goodIn_r _ [20, 1, 29, 30, 31, 32, 33, 34, 35, 36, 37, 38, 39, 40, 41, 42, 43, 44, 45, 46, 47, 48, 49, 50, 51, 52, 53, 54, 55, 56, 57, 58, 59, 60] (by decide +kernel) (by decide +kernel)
set_option maxRecDepth 20000 in
theorem gX8_settles_X8_setOrder : GoodIn wsX8_settles (wsV RX8 64 RX8 yX8_setOrder wsX8_setOrder) := goodIn_app (goodIn_of _ (by decide +kernel)) ggX8_settles_X8_setOrder
set_option maxRecDepth 20000 in
theorem ggX8_settles_X8_goes : GoodIn wsX8_settles wsX8_goes := goodIn_r _ [24, 1, 25, 26, 27, 9, 28, 6, 7, 8, 10, 29, 30, 31, 32, 33, 34, 35, 36, 37, 38, 39, 40, 41, 42, 43, 44, 45, 46, 47, 48, 49, 50, 51, 52, 53, 54, 55, 56, 57, 58, 59, 60] (by decide +kernel) (by decide +kernel)
set_option maxRecDepth 20000 in
theorem gX8_settles_X8_goes : GoodIn wsX8_settles (wsV RX8 104 RX8 yX8_goes wsX8_goes) := goodIn_app (goodIn_of _ (by decide +kernel)) ggX8_settles_X8_goes
theorem dX8_settles_0 : decode cX8_settles 0 = .ok (.iload_n 2, 1) := by decide +kernel
theorem dX8_settles_1 : decode cX8_settles 1 = .ok (.ifCond .lt 38, 3) := by decide +kernel
theorem dX8_settles_4 : decode cX8_settles 4 = .ok (.aload_n 0, 1) := by decide +kernel
theorem dX8_settles_5 : decode cX8_settles 5 = .ok (.getfield 7, 3) := by decide +kernel
theorem dX8_settles_8 : decode cX8_settles 8 = .ok (.bipush 8, 2) := by decide +kernel
theorem dX8_settles_10 : decode cX8_settles 10 = .ok (.iload_n 1, 1) := by decide +kernel
theorem dX8_settles_11 : decode cX8_settles 11 = .ok (.iadd, 1) := by decide +kernel
theorem dX8_settles_12 : decode cX8_settles 12 = .ok (.dup2, 1) := by decide +kernel
theorem dX8_settles_13 : decode cX8_settles 13 = .ok (.iaload, 1) := by decide +kernel
theorem dX8_settles_14 : decode cX8_settles 14 = .ok (.aload_n 0, 1) := by decide +kernel
theorem dX8_settles_15 : decode cX8_settles 15 = .ok (.getfield 29, 3) := by decide +kernel
theorem dX8_settles_18 : decode cX8_settles 18 = .ok (.iload_n 2, 1) := by decide +kernel
theorem dX8_settles_19 : decode cX8_settles 19 = .ok (.iaload, 1) := by decide +kernel
theorem dX8_settles_20 : decode cX8_settles 20 = .ok (.isub, 1) := by decide +kernel
theorem dX8_settles_21 : decode cX8_settles 21 = .ok (.iastore, 1) := by decide +kernel
theorem dX8_settles_22 : decode cX8_settles 22 = .ok (.aload_n 0, 1) := by decide +kernel
theorem dX8_settles_23 : decode cX8_settles 23 = .ok (.getfield 7, 3) := by decide +kernel
theorem dX8_settles_26 : decode cX8_settles 26 = .ok (.bipush 8, 2) := by decide +kernel
theorem dX8_settles_28 : decode cX8_settles 28 = .ok (.iload_n 1, 1) := by decide +kernel
theorem dX8_settles_29 : decode cX8_settles 29 = .ok (.iadd, 1) := by decide +kernel
theorem dX8_settles_30 : decode cX8_settles 30 = .ok (.iaload, 1) := by decide +kernel
theorem dX8_settles_31 : decode cX8_settles 31 = .ok (.ifCond .ne 8, 3) := by decide +kernel
theorem dX8_settles_34 : decode cX8_settles 34 = .ok (.aload_n 0, 1) := by decide +kernel
theorem dX8_settles_35 : decode cX8_settles 35 = .ok (.iload_n 1, 1) := by decide +kernel
theorem dX8_settles_36 : decode cX8_settles 36 = .ok (.invokevirtual 60, 3) := by decide +kernel
theorem dX8_settles_39 : decode cX8_settles 39 = .ok (.aload_n 0, 1) := by decide +kernel
theorem dX8_settles_40 : decode cX8_settles 40 = .ok (.getfield 68, 3) := by decide +kernel
theorem dX8_settles_43 : decode cX8_settles 43 = .ok (.iconst 1, 1) := by decide +kernel
theorem dX8_settles_44 : decode cX8_settles 44 = .ok (.isub, 1) := by decide +kernel
theorem dX8_settles_45 : decode cX8_settles 45 = .ok (.istore_n 3, 1) := by decide +kernel
theorem dX8_settles_46 : decode cX8_settles 46 = .ok (.iload_n 3, 1) := by decide +kernel
theorem dX8_settles_47 : decode cX8_settles 47 = .ok (.ifCond .lt 51, 3) := by decide +kernel
theorem dX8_settles_50 : decode cX8_settles 50 = .ok (.aload_n 0, 1) := by decide +kernel
theorem dX8_settles_51 : decode cX8_settles 51 = .ok (.getfield 26, 3) := by decide +kernel
theorem dX8_settles_54 : decode cX8_settles 54 = .ok (.iload_n 3, 1) := by decide +kernel
theorem dX8_settles_55 : decode cX8_settles 55 = .ok (.iaload, 1) := by decide +kernel
theorem dX8_settles_56 : decode cX8_settles 56 = .ok (.aload_n 0, 1) := by decide +kernel
theorem dX8_settles_57 : decode cX8_settles 57 = .ok (.iload_n 3, 1) := by decide +kernel
theorem dX8_settles_58 : decode cX8_settles 58 = .ok (.invokevirtual 100, 3) := by decide +kernel
theorem dX8_settles_61 : decode cX8_settles 61 = .ok (.isub, 1) := by decide +kernel
theorem dX8_settles_62 : decode cX8_settles 62 = .ok (.istore 4, 2) := by decide +kernel
theorem dX8_settles_64 : decode cX8_settles 64 = .ok (.aload_n 0, 1) := by decide +kernel
theorem dX8_settles_65 : decode cX8_settles 65 = .ok (.aload_n 0, 1) := by decide +kernel
theorem dX8_settles_66 : decode cX8_settles 66 = .ok (.getfield 23, 3) := by decide +kernel
theorem dX8_settles_69 : decode cX8_settles 69 = .ok (.iload_n 3, 1) := by decide +kernel
theorem dX8_settles_70 : decode cX8_settles 70 = .ok (.iaload, 1) := by decide +kernel
theorem dX8_settles_71 : decode cX8_settles 71 = .ok (.iconst 4, 1) := by decide +kernel
theorem dX8_settles_72 : decode cX8_settles 72 = .ok (.iload 4, 2) := by decide +kernel
theorem dX8_settles_74 : decode cX8_settles 74 = .ok (.invokevirtual 64, 3) := by decide +kernel
theorem dX8_settles_77 : decode cX8_settles 77 = .ok (.iload 4, 2) := by decide +kernel
theorem dX8_settles_79 : decode cX8_settles 79 = .ok (.ifCond .ne 13, 3) := by decide +kernel
theorem dX8_settles_82 : decode cX8_settles 82 = .ok (.aload_n 0, 1) := by decide +kernel
theorem dX8_settles_83 : decode cX8_settles 83 = .ok (.aload_n 0, 1) := by decide +kernel
theorem dX8_settles_84 : decode cX8_settles 84 = .ok (.getfield 23, 3) := by decide +kernel
theorem dX8_settles_87 : decode cX8_settles 87 = .ok (.iload_n 3, 1) := by decide +kernel
theorem dX8_settles_88 : decode cX8_settles 88 = .ok (.iaload, 1) := by decide +kernel
theorem dX8_settles_89 : decode cX8_settles 89 = .ok (.invokevirtual 104, 3) := by decide +kernel
theorem dX8_settles_92 : decode cX8_settles 92 = .ok (.iinc 3 (-1), 3) := by decide +kernel
theorem dX8_settles_95 : decode cX8_settles 95 = .ok (.goto (-49), 3) := by decide +kernel
theorem dX8_settles_98 : decode cX8_settles 98 = .ok (.return_, 1) := by decide +kernel
set_option maxRecDepth 20000 in
theorem ggX8_takes_X8_lays : GoodIn wsX8_takes wsX8_lays := goodIn_r _ [10, 2, 1, 11, 12, 13, 14, 15, 9, 16, 17, 18, 19, 20, 69, 70, 71, 72, 73, 74, 75, 76, 77, 78, 79, 80, 81, 82, 83, 84, 85, 86, 87, 88, 89, 90, 91, 92, 93, 94, 95, 96, 97, 98, 99, 100] (by decide +kernel) (by decide +kernel)
set_option maxRecDepth 20000 in
theorem gX8_takes_X8_lays : GoodIn wsX8_takes (wsV RX8 107 RX8 yX8_lays wsX8_lays) := goodIn_app (goodIn_of _ (by decide +kernel)) ggX8_takes_X8_lays
set_option maxRecDepth 20000 in
theorem ggX8_takes_X8_topLaid : GoodIn wsX8_takes wsX8_topLaid := goodIn_r _ [24, 2, 11, 1, 17, 18, 19, 9, 20, 69, 70, 71, 72, 73, 74, 75, 76, 77, 78, 79, 80, 81, 82, 83, 84, 85, 86, 87, 88, 89, 90, 91, 92, 93, 94, 95, 96, 97, 98, 99, 100] (by decide +kernel) (by decide +kernel)
set_option maxRecDepth 20000 in
theorem gX8_takes_X8_topLaid : GoodIn wsX8_takes (wsV RX8 111 RX8 yX8_topLaid wsX8_topLaid) := goodIn_app (goodIn_of _ (by decide +kernel)) ggX8_takes_X8_topLaid
set_option maxRecDepth 20000 in
theorem ggX8_takes_X8_shares : GoodIn wsX8_takes wsX8_shares := goodIn_r _ [28, 2, 3, 4, 5, 12, 1, 69, 70, 71, 72, 73, 74, 75, 76, 77, 78, 79, 80, 81, 82, 83, 84, 85, 86, 87, 88, 89, 90, 91, 92, 93, 94, 95, 96, 97, 98, 99, 100] (by decide +kernel) (by decide +kernel)
set_option maxRecDepth 20000 in
theorem gX8_takes_X8_shares : GoodIn wsX8_takes (wsV RX8 114 RX8 yX8_shares wsX8_shares) := goodIn_app (goodIn_of _ (by decide +kernel)) ggX8_takes_X8_shares
set_option maxRecDepth 20000 in
theorem ggX8_takes_X8_trades : GoodIn wsX8_takes wsX8_trades := goodIn_r _ [32, 11, 33, 34, 35, 1, 36, 37, 38, 17, 18, 19, 9, 20, 39, 40, 41, 42, 43, 44, 45, 46, 47, 48, 69, 70, 71, 72, 73, 74, 75, 76, 77, 78, 79, 80, 81, 82, 83, 84, 85, 86, 87, 88, 89, 90, 91, 92, 93, 94, 95, 96, 97, 98, 99, 100] (by decide +kernel) (by decide +kernel)
set_option maxRecDepth 20000 in
theorem gX8_takes_X8_trades : GoodIn wsX8_takes (wsV RX8 117 RX8 yX8_trades wsX8_trades) := goodIn_app (goodIn_of _ (by decide +kernel)) ggX8_takes_X8_trades
set_option maxRecDepth 20000 in
theorem ggX8_takes_X8_settles : GoodIn wsX8_takes wsX8_settles := goodIn_r _ [52, 1, 3, 2, 12, 11, 53, 54, 55, 9, 56, 57, 58, 59, 60, 4, 5, 61, 62, 63, 64, 65, 66, 67, 68, 17, 18, 19, 20, 69, 70, 71, 72, 73, 74, 75, 76, 77, 78, 79, 80, 81, 82, 83, 84, 85, 86, 87, 88, 89, 90, 91, 92, 93, 94, 95, 96, 97, 98, 99, 100] (by decide +kernel) (by decide +kernel)
set_option maxRecDepth 20000 in
theorem gX8_takes_X8_settles : GoodIn wsX8_takes (wsV RX8 120 RX8 yX8_settles wsX8_settles) := goodIn_app (goodIn_of _ (by decide +kernel)) ggX8_takes_X8_settles
theorem dX8_takes_0 : decode cX8_takes 0 = .ok (.aload_n 0, 1) := by decide +kernel
theorem dX8_takes_1 : decode cX8_takes 1 = .ok (.iload_n 1, 1) := by decide +kernel
theorem dX8_takes_2 : decode cX8_takes 2 = .ok (.iload_n 2, 1) := by decide +kernel
theorem dX8_takes_3 : decode cX8_takes 3 = .ok (.invokevirtual 107, 3) := by decide +kernel
theorem dX8_takes_6 : decode cX8_takes 6 = .ok (.aload_n 0, 1) := by decide +kernel
theorem dX8_takes_7 : decode cX8_takes 7 = .ok (.iload_n 1, 1) := by decide +kernel
theorem dX8_takes_8 : decode cX8_takes 8 = .ok (.invokevirtual 111, 3) := by decide +kernel
theorem dX8_takes_11 : decode cX8_takes 11 = .ok (.istore 4, 2) := by decide +kernel
theorem dX8_takes_13 : decode cX8_takes 13 = .ok (.aload_n 0, 1) := by decide +kernel
theorem dX8_takes_14 : decode cX8_takes 14 = .ok (.iload_n 3, 1) := by decide +kernel
theorem dX8_takes_15 : decode cX8_takes 15 = .ok (.iload 4, 2) := by decide +kernel
theorem dX8_takes_17 : decode cX8_takes 17 = .ok (.aload_n 0, 1) := by decide +kernel
theorem dX8_takes_18 : decode cX8_takes 18 = .ok (.getfield 7, 3) := by decide +kernel
theorem dX8_takes_21 : decode cX8_takes 21 = .ok (.bipush 8, 2) := by decide +kernel
theorem dX8_takes_23 : decode cX8_takes 23 = .ok (.iload_n 1, 1) := by decide +kernel
theorem dX8_takes_24 : decode cX8_takes 24 = .ok (.iadd, 1) := by decide +kernel
theorem dX8_takes_25 : decode cX8_takes 25 = .ok (.iaload, 1) := by decide +kernel
theorem dX8_takes_26 : decode cX8_takes 26 = .ok (.invokevirtual 114, 3) := by decide +kernel
theorem dX8_takes_29 : decode cX8_takes 29 = .ok (.iconst 0, 1) := by decide +kernel
theorem dX8_takes_30 : decode cX8_takes 30 = .ok (.istore 5, 2) := by decide +kernel
theorem dX8_takes_32 : decode cX8_takes 32 = .ok (.iload 5, 2) := by decide +kernel
theorem dX8_takes_34 : decode cX8_takes 34 = .ok (.aload_n 0, 1) := by decide +kernel
theorem dX8_takes_35 : decode cX8_takes 35 = .ok (.getfield 68, 3) := by decide +kernel
theorem dX8_takes_38 : decode cX8_takes 38 = .ok (.if_icmp .ge 24, 3) := by decide +kernel
theorem dX8_takes_41 : decode cX8_takes 41 = .ok (.aload_n 0, 1) := by decide +kernel
theorem dX8_takes_42 : decode cX8_takes 42 = .ok (.iload 5, 2) := by decide +kernel
theorem dX8_takes_44 : decode cX8_takes 44 = .ok (.iload_n 2, 1) := by decide +kernel
theorem dX8_takes_45 : decode cX8_takes 45 = .ok (.aload_n 0, 1) := by decide +kernel
theorem dX8_takes_46 : decode cX8_takes 46 = .ok (.getfield 29, 3) := by decide +kernel
theorem dX8_takes_49 : decode cX8_takes 49 = .ok (.iload 5, 2) := by decide +kernel
theorem dX8_takes_51 : decode cX8_takes 51 = .ok (.iaload, 1) := by decide +kernel
theorem dX8_takes_52 : decode cX8_takes 52 = .ok (.iconst 0, 1) := by decide +kernel
theorem dX8_takes_53 : decode cX8_takes 53 = .ok (.invokevirtual 117, 3) := by decide +kernel
theorem dX8_takes_56 : decode cX8_takes 56 = .ok (.iinc 5 1, 3) := by decide +kernel
theorem dX8_takes_59 : decode cX8_takes 59 = .ok (.goto (-27), 3) := by decide +kernel
theorem dX8_takes_62 : decode cX8_takes 62 = .ok (.iconst 0, 1) := by decide +kernel
theorem dX8_takes_63 : decode cX8_takes 63 = .ok (.istore 5, 2) := by decide +kernel
theorem dX8_takes_65 : decode cX8_takes 65 = .ok (.iload 5, 2) := by decide +kernel
theorem dX8_takes_67 : decode cX8_takes 67 = .ok (.aload_n 0, 1) := by decide +kernel
theorem dX8_takes_68 : decode cX8_takes 68 = .ok (.getfield 68, 3) := by decide +kernel
theorem dX8_takes_71 : decode cX8_takes 71 = .ok (.if_icmp .ge 24, 3) := by decide +kernel
theorem dX8_takes_74 : decode cX8_takes 74 = .ok (.aload_n 0, 1) := by decide +kernel
theorem dX8_takes_75 : decode cX8_takes 75 = .ok (.iload 5, 2) := by decide +kernel
theorem dX8_takes_77 : decode cX8_takes 77 = .ok (.iload_n 2, 1) := by decide +kernel
theorem dX8_takes_78 : decode cX8_takes 78 = .ok (.aload_n 0, 1) := by decide +kernel
theorem dX8_takes_79 : decode cX8_takes 79 = .ok (.getfield 32, 3) := by decide +kernel
theorem dX8_takes_82 : decode cX8_takes 82 = .ok (.iload 5, 2) := by decide +kernel
theorem dX8_takes_84 : decode cX8_takes 84 = .ok (.iaload, 1) := by decide +kernel
theorem dX8_takes_85 : decode cX8_takes 85 = .ok (.iconst 1, 1) := by decide +kernel
theorem dX8_takes_86 : decode cX8_takes 86 = .ok (.invokevirtual 117, 3) := by decide +kernel
theorem dX8_takes_89 : decode cX8_takes 89 = .ok (.iinc 5 1, 3) := by decide +kernel
theorem dX8_takes_92 : decode cX8_takes 92 = .ok (.goto (-27), 3) := by decide +kernel
theorem dX8_takes_95 : decode cX8_takes 95 = .ok (.iconst 0, 1) := by decide +kernel
theorem dX8_takes_96 : decode cX8_takes 96 = .ok (.istore 5, 2) := by decide +kernel
theorem dX8_takes_98 : decode cX8_takes 98 = .ok (.iload 5, 2) := by decide +kernel
theorem dX8_takes_100 : decode cX8_takes 100 = .ok (.aload_n 0, 1) := by decide +kernel
theorem dX8_takes_101 : decode cX8_takes 101 = .ok (.getfield 68, 3) := by decide +kernel
theorem dX8_takes_104 : decode cX8_takes 104 = .ok (.if_icmp .ge 24, 3) := by decide +kernel
theorem dX8_takes_107 : decode cX8_takes 107 = .ok (.aload_n 0, 1) := by decide +kernel
theorem dX8_takes_108 : decode cX8_takes 108 = .ok (.iload 5, 2) := by decide +kernel
theorem dX8_takes_110 : decode cX8_takes 110 = .ok (.iload_n 2, 1) := by decide +kernel
theorem dX8_takes_111 : decode cX8_takes 111 = .ok (.aload_n 0, 1) := by decide +kernel
theorem dX8_takes_112 : decode cX8_takes 112 = .ok (.getfield 35, 3) := by decide +kernel
theorem dX8_takes_115 : decode cX8_takes 115 = .ok (.iload 5, 2) := by decide +kernel
theorem dX8_takes_117 : decode cX8_takes 117 = .ok (.iaload, 1) := by decide +kernel
theorem dX8_takes_118 : decode cX8_takes 118 = .ok (.iconst 2, 1) := by decide +kernel
theorem dX8_takes_119 : decode cX8_takes 119 = .ok (.invokevirtual 117, 3) := by decide +kernel
theorem dX8_takes_122 : decode cX8_takes 122 = .ok (.iinc 5 1, 3) := by decide +kernel
theorem dX8_takes_125 : decode cX8_takes 125 = .ok (.goto (-27), 3) := by decide +kernel
theorem dX8_takes_128 : decode cX8_takes 128 = .ok (.aload_n 0, 1) := by decide +kernel
theorem dX8_takes_129 : decode cX8_takes 129 = .ok (.iload_n 1, 1) := by decide +kernel
theorem dX8_takes_130 : decode cX8_takes 130 = .ok (.iload 4, 2) := by decide +kernel
theorem dX8_takes_132 : decode cX8_takes 132 = .ok (.invokevirtual 120, 3) := by decide +kernel
theorem dX8_takes_135 : decode cX8_takes 135 = .ok (.return_, 1) := by decide +kernel
set_option maxRecDepth 20000 in
theorem ggX8_hasOwn_X8_isAt : GoodIn wsX8_hasOwn wsX8_isAt := goodIn_r _ [7, 8, 9, 10, 6, 11, 1, 12, 13, 14, 15, 16, 17, 18, 19, 20, 21, 22, 23, 24, 25, 26, 27, 28, 29, 30, 31, 32, 33, 34, 35, 36, 37, 38, 39, 40, 41, 42, 43] (by decide +kernel) (by decide +kernel)
set_option maxRecDepth 20000 in
theorem gX8_hasOwn_X8_isAt : GoodIn wsX8_hasOwn (wsV RX8 57 RX8 yX8_isAt wsX8_isAt) := goodIn_app (goodIn_of _ (by decide +kernel)) ggX8_hasOwn_X8_isAt
set_option maxRecDepth 20000 in
theorem ggX8_hasOwn_X8_ofOrder : GoodIn wsX8_hasOwn wsX8_ofOrder := goodIn_r _ [11, 1, 12, 13, 14, 15, 16, 17, 18, 19, 20, 21, 22, 23, 24, 25, 26, 27, 28, 29, 30, 31, 32, 33, 34, 35, 36, 37, 38, 39, 40, 41, 42, 43] (by decide +kernel) (by decide +kernel)
set_option maxRecDepth 20000 in
theorem gX8_hasOwn_X8_ofOrder : GoodIn wsX8_hasOwn (wsV RX8 49 RX8 yX8_ofOrder wsX8_ofOrder) := goodIn_app (goodIn_of _ (by decide +kernel)) ggX8_hasOwn_X8_ofOrder
theorem dX8_hasOwn_0 : decode cX8_hasOwn 0 = .ok (.iconst 0, 1) := by decide +kernel
theorem dX8_hasOwn_1 : decode cX8_hasOwn 1 = .ok (.istore_n 3, 1) := by decide +kernel
theorem dX8_hasOwn_2 : decode cX8_hasOwn 2 = .ok (.iload_n 3, 1) := by decide +kernel
theorem dX8_hasOwn_3 : decode cX8_hasOwn 3 = .ok (.aload_n 0, 1) := by decide +kernel
theorem dX8_hasOwn_4 : decode cX8_hasOwn 4 = .ok (.getfield 7, 3) := by decide +kernel
theorem dX8_hasOwn_7 : decode cX8_hasOwn 7 = .ok (.iconst 5, 1) := by decide +kernel
theorem dX8_hasOwn_8 : decode cX8_hasOwn 8 = .ok (.iaload, 1) := by decide +kernel
theorem dX8_hasOwn_9 : decode cX8_hasOwn 9 = .ok (.if_icmp .ge 34, 3) := by decide +kernel
theorem dX8_hasOwn_12 : decode cX8_hasOwn 12 = .ok (.aload_n 0, 1) := by decide +kernel
theorem dX8_hasOwn_13 : decode cX8_hasOwn 13 = .ok (.iload_n 3, 1) := by decide +kernel
theorem dX8_hasOwn_14 : decode cX8_hasOwn 14 = .ok (.iload_n 1, 1) := by decide +kernel
theorem dX8_hasOwn_15 : decode cX8_hasOwn 15 = .ok (.iload_n 2, 1) := by decide +kernel
theorem dX8_hasOwn_16 : decode cX8_hasOwn 16 = .ok (.invokevirtual 57, 3) := by decide +kernel
theorem dX8_hasOwn_19 : decode cX8_hasOwn 19 = .ok (.ifCond .eq 18, 3) := by decide +kernel
theorem dX8_hasOwn_22 : decode cX8_hasOwn 22 = .ok (.aload_n 0, 1) := by decide +kernel
theorem dX8_hasOwn_23 : decode cX8_hasOwn 23 = .ok (.iload_n 3, 1) := by decide +kernel
theorem dX8_hasOwn_24 : decode cX8_hasOwn 24 = .ok (.iconst 1, 1) := by decide +kernel
theorem dX8_hasOwn_25 : decode cX8_hasOwn 25 = .ok (.invokevirtual 49, 3) := by decide +kernel
theorem dX8_hasOwn_28 : decode cX8_hasOwn 28 = .ok (.aload_n 0, 1) := by decide +kernel
theorem dX8_hasOwn_29 : decode cX8_hasOwn 29 = .ok (.getfield 87, 3) := by decide +kernel
theorem dX8_hasOwn_32 : decode cX8_hasOwn 32 = .ok (.if_icmp .ne 5, 3) := by decide +kernel
theorem dX8_hasOwn_35 : decode cX8_hasOwn 35 = .ok (.iconst 1, 1) := by decide +kernel
theorem dX8_hasOwn_36 : decode cX8_hasOwn 36 = .ok (.ireturn, 1) := by decide +kernel
theorem dX8_hasOwn_37 : decode cX8_hasOwn 37 = .ok (.iinc 3 1, 3) := by decide +kernel
theorem dX8_hasOwn_40 : decode cX8_hasOwn 40 = .ok (.goto (-38), 3) := by decide +kernel
theorem dX8_hasOwn_43 : decode cX8_hasOwn 43 = .ok (.iconst 0, 1) := by decide +kernel
theorem dX8_hasOwn_44 : decode cX8_hasOwn 44 = .ok (.ireturn, 1) := by decide +kernel
set_option maxRecDepth 20000 in
theorem ggX8_takesOwnOff_X8_isAt : GoodIn wsX8_takesOwnOff wsX8_isAt := goodIn_r _ [8, 9, 10, 11, 7, 12, 1, 21, 22, 23, 24, 25, 26, 27, 28, 29, 30, 31, 32, 33, 34, 35, 36, 37, 38, 39, 40, 41, 42, 43, 44, 45, 46, 47, 48, 49, 50, 51, 52] (by decide +kernel) (by decide +kernel)
set_option maxRecDepth 20000 in
theorem gX8_takesOwnOff_X8_isAt : GoodIn wsX8_takesOwnOff (wsV RX8 57 RX8 yX8_isAt wsX8_isAt) := goodIn_app (goodIn_of _ (by decide +kernel)) ggX8_takesOwnOff_X8_isAt
set_option maxRecDepth 20000 in
theorem ggX8_takesOwnOff_X8_ofOrder : GoodIn wsX8_takesOwnOff wsX8_ofOrder := goodIn_r _ [12, 1, 21, 22, 23, 24, 25, 26, 27, 28, 29, 30, 31, 32, 33, 34, 35, 36, 37, 38, 39, 40, 41, 42, 43, 44, 45, 46, 47, 48, 49, 50, 51, 52] (by decide +kernel) (by decide +kernel)
set_option maxRecDepth 20000 in
theorem gX8_takesOwnOff_X8_ofOrder : GoodIn wsX8_takesOwnOff (wsV RX8 49 RX8 yX8_ofOrder wsX8_ofOrder) := goodIn_app (goodIn_of _ (by decide +kernel)) ggX8_takesOwnOff_X8_ofOrder
set_option maxRecDepth 20000 in
theorem ggX8_takesOwnOff_X8_goes : GoodIn wsX8_takesOwnOff wsX8_goes := goodIn_r _ [16, 1, 9, 10, 11, 7, 12, 17, 18, 19, 20, 21, 22, 23, 24, 25, 26, 27, 28, 29, 30, 31, 32, 33, 34, 35, 36, 37, 38, 39, 40, 41, 42, 43, 44, 45, 46, 47, 48, 49, 50, 51, 52] (by decide +kernel) (by decide +kernel)
set_option maxRecDepth 20000 in
theorem gX8_takesOwnOff_X8_goes : GoodIn wsX8_takesOwnOff (wsV RX8 104 RX8 yX8_goes wsX8_goes) := goodIn_app (goodIn_of _ (by decide +kernel)) ggX8_takesOwnOff_X8_goes
theorem dX8_takesOwnOff_0 : decode cX8_takesOwnOff 0 = .ok (.aload_n 0, 1) := by decide +kernel
theorem dX8_takesOwnOff_1 : decode cX8_takesOwnOff 1 = .ok (.getfield 7, 3) := by decide +kernel
theorem dX8_takesOwnOff_4 : decode cX8_takesOwnOff 4 = .ok (.iconst 5, 1) := by decide +kernel
theorem dX8_takesOwnOff_5 : decode cX8_takesOwnOff 5 = .ok (.iaload, 1) := by decide +kernel
theorem dX8_takesOwnOff_6 : decode cX8_takesOwnOff 6 = .ok (.iconst 1, 1) := by decide +kernel
theorem dX8_takesOwnOff_7 : decode cX8_takesOwnOff 7 = .ok (.isub, 1) := by decide +kernel
theorem dX8_takesOwnOff_8 : decode cX8_takesOwnOff 8 = .ok (.istore_n 3, 1) := by decide +kernel
theorem dX8_takesOwnOff_9 : decode cX8_takesOwnOff 9 = .ok (.iload_n 3, 1) := by decide +kernel
theorem dX8_takesOwnOff_10 : decode cX8_takesOwnOff 10 = .ok (.ifCond .lt 66, 3) := by decide +kernel
theorem dX8_takesOwnOff_13 : decode cX8_takesOwnOff 13 = .ok (.aload_n 0, 1) := by decide +kernel
theorem dX8_takesOwnOff_14 : decode cX8_takesOwnOff 14 = .ok (.iload_n 3, 1) := by decide +kernel
theorem dX8_takesOwnOff_15 : decode cX8_takesOwnOff 15 = .ok (.iload_n 1, 1) := by decide +kernel
theorem dX8_takesOwnOff_16 : decode cX8_takesOwnOff 16 = .ok (.iload_n 2, 1) := by decide +kernel
theorem dX8_takesOwnOff_17 : decode cX8_takesOwnOff 17 = .ok (.invokevirtual 57, 3) := by decide +kernel
theorem dX8_takesOwnOff_20 : decode cX8_takesOwnOff 20 = .ok (.ifCond .eq 50, 3) := by decide +kernel
theorem dX8_takesOwnOff_23 : decode cX8_takesOwnOff 23 = .ok (.aload_n 0, 1) := by decide +kernel
theorem dX8_takesOwnOff_24 : decode cX8_takesOwnOff 24 = .ok (.iload_n 3, 1) := by decide +kernel
theorem dX8_takesOwnOff_25 : decode cX8_takesOwnOff 25 = .ok (.iconst 1, 1) := by decide +kernel
theorem dX8_takesOwnOff_26 : decode cX8_takesOwnOff 26 = .ok (.invokevirtual 49, 3) := by decide +kernel
theorem dX8_takesOwnOff_29 : decode cX8_takesOwnOff 29 = .ok (.aload_n 0, 1) := by decide +kernel
theorem dX8_takesOwnOff_30 : decode cX8_takesOwnOff 30 = .ok (.getfield 87, 3) := by decide +kernel
theorem dX8_takesOwnOff_33 : decode cX8_takesOwnOff 33 = .ok (.if_icmp .eq 6, 3) := by decide +kernel
theorem dX8_takesOwnOff_36 : decode cX8_takesOwnOff 36 = .ok (.goto 34, 3) := by decide +kernel
theorem dX8_takesOwnOff_39 : decode cX8_takesOwnOff 39 = .ok (.aload_n 0, 1) := by decide +kernel
theorem dX8_takesOwnOff_40 : decode cX8_takesOwnOff 40 = .ok (.dup, 1) := by decide +kernel
theorem dX8_takesOwnOff_41 : decode cX8_takesOwnOff 41 = .ok (.getfield 123, 3) := by decide +kernel
theorem dX8_takesOwnOff_44 : decode cX8_takesOwnOff 44 = .ok (.aload_n 0, 1) := by decide +kernel
theorem dX8_takesOwnOff_45 : decode cX8_takesOwnOff 45 = .ok (.iload_n 3, 1) := by decide +kernel
theorem dX8_takesOwnOff_46 : decode cX8_takesOwnOff 46 = .ok (.iconst 4, 1) := by decide +kernel
theorem dX8_takesOwnOff_47 : decode cX8_takesOwnOff 47 = .ok (.invokevirtual 49, 3) := by decide +kernel
theorem dX8_takesOwnOff_50 : decode cX8_takesOwnOff 50 = .ok (.iadd, 1) := by decide +kernel
theorem dX8_takesOwnOff_51 : decode cX8_takesOwnOff 51 = .ok (.putfield 123, 3) := by decide +kernel
theorem dX8_takesOwnOff_54 : decode cX8_takesOwnOff 54 = .ok (.aload_n 0, 1) := by decide +kernel
theorem dX8_takesOwnOff_55 : decode cX8_takesOwnOff 55 = .ok (.getfield 7, 3) := by decide +kernel
theorem dX8_takesOwnOff_58 : decode cX8_takesOwnOff 58 = .ok (.bipush 12, 2) := by decide +kernel
theorem dX8_takesOwnOff_60 : decode cX8_takesOwnOff 60 = .ok (.dup2, 1) := by decide +kernel
theorem dX8_takesOwnOff_61 : decode cX8_takesOwnOff 61 = .ok (.iaload, 1) := by decide +kernel
theorem dX8_takesOwnOff_62 : decode cX8_takesOwnOff 62 = .ok (.iconst 1, 1) := by decide +kernel
theorem dX8_takesOwnOff_63 : decode cX8_takesOwnOff 63 = .ok (.iadd, 1) := by decide +kernel
theorem dX8_takesOwnOff_64 : decode cX8_takesOwnOff 64 = .ok (.iastore, 1) := by decide +kernel
theorem dX8_takesOwnOff_65 : decode cX8_takesOwnOff 65 = .ok (.aload_n 0, 1) := by decide +kernel
theorem dX8_takesOwnOff_66 : decode cX8_takesOwnOff 66 = .ok (.iload_n 3, 1) := by decide +kernel
theorem dX8_takesOwnOff_67 : decode cX8_takesOwnOff 67 = .ok (.invokevirtual 104, 3) := by decide +kernel
theorem dX8_takesOwnOff_70 : decode cX8_takesOwnOff 70 = .ok (.iinc 3 (-1), 3) := by decide +kernel
theorem dX8_takesOwnOff_73 : decode cX8_takesOwnOff 73 = .ok (.goto (-64), 3) := by decide +kernel
theorem dX8_takesOwnOff_76 : decode cX8_takesOwnOff 76 = .ok (.return_, 1) := by decide +kernel
set_option maxRecDepth 20000 in
theorem ggX8_makesLess_X8_isAt : GoodIn wsX8_makesLess wsX8_isAt := goodIn_r _ [8, 9, 10, 11, 7, 12, 1, 25, 26, 27, 28, 29, 30, 31, 32, 33, 34, 35, 36, 37, 38, 39, 40, 41, 42, 43, 44, 45, 46, 47, 48, 49, 50, 51, 52, 53, 54, 55, 56] (by decide +kernel) (by decide +kernel)
set_option maxRecDepth 20000 in
theorem gX8_makesLess_X8_isAt : GoodIn wsX8_makesLess (wsV RX8 57 RX8 yX8_isAt wsX8_isAt) := goodIn_app (goodIn_of _ (by decide +kernel)) ggX8_makesLess_X8_isAt
set_option maxRecDepth 20000 in
theorem ggX8_makesLess_X8_ofOrder : GoodIn wsX8_makesLess wsX8_ofOrder := goodIn_r _ [12, 1, 25, 26, 27, 28, 29, 30, 31, 32, 33, 34, 35, 36, 37, 38, 39, 40, 41, 42, 43, 44, 45, 46, 47, 48, 49, 50, 51, 52, 53, 54, 55, 56] (by decide +kernel) (by decide +kernel)
set_option maxRecDepth 20000 in
theorem gX8_makesLess_X8_ofOrder : GoodIn wsX8_makesLess (wsV RX8 49 RX8 yX8_ofOrder wsX8_ofOrder) := goodIn_app (goodIn_of _ (by decide +kernel)) ggX8_makesLess_X8_ofOrder
set_option maxRecDepth 20000 in
theorem ggX8_makesLess_X8_setOrder : GoodIn wsX8_makesLess wsX8_setOrder := goodIn_r _ [16, 1, 25, 26, 27, 28, 29, 30, 31, 32, 33, 34, 35, 36, 37, 38, 39, 40, 41, 42, 43, 44, 45, 46, 47, 48, 49, 50, 51, 52, 53, 54, 55, 56] (by decide +kernel) (by decide +kernel)
set_option maxRecDepth 20000 in
theorem gX8_makesLess_X8_setOrder : GoodIn wsX8_makesLess (wsV RX8 64 RX8 yX8_setOrder wsX8_setOrder) := goodIn_app (goodIn_of _ (by decide +kernel)) ggX8_makesLess_X8_setOrder
set_option maxRecDepth 20000 in
theorem ggX8_makesLess_X8_goes : GoodIn wsX8_makesLess wsX8_goes := goodIn_r _ [20, 1, 9, 10, 11, 7, 12, 21, 22, 23, 24, 25, 26, 27, 28, 29, 30, 31, 32, 33, 34, 35, 36, 37, 38, 39, 40, 41, 42, 43, 44, 45, 46, 47, 48, 49, 50, 51, 52, 53, 54, 55, 56] (by decide +kernel) (by decide +kernel)
set_option maxRecDepth 20000 in
theorem gX8_makesLess_X8_goes : GoodIn wsX8_makesLess (wsV RX8 104 RX8 yX8_goes wsX8_goes) := goodIn_app (goodIn_of _ (by decide +kernel)) ggX8_makesLess_X8_goes
theorem dX8_makesLess_0 : decode cX8_makesLess 0 = .ok (.iload_n 3, 1) := by decide +kernel
theorem dX8_makesLess_1 : decode cX8_makesLess 1 = .ok (.istore 4, 2) := by decide +kernel
theorem dX8_makesLess_3 : decode cX8_makesLess 3 = .ok (.iconst 0, 1) := by decide +kernel
theorem dX8_makesLess_4 : decode cX8_makesLess 4 = .ok (.istore 5, 2) := by decide +kernel
theorem dX8_makesLess_6 : decode cX8_makesLess 6 = .ok (.iload 5, 2) := by decide +kernel
theorem dX8_makesLess_8 : decode cX8_makesLess 8 = .ok (.aload_n 0, 1) := by decide +kernel
theorem dX8_makesLess_9 : decode cX8_makesLess 9 = .ok (.getfield 7, 3) := by decide +kernel
theorem dX8_makesLess_12 : decode cX8_makesLess 12 = .ok (.iconst 5, 1) := by decide +kernel
theorem dX8_makesLess_13 : decode cX8_makesLess 13 = .ok (.iaload, 1) := by decide +kernel
theorem dX8_makesLess_14 : decode cX8_makesLess 14 = .ok (.if_icmp .ge 148, 3) := by decide +kernel
theorem dX8_makesLess_17 : decode cX8_makesLess 17 = .ok (.iload 4, 2) := by decide +kernel
theorem dX8_makesLess_19 : decode cX8_makesLess 19 = .ok (.ifCond .le 143, 3) := by decide +kernel
theorem dX8_makesLess_22 : decode cX8_makesLess 22 = .ok (.aload_n 0, 1) := by decide +kernel
theorem dX8_makesLess_23 : decode cX8_makesLess 23 = .ok (.iload 5, 2) := by decide +kernel
theorem dX8_makesLess_25 : decode cX8_makesLess 25 = .ok (.iload_n 1, 1) := by decide +kernel
theorem dX8_makesLess_26 : decode cX8_makesLess 26 = .ok (.iload_n 2, 1) := by decide +kernel
theorem dX8_makesLess_27 : decode cX8_makesLess 27 = .ok (.invokevirtual 57, 3) := by decide +kernel
theorem dX8_makesLess_30 : decode cX8_makesLess 30 = .ok (.ifCond .eq 17, 3) := by decide +kernel
theorem dX8_makesLess_33 : decode cX8_makesLess 33 = .ok (.aload_n 0, 1) := by decide +kernel
theorem dX8_makesLess_34 : decode cX8_makesLess 34 = .ok (.iload 5, 2) := by decide +kernel
theorem dX8_makesLess_36 : decode cX8_makesLess 36 = .ok (.iconst 1, 1) := by decide +kernel
theorem dX8_makesLess_37 : decode cX8_makesLess 37 = .ok (.invokevirtual 49, 3) := by decide +kernel
theorem dX8_makesLess_40 : decode cX8_makesLess 40 = .ok (.aload_n 0, 1) := by decide +kernel
theorem dX8_makesLess_41 : decode cX8_makesLess 41 = .ok (.getfield 87, 3) := by decide +kernel
theorem dX8_makesLess_44 : decode cX8_makesLess 44 = .ok (.if_icmp .eq 9, 3) := by decide +kernel
theorem dX8_makesLess_47 : decode cX8_makesLess 47 = .ok (.iinc 5 1, 3) := by decide +kernel
theorem dX8_makesLess_50 : decode cX8_makesLess 50 = .ok (.goto (-44), 3) := by decide +kernel
theorem dX8_makesLess_53 : decode cX8_makesLess 53 = .ok (.aload_n 0, 1) := by decide +kernel
theorem dX8_makesLess_54 : decode cX8_makesLess 54 = .ok (.iload 5, 2) := by decide +kernel
theorem dX8_makesLess_56 : decode cX8_makesLess 56 = .ok (.iconst 4, 1) := by decide +kernel
theorem dX8_makesLess_57 : decode cX8_makesLess 57 = .ok (.invokevirtual 49, 3) := by decide +kernel
theorem dX8_makesLess_60 : decode cX8_makesLess 60 = .ok (.iload 4, 2) := by decide +kernel
theorem dX8_makesLess_62 : decode cX8_makesLess 62 = .ok (.if_icmp .ge 13, 3) := by decide +kernel
theorem dX8_makesLess_65 : decode cX8_makesLess 65 = .ok (.aload_n 0, 1) := by decide +kernel
theorem dX8_makesLess_66 : decode cX8_makesLess 66 = .ok (.iload 5, 2) := by decide +kernel
theorem dX8_makesLess_68 : decode cX8_makesLess 68 = .ok (.iconst 4, 1) := by decide +kernel
theorem dX8_makesLess_69 : decode cX8_makesLess 69 = .ok (.invokevirtual 49, 3) := by decide +kernel
theorem dX8_makesLess_72 : decode cX8_makesLess 72 = .ok (.goto 5, 3) := by decide +kernel
theorem dX8_makesLess_75 : decode cX8_makesLess 75 = .ok (.iload 4, 2) := by decide +kernel
theorem dX8_makesLess_77 : decode cX8_makesLess 77 = .ok (.istore 6, 2) := by decide +kernel
theorem dX8_makesLess_79 : decode cX8_makesLess 79 = .ok (.iload 4, 2) := by decide +kernel
theorem dX8_makesLess_81 : decode cX8_makesLess 81 = .ok (.iload 6, 2) := by decide +kernel
theorem dX8_makesLess_83 : decode cX8_makesLess 83 = .ok (.isub, 1) := by decide +kernel
theorem dX8_makesLess_84 : decode cX8_makesLess 84 = .ok (.istore 4, 2) := by decide +kernel
theorem dX8_makesLess_86 : decode cX8_makesLess 86 = .ok (.aload_n 0, 1) := by decide +kernel
theorem dX8_makesLess_87 : decode cX8_makesLess 87 = .ok (.dup, 1) := by decide +kernel
theorem dX8_makesLess_88 : decode cX8_makesLess 88 = .ok (.getfield 123, 3) := by decide +kernel
theorem dX8_makesLess_91 : decode cX8_makesLess 91 = .ok (.iload 6, 2) := by decide +kernel
theorem dX8_makesLess_93 : decode cX8_makesLess 93 = .ok (.iadd, 1) := by decide +kernel
theorem dX8_makesLess_94 : decode cX8_makesLess 94 = .ok (.putfield 123, 3) := by decide +kernel
theorem dX8_makesLess_97 : decode cX8_makesLess 97 = .ok (.aload_n 0, 1) := by decide +kernel
theorem dX8_makesLess_98 : decode cX8_makesLess 98 = .ok (.getfield 7, 3) := by decide +kernel
theorem dX8_makesLess_101 : decode cX8_makesLess 101 = .ok (.bipush 13, 2) := by decide +kernel
theorem dX8_makesLess_103 : decode cX8_makesLess 103 = .ok (.dup2, 1) := by decide +kernel
theorem dX8_makesLess_104 : decode cX8_makesLess 104 = .ok (.iaload, 1) := by decide +kernel
theorem dX8_makesLess_105 : decode cX8_makesLess 105 = .ok (.iload 6, 2) := by decide +kernel
theorem dX8_makesLess_107 : decode cX8_makesLess 107 = .ok (.iadd, 1) := by decide +kernel
theorem dX8_makesLess_108 : decode cX8_makesLess 108 = .ok (.iastore, 1) := by decide +kernel
theorem dX8_makesLess_109 : decode cX8_makesLess 109 = .ok (.aload_n 0, 1) := by decide +kernel
theorem dX8_makesLess_110 : decode cX8_makesLess 110 = .ok (.iload 5, 2) := by decide +kernel
theorem dX8_makesLess_112 : decode cX8_makesLess 112 = .ok (.iconst 4, 1) := by decide +kernel
theorem dX8_makesLess_113 : decode cX8_makesLess 113 = .ok (.aload_n 0, 1) := by decide +kernel
theorem dX8_makesLess_114 : decode cX8_makesLess 114 = .ok (.iload 5, 2) := by decide +kernel
theorem dX8_makesLess_116 : decode cX8_makesLess 116 = .ok (.iconst 4, 1) := by decide +kernel
theorem dX8_makesLess_117 : decode cX8_makesLess 117 = .ok (.invokevirtual 49, 3) := by decide +kernel
theorem dX8_makesLess_120 : decode cX8_makesLess 120 = .ok (.iload 6, 2) := by decide +kernel
theorem dX8_makesLess_122 : decode cX8_makesLess 122 = .ok (.isub, 1) := by decide +kernel
theorem dX8_makesLess_123 : decode cX8_makesLess 123 = .ok (.invokevirtual 64, 3) := by decide +kernel
theorem dX8_makesLess_126 : decode cX8_makesLess 126 = .ok (.aload_n 0, 1) := by decide +kernel
theorem dX8_makesLess_127 : decode cX8_makesLess 127 = .ok (.iload 5, 2) := by decide +kernel
theorem dX8_makesLess_129 : decode cX8_makesLess 129 = .ok (.iconst 4, 1) := by decide +kernel
theorem dX8_makesLess_130 : decode cX8_makesLess 130 = .ok (.invokevirtual 49, 3) := by decide +kernel
theorem dX8_makesLess_133 : decode cX8_makesLess 133 = .ok (.ifCond .ne 23, 3) := by decide +kernel
theorem dX8_makesLess_136 : decode cX8_makesLess 136 = .ok (.aload_n 0, 1) := by decide +kernel
theorem dX8_makesLess_137 : decode cX8_makesLess 137 = .ok (.getfield 7, 3) := by decide +kernel
theorem dX8_makesLess_140 : decode cX8_makesLess 140 = .ok (.bipush 12, 2) := by decide +kernel
theorem dX8_makesLess_142 : decode cX8_makesLess 142 = .ok (.dup2, 1) := by decide +kernel
theorem dX8_makesLess_143 : decode cX8_makesLess 143 = .ok (.iaload, 1) := by decide +kernel
theorem dX8_makesLess_144 : decode cX8_makesLess 144 = .ok (.iconst 1, 1) := by decide +kernel
theorem dX8_makesLess_145 : decode cX8_makesLess 145 = .ok (.iadd, 1) := by decide +kernel
theorem dX8_makesLess_146 : decode cX8_makesLess 146 = .ok (.iastore, 1) := by decide +kernel
theorem dX8_makesLess_147 : decode cX8_makesLess 147 = .ok (.aload_n 0, 1) := by decide +kernel
theorem dX8_makesLess_148 : decode cX8_makesLess 148 = .ok (.iload 5, 2) := by decide +kernel
theorem dX8_makesLess_150 : decode cX8_makesLess 150 = .ok (.invokevirtual 104, 3) := by decide +kernel
theorem dX8_makesLess_153 : decode cX8_makesLess 153 = .ok (.goto 6, 3) := by decide +kernel
theorem dX8_makesLess_156 : decode cX8_makesLess 156 = .ok (.iinc 5 1, 3) := by decide +kernel
theorem dX8_makesLess_159 : decode cX8_makesLess 159 = .ok (.goto (-153), 3) := by decide +kernel
theorem dX8_makesLess_162 : decode cX8_makesLess 162 = .ok (.iload 4, 2) := by decide +kernel
theorem dX8_makesLess_164 : decode cX8_makesLess 164 = .ok (.ireturn, 1) := by decide +kernel
set_option maxRecDepth 20000 in
theorem ggX8_meets_X8_bestOf : GoodIn wsX8_meets wsX8_bestOf := goodIn_r _ [6, 7, 8, 9, 10, 5, 11, 12, 13, 14, 97, 98, 99, 100, 101, 102, 103, 104, 105, 106, 107, 108, 109, 110, 111, 112, 113, 114, 115, 116, 117, 118, 119, 120, 121, 122, 123, 124, 125, 126, 127, 128] (by decide +kernel) (by decide +kernel)
set_option maxRecDepth 20000 in
theorem gX8_meets_X8_bestOf : GoodIn wsX8_meets (wsV RX8 126 RX8 yX8_bestOf wsX8_bestOf) := goodIn_app (goodIn_of _ (by decide +kernel)) ggX8_meets_X8_bestOf
set_option maxRecDepth 20000 in
theorem ggX8_meets_X8_isBetter : GoodIn wsX8_meets wsX8_isBetter := goodIn_r _ [14] (by decide +kernel) (by decide +kernel)
set_option maxRecDepth 20000 in
theorem gX8_meets_X8_isBetter : GoodIn wsX8_meets (va_wsS RX8 53 yX8_isBetter wsX8_isBetter) := goodIn_app (goodIn_of _ (by decide +kernel)) ggX8_meets_X8_isBetter
set_option maxRecDepth 20000 in
theorem ggX8_meets_X8_hasOwn : GoodIn wsX8_meets wsX8_hasOwn := goodIn_r _ [18, 7, 19, 20, 21, 22, 5, 23, 8, 9, 10, 11, 97, 98, 99, 100, 101, 102, 103, 104, 105, 106, 107, 108, 109, 110, 111, 112, 113, 114, 115, 116, 117, 118, 119, 120, 121, 122, 123, 124, 125, 126, 127, 128] (by decide +kernel) (by decide +kernel)
set_option maxRecDepth 20000 in
theorem gX8_meets_X8_hasOwn : GoodIn wsX8_meets (wsV RX8 129 RX8 yX8_hasOwn wsX8_hasOwn) := goodIn_app (goodIn_of _ (by decide +kernel)) ggX8_meets_X8_hasOwn
set_option maxRecDepth 20000 in
theorem ggX8_meets_X8_takesOwnOff : GoodIn wsX8_meets wsX8_takesOwnOff := goodIn_r _ [27, 7, 19, 28, 20, 21, 22, 5, 23, 8, 9, 10, 11, 29, 30, 31, 32, 33, 34, 35, 36, 97, 98, 99, 100, 101, 102, 103, 104, 105, 106, 107, 108, 109, 110, 111, 112, 113, 114, 115, 116, 117, 118, 119, 120, 121, 122, 123, 124, 125, 126, 127, 128] (by decide +kernel) (by decide +kernel)
set_option maxRecDepth 20000 in
theorem gX8_meets_X8_takesOwnOff : GoodIn wsX8_meets (wsV RX8 133 RX8 yX8_takesOwnOff wsX8_takesOwnOff) := goodIn_app (goodIn_of _ (by decide +kernel)) ggX8_meets_X8_takesOwnOff
set_option maxRecDepth 20000 in
theorem ggX8_meets_X8_makesLess : GoodIn wsX8_meets wsX8_makesLess := goodIn_r _ [40, 7, 19, 28, 20, 21, 22, 5, 23, 8, 9, 10, 11, 41, 42, 43, 44, 29, 30, 31, 32, 33, 34, 35, 36, 97, 98, 99, 100, 101, 102, 103, 104, 105, 106, 107, 108, 109, 110, 111, 112, 113, 114, 115, 116, 117, 118, 119, 120, 121, 122, 123, 124, 125, 126, 127, 128] (by decide +kernel) (by decide +kernel)
set_option maxRecDepth 20000 in
theorem gX8_meets_X8_makesLess : GoodIn wsX8_meets (wsV RX8 136 RX8 yX8_makesLess wsX8_makesLess) := goodIn_app (goodIn_of _ (by decide +kernel)) ggX8_meets_X8_makesLess
set_option maxRecDepth 20000 in
theorem ggX8_meets_X8_sizesAt : GoodIn wsX8_meets wsX8_sizesAt := goodIn_r _ [48, 7, 20, 21, 22, 5, 23, 8, 9, 10, 11, 97, 98, 99, 100, 101, 102, 103, 104, 105, 106, 107, 108, 109, 110, 111, 112, 113, 114, 115, 116, 117, 118, 119, 120, 121, 122, 123, 124, 125, 126, 127, 128] (by decide +kernel) (by decide +kernel)
set_option maxRecDepth 20000 in
theorem gX8_meets_X8_sizesAt : GoodIn wsX8_meets (wsV RX8 140 RX8 yX8_sizesAt wsX8_sizesAt) := goodIn_app (goodIn_of _ (by decide +kernel)) ggX8_meets_X8_sizesAt
set_option maxRecDepth 20000 in
theorem ggX8_meets_X8_takes_h : GoodIn wsX8_meets [Cond.code yX8_takes cX8_takes 6 none] := goodIn_r _ [52] (by decide +kernel) (by decide +kernel)
set_option maxRecDepth 20000 in
theorem ggX8_meets_X8_takes_1 : GoodIn wsX8_meets wsX8_takes_r1 := goodIn_r _ [7, 53, 54, 55, 56, 57, 58, 59, 5, 60, 61, 62, 20, 21, 22, 23, 8, 9, 10, 11, 63, 64, 65, 66] (by decide +kernel) (by decide +kernel)
set_option maxRecDepth 20000 in
theorem ggX8_meets_X8_takes_2 : GoodIn wsX8_meets wsX8_takes_r2 := goodIn_r _ [67, 68, 69, 70, 71, 72, 73, 74, 75, 1, 19, 76, 77, 78, 79, 80, 81, 82, 83, 84, 85, 86, 87, 88] (by decide +kernel) (by decide +kernel)
set_option maxRecDepth 20000 in
theorem ggX8_meets_X8_takes_3 : GoodIn wsX8_meets wsX8_takes_r3 := goodIn_r _ [89, 90, 91, 92, 33, 34, 35, 36, 93, 94, 95, 96, 41, 42, 43, 44, 29, 30, 31, 32] (by decide +kernel) (by decide +kernel)
set_option maxRecDepth 20000 in
theorem ggX8_meets_X8_takes_4 : GoodIn wsX8_meets wsX80 := goodIn_r _ [97, 98, 99, 100, 101, 102, 103, 104, 105, 106, 107, 108, 109, 110, 111, 112, 113, 114, 115, 116, 117, 118, 119, 120, 121, 122, 123, 124, 125, 126, 127, 128] (by decide +kernel) (by decide +kernel)
theorem ggX8_meets_X8_takes : GoodIn wsX8_meets wsX8_takes := goodIn_app ggX8_meets_X8_takes_h (goodIn_app (goodIn_app ggX8_meets_X8_takes_1 (goodIn_app ggX8_meets_X8_takes_2 ggX8_meets_X8_takes_3)) ggX8_meets_X8_takes_4)
set_option maxRecDepth 20000 in
theorem gX8_meets_X8_takes : GoodIn wsX8_meets (wsV RX8 143 RX8 yX8_takes wsX8_takes) := goodIn_app (goodIn_of _ (by decide +kernel)) ggX8_meets_X8_takes
theorem dX8_meets_0 : decode cX8_meets 0 = .ok (.iload_n 2, 1) := by decide +kernel
theorem dX8_meets_1 : decode cX8_meets 1 = .ok (.istore 4, 2) := by decide +kernel
theorem dX8_meets_3 : decode cX8_meets 3 = .ok (.iconst 1, 1) := by decide +kernel
theorem dX8_meets_4 : decode cX8_meets 4 = .ok (.aload_n 0, 1) := by decide +kernel
theorem dX8_meets_5 : decode cX8_meets 5 = .ok (.getfield 80, 3) := by decide +kernel
theorem dX8_meets_8 : decode cX8_meets 8 = .ok (.isub, 1) := by decide +kernel
theorem dX8_meets_9 : decode cX8_meets 9 = .ok (.istore 5, 2) := by decide +kernel
theorem dX8_meets_11 : decode cX8_meets 11 = .ok (.iload 4, 2) := by decide +kernel
theorem dX8_meets_13 : decode cX8_meets 13 = .ok (.ifCond .le 140, 3) := by decide +kernel
theorem dX8_meets_16 : decode cX8_meets 16 = .ok (.aload_n 0, 1) := by decide +kernel
theorem dX8_meets_17 : decode cX8_meets 17 = .ok (.iload 5, 2) := by decide +kernel
theorem dX8_meets_19 : decode cX8_meets 19 = .ok (.invokevirtual 126, 3) := by decide +kernel
theorem dX8_meets_22 : decode cX8_meets 22 = .ok (.istore 6, 2) := by decide +kernel
theorem dX8_meets_24 : decode cX8_meets 24 = .ok (.iload 6, 2) := by decide +kernel
theorem dX8_meets_26 : decode cX8_meets 26 = .ok (.ifCond .eq 16, 3) := by decide +kernel
theorem dX8_meets_29 : decode cX8_meets 29 = .ok (.aload_n 0, 1) := by decide +kernel
theorem dX8_meets_30 : decode cX8_meets 30 = .ok (.getfield 80, 3) := by decide +kernel
theorem dX8_meets_33 : decode cX8_meets 33 = .ok (.iload 6, 2) := by decide +kernel
theorem dX8_meets_35 : decode cX8_meets 35 = .ok (.iload_n 1, 1) := by decide +kernel
theorem dX8_meets_36 : decode cX8_meets 36 = .ok (.invokestatic 53, 3) := by decide +kernel
theorem dX8_meets_39 : decode cX8_meets 39 = .ok (.ifCond .eq 6, 3) := by decide +kernel
theorem dX8_meets_42 : decode cX8_meets 42 = .ok (.iload 4, 2) := by decide +kernel
theorem dX8_meets_44 : decode cX8_meets 44 = .ok (.ireturn, 1) := by decide +kernel
theorem dX8_meets_45 : decode cX8_meets 45 = .ok (.aload_n 0, 1) := by decide +kernel
theorem dX8_meets_46 : decode cX8_meets 46 = .ok (.iload 5, 2) := by decide +kernel
theorem dX8_meets_48 : decode cX8_meets 48 = .ok (.iload 6, 2) := by decide +kernel
theorem dX8_meets_50 : decode cX8_meets 50 = .ok (.invokevirtual 129, 3) := by decide +kernel
theorem dX8_meets_53 : decode cX8_meets 53 = .ok (.ifCond .eq 49, 3) := by decide +kernel
theorem dX8_meets_56 : decode cX8_meets 56 = .ok (.iload_n 3, 1) := by decide +kernel
theorem dX8_meets_57 : decode cX8_meets 57 = .ok (.ifCond .eq 8, 3) := by decide +kernel
theorem dX8_meets_60 : decode cX8_meets 60 = .ok (.iload_n 3, 1) := by decide +kernel
theorem dX8_meets_61 : decode cX8_meets 61 = .ok (.iconst 2, 1) := by decide +kernel
theorem dX8_meets_62 : decode cX8_meets 62 = .ok (.if_icmp .ne 11, 3) := by decide +kernel
theorem dX8_meets_65 : decode cX8_meets 65 = .ok (.aload_n 0, 1) := by decide +kernel
theorem dX8_meets_66 : decode cX8_meets 66 = .ok (.iload 5, 2) := by decide +kernel
theorem dX8_meets_68 : decode cX8_meets 68 = .ok (.iload 6, 2) := by decide +kernel
theorem dX8_meets_70 : decode cX8_meets 70 = .ok (.invokevirtual 133, 3) := by decide +kernel
theorem dX8_meets_73 : decode cX8_meets 73 = .ok (.iload_n 3, 1) := by decide +kernel
theorem dX8_meets_74 : decode cX8_meets 74 = .ok (.iconst 1, 1) := by decide +kernel
theorem dX8_meets_75 : decode cX8_meets 75 = .ok (.if_icmp .eq 8, 3) := by decide +kernel
theorem dX8_meets_78 : decode cX8_meets 78 = .ok (.iload_n 3, 1) := by decide +kernel
theorem dX8_meets_79 : decode cX8_meets 79 = .ok (.iconst 2, 1) := by decide +kernel
theorem dX8_meets_80 : decode cX8_meets 80 = .ok (.if_icmp .ne 5, 3) := by decide +kernel
theorem dX8_meets_83 : decode cX8_meets 83 = .ok (.iconst 0, 1) := by decide +kernel
theorem dX8_meets_84 : decode cX8_meets 84 = .ok (.ireturn, 1) := by decide +kernel
theorem dX8_meets_85 : decode cX8_meets 85 = .ok (.iload_n 3, 1) := by decide +kernel
theorem dX8_meets_86 : decode cX8_meets 86 = .ok (.iconst 3, 1) := by decide +kernel
theorem dX8_meets_87 : decode cX8_meets 87 = .ok (.if_icmp .ne 15, 3) := by decide +kernel
theorem dX8_meets_90 : decode cX8_meets 90 = .ok (.aload_n 0, 1) := by decide +kernel
theorem dX8_meets_91 : decode cX8_meets 91 = .ok (.iload 5, 2) := by decide +kernel
theorem dX8_meets_93 : decode cX8_meets 93 = .ok (.iload 6, 2) := by decide +kernel
theorem dX8_meets_95 : decode cX8_meets 95 = .ok (.iload 4, 2) := by decide +kernel
theorem dX8_meets_97 : decode cX8_meets 97 = .ok (.invokevirtual 136, 3) := by decide +kernel
theorem dX8_meets_100 : decode cX8_meets 100 = .ok (.istore 4, 2) := by decide +kernel
theorem dX8_meets_102 : decode cX8_meets 102 = .ok (.aload_n 0, 1) := by decide +kernel
theorem dX8_meets_103 : decode cX8_meets 103 = .ok (.iload 5, 2) := by decide +kernel
theorem dX8_meets_105 : decode cX8_meets 105 = .ok (.iload 6, 2) := by decide +kernel
theorem dX8_meets_107 : decode cX8_meets 107 = .ok (.invokevirtual 140, 3) := by decide +kernel
theorem dX8_meets_110 : decode cX8_meets 110 = .ok (.istore 7, 2) := by decide +kernel
theorem dX8_meets_112 : decode cX8_meets 112 = .ok (.iload 4, 2) := by decide +kernel
theorem dX8_meets_114 : decode cX8_meets 114 = .ok (.iload 7, 2) := by decide +kernel
theorem dX8_meets_116 : decode cX8_meets 116 = .ok (.if_icmp .ge 8, 3) := by decide +kernel
theorem dX8_meets_119 : decode cX8_meets 119 = .ok (.iload 4, 2) := by decide +kernel
theorem dX8_meets_121 : decode cX8_meets 121 = .ok (.goto 5, 3) := by decide +kernel
theorem dX8_meets_124 : decode cX8_meets 124 = .ok (.iload 7, 2) := by decide +kernel
theorem dX8_meets_126 : decode cX8_meets 126 = .ok (.istore 8, 2) := by decide +kernel
theorem dX8_meets_128 : decode cX8_meets 128 = .ok (.iload 8, 2) := by decide +kernel
theorem dX8_meets_130 : decode cX8_meets 130 = .ok (.ifCond .le 13, 3) := by decide +kernel
theorem dX8_meets_133 : decode cX8_meets 133 = .ok (.aload_n 0, 1) := by decide +kernel
theorem dX8_meets_134 : decode cX8_meets 134 = .ok (.iload 5, 2) := by decide +kernel
theorem dX8_meets_136 : decode cX8_meets 136 = .ok (.iload 6, 2) := by decide +kernel
theorem dX8_meets_138 : decode cX8_meets 138 = .ok (.iload 8, 2) := by decide +kernel
theorem dX8_meets_140 : decode cX8_meets 140 = .ok (.invokevirtual 143, 3) := by decide +kernel
theorem dX8_meets_143 : decode cX8_meets 143 = .ok (.iload 4, 2) := by decide +kernel
theorem dX8_meets_145 : decode cX8_meets 145 = .ok (.iload 8, 2) := by decide +kernel
theorem dX8_meets_147 : decode cX8_meets 147 = .ok (.isub, 1) := by decide +kernel
theorem dX8_meets_148 : decode cX8_meets 148 = .ok (.istore 4, 2) := by decide +kernel
theorem dX8_meets_150 : decode cX8_meets 150 = .ok (.goto (-139), 3) := by decide +kernel
theorem dX8_meets_153 : decode cX8_meets 153 = .ok (.iconst 0, 1) := by decide +kernel
theorem dX8_meets_154 : decode cX8_meets 154 = .ok (.ireturn, 1) := by decide +kernel
theorem dX8_comes_0 : decode cX8_comes 0 = .ok (.aload_n 0, 1) := by decide +kernel
theorem dX8_comes_1 : decode cX8_comes 1 = .ok (.getfield 7, 3) := by decide +kernel
theorem dX8_comes_4 : decode cX8_comes 4 = .ok (.iconst 4, 1) := by decide +kernel
theorem dX8_comes_5 : decode cX8_comes 5 = .ok (.dup2, 1) := by decide +kernel
theorem dX8_comes_6 : decode cX8_comes 6 = .ok (.iaload, 1) := by decide +kernel
theorem dX8_comes_7 : decode cX8_comes 7 = .ok (.iconst 1, 1) := by decide +kernel
theorem dX8_comes_8 : decode cX8_comes 8 = .ok (.iadd, 1) := by decide +kernel
theorem dX8_comes_9 : decode cX8_comes 9 = .ok (.iastore, 1) := by decide +kernel
theorem dX8_comes_10 : decode cX8_comes 10 = .ok (.aload_n 0, 1) := by decide +kernel
theorem dX8_comes_11 : decode cX8_comes 11 = .ok (.aload_n 0, 1) := by decide +kernel
theorem dX8_comes_12 : decode cX8_comes 12 = .ok (.getfield 7, 3) := by decide +kernel
theorem dX8_comes_15 : decode cX8_comes 15 = .ok (.iconst 4, 1) := by decide +kernel
theorem dX8_comes_16 : decode cX8_comes 16 = .ok (.iaload, 1) := by decide +kernel
theorem dX8_comes_17 : decode cX8_comes 17 = .ok (.putfield 73, 3) := by decide +kernel
theorem dX8_comes_20 : decode cX8_comes 20 = .ok (.aload_n 0, 1) := by decide +kernel
theorem dX8_comes_21 : decode cX8_comes 21 = .ok (.iload_n 1, 1) := by decide +kernel
theorem dX8_comes_22 : decode cX8_comes 22 = .ok (.putfield 87, 3) := by decide +kernel
theorem dX8_comes_25 : decode cX8_comes 25 = .ok (.aload_n 0, 1) := by decide +kernel
theorem dX8_comes_26 : decode cX8_comes 26 = .ok (.iload_n 2, 1) := by decide +kernel
theorem dX8_comes_27 : decode cX8_comes 27 = .ok (.putfield 80, 3) := by decide +kernel
theorem dX8_comes_30 : decode cX8_comes 30 = .ok (.aload_n 0, 1) := by decide +kernel
theorem dX8_comes_31 : decode cX8_comes 31 = .ok (.iconst 0, 1) := by decide +kernel
theorem dX8_comes_32 : decode cX8_comes 32 = .ok (.putfield 90, 3) := by decide +kernel
theorem dX8_comes_35 : decode cX8_comes 35 = .ok (.aload_n 0, 1) := by decide +kernel
theorem dX8_comes_36 : decode cX8_comes 36 = .ok (.iconst 0, 1) := by decide +kernel
theorem dX8_comes_37 : decode cX8_comes 37 = .ok (.putfield 93, 3) := by decide +kernel
theorem dX8_comes_40 : decode cX8_comes 40 = .ok (.aload_n 0, 1) := by decide +kernel
theorem dX8_comes_41 : decode cX8_comes 41 = .ok (.lconst 0, 1) := by decide +kernel
theorem dX8_comes_42 : decode cX8_comes 42 = .ok (.putfield 96, 3) := by decide +kernel
theorem dX8_comes_45 : decode cX8_comes 45 = .ok (.aload_n 0, 1) := by decide +kernel
