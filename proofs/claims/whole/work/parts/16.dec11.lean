theorem dX8_comes_46 : decode cX8_comes 46 = .ok (.iconst 0, 1) := by decide +kernel
theorem dX8_comes_47 : decode cX8_comes 47 = .ok (.putfield 123, 3) := by decide +kernel
theorem dX8_comes_50 : decode cX8_comes 50 = .ok (.return_, 1) := by decide +kernel
set_option maxRecDepth 20000 in
theorem ggX8_trading_X8_comes : GoodIn wsX8_trading wsX8_comes := goodIn_r _ [7, 1, 2, 8, 9, 10, 11, 12, 13, 109, 110, 111, 112, 113, 114, 115, 116, 117, 118, 119, 120, 121, 122, 123, 124, 125, 126, 127, 128, 129, 130, 131, 132, 133, 134, 135, 136, 137, 138, 139, 140] (by decide +kernel) (by decide +kernel)
set_option maxRecDepth 20000 in
theorem gX8_trading_X8_comes : GoodIn wsX8_trading (wsV RX8 146 RX8 yX8_comes wsX8_comes) := goodIn_app (goodIn_of _ (by decide +kernel)) ggX8_trading_X8_comes
set_option maxRecDepth 20000 in
theorem ggX8_trading_X8_meets_h : GoodIn wsX8_trading [Cond.code yX8_meets cX8_meets 9 (some .int)] := goodIn_r _ [17] (by decide +kernel) (by decide +kernel)
set_option maxRecDepth 20000 in
theorem ggX8_trading_X8_meets_1 : GoodIn wsX8_trading wsX8_meets_r1 := goodIn_r _ [9, 18, 19, 20, 6, 21, 1, 22, 23, 24, 25, 26, 27, 28, 29, 30, 31, 32, 8, 33, 34, 35, 36, 37] (by decide +kernel) (by decide +kernel)
set_option maxRecDepth 20000 in
theorem ggX8_trading_X8_meets_2 : GoodIn wsX8_trading wsX8_meets_r2 := goodIn_r _ [38, 39, 40, 13, 41, 42, 43, 44, 45, 46, 47, 48, 49, 50, 51, 52, 53, 54, 55, 56, 57, 58, 59, 60] (by decide +kernel) (by decide +kernel)
set_option maxRecDepth 20000 in
theorem ggX8_trading_X8_meets_3 : GoodIn wsX8_trading wsX8_meets_r3 := goodIn_r _ [61, 62, 63, 64, 65, 66, 67, 68, 69, 70, 71, 72, 73, 74, 75, 76, 77, 78, 79, 80, 81, 82, 83, 84] (by decide +kernel) (by decide +kernel)
set_option maxRecDepth 20000 in
theorem ggX8_trading_X8_meets_4 : GoodIn wsX8_trading wsX8_meets_r4 := goodIn_r _ [85, 86, 2, 10, 11, 12, 87, 88, 89, 90, 91, 92, 93, 94, 95, 96, 97, 98, 99, 100, 101, 102, 103, 104] (by decide +kernel) (by decide +kernel)
set_option maxRecDepth 20000 in
theorem ggX8_trading_X8_meets_5 : GoodIn wsX8_trading wsX80 := goodIn_r _ [109, 110, 111, 112, 113, 114, 115, 116, 117, 118, 119, 120, 121, 122, 123, 124, 125, 126, 127, 128, 129, 130, 131, 132, 133, 134, 135, 136, 137, 138, 139, 140] (by decide +kernel) (by decide +kernel)
theorem ggX8_trading_X8_meets : GoodIn wsX8_trading wsX8_meets := goodIn_app ggX8_trading_X8_meets_h (goodIn_app (goodIn_app ggX8_trading_X8_meets_1 (goodIn_app ggX8_trading_X8_meets_2 (goodIn_app ggX8_trading_X8_meets_3 ggX8_trading_X8_meets_4))) ggX8_trading_X8_meets_5)
set_option maxRecDepth 20000 in
theorem gX8_trading_X8_meets : GoodIn wsX8_trading (wsV RX8 149 RX8 yX8_meets wsX8_meets) := goodIn_app (goodIn_of _ (by decide +kernel)) ggX8_trading_X8_meets
set_option maxRecDepth 20000 in
theorem ggX8_trading_X8_bestOf : GoodIn wsX8_trading wsX8_bestOf := goodIn_r _ [21, 1, 22, 23, 24, 6, 25, 26, 27, 28, 109, 110, 111, 112, 113, 114, 115, 116, 117, 118, 119, 120, 121, 122, 123, 124, 125, 126, 127, 128, 129, 130, 131, 132, 133, 134, 135, 136, 137, 138, 139, 140] (by decide +kernel) (by decide +kernel)
set_option maxRecDepth 20000 in
theorem gX8_trading_X8_bestOf : GoodIn wsX8_trading (wsV RX8 126 RX8 yX8_bestOf wsX8_bestOf) := goodIn_app (goodIn_of _ (by decide +kernel)) ggX8_trading_X8_bestOf
set_option maxRecDepth 20000 in
theorem ggX8_trading_X8_isBetter : GoodIn wsX8_trading wsX8_isBetter := goodIn_r _ [28] (by decide +kernel) (by decide +kernel)
set_option maxRecDepth 20000 in
theorem gX8_trading_X8_isBetter : GoodIn wsX8_trading (va_wsS RX8 53 yX8_isBetter wsX8_isBetter) := goodIn_app (goodIn_of _ (by decide +kernel)) ggX8_trading_X8_isBetter
set_option maxRecDepth 20000 in
theorem ggX8_trading_X8_rests : GoodIn wsX8_trading wsX8_rests := goodIn_r _ [108, 1, 53, 54, 55, 6, 56, 109, 110, 111, 112, 113, 114, 115, 116, 117, 118, 119, 120, 121, 122, 123, 124, 125, 126, 127, 128, 129, 130, 131, 132, 133, 134, 135, 136, 137, 138, 139, 140] (by decide +kernel) (by decide +kernel)
set_option maxRecDepth 20000 in
theorem gX8_trading_X8_rests : GoodIn wsX8_trading (wsV RX8 152 RX8 yX8_rests wsX8_rests) := goodIn_app (goodIn_of _ (by decide +kernel)) ggX8_trading_X8_rests
theorem dX8_trading_0 : decode cX8_trading 0 = .ok (.aload_n 0, 1) := by decide +kernel
theorem dX8_trading_1 : decode cX8_trading 1 = .ok (.iload_n 1, 1) := by decide +kernel
theorem dX8_trading_2 : decode cX8_trading 2 = .ok (.iload_n 2, 1) := by decide +kernel
theorem dX8_trading_3 : decode cX8_trading 3 = .ok (.invokevirtual 146, 3) := by decide +kernel
theorem dX8_trading_6 : decode cX8_trading 6 = .ok (.aload_n 0, 1) := by decide +kernel
theorem dX8_trading_7 : decode cX8_trading 7 = .ok (.iload_n 3, 1) := by decide +kernel
theorem dX8_trading_8 : decode cX8_trading 8 = .ok (.iload 4, 2) := by decide +kernel
theorem dX8_trading_10 : decode cX8_trading 10 = .ok (.iload 5, 2) := by decide +kernel
theorem dX8_trading_12 : decode cX8_trading 12 = .ok (.invokevirtual 149, 3) := by decide +kernel
theorem dX8_trading_15 : decode cX8_trading 15 = .ok (.istore 6, 2) := by decide +kernel
theorem dX8_trading_17 : decode cX8_trading 17 = .ok (.iload 6, 2) := by decide +kernel
theorem dX8_trading_19 : decode cX8_trading 19 = .ok (.ifCond .eq 14, 3) := by decide +kernel
theorem dX8_trading_22 : decode cX8_trading 22 = .ok (.aload_n 0, 1) := by decide +kernel
theorem dX8_trading_23 : decode cX8_trading 23 = .ok (.getfield 7, 3) := by decide +kernel
theorem dX8_trading_26 : decode cX8_trading 26 = .ok (.iconst 5, 1) := by decide +kernel
theorem dX8_trading_27 : decode cX8_trading 27 = .ok (.iaload, 1) := by decide +kernel
theorem dX8_trading_28 : decode cX8_trading 28 = .ok (.bipush 60, 2) := by decide +kernel
theorem dX8_trading_30 : decode cX8_trading 30 = .ok (.if_icmp .ne 5, 3) := by decide +kernel
theorem dX8_trading_33 : decode cX8_trading 33 = .ok (.iconst 0, 1) := by decide +kernel
theorem dX8_trading_34 : decode cX8_trading 34 = .ok (.ireturn, 1) := by decide +kernel
theorem dX8_trading_35 : decode cX8_trading 35 = .ok (.aload_n 0, 1) := by decide +kernel
theorem dX8_trading_36 : decode cX8_trading 36 = .ok (.iload_n 2, 1) := by decide +kernel
theorem dX8_trading_37 : decode cX8_trading 37 = .ok (.invokevirtual 126, 3) := by decide +kernel
theorem dX8_trading_40 : decode cX8_trading 40 = .ok (.istore 7, 2) := by decide +kernel
theorem dX8_trading_42 : decode cX8_trading 42 = .ok (.iload 6, 2) := by decide +kernel
theorem dX8_trading_44 : decode cX8_trading 44 = .ok (.iload 4, 2) := by decide +kernel
theorem dX8_trading_46 : decode cX8_trading 46 = .ok (.if_icmp .ne 31, 3) := by decide +kernel
theorem dX8_trading_49 : decode cX8_trading 49 = .ok (.aload_n 0, 1) := by decide +kernel
theorem dX8_trading_50 : decode cX8_trading 50 = .ok (.getfield 7, 3) := by decide +kernel
theorem dX8_trading_53 : decode cX8_trading 53 = .ok (.iconst 0, 1) := by decide +kernel
theorem dX8_trading_54 : decode cX8_trading 54 = .ok (.iaload, 1) := by decide +kernel
theorem dX8_trading_55 : decode cX8_trading 55 = .ok (.ifCond .le 22, 3) := by decide +kernel
theorem dX8_trading_58 : decode cX8_trading 58 = .ok (.iload 7, 2) := by decide +kernel
theorem dX8_trading_60 : decode cX8_trading 60 = .ok (.ifCond .eq 13, 3) := by decide +kernel
theorem dX8_trading_63 : decode cX8_trading 63 = .ok (.iload_n 2, 1) := by decide +kernel
theorem dX8_trading_64 : decode cX8_trading 64 = .ok (.iload_n 3, 1) := by decide +kernel
theorem dX8_trading_65 : decode cX8_trading 65 = .ok (.iload 7, 2) := by decide +kernel
theorem dX8_trading_67 : decode cX8_trading 67 = .ok (.invokestatic 53, 3) := by decide +kernel
theorem dX8_trading_70 : decode cX8_trading 70 = .ok (.ifCond .eq 7, 3) := by decide +kernel
theorem dX8_trading_73 : decode cX8_trading 73 = .ok (.iconst 1, 1) := by decide +kernel
theorem dX8_trading_74 : decode cX8_trading 74 = .ok (.goto 4, 3) := by decide +kernel
theorem dX8_trading_77 : decode cX8_trading 77 = .ok (.iconst 0, 1) := by decide +kernel
theorem dX8_trading_78 : decode cX8_trading 78 = .ok (.istore 8, 2) := by decide +kernel
theorem dX8_trading_80 : decode cX8_trading 80 = .ok (.aload_n 0, 1) := by decide +kernel
theorem dX8_trading_81 : decode cX8_trading 81 = .ok (.aload_n 0, 1) := by decide +kernel
theorem dX8_trading_82 : decode cX8_trading 82 = .ok (.getfield 73, 3) := by decide +kernel
theorem dX8_trading_85 : decode cX8_trading 85 = .ok (.iload_n 1, 1) := by decide +kernel
theorem dX8_trading_86 : decode cX8_trading 86 = .ok (.iload_n 2, 1) := by decide +kernel
theorem dX8_trading_87 : decode cX8_trading 87 = .ok (.iload_n 3, 1) := by decide +kernel
theorem dX8_trading_88 : decode cX8_trading 88 = .ok (.iload 6, 2) := by decide +kernel
theorem dX8_trading_90 : decode cX8_trading 90 = .ok (.iload 4, 2) := by decide +kernel
theorem dX8_trading_92 : decode cX8_trading 92 = .ok (.invokevirtual 152, 3) := by decide +kernel
theorem dX8_trading_95 : decode cX8_trading 95 = .ok (.iload 8, 2) := by decide +kernel
theorem dX8_trading_97 : decode cX8_trading 97 = .ok (.ifCond .eq 31, 3) := by decide +kernel
theorem dX8_trading_100 : decode cX8_trading 100 = .ok (.aload_n 0, 1) := by decide +kernel
theorem dX8_trading_101 : decode cX8_trading 101 = .ok (.getfield 7, 3) := by decide +kernel
theorem dX8_trading_104 : decode cX8_trading 104 = .ok (.bipush 6, 2) := by decide +kernel
theorem dX8_trading_106 : decode cX8_trading 106 = .ok (.iload_n 2, 1) := by decide +kernel
theorem dX8_trading_107 : decode cX8_trading 107 = .ok (.iadd, 1) := by decide +kernel
theorem dX8_trading_108 : decode cX8_trading 108 = .ok (.aload_n 0, 1) := by decide +kernel
theorem dX8_trading_109 : decode cX8_trading 109 = .ok (.getfield 73, 3) := by decide +kernel
theorem dX8_trading_112 : decode cX8_trading 112 = .ok (.iastore, 1) := by decide +kernel
theorem dX8_trading_113 : decode cX8_trading 113 = .ok (.aload_n 0, 1) := by decide +kernel
theorem dX8_trading_114 : decode cX8_trading 114 = .ok (.getfield 7, 3) := by decide +kernel
theorem dX8_trading_117 : decode cX8_trading 117 = .ok (.bipush 8, 2) := by decide +kernel
theorem dX8_trading_119 : decode cX8_trading 119 = .ok (.iload_n 2, 1) := by decide +kernel
theorem dX8_trading_120 : decode cX8_trading 120 = .ok (.iadd, 1) := by decide +kernel
theorem dX8_trading_121 : decode cX8_trading 121 = .ok (.aload_n 0, 1) := by decide +kernel
theorem dX8_trading_122 : decode cX8_trading 122 = .ok (.getfield 7, 3) := by decide +kernel
theorem dX8_trading_125 : decode cX8_trading 125 = .ok (.iconst 0, 1) := by decide +kernel
theorem dX8_trading_126 : decode cX8_trading 126 = .ok (.iaload, 1) := by decide +kernel
theorem dX8_trading_127 : decode cX8_trading 127 = .ok (.iastore, 1) := by decide +kernel
theorem dX8_trading_128 : decode cX8_trading 128 = .ok (.iload 6, 2) := by decide +kernel
theorem dX8_trading_130 : decode cX8_trading 130 = .ok (.ireturn, 1) := by decide +kernel
set_option maxRecDepth 20000 in
theorem ggX8_isOrder_X8_within : GoodIn wsX8_isOrder wsX8_within := goodIn_r _ [8] (by decide +kernel) (by decide +kernel)
set_option maxRecDepth 20000 in
theorem gX8_isOrder_X8_within : GoodIn wsX8_isOrder (va_wsS RX8 158 yX8_within wsX8_within) := goodIn_app (goodIn_of _ (by decide +kernel)) ggX8_isOrder_X8_within
theorem dX8_isOrder_0 : decode cX8_isOrder 0 = .ok (.iload_n 0, 1) := by decide +kernel
theorem dX8_isOrder_1 : decode cX8_isOrder 1 = .ok (.i2l, 1) := by decide +kernel
theorem dX8_isOrder_2 : decode cX8_isOrder 2 = .ok (.lconst 0, 1) := by decide +kernel
theorem dX8_isOrder_3 : decode cX8_isOrder 3 = .ok (.ldc2_w 156, 3) := by decide +kernel
theorem dX8_isOrder_6 : decode cX8_isOrder 6 = .ok (.invokestatic 158, 3) := by decide +kernel
theorem dX8_isOrder_9 : decode cX8_isOrder 9 = .ok (.ifCond .eq 54, 3) := by decide +kernel
theorem dX8_isOrder_12 : decode cX8_isOrder 12 = .ok (.iload_n 1, 1) := by decide +kernel
theorem dX8_isOrder_13 : decode cX8_isOrder 13 = .ok (.i2l, 1) := by decide +kernel
theorem dX8_isOrder_14 : decode cX8_isOrder 14 = .ok (.lconst 0, 1) := by decide +kernel
theorem dX8_isOrder_15 : decode cX8_isOrder 15 = .ok (.lconst 1, 1) := by decide +kernel
theorem dX8_isOrder_16 : decode cX8_isOrder 16 = .ok (.invokestatic 158, 3) := by decide +kernel
theorem dX8_isOrder_19 : decode cX8_isOrder 19 = .ok (.ifCond .eq 44, 3) := by decide +kernel
theorem dX8_isOrder_22 : decode cX8_isOrder 22 = .ok (.iload_n 2, 1) := by decide +kernel
theorem dX8_isOrder_23 : decode cX8_isOrder 23 = .ok (.i2l, 1) := by decide +kernel
theorem dX8_isOrder_24 : decode cX8_isOrder 24 = .ok (.lconst 1, 1) := by decide +kernel
theorem dX8_isOrder_25 : decode cX8_isOrder 25 = .ok (.ldc2_w 162, 3) := by decide +kernel
theorem dX8_isOrder_28 : decode cX8_isOrder 28 = .ok (.invokestatic 158, 3) := by decide +kernel
theorem dX8_isOrder_31 : decode cX8_isOrder 31 = .ok (.ifCond .eq 32, 3) := by decide +kernel
theorem dX8_isOrder_34 : decode cX8_isOrder 34 = .ok (.iload_n 3, 1) := by decide +kernel
theorem dX8_isOrder_35 : decode cX8_isOrder 35 = .ok (.i2l, 1) := by decide +kernel
theorem dX8_isOrder_36 : decode cX8_isOrder 36 = .ok (.lconst 1, 1) := by decide +kernel
theorem dX8_isOrder_37 : decode cX8_isOrder 37 = .ok (.ldc2_w 164, 3) := by decide +kernel
theorem dX8_isOrder_40 : decode cX8_isOrder 40 = .ok (.invokestatic 158, 3) := by decide +kernel
theorem dX8_isOrder_43 : decode cX8_isOrder 43 = .ok (.ifCond .eq 20, 3) := by decide +kernel
theorem dX8_isOrder_46 : decode cX8_isOrder 46 = .ok (.iload 4, 2) := by decide +kernel
theorem dX8_isOrder_48 : decode cX8_isOrder 48 = .ok (.i2l, 1) := by decide +kernel
theorem dX8_isOrder_49 : decode cX8_isOrder 49 = .ok (.lconst 0, 1) := by decide +kernel
theorem dX8_isOrder_50 : decode cX8_isOrder 50 = .ok (.ldc2_w 166, 3) := by decide +kernel
theorem dX8_isOrder_53 : decode cX8_isOrder 53 = .ok (.invokestatic 158, 3) := by decide +kernel
theorem dX8_isOrder_56 : decode cX8_isOrder 56 = .ok (.ifCond .eq 7, 3) := by decide +kernel
theorem dX8_isOrder_59 : decode cX8_isOrder 59 = .ok (.iconst 1, 1) := by decide +kernel
theorem dX8_isOrder_60 : decode cX8_isOrder 60 = .ok (.goto 4, 3) := by decide +kernel
theorem dX8_isOrder_63 : decode cX8_isOrder 63 = .ok (.iconst 0, 1) := by decide +kernel
theorem dX8_isOrder_64 : decode cX8_isOrder 64 = .ok (.ireturn, 1) := by decide +kernel
theorem dX8_isInt_0 : decode cX8_isInt 0 = .ok (.iload_n 0, 1) := by decide +kernel
theorem dX8_isInt_1 : decode cX8_isInt 1 = .ok (.i2l, 1) := by decide +kernel
theorem dX8_isInt_2 : decode cX8_isInt 2 = .ok (.iload_n 1, 1) := by decide +kernel
theorem dX8_isInt_3 : decode cX8_isInt 3 = .ok (.i2l, 1) := by decide +kernel
theorem dX8_isInt_4 : decode cX8_isInt 4 = .ok (.lmul, 1) := by decide +kernel
theorem dX8_isInt_5 : decode cX8_isInt 5 = .ok (.ldc2_w 168, 3) := by decide +kernel
theorem dX8_isInt_8 : decode cX8_isInt 8 = .ok (.lcmp, 1) := by decide +kernel
theorem dX8_isInt_9 : decode cX8_isInt 9 = .ok (.ifCond .gt 7, 3) := by decide +kernel
theorem dX8_isInt_12 : decode cX8_isInt 12 = .ok (.iconst 1, 1) := by decide +kernel
theorem dX8_isInt_13 : decode cX8_isInt 13 = .ok (.goto 4, 3) := by decide +kernel
theorem dX8_isInt_16 : decode cX8_isInt 16 = .ok (.iconst 0, 1) := by decide +kernel
theorem dX8_isInt_17 : decode cX8_isInt 17 = .ok (.ireturn, 1) := by decide +kernel
set_option maxRecDepth 20000 in
theorem ggX8_orders_X8_trading_h : GoodIn wsX8_orders [Cond.code yX8_trading cX8_trading 9 (some .int)] := goodIn_r _ [7] (by decide +kernel) (by decide +kernel)
set_option maxRecDepth 20000 in
theorem ggX8_orders_X8_trading_1 : GoodIn wsX8_orders wsX8_trading_r1 := goodIn_r _ [1, 2, 8, 9, 10, 6, 11, 12, 13, 14, 15, 16, 17, 18, 19, 20, 21, 22, 23, 24, 25, 26, 27, 28] (by decide +kernel) (by decide +kernel)
set_option maxRecDepth 20000 in
theorem ggX8_orders_X8_trading_2 : GoodIn wsX8_orders wsX8_trading_r2 := goodIn_r _ [29, 30, 31, 32, 33, 34, 35, 36, 37, 38, 39, 40, 41, 42, 43, 44, 45, 46, 47, 48, 49, 50, 51, 52] (by decide +kernel) (by decide +kernel)
set_option maxRecDepth 20000 in
theorem ggX8_orders_X8_trading_3 : GoodIn wsX8_orders wsX8_trading_r3 := goodIn_r _ [53, 54, 55, 56, 57, 58, 59, 60, 61, 62, 63, 64, 65, 66, 67, 68, 69, 70, 71, 72, 73, 74, 75, 76] (by decide +kernel) (by decide +kernel)
set_option maxRecDepth 20000 in
theorem ggX8_orders_X8_trading_4 : GoodIn wsX8_orders wsX8_trading_r4 := goodIn_r _ [77, 78, 79, 80, 81, 82, 83, 84, 85, 86, 87, 88, 89, 90, 91, 92, 93, 94, 95, 96, 97, 98, 99, 100] (by decide +kernel) (by decide +kernel)
set_option maxRecDepth 20000 in
theorem ggX8_orders_X8_trading_5 : GoodIn wsX8_orders wsX8_trading_r5 := goodIn_r _ [101, 102, 103, 104, 105, 106, 107, 108, 109, 110, 111, 112] (by decide +kernel) (by decide +kernel)
set_option maxRecDepth 20000 in
theorem ggX8_orders_X8_trading_6 : GoodIn wsX8_orders wsX80 := goodIn_r _ [113, 114, 115, 116, 117, 118, 119, 120, 121, 122, 123, 124, 125, 126, 127, 128, 129, 130, 131, 132, 133, 134, 135, 136, 137, 138, 139, 140, 141, 142, 143, 144] (by decide +kernel) (by decide +kernel)
theorem ggX8_orders_X8_trading : GoodIn wsX8_orders wsX8_trading := goodIn_app ggX8_orders_X8_trading_h (goodIn_app (goodIn_app ggX8_orders_X8_trading_1 (goodIn_app ggX8_orders_X8_trading_2 (goodIn_app ggX8_orders_X8_trading_3 (goodIn_app ggX8_orders_X8_trading_4 ggX8_orders_X8_trading_5)))) ggX8_orders_X8_trading_6)
set_option maxRecDepth 20000 in
theorem gX8_orders_X8_trading : GoodIn wsX8_orders (wsV RX8 170 RX8 yX8_trading wsX8_trading) := goodIn_app (goodIn_of _ (by decide +kernel)) ggX8_orders_X8_trading
set_option maxRecDepth 20000 in
theorem ggX8_orders_X8_comes : GoodIn wsX8_orders wsX8_comes := goodIn_r _ [11, 1, 2, 12, 13, 14, 15, 16, 17, 113, 114, 115, 116, 117, 118, 119, 120, 121, 122, 123, 124, 125, 126, 127, 128, 129, 130, 131, 132, 133, 134, 135, 136, 137, 138, 139, 140, 141, 142, 143, 144] (by decide +kernel) (by decide +kernel)
set_option maxRecDepth 20000 in
theorem gX8_orders_X8_comes : GoodIn wsX8_orders (wsV RX8 146 RX8 yX8_comes wsX8_comes) := goodIn_app (goodIn_of _ (by decide +kernel)) ggX8_orders_X8_comes
set_option maxRecDepth 20000 in
theorem ggX8_orders_X8_rests : GoodIn wsX8_orders wsX8_rests := goodIn_r _ [112, 1, 57, 58, 59, 6, 60, 113, 114, 115, 116, 117, 118, 119, 120, 121, 122, 123, 124, 125, 126, 127, 128, 129, 130, 131, 132, 133, 134, 135, 136, 137, 138, 139, 140, 141, 142, 143, 144] (by decide +kernel) (by decide +kernel)
set_option maxRecDepth 20000 in
theorem gX8_orders_X8_rests : GoodIn wsX8_orders (wsV RX8 152 RX8 yX8_rests wsX8_rests) := goodIn_app (goodIn_of _ (by decide +kernel)) ggX8_orders_X8_rests
theorem dX8_orders_0 : decode cX8_orders 0 = .ok (.aload_n 0, 1) := by decide +kernel
theorem dX8_orders_1 : decode cX8_orders 1 = .ok (.getfield 7, 3) := by decide +kernel
theorem dX8_orders_4 : decode cX8_orders 4 = .ok (.iconst 2, 1) := by decide +kernel
theorem dX8_orders_5 : decode cX8_orders 5 = .ok (.iaload, 1) := by decide +kernel
theorem dX8_orders_6 : decode cX8_orders 6 = .ok (.ifCond .ne 30, 3) := by decide +kernel
theorem dX8_orders_9 : decode cX8_orders 9 = .ok (.aload_n 0, 1) := by decide +kernel
theorem dX8_orders_10 : decode cX8_orders 10 = .ok (.iload_n 1, 1) := by decide +kernel
theorem dX8_orders_11 : decode cX8_orders 11 = .ok (.iload_n 2, 1) := by decide +kernel
theorem dX8_orders_12 : decode cX8_orders 12 = .ok (.iload_n 3, 1) := by decide +kernel
theorem dX8_orders_13 : decode cX8_orders 13 = .ok (.iload 4, 2) := by decide +kernel
theorem dX8_orders_15 : decode cX8_orders 15 = .ok (.iload 5, 2) := by decide +kernel
theorem dX8_orders_17 : decode cX8_orders 17 = .ok (.invokevirtual 170, 3) := by decide +kernel
theorem dX8_orders_20 : decode cX8_orders 20 = .ok (.istore 6, 2) := by decide +kernel
theorem dX8_orders_22 : decode cX8_orders 22 = .ok (.iload 6, 2) := by decide +kernel
theorem dX8_orders_24 : decode cX8_orders 24 = .ok (.ifCond .lt 10, 3) := by decide +kernel
theorem dX8_orders_27 : decode cX8_orders 27 = .ok (.aload_n 0, 1) := by decide +kernel
theorem dX8_orders_28 : decode cX8_orders 28 = .ok (.getfield 73, 3) := by decide +kernel
theorem dX8_orders_31 : decode cX8_orders 31 = .ok (.goto 4, 3) := by decide +kernel
theorem dX8_orders_34 : decode cX8_orders 34 = .ok (.iconst (-1), 1) := by decide +kernel
theorem dX8_orders_35 : decode cX8_orders 35 = .ok (.ireturn, 1) := by decide +kernel
theorem dX8_orders_36 : decode cX8_orders 36 = .ok (.aload_n 0, 1) := by decide +kernel
theorem dX8_orders_37 : decode cX8_orders 37 = .ok (.getfield 7, 3) := by decide +kernel
theorem dX8_orders_40 : decode cX8_orders 40 = .ok (.iconst 5, 1) := by decide +kernel
theorem dX8_orders_41 : decode cX8_orders 41 = .ok (.iaload, 1) := by decide +kernel
theorem dX8_orders_42 : decode cX8_orders 42 = .ok (.bipush 60, 2) := by decide +kernel
theorem dX8_orders_44 : decode cX8_orders 44 = .ok (.if_icmp .ne 6, 3) := by decide +kernel
theorem dX8_orders_47 : decode cX8_orders 47 = .ok (.bipush (-3), 2) := by decide +kernel
theorem dX8_orders_49 : decode cX8_orders 49 = .ok (.ireturn, 1) := by decide +kernel
theorem dX8_orders_50 : decode cX8_orders 50 = .ok (.aload_n 0, 1) := by decide +kernel
theorem dX8_orders_51 : decode cX8_orders 51 = .ok (.iload_n 1, 1) := by decide +kernel
theorem dX8_orders_52 : decode cX8_orders 52 = .ok (.iload_n 2, 1) := by decide +kernel
theorem dX8_orders_53 : decode cX8_orders 53 = .ok (.invokevirtual 146, 3) := by decide +kernel
theorem dX8_orders_56 : decode cX8_orders 56 = .ok (.aload_n 0, 1) := by decide +kernel
theorem dX8_orders_57 : decode cX8_orders 57 = .ok (.aload_n 0, 1) := by decide +kernel
theorem dX8_orders_58 : decode cX8_orders 58 = .ok (.getfield 73, 3) := by decide +kernel
theorem dX8_orders_61 : decode cX8_orders 61 = .ok (.iload_n 1, 1) := by decide +kernel
theorem dX8_orders_62 : decode cX8_orders 62 = .ok (.iload_n 2, 1) := by decide +kernel
theorem dX8_orders_63 : decode cX8_orders 63 = .ok (.iload_n 3, 1) := by decide +kernel
theorem dX8_orders_64 : decode cX8_orders 64 = .ok (.iload 4, 2) := by decide +kernel
theorem dX8_orders_66 : decode cX8_orders 66 = .ok (.iload 4, 2) := by decide +kernel
theorem dX8_orders_68 : decode cX8_orders 68 = .ok (.invokevirtual 152, 3) := by decide +kernel
theorem dX8_orders_71 : decode cX8_orders 71 = .ok (.aload_n 0, 1) := by decide +kernel
theorem dX8_orders_72 : decode cX8_orders 72 = .ok (.getfield 73, 3) := by decide +kernel
theorem dX8_orders_75 : decode cX8_orders 75 = .ok (.ireturn, 1) := by decide +kernel
set_option maxRecDepth 20000 in
theorem ggX8_order_X8_isOrder : GoodIn wsX8_order wsX8_isOrder := goodIn_r _ [5, 6, 7, 8, 9, 10, 11, 4, 12] (by decide +kernel) (by decide +kernel)
set_option maxRecDepth 20000 in
theorem gX8_order_X8_isOrder : GoodIn wsX8_order (va_wsS RX8 174 yX8_isOrder wsX8_isOrder) := goodIn_app (goodIn_of _ (by decide +kernel)) ggX8_order_X8_isOrder
set_option maxRecDepth 20000 in
theorem ggX8_order_X8_isInt : GoodIn wsX8_order wsX8_isInt := goodIn_r _ [15, 16] (by decide +kernel) (by decide +kernel)
set_option maxRecDepth 20000 in
theorem gX8_order_X8_isInt : GoodIn wsX8_order (va_wsS RX8 178 yX8_isInt wsX8_isInt) := goodIn_app (goodIn_of _ (by decide +kernel)) ggX8_order_X8_isInt
set_option maxRecDepth 20000 in
theorem ggX8_order_X8_orders_h : GoodIn wsX8_order [Cond.code yX8_orders cX8_orders 7 (some .int)] := goodIn_r _ [20] (by decide +kernel) (by decide +kernel)
set_option maxRecDepth 20000 in
theorem ggX8_order_X8_orders_1 : GoodIn wsX8_order wsX8_orders_r1 := goodIn_r _ [21, 22, 23, 24, 25, 4, 26, 27, 28, 29, 30, 31, 32, 33, 34, 35, 36, 37, 38, 39, 40, 41, 42, 43] (by decide +kernel) (by decide +kernel)
set_option maxRecDepth 20000 in
theorem ggX8_order_X8_orders_2 : GoodIn wsX8_order wsX8_orders_r2 := goodIn_r _ [44, 45, 46, 47, 48, 49, 50, 51, 52, 53, 54, 55, 56, 57, 58, 59, 60, 61, 62, 63, 64, 65, 66, 67] (by decide +kernel) (by decide +kernel)
set_option maxRecDepth 20000 in
theorem ggX8_order_X8_orders_3 : GoodIn wsX8_order wsX8_orders_r3 := goodIn_r _ [68, 69, 70, 71, 72, 73, 74, 75, 76, 77, 78, 79, 80, 81, 82, 83, 84, 85, 86, 87, 88, 89, 90, 91] (by decide +kernel) (by decide +kernel)
set_option maxRecDepth 20000 in
theorem ggX8_order_X8_orders_4 : GoodIn wsX8_order wsX8_orders_r4 := goodIn_r _ [92, 93, 94, 95, 96, 97, 98, 99, 100, 101, 102, 103, 104, 105, 106, 107, 108, 109, 110, 111, 112, 113, 114, 115] (by decide +kernel) (by decide +kernel)
set_option maxRecDepth 20000 in
theorem ggX8_order_X8_orders_5 : GoodIn wsX8_order wsX8_orders_r5 := goodIn_r _ [116, 117, 118, 119, 120, 121, 122, 123, 124, 125, 126, 127, 128, 129, 130, 131] (by decide +kernel) (by decide +kernel)
set_option maxRecDepth 20000 in
theorem ggX8_order_X8_orders_6 : GoodIn wsX8_order wsX80 := goodIn_r _ [132, 133, 134, 135, 136, 137, 138, 139, 140, 141, 142, 143, 144, 145, 146, 147, 148, 149, 150, 151, 152, 153, 154, 155, 156, 157, 158, 159, 160, 161, 162, 163] (by decide +kernel) (by decide +kernel)
theorem ggX8_order_X8_orders : GoodIn wsX8_order wsX8_orders := goodIn_app ggX8_order_X8_orders_h (goodIn_app (goodIn_app ggX8_order_X8_orders_1 (goodIn_app ggX8_order_X8_orders_2 (goodIn_app ggX8_order_X8_orders_3 (goodIn_app ggX8_order_X8_orders_4 ggX8_order_X8_orders_5)))) ggX8_order_X8_orders_6)
set_option maxRecDepth 20000 in
theorem gX8_order_X8_orders : GoodIn wsX8_order (wsV RX8 181 RX8 yX8_orders wsX8_orders) := goodIn_app (goodIn_of _ (by decide +kernel)) ggX8_order_X8_orders
theorem dX8_order_0 : decode cX8_order 0 = .ok (.aload_n 0, 1) := by decide +kernel
theorem dX8_order_1 : decode cX8_order 1 = .ok (.iconst 0, 1) := by decide +kernel
theorem dX8_order_2 : decode cX8_order 2 = .ok (.putfield 45, 3) := by decide +kernel
theorem dX8_order_5 : decode cX8_order 5 = .ok (.iload_n 1, 1) := by decide +kernel
theorem dX8_order_6 : decode cX8_order 6 = .ok (.iload_n 2, 1) := by decide +kernel
theorem dX8_order_7 : decode cX8_order 7 = .ok (.iload_n 3, 1) := by decide +kernel
theorem dX8_order_8 : decode cX8_order 8 = .ok (.iload 4, 2) := by decide +kernel
theorem dX8_order_10 : decode cX8_order 10 = .ok (.iload 5, 2) := by decide +kernel
theorem dX8_order_12 : decode cX8_order 12 = .ok (.invokestatic 174, 3) := by decide +kernel
theorem dX8_order_15 : decode cX8_order 15 = .ok (.ifCond .ne 5, 3) := by decide +kernel
theorem dX8_order_18 : decode cX8_order 18 = .ok (.iconst (-1), 1) := by decide +kernel
theorem dX8_order_19 : decode cX8_order 19 = .ok (.ireturn, 1) := by decide +kernel
theorem dX8_order_20 : decode cX8_order 20 = .ok (.iload_n 3, 1) := by decide +kernel
theorem dX8_order_21 : decode cX8_order 21 = .ok (.iload 4, 2) := by decide +kernel
theorem dX8_order_23 : decode cX8_order 23 = .ok (.invokestatic 178, 3) := by decide +kernel
theorem dX8_order_26 : decode cX8_order 26 = .ok (.ifCond .eq 17, 3) := by decide +kernel
theorem dX8_order_29 : decode cX8_order 29 = .ok (.aload_n 0, 1) := by decide +kernel
theorem dX8_order_30 : decode cX8_order 30 = .ok (.iload_n 1, 1) := by decide +kernel
theorem dX8_order_31 : decode cX8_order 31 = .ok (.iload_n 2, 1) := by decide +kernel
theorem dX8_order_32 : decode cX8_order 32 = .ok (.iload_n 3, 1) := by decide +kernel
theorem dX8_order_33 : decode cX8_order 33 = .ok (.iload 4, 2) := by decide +kernel
theorem dX8_order_35 : decode cX8_order 35 = .ok (.iload 5, 2) := by decide +kernel
theorem dX8_order_37 : decode cX8_order 37 = .ok (.invokevirtual 181, 3) := by decide +kernel
theorem dX8_order_40 : decode cX8_order 40 = .ok (.goto 5, 3) := by decide +kernel
theorem dX8_order_43 : decode cX8_order 43 = .ok (.bipush (-2), 2) := by decide +kernel
theorem dX8_order_45 : decode cX8_order 45 = .ok (.ireturn, 1) := by decide +kernel
set_option maxRecDepth 20000 in
theorem ggX8_takesOff_X8_placeOf : GoodIn wsX8_takesOff wsX8_placeOf := goodIn_r _ [5, 6, 7, 8, 9, 4, 10, 19, 20, 21, 22, 23, 24, 25, 26, 27, 28, 29, 30, 31, 32, 33, 34, 35, 36, 37, 38, 39, 40, 41, 42, 43, 44, 45, 46, 47, 48, 49, 50] (by decide +kernel) (by decide +kernel)
set_option maxRecDepth 20000 in
theorem gX8_takesOff_X8_placeOf : GoodIn wsX8_takesOff (wsV RX8 184 RX8 yX8_placeOf wsX8_placeOf) := goodIn_app (goodIn_of _ (by decide +kernel)) ggX8_takesOff_X8_placeOf
set_option maxRecDepth 20000 in
theorem ggX8_takesOff_X8_ofOrder : GoodIn wsX8_takesOff wsX8_ofOrder := goodIn_r _ [10, 6, 19, 20, 21, 22, 23, 24, 25, 26, 27, 28, 29, 30, 31, 32, 33, 34, 35, 36, 37, 38, 39, 40, 41, 42, 43, 44, 45, 46, 47, 48, 49, 50] (by decide +kernel) (by decide +kernel)
set_option maxRecDepth 20000 in
theorem gX8_takesOff_X8_ofOrder : GoodIn wsX8_takesOff (wsV RX8 49 RX8 yX8_ofOrder wsX8_ofOrder) := goodIn_app (goodIn_of _ (by decide +kernel)) ggX8_takesOff_X8_ofOrder
set_option maxRecDepth 20000 in
theorem ggX8_takesOff_X8_goes : GoodIn wsX8_takesOff wsX8_goes := goodIn_r _ [14, 6, 7, 8, 9, 4, 10, 15, 16, 17, 18, 19, 20, 21, 22, 23, 24, 25, 26, 27, 28, 29, 30, 31, 32, 33, 34, 35, 36, 37, 38, 39, 40, 41, 42, 43, 44, 45, 46, 47, 48, 49, 50] (by decide +kernel) (by decide +kernel)
set_option maxRecDepth 20000 in
theorem gX8_takesOff_X8_goes : GoodIn wsX8_takesOff (wsV RX8 104 RX8 yX8_goes wsX8_goes) := goodIn_app (goodIn_of _ (by decide +kernel)) ggX8_takesOff_X8_goes
theorem dX8_takesOff_0 : decode cX8_takesOff 0 = .ok (.aload_n 0, 1) := by decide +kernel
theorem dX8_takesOff_1 : decode cX8_takesOff 1 = .ok (.iload_n 1, 1) := by decide +kernel
theorem dX8_takesOff_2 : decode cX8_takesOff 2 = .ok (.invokevirtual 184, 3) := by decide +kernel
theorem dX8_takesOff_5 : decode cX8_takesOff 5 = .ok (.istore_n 2, 1) := by decide +kernel
theorem dX8_takesOff_6 : decode cX8_takesOff 6 = .ok (.iload_n 2, 1) := by decide +kernel
theorem dX8_takesOff_7 : decode cX8_takesOff 7 = .ok (.ifCond .ge 5, 3) := by decide +kernel
theorem dX8_takesOff_10 : decode cX8_takesOff 10 = .ok (.iconst (-1), 1) := by decide +kernel
theorem dX8_takesOff_11 : decode cX8_takesOff 11 = .ok (.ireturn, 1) := by decide +kernel
theorem dX8_takesOff_12 : decode cX8_takesOff 12 = .ok (.aload_n 0, 1) := by decide +kernel
theorem dX8_takesOff_13 : decode cX8_takesOff 13 = .ok (.iload_n 2, 1) := by decide +kernel
theorem dX8_takesOff_14 : decode cX8_takesOff 14 = .ok (.iconst 4, 1) := by decide +kernel
theorem dX8_takesOff_15 : decode cX8_takesOff 15 = .ok (.invokevirtual 49, 3) := by decide +kernel
theorem dX8_takesOff_18 : decode cX8_takesOff 18 = .ok (.istore_n 3, 1) := by decide +kernel
theorem dX8_takesOff_19 : decode cX8_takesOff 19 = .ok (.aload_n 0, 1) := by decide +kernel
theorem dX8_takesOff_20 : decode cX8_takesOff 20 = .ok (.iload_n 2, 1) := by decide +kernel
theorem dX8_takesOff_21 : decode cX8_takesOff 21 = .ok (.invokevirtual 104, 3) := by decide +kernel
theorem dX8_takesOff_24 : decode cX8_takesOff 24 = .ok (.iload_n 3, 1) := by decide +kernel
theorem dX8_takesOff_25 : decode cX8_takesOff 25 = .ok (.ireturn, 1) := by decide +kernel
set_option maxRecDepth 20000 in
theorem ggX8_off_X8_takesOff : GoodIn wsX8_off wsX8_takesOff := goodIn_r _ [6, 7, 8, 9, 5, 10, 11, 12, 13, 14, 15, 16, 17, 18, 19, 20, 21, 22, 23, 24, 25, 26, 27, 28, 29, 30, 31, 32, 33, 34, 35, 36, 37, 38, 39, 40, 41, 42, 43, 44, 45, 46, 47, 48, 49, 50, 51, 52, 53, 54, 55] (by decide +kernel) (by decide +kernel)
set_option maxRecDepth 20000 in
theorem gX8_off_X8_takesOff : GoodIn wsX8_off (wsV RX8 187 RX8 yX8_takesOff wsX8_takesOff) := goodIn_app (goodIn_of _ (by decide +kernel)) ggX8_off_X8_takesOff
theorem dX8_off_0 : decode cX8_off 0 = .ok (.aload_n 0, 1) := by decide +kernel
theorem dX8_off_1 : decode cX8_off 1 = .ok (.iconst 0, 1) := by decide +kernel
theorem dX8_off_2 : decode cX8_off 2 = .ok (.putfield 45, 3) := by decide +kernel
theorem dX8_off_5 : decode cX8_off 5 = .ok (.aload_n 0, 1) := by decide +kernel
theorem dX8_off_6 : decode cX8_off 6 = .ok (.iload_n 1, 1) := by decide +kernel
theorem dX8_off_7 : decode cX8_off 7 = .ok (.invokevirtual 187, 3) := by decide +kernel
theorem dX8_off_10 : decode cX8_off 10 = .ok (.ireturn, 1) := by decide +kernel
set_option maxRecDepth 20000 in
theorem ggX8_cuts_X8_placeOf : GoodIn wsX8_cuts wsX8_placeOf := goodIn_r _ [6, 1, 7, 8, 9, 5, 10, 19, 20, 21, 22, 23, 24, 25, 26, 27, 28, 29, 30, 31, 32, 33, 34, 35, 36, 37, 38, 39, 40, 41, 42, 43, 44, 45, 46, 47, 48, 49, 50] (by decide +kernel) (by decide +kernel)
set_option maxRecDepth 20000 in
theorem gX8_cuts_X8_placeOf : GoodIn wsX8_cuts (wsV RX8 184 RX8 yX8_placeOf wsX8_placeOf) := goodIn_app (goodIn_of _ (by decide +kernel)) ggX8_cuts_X8_placeOf
set_option maxRecDepth 20000 in
theorem ggX8_cuts_X8_ofOrder : GoodIn wsX8_cuts wsX8_ofOrder := goodIn_r _ [10, 1, 19, 20, 21, 22, 23, 24, 25, 26, 27, 28, 29, 30, 31, 32, 33, 34, 35, 36, 37, 38, 39, 40, 41, 42, 43, 44, 45, 46, 47, 48, 49, 50] (by decide +kernel) (by decide +kernel)
set_option maxRecDepth 20000 in
theorem gX8_cuts_X8_ofOrder : GoodIn wsX8_cuts (wsV RX8 49 RX8 yX8_ofOrder wsX8_ofOrder) := goodIn_app (goodIn_of _ (by decide +kernel)) ggX8_cuts_X8_ofOrder
set_option maxRecDepth 20000 in
theorem ggX8_cuts_X8_setOrder : GoodIn wsX8_cuts wsX8_setOrder := goodIn_r _ [14, 1, 19, 20, 21, 22, 23, 24, 25, 26, 27, 28, 29, 30, 31, 32, 33, 34, 35, 36, 37, 38, 39, 40, 41, 42, 43, 44, 45, 46, 47, 48, 49, 50] (by decide +kernel) (by decide +kernel)
set_option maxRecDepth 20000 in
theorem gX8_cuts_X8_setOrder : GoodIn wsX8_cuts (wsV RX8 64 RX8 yX8_setOrder wsX8_setOrder) := goodIn_app (goodIn_of _ (by decide +kernel)) ggX8_cuts_X8_setOrder
set_option maxRecDepth 20000 in
theorem ggX8_cuts_X8_lapses : GoodIn wsX8_cuts wsX8_lapses := goodIn_r _ [18, 1, 19, 20, 21, 22, 23, 24, 25, 26, 27, 28, 29, 30, 31, 32, 33, 34, 35, 36, 37, 38, 39, 40, 41, 42, 43, 44, 45, 46, 47, 48, 49, 50] (by decide +kernel) (by decide +kernel)
set_option maxRecDepth 20000 in
theorem gX8_cuts_X8_lapses : GoodIn wsX8_cuts (wsV RX8 60 RX8 yX8_lapses wsX8_lapses) := goodIn_app (goodIn_of _ (by decide +kernel)) ggX8_cuts_X8_lapses
theorem dX8_cuts_0 : decode cX8_cuts 0 = .ok (.aload_n 0, 1) := by decide +kernel
theorem dX8_cuts_1 : decode cX8_cuts 1 = .ok (.iload_n 1, 1) := by decide +kernel
theorem dX8_cuts_2 : decode cX8_cuts 2 = .ok (.invokevirtual 184, 3) := by decide +kernel
theorem dX8_cuts_5 : decode cX8_cuts 5 = .ok (.istore_n 3, 1) := by decide +kernel
theorem dX8_cuts_6 : decode cX8_cuts 6 = .ok (.iload_n 3, 1) := by decide +kernel
theorem dX8_cuts_7 : decode cX8_cuts 7 = .ok (.ifCond .lt 18, 3) := by decide +kernel
theorem dX8_cuts_10 : decode cX8_cuts 10 = .ok (.iload_n 2, 1) := by decide +kernel
theorem dX8_cuts_11 : decode cX8_cuts 11 = .ok (.iconst 1, 1) := by decide +kernel
theorem dX8_cuts_12 : decode cX8_cuts 12 = .ok (.if_icmp .lt 13, 3) := by decide +kernel
theorem dX8_cuts_15 : decode cX8_cuts 15 = .ok (.iload_n 2, 1) := by decide +kernel
theorem dX8_cuts_16 : decode cX8_cuts 16 = .ok (.aload_n 0, 1) := by decide +kernel
theorem dX8_cuts_17 : decode cX8_cuts 17 = .ok (.iload_n 3, 1) := by decide +kernel
theorem dX8_cuts_18 : decode cX8_cuts 18 = .ok (.iconst 4, 1) := by decide +kernel
theorem dX8_cuts_19 : decode cX8_cuts 19 = .ok (.invokevirtual 49, 3) := by decide +kernel
theorem dX8_cuts_22 : decode cX8_cuts 22 = .ok (.if_icmp .lt 5, 3) := by decide +kernel
theorem dX8_cuts_25 : decode cX8_cuts 25 = .ok (.iconst (-1), 1) := by decide +kernel
theorem dX8_cuts_26 : decode cX8_cuts 26 = .ok (.ireturn, 1) := by decide +kernel
theorem dX8_cuts_27 : decode cX8_cuts 27 = .ok (.aload_n 0, 1) := by decide +kernel
theorem dX8_cuts_28 : decode cX8_cuts 28 = .ok (.iload_n 3, 1) := by decide +kernel
theorem dX8_cuts_29 : decode cX8_cuts 29 = .ok (.iconst 4, 1) := by decide +kernel
theorem dX8_cuts_30 : decode cX8_cuts 30 = .ok (.invokevirtual 49, 3) := by decide +kernel
theorem dX8_cuts_33 : decode cX8_cuts 33 = .ok (.istore 4, 2) := by decide +kernel
theorem dX8_cuts_35 : decode cX8_cuts 35 = .ok (.aload_n 0, 1) := by decide +kernel
theorem dX8_cuts_36 : decode cX8_cuts 36 = .ok (.iload_n 3, 1) := by decide +kernel
theorem dX8_cuts_37 : decode cX8_cuts 37 = .ok (.iconst 2, 1) := by decide +kernel
theorem dX8_cuts_38 : decode cX8_cuts 38 = .ok (.invokevirtual 49, 3) := by decide +kernel
theorem dX8_cuts_41 : decode cX8_cuts 41 = .ok (.istore 5, 2) := by decide +kernel
theorem dX8_cuts_43 : decode cX8_cuts 43 = .ok (.aload_n 0, 1) := by decide +kernel
theorem dX8_cuts_44 : decode cX8_cuts 44 = .ok (.iload_n 3, 1) := by decide +kernel
theorem dX8_cuts_45 : decode cX8_cuts 45 = .ok (.iconst 4, 1) := by decide +kernel
theorem dX8_cuts_46 : decode cX8_cuts 46 = .ok (.iload_n 2, 1) := by decide +kernel
theorem dX8_cuts_47 : decode cX8_cuts 47 = .ok (.invokevirtual 64, 3) := by decide +kernel
theorem dX8_cuts_50 : decode cX8_cuts 50 = .ok (.aload_n 0, 1) := by decide +kernel
theorem dX8_cuts_51 : decode cX8_cuts 51 = .ok (.getfield 7, 3) := by decide +kernel
theorem dX8_cuts_54 : decode cX8_cuts 54 = .ok (.bipush 6, 2) := by decide +kernel
theorem dX8_cuts_56 : decode cX8_cuts 56 = .ok (.iload 5, 2) := by decide +kernel
theorem dX8_cuts_58 : decode cX8_cuts 58 = .ok (.iadd, 1) := by decide +kernel
theorem dX8_cuts_59 : decode cX8_cuts 59 = .ok (.iaload, 1) := by decide +kernel
theorem dX8_cuts_60 : decode cX8_cuts 60 = .ok (.iload_n 1, 1) := by decide +kernel
theorem dX8_cuts_61 : decode cX8_cuts 61 = .ok (.if_icmp .ne 9, 3) := by decide +kernel
theorem dX8_cuts_64 : decode cX8_cuts 64 = .ok (.aload_n 0, 1) := by decide +kernel
theorem dX8_cuts_65 : decode cX8_cuts 65 = .ok (.iload 5, 2) := by decide +kernel
theorem dX8_cuts_67 : decode cX8_cuts 67 = .ok (.invokevirtual 60, 3) := by decide +kernel
theorem dX8_cuts_70 : decode cX8_cuts 70 = .ok (.iload 4, 2) := by decide +kernel
theorem dX8_cuts_72 : decode cX8_cuts 72 = .ok (.ireturn, 1) := by decide +kernel
set_option maxRecDepth 20000 in
theorem ggX8_cut_X8_cuts : GoodIn wsX8_cut wsX8_cuts := goodIn_r _ [6, 7, 8, 9, 10, 5, 11, 12, 13, 14, 15, 16, 17, 18, 19, 20, 21, 22, 23, 24, 25, 26, 27, 28, 29, 30, 31, 32, 33, 34, 35, 36, 37, 38, 39, 40, 41, 42, 43, 44, 45, 46, 47, 48, 49, 50, 51, 52, 53, 54, 55] (by decide +kernel) (by decide +kernel)
set_option maxRecDepth 20000 in
theorem gX8_cut_X8_cuts : GoodIn wsX8_cut (wsV RX8 190 RX8 yX8_cuts wsX8_cuts) := goodIn_app (goodIn_of _ (by decide +kernel)) ggX8_cut_X8_cuts
theorem dX8_cut_0 : decode cX8_cut 0 = .ok (.aload_n 0, 1) := by decide +kernel
theorem dX8_cut_1 : decode cX8_cut 1 = .ok (.iconst 0, 1) := by decide +kernel
theorem dX8_cut_2 : decode cX8_cut 2 = .ok (.putfield 45, 3) := by decide +kernel
theorem dX8_cut_5 : decode cX8_cut 5 = .ok (.aload_n 0, 1) := by decide +kernel
theorem dX8_cut_6 : decode cX8_cut 6 = .ok (.iload_n 1, 1) := by decide +kernel
theorem dX8_cut_7 : decode cX8_cut 7 = .ok (.iload_n 2, 1) := by decide +kernel
theorem dX8_cut_8 : decode cX8_cut 8 = .ok (.invokevirtual 190, 3) := by decide +kernel
theorem dX8_cut_11 : decode cX8_cut 11 = .ok (.ireturn, 1) := by decide +kernel
set_option maxRecDepth 20000 in
theorem ggX8_sets_X8_within : GoodIn wsX8_sets wsX8_within := goodIn_r _ [5] (by decide +kernel) (by decide +kernel)
set_option maxRecDepth 20000 in
theorem gX8_sets_X8_within : GoodIn wsX8_sets (va_wsS RX8 158 yX8_within wsX8_within) := goodIn_app (goodIn_of _ (by decide +kernel)) ggX8_sets_X8_within
theorem dX8_sets_0 : decode cX8_sets 0 = .ok (.iload_n 2, 1) := by decide +kernel
theorem dX8_sets_1 : decode cX8_sets 1 = .ok (.i2l, 1) := by decide +kernel
theorem dX8_sets_2 : decode cX8_sets 2 = .ok (.iload_n 3, 1) := by decide +kernel
theorem dX8_sets_3 : decode cX8_sets 3 = .ok (.i2l, 1) := by decide +kernel
theorem dX8_sets_4 : decode cX8_sets 4 = .ok (.iload 4, 2) := by decide +kernel
theorem dX8_sets_6 : decode cX8_sets 6 = .ok (.i2l, 1) := by decide +kernel
theorem dX8_sets_7 : decode cX8_sets 7 = .ok (.invokestatic 158, 3) := by decide +kernel
theorem dX8_sets_10 : decode cX8_sets 10 = .ok (.ifCond .ne 5, 3) := by decide +kernel
theorem dX8_sets_13 : decode cX8_sets 13 = .ok (.iconst (-1), 1) := by decide +kernel
theorem dX8_sets_14 : decode cX8_sets 14 = .ok (.ireturn, 1) := by decide +kernel
theorem dX8_sets_15 : decode cX8_sets 15 = .ok (.aload_n 0, 1) := by decide +kernel
theorem dX8_sets_16 : decode cX8_sets 16 = .ok (.getfield 7, 3) := by decide +kernel
theorem dX8_sets_19 : decode cX8_sets 19 = .ok (.iload_n 1, 1) := by decide +kernel
theorem dX8_sets_20 : decode cX8_sets 20 = .ok (.iaload, 1) := by decide +kernel
theorem dX8_sets_21 : decode cX8_sets 21 = .ok (.istore 5, 2) := by decide +kernel
theorem dX8_sets_23 : decode cX8_sets 23 = .ok (.aload_n 0, 1) := by decide +kernel
theorem dX8_sets_24 : decode cX8_sets 24 = .ok (.getfield 7, 3) := by decide +kernel
theorem dX8_sets_27 : decode cX8_sets 27 = .ok (.iload_n 1, 1) := by decide +kernel
theorem dX8_sets_28 : decode cX8_sets 28 = .ok (.iload_n 2, 1) := by decide +kernel
theorem dX8_sets_29 : decode cX8_sets 29 = .ok (.iastore, 1) := by decide +kernel
theorem dX8_sets_30 : decode cX8_sets 30 = .ok (.iload 5, 2) := by decide +kernel
theorem dX8_sets_32 : decode cX8_sets 32 = .ok (.ireturn, 1) := by decide +kernel
set_option maxRecDepth 20000 in
theorem ggX8_grant_X8_sets : GoodIn wsX8_grant wsX8_sets := goodIn_r _ [6, 7, 8, 9, 5, 10, 11, 12, 13, 14, 15, 16, 17, 18, 19, 20, 21, 22, 23, 24, 25, 26, 27, 28, 29, 30, 31, 32, 33, 34, 35, 36, 37, 38, 39, 40, 41, 42] (by decide +kernel) (by decide +kernel)
set_option maxRecDepth 20000 in
theorem gX8_grant_X8_sets : GoodIn wsX8_grant (wsV RX8 193 RX8 yX8_sets wsX8_sets) := goodIn_app (goodIn_of _ (by decide +kernel)) ggX8_grant_X8_sets
theorem dX8_grant_0 : decode cX8_grant 0 = .ok (.aload_n 0, 1) := by decide +kernel
theorem dX8_grant_1 : decode cX8_grant 1 = .ok (.iconst 0, 1) := by decide +kernel
theorem dX8_grant_2 : decode cX8_grant 2 = .ok (.putfield 45, 3) := by decide +kernel
theorem dX8_grant_5 : decode cX8_grant 5 = .ok (.aload_n 0, 1) := by decide +kernel
theorem dX8_grant_6 : decode cX8_grant 6 = .ok (.iconst 0, 1) := by decide +kernel
theorem dX8_grant_7 : decode cX8_grant 7 = .ok (.iload_n 1, 1) := by decide +kernel
theorem dX8_grant_8 : decode cX8_grant 8 = .ok (.iconst 0, 1) := by decide +kernel
theorem dX8_grant_9 : decode cX8_grant 9 = .ok (.sipush 1000, 3) := by decide +kernel
theorem dX8_grant_12 : decode cX8_grant 12 = .ok (.invokevirtual 193, 3) := by decide +kernel
theorem dX8_grant_15 : decode cX8_grant 15 = .ok (.ireturn, 1) := by decide +kernel
set_option maxRecDepth 20000 in
theorem ggX8_least_X8_sets : GoodIn wsX8_least wsX8_sets := goodIn_r _ [6, 7, 8, 9, 5, 10, 11, 12, 13, 14, 15, 16, 17, 18, 19, 20, 21, 22, 23, 24, 25, 26, 27, 28, 29, 30, 31, 32, 33, 34, 35, 36, 37, 38, 39, 40, 41, 42] (by decide +kernel) (by decide +kernel)
set_option maxRecDepth 20000 in
theorem gX8_least_X8_sets : GoodIn wsX8_least (wsV RX8 193 RX8 yX8_sets wsX8_sets) := goodIn_app (goodIn_of _ (by decide +kernel)) ggX8_least_X8_sets
theorem dX8_least_0 : decode cX8_least 0 = .ok (.aload_n 0, 1) := by decide +kernel
theorem dX8_least_1 : decode cX8_least 1 = .ok (.iconst 0, 1) := by decide +kernel
theorem dX8_least_2 : decode cX8_least 2 = .ok (.putfield 45, 3) := by decide +kernel
theorem dX8_least_5 : decode cX8_least 5 = .ok (.aload_n 0, 1) := by decide +kernel
theorem dX8_least_6 : decode cX8_least 6 = .ok (.iconst 1, 1) := by decide +kernel
theorem dX8_least_7 : decode cX8_least 7 = .ok (.iload_n 1, 1) := by decide +kernel
theorem dX8_least_8 : decode cX8_least 8 = .ok (.iconst 1, 1) := by decide +kernel
theorem dX8_least_9 : decode cX8_least 9 = .ok (.bipush 50, 2) := by decide +kernel
theorem dX8_least_11 : decode cX8_least 11 = .ok (.invokevirtual 193, 3) := by decide +kernel
theorem dX8_least_14 : decode cX8_least 14 = .ok (.ireturn, 1) := by decide +kernel
set_option maxRecDepth 20000 in
theorem ggX8_calls_X8_lapses : GoodIn wsX8_calls wsX8_lapses := goodIn_r _ [6, 1, 7, 8, 9, 10, 11, 12, 13, 14, 15, 16, 17, 18, 19, 20, 21, 22, 23, 24, 25, 26, 27, 28, 29, 30, 31, 32, 33, 34, 35, 36, 37, 38] (by decide +kernel) (by decide +kernel)
set_option maxRecDepth 20000 in
theorem gX8_calls_X8_lapses : GoodIn wsX8_calls (wsV RX8 60 RX8 yX8_lapses wsX8_lapses) := goodIn_app (goodIn_of _ (by decide +kernel)) ggX8_calls_X8_lapses
theorem dX8_calls_0 : decode cX8_calls 0 = .ok (.aload_n 0, 1) := by decide +kernel
theorem dX8_calls_1 : decode cX8_calls 1 = .ok (.getfield 7, 3) := by decide +kernel
theorem dX8_calls_4 : decode cX8_calls 4 = .ok (.iconst 2, 1) := by decide +kernel
theorem dX8_calls_5 : decode cX8_calls 5 = .ok (.iaload, 1) := by decide +kernel
theorem dX8_calls_6 : decode cX8_calls 6 = .ok (.iconst 1, 1) := by decide +kernel
theorem dX8_calls_7 : decode cX8_calls 7 = .ok (.if_icmp .ne 5, 3) := by decide +kernel
theorem dX8_calls_10 : decode cX8_calls 10 = .ok (.iconst 0, 1) := by decide +kernel
theorem dX8_calls_11 : decode cX8_calls 11 = .ok (.ireturn, 1) := by decide +kernel
theorem dX8_calls_12 : decode cX8_calls 12 = .ok (.aload_n 0, 1) := by decide +kernel
theorem dX8_calls_13 : decode cX8_calls 13 = .ok (.getfield 7, 3) := by decide +kernel
theorem dX8_calls_16 : decode cX8_calls 16 = .ok (.iconst 2, 1) := by decide +kernel
theorem dX8_calls_17 : decode cX8_calls 17 = .ok (.iconst 1, 1) := by decide +kernel
theorem dX8_calls_18 : decode cX8_calls 18 = .ok (.iastore, 1) := by decide +kernel
theorem dX8_calls_19 : decode cX8_calls 19 = .ok (.aload_n 0, 1) := by decide +kernel
theorem dX8_calls_20 : decode cX8_calls 20 = .ok (.iconst 0, 1) := by decide +kernel
theorem dX8_calls_21 : decode cX8_calls 21 = .ok (.invokevirtual 60, 3) := by decide +kernel
theorem dX8_calls_24 : decode cX8_calls 24 = .ok (.aload_n 0, 1) := by decide +kernel
theorem dX8_calls_25 : decode cX8_calls 25 = .ok (.iconst 1, 1) := by decide +kernel
theorem dX8_calls_26 : decode cX8_calls 26 = .ok (.invokevirtual 60, 3) := by decide +kernel
theorem dX8_calls_29 : decode cX8_calls 29 = .ok (.iconst 1, 1) := by decide +kernel
theorem dX8_calls_30 : decode cX8_calls 30 = .ok (.ireturn, 1) := by decide +kernel
set_option maxRecDepth 20000 in
theorem ggX8_call_X8_calls : GoodIn wsX8_call wsX8_calls := goodIn_r _ [6, 7, 8, 9, 10, 5, 11, 12, 13, 14, 15, 16, 17, 18, 19, 20, 21, 22, 23, 24, 25, 26, 27, 28, 29, 30, 31, 32, 33, 34, 35, 36, 37, 38, 39, 40, 41, 42, 43] (by decide +kernel) (by decide +kernel)
set_option maxRecDepth 20000 in
theorem gX8_call_X8_calls : GoodIn wsX8_call (wsV RX8 197 RX8 yX8_calls wsX8_calls) := goodIn_app (goodIn_of _ (by decide +kernel)) ggX8_call_X8_calls
theorem dX8_call_0 : decode cX8_call 0 = .ok (.aload_n 0, 1) := by decide +kernel
theorem dX8_call_1 : decode cX8_call 1 = .ok (.iconst 0, 1) := by decide +kernel
theorem dX8_call_2 : decode cX8_call 2 = .ok (.putfield 45, 3) := by decide +kernel
theorem dX8_call_5 : decode cX8_call 5 = .ok (.aload_n 0, 1) := by decide +kernel
theorem dX8_call_6 : decode cX8_call 6 = .ok (.invokevirtual 197, 3) := by decide +kernel
theorem dX8_call_9 : decode cX8_call 9 = .ok (.ireturn, 1) := by decide +kernel
set_option maxRecDepth 20000 in
theorem ggX8_wanted_X8_ofOrder : GoodIn wsX8_wanted wsX8_ofOrder := goodIn_r _ [6, 1, 10, 11, 12, 13, 14, 15, 16, 17, 18, 19, 20, 21, 22, 23, 24, 25, 26, 27, 28, 29, 30, 31, 32, 33, 34, 35, 36, 37, 38, 39, 40, 41] (by decide +kernel) (by decide +kernel)
set_option maxRecDepth 20000 in
theorem gX8_wanted_X8_ofOrder : GoodIn wsX8_wanted (wsV RX8 49 RX8 yX8_ofOrder wsX8_ofOrder) := goodIn_app (goodIn_of _ (by decide +kernel)) ggX8_wanted_X8_ofOrder
set_option maxRecDepth 20000 in
theorem ggX8_wanted_X8_isBetter : GoodIn wsX8_wanted wsX8_isBetter := goodIn_r _ [9] (by decide +kernel) (by decide +kernel)
set_option maxRecDepth 20000 in
theorem gX8_wanted_X8_isBetter : GoodIn wsX8_wanted (va_wsS RX8 53 yX8_isBetter wsX8_isBetter) := goodIn_app (goodIn_of _ (by decide +kernel)) ggX8_wanted_X8_isBetter
theorem dX8_wanted_0 : decode cX8_wanted 0 = .ok (.iconst 0, 1) := by decide +kernel
theorem dX8_wanted_1 : decode cX8_wanted 1 = .ok (.istore_n 3, 1) := by decide +kernel
theorem dX8_wanted_2 : decode cX8_wanted 2 = .ok (.iconst 0, 1) := by decide +kernel
theorem dX8_wanted_3 : decode cX8_wanted 3 = .ok (.istore 4, 2) := by decide +kernel
theorem dX8_wanted_5 : decode cX8_wanted 5 = .ok (.iload 4, 2) := by decide +kernel
theorem dX8_wanted_7 : decode cX8_wanted 7 = .ok (.aload_n 0, 1) := by decide +kernel
theorem dX8_wanted_8 : decode cX8_wanted 8 = .ok (.getfield 7, 3) := by decide +kernel
theorem dX8_wanted_11 : decode cX8_wanted 11 = .ok (.iconst 5, 1) := by decide +kernel
theorem dX8_wanted_12 : decode cX8_wanted 12 = .ok (.iaload, 1) := by decide +kernel
theorem dX8_wanted_13 : decode cX8_wanted 13 = .ok (.if_icmp .ge 45, 3) := by decide +kernel
theorem dX8_wanted_16 : decode cX8_wanted 16 = .ok (.aload_n 0, 1) := by decide +kernel
theorem dX8_wanted_17 : decode cX8_wanted 17 = .ok (.iload 4, 2) := by decide +kernel
theorem dX8_wanted_19 : decode cX8_wanted 19 = .ok (.iconst 2, 1) := by decide +kernel
theorem dX8_wanted_20 : decode cX8_wanted 20 = .ok (.invokevirtual 49, 3) := by decide +kernel
theorem dX8_wanted_23 : decode cX8_wanted 23 = .ok (.iload_n 1, 1) := by decide +kernel
theorem dX8_wanted_24 : decode cX8_wanted 24 = .ok (.if_icmp .ne 28, 3) := by decide +kernel
theorem dX8_wanted_27 : decode cX8_wanted 27 = .ok (.iload_n 1, 1) := by decide +kernel
theorem dX8_wanted_28 : decode cX8_wanted 28 = .ok (.iload_n 2, 1) := by decide +kernel
theorem dX8_wanted_29 : decode cX8_wanted 29 = .ok (.aload_n 0, 1) := by decide +kernel
theorem dX8_wanted_30 : decode cX8_wanted 30 = .ok (.iload 4, 2) := by decide +kernel
theorem dX8_wanted_32 : decode cX8_wanted 32 = .ok (.iconst 3, 1) := by decide +kernel
theorem dX8_wanted_33 : decode cX8_wanted 33 = .ok (.invokevirtual 49, 3) := by decide +kernel
theorem dX8_wanted_36 : decode cX8_wanted 36 = .ok (.invokestatic 53, 3) := by decide +kernel
theorem dX8_wanted_39 : decode cX8_wanted 39 = .ok (.ifCond .ne 13, 3) := by decide +kernel
theorem dX8_wanted_42 : decode cX8_wanted 42 = .ok (.iload_n 3, 1) := by decide +kernel
theorem dX8_wanted_43 : decode cX8_wanted 43 = .ok (.aload_n 0, 1) := by decide +kernel
theorem dX8_wanted_44 : decode cX8_wanted 44 = .ok (.iload 4, 2) := by decide +kernel
theorem dX8_wanted_46 : decode cX8_wanted 46 = .ok (.iconst 4, 1) := by decide +kernel
theorem dX8_wanted_47 : decode cX8_wanted 47 = .ok (.invokevirtual 49, 3) := by decide +kernel
theorem dX8_wanted_50 : decode cX8_wanted 50 = .ok (.iadd, 1) := by decide +kernel
theorem dX8_wanted_51 : decode cX8_wanted 51 = .ok (.istore_n 3, 1) := by decide +kernel
theorem dX8_wanted_52 : decode cX8_wanted 52 = .ok (.iinc 4 1, 3) := by decide +kernel
theorem dX8_wanted_55 : decode cX8_wanted 55 = .ok (.goto (-50), 3) := by decide +kernel
theorem dX8_wanted_58 : decode cX8_wanted 58 = .ok (.iload_n 3, 1) := by decide +kernel
theorem dX8_wanted_59 : decode cX8_wanted 59 = .ok (.ireturn, 1) := by decide +kernel
theorem dX8_off0_0 : decode cX8_off0 0 = .ok (.iload_n 0, 1) := by decide +kernel
theorem dX8_off0_1 : decode cX8_off0 1 = .ok (.iload_n 1, 1) := by decide +kernel
theorem dX8_off0_2 : decode cX8_off0 2 = .ok (.if_icmp .le 9, 3) := by decide +kernel
theorem dX8_off0_5 : decode cX8_off0 5 = .ok (.iload_n 0, 1) := by decide +kernel
theorem dX8_off0_6 : decode cX8_off0 6 = .ok (.iload_n 1, 1) := by decide +kernel
theorem dX8_off0_7 : decode cX8_off0 7 = .ok (.isub, 1) := by decide +kernel
theorem dX8_off0_8 : decode cX8_off0 8 = .ok (.goto 6, 3) := by decide +kernel
theorem dX8_off0_11 : decode cX8_off0 11 = .ok (.iload_n 1, 1) := by decide +kernel
theorem dX8_off0_12 : decode cX8_off0 12 = .ok (.iload_n 0, 1) := by decide +kernel
theorem dX8_off0_13 : decode cX8_off0 13 = .ok (.isub, 1) := by decide +kernel
theorem dX8_off0_14 : decode cX8_off0 14 = .ok (.ireturn, 1) := by decide +kernel
set_option maxRecDepth 20000 in
theorem ggX8_endOf_X8_ofOrder : GoodIn wsX8_endOf wsX8_ofOrder := goodIn_r _ [7, 2, 8, 9, 10, 11, 12, 13, 14, 15, 16, 17, 18, 19, 20, 21, 22, 23, 24, 25, 26, 27, 28, 29, 30, 31, 32, 33, 34, 35, 36, 37, 38, 39] (by decide +kernel) (by decide +kernel)
