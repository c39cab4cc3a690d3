theorem dX8_priceBehind_5 : decode cX8_priceBehind 5 = .ok (.iload 4, 2) := by decide +kernel
theorem dX8_priceBehind_7 : decode cX8_priceBehind 7 = .ok (.aload_n 0, 1) := by decide +kernel
theorem dX8_priceBehind_8 : decode cX8_priceBehind 8 = .ok (.getfield 7, 3) := by decide +kernel
theorem dX8_priceBehind_11 : decode cX8_priceBehind 11 = .ok (.iconst 5, 1) := by decide +kernel
theorem dX8_priceBehind_12 : decode cX8_priceBehind 12 = .ok (.iaload, 1) := by decide +kernel
theorem dX8_priceBehind_13 : decode cX8_priceBehind 13 = .ok (.if_icmp .ge 66, 3) := by decide +kernel
theorem dX8_priceBehind_16 : decode cX8_priceBehind 16 = .ok (.aload_n 0, 1) := by decide +kernel
theorem dX8_priceBehind_17 : decode cX8_priceBehind 17 = .ok (.iload 4, 2) := by decide +kernel
theorem dX8_priceBehind_19 : decode cX8_priceBehind 19 = .ok (.iconst 2, 1) := by decide +kernel
theorem dX8_priceBehind_20 : decode cX8_priceBehind 20 = .ok (.invokevirtual 49, 3) := by decide +kernel
theorem dX8_priceBehind_23 : decode cX8_priceBehind 23 = .ok (.iload_n 1, 1) := by decide +kernel
theorem dX8_priceBehind_24 : decode cX8_priceBehind 24 = .ok (.if_icmp .eq 6, 3) := by decide +kernel
theorem dX8_priceBehind_27 : decode cX8_priceBehind 27 = .ok (.goto 46, 3) := by decide +kernel
theorem dX8_priceBehind_30 : decode cX8_priceBehind 30 = .ok (.aload_n 0, 1) := by decide +kernel
theorem dX8_priceBehind_31 : decode cX8_priceBehind 31 = .ok (.iload 4, 2) := by decide +kernel
theorem dX8_priceBehind_33 : decode cX8_priceBehind 33 = .ok (.iconst 3, 1) := by decide +kernel
theorem dX8_priceBehind_34 : decode cX8_priceBehind 34 = .ok (.invokevirtual 49, 3) := by decide +kernel
theorem dX8_priceBehind_37 : decode cX8_priceBehind 37 = .ok (.istore 5, 2) := by decide +kernel
theorem dX8_priceBehind_39 : decode cX8_priceBehind 39 = .ok (.iload_n 2, 1) := by decide +kernel
theorem dX8_priceBehind_40 : decode cX8_priceBehind 40 = .ok (.ifCond .eq 16, 3) := by decide +kernel
theorem dX8_priceBehind_43 : decode cX8_priceBehind 43 = .ok (.iload_n 1, 1) := by decide +kernel
theorem dX8_priceBehind_44 : decode cX8_priceBehind 44 = .ok (.iload_n 2, 1) := by decide +kernel
theorem dX8_priceBehind_45 : decode cX8_priceBehind 45 = .ok (.iload 5, 2) := by decide +kernel
theorem dX8_priceBehind_47 : decode cX8_priceBehind 47 = .ok (.invokestatic 53, 3) := by decide +kernel
theorem dX8_priceBehind_50 : decode cX8_priceBehind 50 = .ok (.ifCond .ne 6, 3) := by decide +kernel
theorem dX8_priceBehind_53 : decode cX8_priceBehind 53 = .ok (.goto 20, 3) := by decide +kernel
theorem dX8_priceBehind_56 : decode cX8_priceBehind 56 = .ok (.iload_n 3, 1) := by decide +kernel
theorem dX8_priceBehind_57 : decode cX8_priceBehind 57 = .ok (.ifCond .eq 13, 3) := by decide +kernel
theorem dX8_priceBehind_60 : decode cX8_priceBehind 60 = .ok (.iload_n 1, 1) := by decide +kernel
theorem dX8_priceBehind_61 : decode cX8_priceBehind 61 = .ok (.iload 5, 2) := by decide +kernel
theorem dX8_priceBehind_63 : decode cX8_priceBehind 63 = .ok (.iload_n 3, 1) := by decide +kernel
theorem dX8_priceBehind_64 : decode cX8_priceBehind 64 = .ok (.invokestatic 53, 3) := by decide +kernel
theorem dX8_priceBehind_67 : decode cX8_priceBehind 67 = .ok (.ifCond .eq 6, 3) := by decide +kernel
theorem dX8_priceBehind_70 : decode cX8_priceBehind 70 = .ok (.iload 5, 2) := by decide +kernel
theorem dX8_priceBehind_72 : decode cX8_priceBehind 72 = .ok (.istore_n 3, 1) := by decide +kernel
theorem dX8_priceBehind_73 : decode cX8_priceBehind 73 = .ok (.iinc 4 1, 3) := by decide +kernel
theorem dX8_priceBehind_76 : decode cX8_priceBehind 76 = .ok (.goto (-71), 3) := by decide +kernel
theorem dX8_priceBehind_79 : decode cX8_priceBehind 79 = .ok (.iload_n 3, 1) := by decide +kernel
theorem dX8_priceBehind_80 : decode cX8_priceBehind 80 = .ok (.ireturn, 1) := by decide +kernel
set_option maxRecDepth 20000 in
theorem ggX8_ordersAt_X8_isAt : GoodIn wsX8_ordersAt wsX8_isAt := goodIn_r _ [6, 7, 8, 9, 5, 10, 1, 11, 12, 13, 14, 15, 16, 17, 18, 19, 20, 21, 22, 23, 24, 25, 26, 27, 28, 29, 30, 31, 32, 33, 34, 35, 36, 37, 38, 39, 40, 41, 42] (by decide +kernel) (by decide +kernel)
set_option maxRecDepth 20000 in
theorem gX8_ordersAt_X8_isAt : GoodIn wsX8_ordersAt (wsV RX8 57 RX8 yX8_isAt wsX8_isAt) := goodIn_app (goodIn_of _ (by decide +kernel)) ggX8_ordersAt_X8_isAt
theorem dX8_ordersAt_0 : decode cX8_ordersAt 0 = .ok (.iconst 0, 1) := by decide +kernel
theorem dX8_ordersAt_1 : decode cX8_ordersAt 1 = .ok (.istore_n 3, 1) := by decide +kernel
theorem dX8_ordersAt_2 : decode cX8_ordersAt 2 = .ok (.iconst 0, 1) := by decide +kernel
theorem dX8_ordersAt_3 : decode cX8_ordersAt 3 = .ok (.istore 4, 2) := by decide +kernel
theorem dX8_ordersAt_5 : decode cX8_ordersAt 5 = .ok (.iload 4, 2) := by decide +kernel
theorem dX8_ordersAt_7 : decode cX8_ordersAt 7 = .ok (.aload_n 0, 1) := by decide +kernel
theorem dX8_ordersAt_8 : decode cX8_ordersAt 8 = .ok (.getfield 7, 3) := by decide +kernel
theorem dX8_ordersAt_11 : decode cX8_ordersAt 11 = .ok (.iconst 5, 1) := by decide +kernel
theorem dX8_ordersAt_12 : decode cX8_ordersAt 12 = .ok (.iaload, 1) := by decide +kernel
theorem dX8_ordersAt_13 : decode cX8_ordersAt 13 = .ok (.if_icmp .ge 23, 3) := by decide +kernel
theorem dX8_ordersAt_16 : decode cX8_ordersAt 16 = .ok (.aload_n 0, 1) := by decide +kernel
theorem dX8_ordersAt_17 : decode cX8_ordersAt 17 = .ok (.iload 4, 2) := by decide +kernel
theorem dX8_ordersAt_19 : decode cX8_ordersAt 19 = .ok (.iload_n 1, 1) := by decide +kernel
theorem dX8_ordersAt_20 : decode cX8_ordersAt 20 = .ok (.iload_n 2, 1) := by decide +kernel
theorem dX8_ordersAt_21 : decode cX8_ordersAt 21 = .ok (.invokevirtual 57, 3) := by decide +kernel
theorem dX8_ordersAt_24 : decode cX8_ordersAt 24 = .ok (.ifCond .eq 6, 3) := by decide +kernel
theorem dX8_ordersAt_27 : decode cX8_ordersAt 27 = .ok (.iinc 3 1, 3) := by decide +kernel
theorem dX8_ordersAt_30 : decode cX8_ordersAt 30 = .ok (.iinc 4 1, 3) := by decide +kernel
theorem dX8_ordersAt_33 : decode cX8_ordersAt 33 = .ok (.goto (-28), 3) := by decide +kernel
theorem dX8_ordersAt_36 : decode cX8_ordersAt 36 = .ok (.iload_n 3, 1) := by decide +kernel
theorem dX8_ordersAt_37 : decode cX8_ordersAt 37 = .ok (.ireturn, 1) := by decide +kernel
set_option maxRecDepth 20000 in
theorem ggX8_level_X8_within : GoodIn wsX8_level wsX8_within := goodIn_r _ [6] (by decide +kernel) (by decide +kernel)
set_option maxRecDepth 20000 in
theorem gX8_level_X8_within : GoodIn wsX8_level (va_wsS RX8 158 yX8_within wsX8_within) := goodIn_app (goodIn_of _ (by decide +kernel)) ggX8_level_X8_within
set_option maxRecDepth 20000 in
theorem ggX8_level_X8_priceBehind : GoodIn wsX8_level wsX8_priceBehind := goodIn_r _ [10, 11, 12, 13, 14, 5, 15, 16, 17, 18, 31, 32, 33, 34, 35, 36, 37, 38, 39, 40, 41, 42, 43, 44, 45, 46, 47, 48, 49, 50, 51, 52, 53, 54, 55, 56, 57, 58, 59, 60, 61, 62] (by decide +kernel) (by decide +kernel)
set_option maxRecDepth 20000 in
theorem gX8_level_X8_priceBehind : GoodIn wsX8_level (wsV RX8 240 RX8 yX8_priceBehind wsX8_priceBehind) := goodIn_app (goodIn_of _ (by decide +kernel)) ggX8_level_X8_priceBehind
set_option maxRecDepth 20000 in
theorem ggX8_level_X8_sizesAt : GoodIn wsX8_level wsX8_sizesAt := goodIn_r _ [22, 11, 23, 24, 25, 5, 26, 12, 13, 14, 15, 31, 32, 33, 34, 35, 36, 37, 38, 39, 40, 41, 42, 43, 44, 45, 46, 47, 48, 49, 50, 51, 52, 53, 54, 55, 56, 57, 58, 59, 60, 61, 62] (by decide +kernel) (by decide +kernel)
set_option maxRecDepth 20000 in
theorem gX8_level_X8_sizesAt : GoodIn wsX8_level (wsV RX8 140 RX8 yX8_sizesAt wsX8_sizesAt) := goodIn_app (goodIn_of _ (by decide +kernel)) ggX8_level_X8_sizesAt
set_option maxRecDepth 20000 in
theorem ggX8_level_X8_ordersAt : GoodIn wsX8_level wsX8_ordersAt := goodIn_r _ [30, 11, 23, 24, 25, 5, 26, 12, 13, 14, 15, 31, 32, 33, 34, 35, 36, 37, 38, 39, 40, 41, 42, 43, 44, 45, 46, 47, 48, 49, 50, 51, 52, 53, 54, 55, 56, 57, 58, 59, 60, 61, 62] (by decide +kernel) (by decide +kernel)
set_option maxRecDepth 20000 in
theorem gX8_level_X8_ordersAt : GoodIn wsX8_level (wsV RX8 243 RX8 yX8_ordersAt wsX8_ordersAt) := goodIn_app (goodIn_of _ (by decide +kernel)) ggX8_level_X8_ordersAt
theorem dX8_level_0 : decode cX8_level 0 = .ok (.aload_n 0, 1) := by decide +kernel
theorem dX8_level_1 : decode cX8_level 1 = .ok (.iconst 0, 1) := by decide +kernel
theorem dX8_level_2 : decode cX8_level 2 = .ok (.putfield 45, 3) := by decide +kernel
theorem dX8_level_5 : decode cX8_level 5 = .ok (.iload_n 1, 1) := by decide +kernel
theorem dX8_level_6 : decode cX8_level 6 = .ok (.i2l, 1) := by decide +kernel
theorem dX8_level_7 : decode cX8_level 7 = .ok (.lconst 0, 1) := by decide +kernel
theorem dX8_level_8 : decode cX8_level 8 = .ok (.lconst 1, 1) := by decide +kernel
theorem dX8_level_9 : decode cX8_level 9 = .ok (.invokestatic 158, 3) := by decide +kernel
theorem dX8_level_12 : decode cX8_level 12 = .ok (.ifCond .eq 20, 3) := by decide +kernel
theorem dX8_level_15 : decode cX8_level 15 = .ok (.iload_n 3, 1) := by decide +kernel
theorem dX8_level_16 : decode cX8_level 16 = .ok (.i2l, 1) := by decide +kernel
theorem dX8_level_17 : decode cX8_level 17 = .ok (.lconst 0, 1) := by decide +kernel
theorem dX8_level_18 : decode cX8_level 18 = .ok (.ldc2_w 238, 3) := by decide +kernel
theorem dX8_level_21 : decode cX8_level 21 = .ok (.invokestatic 158, 3) := by decide +kernel
theorem dX8_level_24 : decode cX8_level 24 = .ok (.ifCond .eq 8, 3) := by decide +kernel
theorem dX8_level_27 : decode cX8_level 27 = .ok (.iload_n 2, 1) := by decide +kernel
theorem dX8_level_28 : decode cX8_level 28 = .ok (.iconst (-1), 1) := by decide +kernel
theorem dX8_level_29 : decode cX8_level 29 = .ok (.if_icmp .ge 5, 3) := by decide +kernel
theorem dX8_level_32 : decode cX8_level 32 = .ok (.iconst (-1), 1) := by decide +kernel
theorem dX8_level_33 : decode cX8_level 33 = .ok (.ireturn, 1) := by decide +kernel
theorem dX8_level_34 : decode cX8_level 34 = .ok (.iconst 0, 1) := by decide +kernel
theorem dX8_level_35 : decode cX8_level 35 = .ok (.istore 4, 2) := by decide +kernel
theorem dX8_level_37 : decode cX8_level 37 = .ok (.aload_n 0, 1) := by decide +kernel
theorem dX8_level_38 : decode cX8_level 38 = .ok (.iload_n 1, 1) := by decide +kernel
theorem dX8_level_39 : decode cX8_level 39 = .ok (.iconst 0, 1) := by decide +kernel
theorem dX8_level_40 : decode cX8_level 40 = .ok (.invokevirtual 240, 3) := by decide +kernel
theorem dX8_level_43 : decode cX8_level 43 = .ok (.istore 5, 2) := by decide +kernel
theorem dX8_level_45 : decode cX8_level 45 = .ok (.iload 5, 2) := by decide +kernel
theorem dX8_level_47 : decode cX8_level 47 = .ok (.ifCond .le 56, 3) := by decide +kernel
theorem dX8_level_50 : decode cX8_level 50 = .ok (.iload 4, 2) := by decide +kernel
theorem dX8_level_52 : decode cX8_level 52 = .ok (.iload_n 2, 1) := by decide +kernel
theorem dX8_level_53 : decode cX8_level 53 = .ok (.if_icmp .ne 35, 3) := by decide +kernel
theorem dX8_level_56 : decode cX8_level 56 = .ok (.iload_n 3, 1) := by decide +kernel
theorem dX8_level_57 : decode cX8_level 57 = .ok (.ifCond .ne 8, 3) := by decide +kernel
theorem dX8_level_60 : decode cX8_level 60 = .ok (.iload 5, 2) := by decide +kernel
theorem dX8_level_62 : decode cX8_level 62 = .ok (.goto 25, 3) := by decide +kernel
theorem dX8_level_65 : decode cX8_level 65 = .ok (.iload_n 3, 1) := by decide +kernel
theorem dX8_level_66 : decode cX8_level 66 = .ok (.iconst 1, 1) := by decide +kernel
theorem dX8_level_67 : decode cX8_level 67 = .ok (.if_icmp .ne 13, 3) := by decide +kernel
theorem dX8_level_70 : decode cX8_level 70 = .ok (.aload_n 0, 1) := by decide +kernel
theorem dX8_level_71 : decode cX8_level 71 = .ok (.iload_n 1, 1) := by decide +kernel
theorem dX8_level_72 : decode cX8_level 72 = .ok (.iload 5, 2) := by decide +kernel
theorem dX8_level_74 : decode cX8_level 74 = .ok (.invokevirtual 140, 3) := by decide +kernel
theorem dX8_level_77 : decode cX8_level 77 = .ok (.goto 10, 3) := by decide +kernel
theorem dX8_level_80 : decode cX8_level 80 = .ok (.aload_n 0, 1) := by decide +kernel
theorem dX8_level_81 : decode cX8_level 81 = .ok (.iload_n 1, 1) := by decide +kernel
theorem dX8_level_82 : decode cX8_level 82 = .ok (.iload 5, 2) := by decide +kernel
theorem dX8_level_84 : decode cX8_level 84 = .ok (.invokevirtual 243, 3) := by decide +kernel
theorem dX8_level_87 : decode cX8_level 87 = .ok (.ireturn, 1) := by decide +kernel
theorem dX8_level_88 : decode cX8_level 88 = .ok (.iinc 4 1, 3) := by decide +kernel
theorem dX8_level_91 : decode cX8_level 91 = .ok (.aload_n 0, 1) := by decide +kernel
theorem dX8_level_92 : decode cX8_level 92 = .ok (.iload_n 1, 1) := by decide +kernel
theorem dX8_level_93 : decode cX8_level 93 = .ok (.iload 5, 2) := by decide +kernel
theorem dX8_level_95 : decode cX8_level 95 = .ok (.invokevirtual 240, 3) := by decide +kernel
theorem dX8_level_98 : decode cX8_level 98 = .ok (.istore 5, 2) := by decide +kernel
theorem dX8_level_100 : decode cX8_level 100 = .ok (.goto (-55), 3) := by decide +kernel
theorem dX8_level_103 : decode cX8_level 103 = .ok (.iload_n 2, 1) := by decide +kernel
theorem dX8_level_104 : decode cX8_level 104 = .ok (.iconst (-1), 1) := by decide +kernel
theorem dX8_level_105 : decode cX8_level 105 = .ok (.if_icmp .ne 8, 3) := by decide +kernel
theorem dX8_level_108 : decode cX8_level 108 = .ok (.iload 4, 2) := by decide +kernel
theorem dX8_level_110 : decode cX8_level 110 = .ok (.goto 4, 3) := by decide +kernel
theorem dX8_level_113 : decode cX8_level 113 = .ok (.iconst (-1), 1) := by decide +kernel
theorem dX8_level_114 : decode cX8_level 114 = .ok (.ireturn, 1) := by decide +kernel
set_option maxRecDepth 20000 in
theorem ggX8_queue_X8_isAt : GoodIn wsX8_queue wsX8_isAt := goodIn_r _ [7, 8, 9, 10, 6, 11, 2, 12, 13, 14, 15, 16, 17, 18, 19, 20, 21, 22, 23, 24, 25, 26, 27, 28, 29, 30, 31, 32, 33, 34, 35, 36, 37, 38, 39, 40, 41, 42, 43] (by decide +kernel) (by decide +kernel)
set_option maxRecDepth 20000 in
theorem gX8_queue_X8_isAt : GoodIn wsX8_queue (wsV RX8 57 RX8 yX8_isAt wsX8_isAt) := goodIn_app (goodIn_of _ (by decide +kernel)) ggX8_queue_X8_isAt
set_option maxRecDepth 20000 in
theorem ggX8_queue_X8_ofOrder : GoodIn wsX8_queue wsX8_ofOrder := goodIn_r _ [11, 2, 12, 13, 14, 15, 16, 17, 18, 19, 20, 21, 22, 23, 24, 25, 26, 27, 28, 29, 30, 31, 32, 33, 34, 35, 36, 37, 38, 39, 40, 41, 42, 43] (by decide +kernel) (by decide +kernel)
set_option maxRecDepth 20000 in
theorem gX8_queue_X8_ofOrder : GoodIn wsX8_queue (wsV RX8 49 RX8 yX8_ofOrder wsX8_ofOrder) := goodIn_app (goodIn_of _ (by decide +kernel)) ggX8_queue_X8_ofOrder
theorem dX8_queue_0 : decode cX8_queue 0 = .ok (.aload_n 0, 1) := by decide +kernel
theorem dX8_queue_1 : decode cX8_queue 1 = .ok (.iconst 0, 1) := by decide +kernel
theorem dX8_queue_2 : decode cX8_queue 2 = .ok (.putfield 45, 3) := by decide +kernel
theorem dX8_queue_5 : decode cX8_queue 5 = .ok (.iconst 0, 1) := by decide +kernel
theorem dX8_queue_6 : decode cX8_queue 6 = .ok (.istore 4, 2) := by decide +kernel
theorem dX8_queue_8 : decode cX8_queue 8 = .ok (.iconst 0, 1) := by decide +kernel
theorem dX8_queue_9 : decode cX8_queue 9 = .ok (.istore 5, 2) := by decide +kernel
theorem dX8_queue_11 : decode cX8_queue 11 = .ok (.iload 5, 2) := by decide +kernel
theorem dX8_queue_13 : decode cX8_queue 13 = .ok (.aload_n 0, 1) := by decide +kernel
theorem dX8_queue_14 : decode cX8_queue 14 = .ok (.getfield 7, 3) := by decide +kernel
theorem dX8_queue_17 : decode cX8_queue 17 = .ok (.iconst 5, 1) := by decide +kernel
theorem dX8_queue_18 : decode cX8_queue 18 = .ok (.iaload, 1) := by decide +kernel
theorem dX8_queue_19 : decode cX8_queue 19 = .ok (.if_icmp .ge 40, 3) := by decide +kernel
theorem dX8_queue_22 : decode cX8_queue 22 = .ok (.aload_n 0, 1) := by decide +kernel
theorem dX8_queue_23 : decode cX8_queue 23 = .ok (.iload 5, 2) := by decide +kernel
theorem dX8_queue_25 : decode cX8_queue 25 = .ok (.iload_n 1, 1) := by decide +kernel
theorem dX8_queue_26 : decode cX8_queue 26 = .ok (.iload_n 2, 1) := by decide +kernel
theorem dX8_queue_27 : decode cX8_queue 27 = .ok (.invokevirtual 57, 3) := by decide +kernel
theorem dX8_queue_30 : decode cX8_queue 30 = .ok (.ifCond .ne 6, 3) := by decide +kernel
theorem dX8_queue_33 : decode cX8_queue 33 = .ok (.goto 20, 3) := by decide +kernel
theorem dX8_queue_36 : decode cX8_queue 36 = .ok (.iload 4, 2) := by decide +kernel
theorem dX8_queue_38 : decode cX8_queue 38 = .ok (.iload_n 3, 1) := by decide +kernel
theorem dX8_queue_39 : decode cX8_queue 39 = .ok (.if_icmp .ne 11, 3) := by decide +kernel
theorem dX8_queue_42 : decode cX8_queue 42 = .ok (.aload_n 0, 1) := by decide +kernel
theorem dX8_queue_43 : decode cX8_queue 43 = .ok (.iload 5, 2) := by decide +kernel
theorem dX8_queue_45 : decode cX8_queue 45 = .ok (.iconst 0, 1) := by decide +kernel
theorem dX8_queue_46 : decode cX8_queue 46 = .ok (.invokevirtual 49, 3) := by decide +kernel
theorem dX8_queue_49 : decode cX8_queue 49 = .ok (.ireturn, 1) := by decide +kernel
theorem dX8_queue_50 : decode cX8_queue 50 = .ok (.iinc 4 1, 3) := by decide +kernel
theorem dX8_queue_53 : decode cX8_queue 53 = .ok (.iinc 5 1, 3) := by decide +kernel
theorem dX8_queue_56 : decode cX8_queue 56 = .ok (.goto (-45), 3) := by decide +kernel
theorem dX8_queue_59 : decode cX8_queue 59 = .ok (.iconst (-1), 1) := by decide +kernel
theorem dX8_queue_60 : decode cX8_queue 60 = .ok (.ireturn, 1) := by decide +kernel
set_option maxRecDepth 20000 in
theorem ggX8_top_X8_within : GoodIn wsX8_top wsX8_within := goodIn_r _ [6] (by decide +kernel) (by decide +kernel)
set_option maxRecDepth 20000 in
theorem gX8_top_X8_within : GoodIn wsX8_top (va_wsS RX8 158 yX8_within wsX8_within) := goodIn_app (goodIn_of _ (by decide +kernel)) ggX8_top_X8_within
theorem dX8_top_0 : decode cX8_top 0 = .ok (.aload_n 0, 1) := by decide +kernel
theorem dX8_top_1 : decode cX8_top 1 = .ok (.iconst 0, 1) := by decide +kernel
theorem dX8_top_2 : decode cX8_top 2 = .ok (.putfield 45, 3) := by decide +kernel
theorem dX8_top_5 : decode cX8_top 5 = .ok (.iload_n 1, 1) := by decide +kernel
theorem dX8_top_6 : decode cX8_top 6 = .ok (.i2l, 1) := by decide +kernel
theorem dX8_top_7 : decode cX8_top 7 = .ok (.lconst 0, 1) := by decide +kernel
theorem dX8_top_8 : decode cX8_top 8 = .ok (.lconst 1, 1) := by decide +kernel
theorem dX8_top_9 : decode cX8_top 9 = .ok (.invokestatic 158, 3) := by decide +kernel
theorem dX8_top_12 : decode cX8_top 12 = .ok (.ifCond .eq 15, 3) := by decide +kernel
theorem dX8_top_15 : decode cX8_top 15 = .ok (.aload_n 0, 1) := by decide +kernel
theorem dX8_top_16 : decode cX8_top 16 = .ok (.getfield 7, 3) := by decide +kernel
theorem dX8_top_19 : decode cX8_top 19 = .ok (.bipush 6, 2) := by decide +kernel
theorem dX8_top_21 : decode cX8_top 21 = .ok (.iload_n 1, 1) := by decide +kernel
theorem dX8_top_22 : decode cX8_top 22 = .ok (.iadd, 1) := by decide +kernel
theorem dX8_top_23 : decode cX8_top 23 = .ok (.iaload, 1) := by decide +kernel
theorem dX8_top_24 : decode cX8_top 24 = .ok (.goto 4, 3) := by decide +kernel
theorem dX8_top_27 : decode cX8_top 27 = .ok (.iconst (-1), 1) := by decide +kernel
theorem dX8_top_28 : decode cX8_top 28 = .ok (.ireturn, 1) := by decide +kernel
set_option maxRecDepth 20000 in
theorem ggX8_ahead_X8_placeOf : GoodIn wsX8_ahead wsX8_placeOf := goodIn_r _ [7, 2, 8, 9, 10, 6, 11, 18, 19, 20, 21, 22, 23, 24, 25, 26, 27, 28, 29, 30, 31, 32, 33, 34, 35, 36, 37, 38, 39, 40, 41, 42, 43, 44, 45, 46, 47, 48, 49] (by decide +kernel) (by decide +kernel)
set_option maxRecDepth 20000 in
theorem gX8_ahead_X8_placeOf : GoodIn wsX8_ahead (wsV RX8 184 RX8 yX8_placeOf wsX8_placeOf) := goodIn_app (goodIn_of _ (by decide +kernel)) ggX8_ahead_X8_placeOf
set_option maxRecDepth 20000 in
theorem ggX8_ahead_X8_within : GoodIn wsX8_ahead wsX8_within := goodIn_r _ [14] (by decide +kernel) (by decide +kernel)
set_option maxRecDepth 20000 in
theorem gX8_ahead_X8_within : GoodIn wsX8_ahead (va_wsS RX8 158 yX8_within wsX8_within) := goodIn_app (goodIn_of _ (by decide +kernel)) ggX8_ahead_X8_within
set_option maxRecDepth 20000 in
theorem ggX8_ahead_X8_ofOrder : GoodIn wsX8_ahead wsX8_ofOrder := goodIn_r _ [11, 2, 18, 19, 20, 21, 22, 23, 24, 25, 26, 27, 28, 29, 30, 31, 32, 33, 34, 35, 36, 37, 38, 39, 40, 41, 42, 43, 44, 45, 46, 47, 48, 49] (by decide +kernel) (by decide +kernel)
set_option maxRecDepth 20000 in
theorem gX8_ahead_X8_ofOrder : GoodIn wsX8_ahead (wsV RX8 49 RX8 yX8_ofOrder wsX8_ofOrder) := goodIn_app (goodIn_of _ (by decide +kernel)) ggX8_ahead_X8_ofOrder
set_option maxRecDepth 20000 in
theorem ggX8_ahead_X8_isBetter : GoodIn wsX8_ahead wsX8_isBetter := goodIn_r _ [17] (by decide +kernel) (by decide +kernel)
set_option maxRecDepth 20000 in
theorem gX8_ahead_X8_isBetter : GoodIn wsX8_ahead (va_wsS RX8 53 yX8_isBetter wsX8_isBetter) := goodIn_app (goodIn_of _ (by decide +kernel)) ggX8_ahead_X8_isBetter
theorem dX8_ahead_0 : decode cX8_ahead 0 = .ok (.aload_n 0, 1) := by decide +kernel
theorem dX8_ahead_1 : decode cX8_ahead 1 = .ok (.iconst 0, 1) := by decide +kernel
theorem dX8_ahead_2 : decode cX8_ahead 2 = .ok (.putfield 45, 3) := by decide +kernel
theorem dX8_ahead_5 : decode cX8_ahead 5 = .ok (.aload_n 0, 1) := by decide +kernel
theorem dX8_ahead_6 : decode cX8_ahead 6 = .ok (.iload_n 1, 1) := by decide +kernel
theorem dX8_ahead_7 : decode cX8_ahead 7 = .ok (.invokevirtual 184, 3) := by decide +kernel
theorem dX8_ahead_10 : decode cX8_ahead 10 = .ok (.istore_n 3, 1) := by decide +kernel
theorem dX8_ahead_11 : decode cX8_ahead 11 = .ok (.iload_n 3, 1) := by decide +kernel
theorem dX8_ahead_12 : decode cX8_ahead 12 = .ok (.ifCond .lt 13, 3) := by decide +kernel
theorem dX8_ahead_15 : decode cX8_ahead 15 = .ok (.iload_n 2, 1) := by decide +kernel
theorem dX8_ahead_16 : decode cX8_ahead 16 = .ok (.i2l, 1) := by decide +kernel
theorem dX8_ahead_17 : decode cX8_ahead 17 = .ok (.lconst 0, 1) := by decide +kernel
theorem dX8_ahead_18 : decode cX8_ahead 18 = .ok (.lconst 1, 1) := by decide +kernel
theorem dX8_ahead_19 : decode cX8_ahead 19 = .ok (.invokestatic 158, 3) := by decide +kernel
theorem dX8_ahead_22 : decode cX8_ahead 22 = .ok (.ifCond .ne 5, 3) := by decide +kernel
theorem dX8_ahead_25 : decode cX8_ahead 25 = .ok (.iconst (-1), 1) := by decide +kernel
theorem dX8_ahead_26 : decode cX8_ahead 26 = .ok (.ireturn, 1) := by decide +kernel
theorem dX8_ahead_27 : decode cX8_ahead 27 = .ok (.aload_n 0, 1) := by decide +kernel
theorem dX8_ahead_28 : decode cX8_ahead 28 = .ok (.iload_n 3, 1) := by decide +kernel
theorem dX8_ahead_29 : decode cX8_ahead 29 = .ok (.iconst 2, 1) := by decide +kernel
theorem dX8_ahead_30 : decode cX8_ahead 30 = .ok (.invokevirtual 49, 3) := by decide +kernel
theorem dX8_ahead_33 : decode cX8_ahead 33 = .ok (.istore 4, 2) := by decide +kernel
theorem dX8_ahead_35 : decode cX8_ahead 35 = .ok (.iconst 0, 1) := by decide +kernel
theorem dX8_ahead_36 : decode cX8_ahead 36 = .ok (.istore 5, 2) := by decide +kernel
theorem dX8_ahead_38 : decode cX8_ahead 38 = .ok (.iconst 0, 1) := by decide +kernel
theorem dX8_ahead_39 : decode cX8_ahead 39 = .ok (.istore 6, 2) := by decide +kernel
theorem dX8_ahead_41 : decode cX8_ahead 41 = .ok (.iload 6, 2) := by decide +kernel
theorem dX8_ahead_43 : decode cX8_ahead 43 = .ok (.aload_n 0, 1) := by decide +kernel
theorem dX8_ahead_44 : decode cX8_ahead 44 = .ok (.getfield 7, 3) := by decide +kernel
theorem dX8_ahead_47 : decode cX8_ahead 47 = .ok (.iconst 5, 1) := by decide +kernel
theorem dX8_ahead_48 : decode cX8_ahead 48 = .ok (.iaload, 1) := by decide +kernel
theorem dX8_ahead_49 : decode cX8_ahead 49 = .ok (.if_icmp .ge 95, 3) := by decide +kernel
theorem dX8_ahead_52 : decode cX8_ahead 52 = .ok (.aload_n 0, 1) := by decide +kernel
theorem dX8_ahead_53 : decode cX8_ahead 53 = .ok (.iload 6, 2) := by decide +kernel
theorem dX8_ahead_55 : decode cX8_ahead 55 = .ok (.iconst 2, 1) := by decide +kernel
theorem dX8_ahead_56 : decode cX8_ahead 56 = .ok (.invokevirtual 49, 3) := by decide +kernel
theorem dX8_ahead_59 : decode cX8_ahead 59 = .ok (.iload 4, 2) := by decide +kernel
theorem dX8_ahead_61 : decode cX8_ahead 61 = .ok (.if_icmp .eq 6, 3) := by decide +kernel
theorem dX8_ahead_64 : decode cX8_ahead 64 = .ok (.goto 74, 3) := by decide +kernel
theorem dX8_ahead_67 : decode cX8_ahead 67 = .ok (.iload_n 2, 1) := by decide +kernel
theorem dX8_ahead_68 : decode cX8_ahead 68 = .ok (.ifCond .ne 33, 3) := by decide +kernel
theorem dX8_ahead_71 : decode cX8_ahead 71 = .ok (.iload 6, 2) := by decide +kernel
theorem dX8_ahead_73 : decode cX8_ahead 73 = .ok (.iload_n 3, 1) := by decide +kernel
theorem dX8_ahead_74 : decode cX8_ahead 74 = .ok (.if_icmp .ge 23, 3) := by decide +kernel
theorem dX8_ahead_77 : decode cX8_ahead 77 = .ok (.aload_n 0, 1) := by decide +kernel
theorem dX8_ahead_78 : decode cX8_ahead 78 = .ok (.iload 6, 2) := by decide +kernel
theorem dX8_ahead_80 : decode cX8_ahead 80 = .ok (.iconst 3, 1) := by decide +kernel
theorem dX8_ahead_81 : decode cX8_ahead 81 = .ok (.invokevirtual 49, 3) := by decide +kernel
theorem dX8_ahead_84 : decode cX8_ahead 84 = .ok (.aload_n 0, 1) := by decide +kernel
theorem dX8_ahead_85 : decode cX8_ahead 85 = .ok (.iload_n 3, 1) := by decide +kernel
theorem dX8_ahead_86 : decode cX8_ahead 86 = .ok (.iconst 3, 1) := by decide +kernel
theorem dX8_ahead_87 : decode cX8_ahead 87 = .ok (.invokevirtual 49, 3) := by decide +kernel
theorem dX8_ahead_90 : decode cX8_ahead 90 = .ok (.if_icmp .ne 7, 3) := by decide +kernel
theorem dX8_ahead_93 : decode cX8_ahead 93 = .ok (.iconst 1, 1) := by decide +kernel
theorem dX8_ahead_94 : decode cX8_ahead 94 = .ok (.goto 25, 3) := by decide +kernel
theorem dX8_ahead_97 : decode cX8_ahead 97 = .ok (.iconst 0, 1) := by decide +kernel
theorem dX8_ahead_98 : decode cX8_ahead 98 = .ok (.goto 21, 3) := by decide +kernel
theorem dX8_ahead_101 : decode cX8_ahead 101 = .ok (.iload 4, 2) := by decide +kernel
theorem dX8_ahead_103 : decode cX8_ahead 103 = .ok (.aload_n 0, 1) := by decide +kernel
theorem dX8_ahead_104 : decode cX8_ahead 104 = .ok (.iload 6, 2) := by decide +kernel
theorem dX8_ahead_106 : decode cX8_ahead 106 = .ok (.iconst 3, 1) := by decide +kernel
theorem dX8_ahead_107 : decode cX8_ahead 107 = .ok (.invokevirtual 49, 3) := by decide +kernel
theorem dX8_ahead_110 : decode cX8_ahead 110 = .ok (.aload_n 0, 1) := by decide +kernel
theorem dX8_ahead_111 : decode cX8_ahead 111 = .ok (.iload_n 3, 1) := by decide +kernel
theorem dX8_ahead_112 : decode cX8_ahead 112 = .ok (.iconst 3, 1) := by decide +kernel
theorem dX8_ahead_113 : decode cX8_ahead 113 = .ok (.invokevirtual 49, 3) := by decide +kernel
theorem dX8_ahead_116 : decode cX8_ahead 116 = .ok (.invokestatic 53, 3) := by decide +kernel
theorem dX8_ahead_119 : decode cX8_ahead 119 = .ok (.istore 7, 2) := by decide +kernel
theorem dX8_ahead_121 : decode cX8_ahead 121 = .ok (.iload 7, 2) := by decide +kernel
theorem dX8_ahead_123 : decode cX8_ahead 123 = .ok (.ifCond .eq 15, 3) := by decide +kernel
theorem dX8_ahead_126 : decode cX8_ahead 126 = .ok (.iload 5, 2) := by decide +kernel
theorem dX8_ahead_128 : decode cX8_ahead 128 = .ok (.aload_n 0, 1) := by decide +kernel
theorem dX8_ahead_129 : decode cX8_ahead 129 = .ok (.iload 6, 2) := by decide +kernel
theorem dX8_ahead_131 : decode cX8_ahead 131 = .ok (.iconst 4, 1) := by decide +kernel
theorem dX8_ahead_132 : decode cX8_ahead 132 = .ok (.invokevirtual 49, 3) := by decide +kernel
theorem dX8_ahead_135 : decode cX8_ahead 135 = .ok (.iadd, 1) := by decide +kernel
theorem dX8_ahead_136 : decode cX8_ahead 136 = .ok (.istore 5, 2) := by decide +kernel
theorem dX8_ahead_138 : decode cX8_ahead 138 = .ok (.iinc 6 1, 3) := by decide +kernel
theorem dX8_ahead_141 : decode cX8_ahead 141 = .ok (.goto (-100), 3) := by decide +kernel
theorem dX8_ahead_144 : decode cX8_ahead 144 = .ok (.iload 5, 2) := by decide +kernel
theorem dX8_ahead_146 : decode cX8_ahead 146 = .ok (.ireturn, 1) := by decide +kernel
set_option maxRecDepth 20000 in
theorem ggX8_laysFor_X8_placeOf : GoodIn wsX8_laysFor wsX8_placeOf := goodIn_r _ [6, 7, 8, 9, 10, 5, 11, 22, 23, 24, 25, 26, 27, 28, 29, 30, 31, 32, 33, 34, 35, 36, 37, 38, 39, 40, 41, 42, 43, 44, 45, 46, 47, 48, 49, 50, 51, 52, 53] (by decide +kernel) (by decide +kernel)
set_option maxRecDepth 20000 in
theorem gX8_laysFor_X8_placeOf : GoodIn wsX8_laysFor (wsV RX8 184 RX8 yX8_placeOf wsX8_placeOf) := goodIn_app (goodIn_of _ (by decide +kernel)) ggX8_laysFor_X8_placeOf
set_option maxRecDepth 20000 in
theorem ggX8_laysFor_X8_ofOrder : GoodIn wsX8_laysFor wsX8_ofOrder := goodIn_r _ [11, 7, 22, 23, 24, 25, 26, 27, 28, 29, 30, 31, 32, 33, 34, 35, 36, 37, 38, 39, 40, 41, 42, 43, 44, 45, 46, 47, 48, 49, 50, 51, 52, 53] (by decide +kernel) (by decide +kernel)
set_option maxRecDepth 20000 in
theorem gX8_laysFor_X8_ofOrder : GoodIn wsX8_laysFor (wsV RX8 49 RX8 yX8_ofOrder wsX8_ofOrder) := goodIn_app (goodIn_of _ (by decide +kernel)) ggX8_laysFor_X8_ofOrder
set_option maxRecDepth 20000 in
theorem ggX8_laysFor_X8_lays : GoodIn wsX8_laysFor wsX8_lays := goodIn_r _ [15, 16, 7, 1, 17, 18, 19, 20, 5, 21, 8, 9, 10, 11, 22, 23, 24, 25, 26, 27, 28, 29, 30, 31, 32, 33, 34, 35, 36, 37, 38, 39, 40, 41, 42, 43, 44, 45, 46, 47, 48, 49, 50, 51, 52, 53] (by decide +kernel) (by decide +kernel)
set_option maxRecDepth 20000 in
theorem gX8_laysFor_X8_lays : GoodIn wsX8_laysFor (wsV RX8 107 RX8 yX8_lays wsX8_lays) := goodIn_app (goodIn_of _ (by decide +kernel)) ggX8_laysFor_X8_lays
theorem dX8_laysFor_0 : decode cX8_laysFor 0 = .ok (.aload_n 0, 1) := by decide +kernel
theorem dX8_laysFor_1 : decode cX8_laysFor 1 = .ok (.iload_n 1, 1) := by decide +kernel
theorem dX8_laysFor_2 : decode cX8_laysFor 2 = .ok (.invokevirtual 184, 3) := by decide +kernel
theorem dX8_laysFor_5 : decode cX8_laysFor 5 = .ok (.istore_n 2, 1) := by decide +kernel
theorem dX8_laysFor_6 : decode cX8_laysFor 6 = .ok (.iload_n 2, 1) := by decide +kernel
theorem dX8_laysFor_7 : decode cX8_laysFor 7 = .ok (.ifCond .ge 5, 3) := by decide +kernel
theorem dX8_laysFor_10 : decode cX8_laysFor 10 = .ok (.iconst (-1), 1) := by decide +kernel
theorem dX8_laysFor_11 : decode cX8_laysFor 11 = .ok (.ireturn, 1) := by decide +kernel
theorem dX8_laysFor_12 : decode cX8_laysFor 12 = .ok (.aload_n 0, 1) := by decide +kernel
theorem dX8_laysFor_13 : decode cX8_laysFor 13 = .ok (.aload_n 0, 1) := by decide +kernel
theorem dX8_laysFor_14 : decode cX8_laysFor 14 = .ok (.iload_n 2, 1) := by decide +kernel
theorem dX8_laysFor_15 : decode cX8_laysFor 15 = .ok (.iconst 2, 1) := by decide +kernel
theorem dX8_laysFor_16 : decode cX8_laysFor 16 = .ok (.invokevirtual 49, 3) := by decide +kernel
theorem dX8_laysFor_19 : decode cX8_laysFor 19 = .ok (.aload_n 0, 1) := by decide +kernel
theorem dX8_laysFor_20 : decode cX8_laysFor 20 = .ok (.iload_n 2, 1) := by decide +kernel
theorem dX8_laysFor_21 : decode cX8_laysFor 21 = .ok (.iconst 3, 1) := by decide +kernel
theorem dX8_laysFor_22 : decode cX8_laysFor 22 = .ok (.invokevirtual 49, 3) := by decide +kernel
theorem dX8_laysFor_25 : decode cX8_laysFor 25 = .ok (.invokevirtual 107, 3) := by decide +kernel
theorem dX8_laysFor_28 : decode cX8_laysFor 28 = .ok (.iconst 0, 1) := by decide +kernel
theorem dX8_laysFor_29 : decode cX8_laysFor 29 = .ok (.istore_n 3, 1) := by decide +kernel
theorem dX8_laysFor_30 : decode cX8_laysFor 30 = .ok (.aload_n 0, 1) := by decide +kernel
theorem dX8_laysFor_31 : decode cX8_laysFor 31 = .ok (.getfield 23, 3) := by decide +kernel
theorem dX8_laysFor_34 : decode cX8_laysFor 34 = .ok (.iload_n 3, 1) := by decide +kernel
theorem dX8_laysFor_35 : decode cX8_laysFor 35 = .ok (.iaload, 1) := by decide +kernel
theorem dX8_laysFor_36 : decode cX8_laysFor 36 = .ok (.iload_n 2, 1) := by decide +kernel
theorem dX8_laysFor_37 : decode cX8_laysFor 37 = .ok (.if_icmp .eq 9, 3) := by decide +kernel
theorem dX8_laysFor_40 : decode cX8_laysFor 40 = .ok (.iinc 3 1, 3) := by decide +kernel
theorem dX8_laysFor_43 : decode cX8_laysFor 43 = .ok (.goto (-13), 3) := by decide +kernel
theorem dX8_laysFor_46 : decode cX8_laysFor 46 = .ok (.iload_n 3, 1) := by decide +kernel
theorem dX8_laysFor_47 : decode cX8_laysFor 47 = .ok (.ireturn, 1) := by decide +kernel
theorem dX8_laidInAll_0 : decode cX8_laidInAll 0 = .ok (.iconst 0, 1) := by decide +kernel
theorem dX8_laidInAll_1 : decode cX8_laidInAll 1 = .ok (.istore_n 1, 1) := by decide +kernel
theorem dX8_laidInAll_2 : decode cX8_laidInAll 2 = .ok (.iconst 0, 1) := by decide +kernel
theorem dX8_laidInAll_3 : decode cX8_laidInAll 3 = .ok (.istore_n 2, 1) := by decide +kernel
theorem dX8_laidInAll_4 : decode cX8_laidInAll 4 = .ok (.iload_n 2, 1) := by decide +kernel
theorem dX8_laidInAll_5 : decode cX8_laidInAll 5 = .ok (.aload_n 0, 1) := by decide +kernel
theorem dX8_laidInAll_6 : decode cX8_laidInAll 6 = .ok (.getfield 68, 3) := by decide +kernel
theorem dX8_laidInAll_9 : decode cX8_laidInAll 9 = .ok (.if_icmp .ge 18, 3) := by decide +kernel
theorem dX8_laidInAll_12 : decode cX8_laidInAll 12 = .ok (.iload_n 1, 1) := by decide +kernel
theorem dX8_laidInAll_13 : decode cX8_laidInAll 13 = .ok (.aload_n 0, 1) := by decide +kernel
theorem dX8_laidInAll_14 : decode cX8_laidInAll 14 = .ok (.getfield 26, 3) := by decide +kernel
theorem dX8_laidInAll_17 : decode cX8_laidInAll 17 = .ok (.iload_n 2, 1) := by decide +kernel
theorem dX8_laidInAll_18 : decode cX8_laidInAll 18 = .ok (.iaload, 1) := by decide +kernel
theorem dX8_laidInAll_19 : decode cX8_laidInAll 19 = .ok (.iadd, 1) := by decide +kernel
theorem dX8_laidInAll_20 : decode cX8_laidInAll 20 = .ok (.istore_n 1, 1) := by decide +kernel
theorem dX8_laidInAll_21 : decode cX8_laidInAll 21 = .ok (.iinc 2 1, 3) := by decide +kernel
theorem dX8_laidInAll_24 : decode cX8_laidInAll 24 = .ok (.goto (-20), 3) := by decide +kernel
theorem dX8_laidInAll_27 : decode cX8_laidInAll 27 = .ok (.iload_n 1, 1) := by decide +kernel
theorem dX8_laidInAll_28 : decode cX8_laidInAll 28 = .ok (.ireturn, 1) := by decide +kernel
set_option maxRecDepth 20000 in
theorem ggX8_sideOf_X8_placeOf : GoodIn wsX8_sideOf wsX8_placeOf := goodIn_r _ [5, 6, 7, 8, 9, 4, 10, 11, 12, 13, 14, 15, 16, 17, 18, 19, 20, 21, 22, 23, 24, 25, 26, 27, 28, 29, 30, 31, 32, 33, 34, 35, 36, 37, 38, 39, 40, 41, 42] (by decide +kernel) (by decide +kernel)
set_option maxRecDepth 20000 in
theorem gX8_sideOf_X8_placeOf : GoodIn wsX8_sideOf (wsV RX8 184 RX8 yX8_placeOf wsX8_placeOf) := goodIn_app (goodIn_of _ (by decide +kernel)) ggX8_sideOf_X8_placeOf
set_option maxRecDepth 20000 in
theorem ggX8_sideOf_X8_ofOrder : GoodIn wsX8_sideOf wsX8_ofOrder := goodIn_r _ [10, 6, 11, 12, 13, 14, 15, 16, 17, 18, 19, 20, 21, 22, 23, 24, 25, 26, 27, 28, 29, 30, 31, 32, 33, 34, 35, 36, 37, 38, 39, 40, 41, 42] (by decide +kernel) (by decide +kernel)
set_option maxRecDepth 20000 in
theorem gX8_sideOf_X8_ofOrder : GoodIn wsX8_sideOf (wsV RX8 49 RX8 yX8_ofOrder wsX8_ofOrder) := goodIn_app (goodIn_of _ (by decide +kernel)) ggX8_sideOf_X8_ofOrder
theorem dX8_sideOf_0 : decode cX8_sideOf 0 = .ok (.aload_n 0, 1) := by decide +kernel
theorem dX8_sideOf_1 : decode cX8_sideOf 1 = .ok (.aload_n 0, 1) := by decide +kernel
theorem dX8_sideOf_2 : decode cX8_sideOf 2 = .ok (.iload_n 1, 1) := by decide +kernel
theorem dX8_sideOf_3 : decode cX8_sideOf 3 = .ok (.invokevirtual 184, 3) := by decide +kernel
theorem dX8_sideOf_6 : decode cX8_sideOf 6 = .ok (.iconst 2, 1) := by decide +kernel
theorem dX8_sideOf_7 : decode cX8_sideOf 7 = .ok (.invokevirtual 49, 3) := by decide +kernel
theorem dX8_sideOf_10 : decode cX8_sideOf 10 = .ok (.ireturn, 1) := by decide +kernel
set_option maxRecDepth 20000 in
theorem ggX8_share_X8_laysFor : GoodIn wsX8_share wsX8_laysFor := goodIn_r _ [11, 12, 13, 14, 15, 10, 16, 3, 17, 18, 19, 20, 21, 22, 23, 24, 25, 26, 27, 28, 29, 30, 54, 55, 56, 57, 58, 59, 60, 61, 62, 63, 64, 65, 66, 67, 68, 69, 70, 71, 72, 73, 74, 75, 76, 77, 78, 79, 80, 81, 82, 83, 84, 85] (by decide +kernel) (by decide +kernel)
set_option maxRecDepth 20000 in
theorem gX8_share_X8_laysFor : GoodIn wsX8_share (wsV RX8 246 RX8 yX8_laysFor wsX8_laysFor) := goodIn_app (goodIn_of _ (by decide +kernel)) ggX8_share_X8_laysFor
set_option maxRecDepth 20000 in
theorem ggX8_share_X8_within : GoodIn wsX8_share wsX8_within := goodIn_r _ [33] (by decide +kernel) (by decide +kernel)
set_option maxRecDepth 20000 in
theorem gX8_share_X8_within : GoodIn wsX8_share (va_wsS RX8 158 yX8_within wsX8_within) := goodIn_app (goodIn_of _ (by decide +kernel)) ggX8_share_X8_within
set_option maxRecDepth 20000 in
theorem ggX8_share_X8_laidInAll : GoodIn wsX8_share wsX8_laidInAll := goodIn_r _ [37, 25, 26, 54, 55, 56, 57, 58, 59, 60, 61, 62, 63, 64, 65, 66, 67, 68, 69, 70, 71, 72, 73, 74, 75, 76, 77, 78, 79, 80, 81, 82, 83, 84, 85] (by decide +kernel) (by decide +kernel)
set_option maxRecDepth 20000 in
theorem gX8_share_X8_laidInAll : GoodIn wsX8_share (wsV RX8 249 RX8 yX8_laidInAll wsX8_laidInAll) := goodIn_app (goodIn_of _ (by decide +kernel)) ggX8_share_X8_laidInAll
set_option maxRecDepth 20000 in
theorem ggX8_share_X8_sideOf : GoodIn wsX8_share wsX8_sideOf := goodIn_r _ [41, 13, 14, 15, 10, 16, 3, 17, 18, 19, 20, 54, 55, 56, 57, 58, 59, 60, 61, 62, 63, 64, 65, 66, 67, 68, 69, 70, 71, 72, 73, 74, 75, 76, 77, 78, 79, 80, 81, 82, 83, 84, 85] (by decide +kernel) (by decide +kernel)
set_option maxRecDepth 20000 in
theorem gX8_share_X8_sideOf : GoodIn wsX8_share (wsV RX8 252 RX8 yX8_sideOf wsX8_sideOf) := goodIn_app (goodIn_of _ (by decide +kernel)) ggX8_share_X8_sideOf
set_option maxRecDepth 20000 in
theorem ggX8_share_X8_topLaid : GoodIn wsX8_share wsX8_topLaid := goodIn_r _ [45, 25, 12, 3, 17, 18, 19, 10, 20, 54, 55, 56, 57, 58, 59, 60, 61, 62, 63, 64, 65, 66, 67, 68, 69, 70, 71, 72, 73, 74, 75, 76, 77, 78, 79, 80, 81, 82, 83, 84, 85] (by decide +kernel) (by decide +kernel)
set_option maxRecDepth 20000 in
theorem gX8_share_X8_topLaid : GoodIn wsX8_share (wsV RX8 111 RX8 yX8_topLaid wsX8_topLaid) := goodIn_app (goodIn_of _ (by decide +kernel)) ggX8_share_X8_topLaid
set_option maxRecDepth 20000 in
theorem ggX8_share_X8_shares : GoodIn wsX8_share wsX8_shares := goodIn_r _ [49, 25, 4, 5, 6, 26, 3, 54, 55, 56, 57, 58, 59, 60, 61, 62, 63, 64, 65, 66, 67, 68, 69, 70, 71, 72, 73, 74, 75, 76, 77, 78, 79, 80, 81, 82, 83, 84, 85] (by decide +kernel) (by decide +kernel)
set_option maxRecDepth 20000 in
theorem gX8_share_X8_shares : GoodIn wsX8_share (wsV RX8 114 RX8 yX8_shares wsX8_shares) := goodIn_app (goodIn_of _ (by decide +kernel)) ggX8_share_X8_shares
set_option maxRecDepth 20000 in
theorem ggX8_share_X8_has : GoodIn wsX8_share wsX8_has := goodIn_r _ [53, 4, 5, 6, 54, 55, 56, 57, 58, 59, 60, 61, 62, 63, 64, 65, 66, 67, 68, 69, 70, 71, 72, 73, 74, 75, 76, 77, 78, 79, 80, 81, 82, 83, 84, 85] (by decide +kernel) (by decide +kernel)
set_option maxRecDepth 20000 in
theorem gX8_share_X8_has : GoodIn wsX8_share (wsV RX8 100 RX8 yX8_has wsX8_has) := goodIn_app (goodIn_of _ (by decide +kernel)) ggX8_share_X8_has
theorem dX8_share_0 : decode cX8_share 0 = .ok (.aload_n 0, 1) := by decide +kernel
theorem dX8_share_1 : decode cX8_share 1 = .ok (.iconst 0, 1) := by decide +kernel
theorem dX8_share_2 : decode cX8_share 2 = .ok (.putfield 45, 3) := by decide +kernel
theorem dX8_share_5 : decode cX8_share 5 = .ok (.aload_n 0, 1) := by decide +kernel
theorem dX8_share_6 : decode cX8_share 6 = .ok (.iload_n 1, 1) := by decide +kernel
theorem dX8_share_7 : decode cX8_share 7 = .ok (.invokevirtual 246, 3) := by decide +kernel
theorem dX8_share_10 : decode cX8_share 10 = .ok (.istore 4, 2) := by decide +kernel
theorem dX8_share_12 : decode cX8_share 12 = .ok (.iload 4, 2) := by decide +kernel
theorem dX8_share_14 : decode cX8_share 14 = .ok (.ifCond .lt 29, 3) := by decide +kernel
theorem dX8_share_17 : decode cX8_share 17 = .ok (.iload_n 3, 1) := by decide +kernel
theorem dX8_share_18 : decode cX8_share 18 = .ok (.i2l, 1) := by decide +kernel
theorem dX8_share_19 : decode cX8_share 19 = .ok (.lconst 0, 1) := by decide +kernel
theorem dX8_share_20 : decode cX8_share 20 = .ok (.ldc2_w 166, 3) := by decide +kernel
theorem dX8_share_23 : decode cX8_share 23 = .ok (.invokestatic 158, 3) := by decide +kernel
theorem dX8_share_26 : decode cX8_share 26 = .ok (.ifCond .eq 17, 3) := by decide +kernel
theorem dX8_share_29 : decode cX8_share 29 = .ok (.iload_n 2, 1) := by decide +kernel
theorem dX8_share_30 : decode cX8_share 30 = .ok (.i2l, 1) := by decide +kernel
theorem dX8_share_31 : decode cX8_share 31 = .ok (.lconst 1, 1) := by decide +kernel
theorem dX8_share_32 : decode cX8_share 32 = .ok (.aload_n 0, 1) := by decide +kernel
theorem dX8_share_33 : decode cX8_share 33 = .ok (.invokevirtual 249, 3) := by decide +kernel
theorem dX8_share_36 : decode cX8_share 36 = .ok (.i2l, 1) := by decide +kernel
theorem dX8_share_37 : decode cX8_share 37 = .ok (.invokestatic 158, 3) := by decide +kernel
theorem dX8_share_40 : decode cX8_share 40 = .ok (.ifCond .ne 5, 3) := by decide +kernel
theorem dX8_share_43 : decode cX8_share 43 = .ok (.iconst (-1), 1) := by decide +kernel
theorem dX8_share_44 : decode cX8_share 44 = .ok (.ireturn, 1) := by decide +kernel
theorem dX8_share_45 : decode cX8_share 45 = .ok (.aload_n 0, 1) := by decide +kernel
theorem dX8_share_46 : decode cX8_share 46 = .ok (.iload_n 1, 1) := by decide +kernel
theorem dX8_share_47 : decode cX8_share 47 = .ok (.invokevirtual 252, 3) := by decide +kernel
theorem dX8_share_50 : decode cX8_share 50 = .ok (.istore 5, 2) := by decide +kernel
theorem dX8_share_52 : decode cX8_share 52 = .ok (.aload_n 0, 1) := by decide +kernel
theorem dX8_share_53 : decode cX8_share 53 = .ok (.iload_n 2, 1) := by decide +kernel
theorem dX8_share_54 : decode cX8_share 54 = .ok (.aload_n 0, 1) := by decide +kernel
theorem dX8_share_55 : decode cX8_share 55 = .ok (.iload 5, 2) := by decide +kernel
theorem dX8_share_57 : decode cX8_share 57 = .ok (.invokevirtual 111, 3) := by decide +kernel
theorem dX8_share_60 : decode cX8_share 60 = .ok (.aload_n 0, 1) := by decide +kernel
theorem dX8_share_61 : decode cX8_share 61 = .ok (.getfield 7, 3) := by decide +kernel
theorem dX8_share_64 : decode cX8_share 64 = .ok (.bipush 8, 2) := by decide +kernel
theorem dX8_share_66 : decode cX8_share 66 = .ok (.iload 5, 2) := by decide +kernel
theorem dX8_share_68 : decode cX8_share 68 = .ok (.iadd, 1) := by decide +kernel
theorem dX8_share_69 : decode cX8_share 69 = .ok (.iaload, 1) := by decide +kernel
theorem dX8_share_70 : decode cX8_share 70 = .ok (.invokevirtual 114, 3) := by decide +kernel
theorem dX8_share_73 : decode cX8_share 73 = .ok (.iload_n 3, 1) := by decide +kernel
theorem dX8_share_74 : decode cX8_share 74 = .ok (.ifCond .ne 12, 3) := by decide +kernel
theorem dX8_share_77 : decode cX8_share 77 = .ok (.aload_n 0, 1) := by decide +kernel
theorem dX8_share_78 : decode cX8_share 78 = .ok (.iload 4, 2) := by decide +kernel
theorem dX8_share_80 : decode cX8_share 80 = .ok (.invokevirtual 100, 3) := by decide +kernel
theorem dX8_share_83 : decode cX8_share 83 = .ok (.goto 40, 3) := by decide +kernel
theorem dX8_share_86 : decode cX8_share 86 = .ok (.iload_n 3, 1) := by decide +kernel
theorem dX8_share_87 : decode cX8_share 87 = .ok (.iconst 1, 1) := by decide +kernel
theorem dX8_share_88 : decode cX8_share 88 = .ok (.if_icmp .ne 13, 3) := by decide +kernel
theorem dX8_share_91 : decode cX8_share 91 = .ok (.aload_n 0, 1) := by decide +kernel
theorem dX8_share_92 : decode cX8_share 92 = .ok (.getfield 29, 3) := by decide +kernel
theorem dX8_share_95 : decode cX8_share 95 = .ok (.iload 4, 2) := by decide +kernel
theorem dX8_share_97 : decode cX8_share 97 = .ok (.iaload, 1) := by decide +kernel
theorem dX8_share_98 : decode cX8_share 98 = .ok (.goto 25, 3) := by decide +kernel
theorem dX8_share_101 : decode cX8_share 101 = .ok (.iload_n 3, 1) := by decide +kernel
theorem dX8_share_102 : decode cX8_share 102 = .ok (.iconst 2, 1) := by decide +kernel
theorem dX8_share_103 : decode cX8_share 103 = .ok (.if_icmp .ne 13, 3) := by decide +kernel
theorem dX8_share_106 : decode cX8_share 106 = .ok (.aload_n 0, 1) := by decide +kernel
theorem dX8_share_107 : decode cX8_share 107 = .ok (.getfield 32, 3) := by decide +kernel
theorem dX8_share_110 : decode cX8_share 110 = .ok (.iload 4, 2) := by decide +kernel
theorem dX8_share_112 : decode cX8_share 112 = .ok (.iaload, 1) := by decide +kernel
theorem dX8_share_113 : decode cX8_share 113 = .ok (.goto 10, 3) := by decide +kernel
theorem dX8_share_116 : decode cX8_share 116 = .ok (.aload_n 0, 1) := by decide +kernel
theorem dX8_share_117 : decode cX8_share 117 = .ok (.getfield 35, 3) := by decide +kernel
theorem dX8_share_120 : decode cX8_share 120 = .ok (.iload 4, 2) := by decide +kernel
theorem dX8_share_122 : decode cX8_share 122 = .ok (.iaload, 1) := by decide +kernel
theorem dX8_share_123 : decode cX8_share 123 = .ok (.ireturn, 1) := by decide +kernel
set_option maxRecDepth 20000 in
theorem ggX8_takeFor_X8_laysFor : GoodIn wsX8_takeFor wsX8_laysFor := goodIn_r _ [8, 9, 10, 11, 12, 7, 13, 2, 14, 15, 16, 17, 18, 19, 20, 21, 22, 3, 23, 24, 25, 26, 53, 54, 55, 56, 57, 58, 59, 60, 61, 62, 63, 64, 65, 66, 67, 68, 69, 70, 71, 72, 73, 74, 75, 76, 77, 78, 79, 80, 81, 82, 83, 84] (by decide +kernel) (by decide +kernel)
set_option maxRecDepth 20000 in
theorem gX8_takeFor_X8_laysFor : GoodIn wsX8_takeFor (wsV RX8 246 RX8 yX8_laysFor wsX8_laysFor) := goodIn_app (goodIn_of _ (by decide +kernel)) ggX8_takeFor_X8_laysFor
set_option maxRecDepth 20000 in
theorem ggX8_takeFor_X8_within : GoodIn wsX8_takeFor wsX8_within := goodIn_r _ [29] (by decide +kernel) (by decide +kernel)
set_option maxRecDepth 20000 in
theorem gX8_takeFor_X8_within : GoodIn wsX8_takeFor (va_wsS RX8 158 yX8_within wsX8_within) := goodIn_app (goodIn_of _ (by decide +kernel)) ggX8_takeFor_X8_within
set_option maxRecDepth 20000 in
theorem ggX8_takeFor_X8_sideOf : GoodIn wsX8_takeFor wsX8_sideOf := goodIn_r _ [33, 10, 11, 12, 7, 13, 2, 14, 15, 16, 17, 53, 54, 55, 56, 57, 58, 59, 60, 61, 62, 63, 64, 65, 66, 67, 68, 69, 70, 71, 72, 73, 74, 75, 76, 77, 78, 79, 80, 81, 82, 83, 84] (by decide +kernel) (by decide +kernel)
set_option maxRecDepth 20000 in
theorem gX8_takeFor_X8_sideOf : GoodIn wsX8_takeFor (wsV RX8 252 RX8 yX8_sideOf wsX8_sideOf) := goodIn_app (goodIn_of _ (by decide +kernel)) ggX8_takeFor_X8_sideOf
set_option maxRecDepth 20000 in
theorem ggX8_takeFor_X8_topLaid : GoodIn wsX8_takeFor wsX8_topLaid := goodIn_r _ [37, 22, 9, 2, 14, 15, 16, 7, 17, 53, 54, 55, 56, 57, 58, 59, 60, 61, 62, 63, 64, 65, 66, 67, 68, 69, 70, 71, 72, 73, 74, 75, 76, 77, 78, 79, 80, 81, 82, 83, 84] (by decide +kernel) (by decide +kernel)
set_option maxRecDepth 20000 in
theorem gX8_takeFor_X8_topLaid : GoodIn wsX8_takeFor (wsV RX8 111 RX8 yX8_topLaid wsX8_topLaid) := goodIn_app (goodIn_of _ (by decide +kernel)) ggX8_takeFor_X8_topLaid
set_option maxRecDepth 20000 in
theorem ggX8_takeFor_X8_laidInAll : GoodIn wsX8_takeFor wsX8_laidInAll := goodIn_r _ [41, 22, 3, 53, 54, 55, 56, 57, 58, 59, 60, 61, 62, 63, 64, 65, 66, 67, 68, 69, 70, 71, 72, 73, 74, 75, 76, 77, 78, 79, 80, 81, 82, 83, 84] (by decide +kernel) (by decide +kernel)
set_option maxRecDepth 20000 in
theorem gX8_takeFor_X8_laidInAll : GoodIn wsX8_takeFor (wsV RX8 249 RX8 yX8_laidInAll wsX8_laidInAll) := goodIn_app (goodIn_of _ (by decide +kernel)) ggX8_takeFor_X8_laidInAll
set_option maxRecDepth 20000 in
theorem ggX8_takeFor_X8_shares : GoodIn wsX8_takeFor wsX8_shares := goodIn_r _ [45, 22, 46, 47, 48, 3, 2, 53, 54, 55, 56, 57, 58, 59, 60, 61, 62, 63, 64, 65, 66, 67, 68, 69, 70, 71, 72, 73, 74, 75, 76, 77, 78, 79, 80, 81, 82, 83, 84] (by decide +kernel) (by decide +kernel)
set_option maxRecDepth 20000 in
theorem gX8_takeFor_X8_shares : GoodIn wsX8_takeFor (wsV RX8 114 RX8 yX8_shares wsX8_shares) := goodIn_app (goodIn_of _ (by decide +kernel)) ggX8_takeFor_X8_shares
set_option maxRecDepth 20000 in
theorem ggX8_takeFor_X8_has : GoodIn wsX8_takeFor wsX8_has := goodIn_r _ [52, 46, 47, 48, 53, 54, 55, 56, 57, 58, 59, 60, 61, 62, 63, 64, 65, 66, 67, 68, 69, 70, 71, 72, 73, 74, 75, 76, 77, 78, 79, 80, 81, 82, 83, 84] (by decide +kernel) (by decide +kernel)
