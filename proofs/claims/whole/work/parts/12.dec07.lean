theorem dX7_level_51 : decode cX7_level 51 = .ok (.ifCond .ne 5, 3) := by decide +kernel
theorem dX7_level_54 : decode cX7_level 54 = .ok (.iconst (-1), 1) := by decide +kernel
theorem dX7_level_55 : decode cX7_level 55 = .ok (.ireturn, 1) := by decide +kernel
theorem dX7_level_56 : decode cX7_level 56 = .ok (.iload_n 3, 1) := by decide +kernel
theorem dX7_level_57 : decode cX7_level 57 = .ok (.lookupswitch 44 #[(0, 27), (1, 30)], 27) := by decide +kernel
theorem dX7_level_84 : decode cX7_level 84 = .ok (.iload 4, 2) := by decide +kernel
theorem dX7_level_86 : decode cX7_level 86 = .ok (.ireturn, 1) := by decide +kernel
theorem dX7_level_87 : decode cX7_level 87 = .ok (.aload_n 0, 1) := by decide +kernel
theorem dX7_level_88 : decode cX7_level 88 = .ok (.getfield 10, 3) := by decide +kernel
theorem dX7_level_91 : decode cX7_level 91 = .ok (.getfield 105, 3) := by decide +kernel
theorem dX7_level_94 : decode cX7_level 94 = .ok (.iload_n 1, 1) := by decide +kernel
theorem dX7_level_95 : decode cX7_level 95 = .ok (.iload 4, 2) := by decide +kernel
theorem dX7_level_97 : decode cX7_level 97 = .ok (.invokevirtual 171, 3) := by decide +kernel
theorem dX7_level_100 : decode cX7_level 100 = .ok (.ireturn, 1) := by decide +kernel
theorem dX7_level_101 : decode cX7_level 101 = .ok (.aload_n 0, 1) := by decide +kernel
theorem dX7_level_102 : decode cX7_level 102 = .ok (.getfield 10, 3) := by decide +kernel
theorem dX7_level_105 : decode cX7_level 105 = .ok (.getfield 105, 3) := by decide +kernel
theorem dX7_level_108 : decode cX7_level 108 = .ok (.iload_n 1, 1) := by decide +kernel
theorem dX7_level_109 : decode cX7_level 109 = .ok (.iload 4, 2) := by decide +kernel
theorem dX7_level_111 : decode cX7_level 111 = .ok (.invokevirtual 174, 3) := by decide +kernel
theorem dX7_level_114 : decode cX7_level 114 = .ok (.ireturn, 1) := by decide +kernel
set_option maxRecDepth 20000 in
theorem ggX7_queue_X7_isSide : GoodIn wsX7_queue wsX7_isSide := goodIn_r _ [6] (by decide +kernel) (by decide +kernel)
set_option maxRecDepth 20000 in
theorem gX7_queue_X7_isSide : GoodIn wsX7_queue (va_wsS RX7 99 yX7_isSide wsX7_isSide) := goodIn_app (goodIn_of _ (by decide +kernel)) ggX7_queue_X7_isSide
set_option maxRecDepth 20000 in
theorem ggX7_queue_X0_numberAt : GoodIn wsX7_queue wsX0_numberAt := goodIn_r _ [11, 12, 13, 14, 15, 16, 17, 10, 18, 19, 20, 36, 37, 38, 39, 40, 41, 42, 43, 44, 45] (by decide +kernel) (by decide +kernel)
set_option maxRecDepth 20000 in
theorem gX7_queue_X0_numberAt : GoodIn wsX7_queue (wsV RX7 177 RX0 yX0_numberAt wsX0_numberAt) := goodIn_app (goodIn_of _ (by decide +kernel)) ggX7_queue_X0_numberAt
theorem dX7_queue_0 : decode cX7_queue 0 = .ok (.iload_n 1, 1) := by decide +kernel
theorem dX7_queue_1 : decode cX7_queue 1 = .ok (.invokestatic 99, 3) := by decide +kernel
theorem dX7_queue_4 : decode cX7_queue 4 = .ok (.ifCond .eq 7, 3) := by decide +kernel
theorem dX7_queue_7 : decode cX7_queue 7 = .ok (.iload_n 3, 1) := by decide +kernel
theorem dX7_queue_8 : decode cX7_queue 8 = .ok (.ifCond .ge 5, 3) := by decide +kernel
theorem dX7_queue_11 : decode cX7_queue 11 = .ok (.iconst (-1), 1) := by decide +kernel
theorem dX7_queue_12 : decode cX7_queue 12 = .ok (.ireturn, 1) := by decide +kernel
theorem dX7_queue_13 : decode cX7_queue 13 = .ok (.aload_n 0, 1) := by decide +kernel
theorem dX7_queue_14 : decode cX7_queue 14 = .ok (.getfield 10, 3) := by decide +kernel
theorem dX7_queue_17 : decode cX7_queue 17 = .ok (.getfield 105, 3) := by decide +kernel
theorem dX7_queue_20 : decode cX7_queue 20 = .ok (.iload_n 1, 1) := by decide +kernel
theorem dX7_queue_21 : decode cX7_queue 21 = .ok (.iload_n 2, 1) := by decide +kernel
theorem dX7_queue_22 : decode cX7_queue 22 = .ok (.iload_n 3, 1) := by decide +kernel
theorem dX7_queue_23 : decode cX7_queue 23 = .ok (.invokevirtual 177, 3) := by decide +kernel
theorem dX7_queue_26 : decode cX7_queue 26 = .ok (.ireturn, 1) := by decide +kernel
set_option maxRecDepth 20000 in
theorem ggX7_top_X7_isSide : GoodIn wsX7_top wsX7_isSide := goodIn_r _ [7] (by decide +kernel) (by decide +kernel)
set_option maxRecDepth 20000 in
theorem gX7_top_X7_isSide : GoodIn wsX7_top (va_wsS RX7 99 yX7_isSide wsX7_isSide) := goodIn_app (goodIn_of _ (by decide +kernel)) ggX7_top_X7_isSide
theorem dX7_top_0 : decode cX7_top 0 = .ok (.iload_n 1, 1) := by decide +kernel
theorem dX7_top_1 : decode cX7_top 1 = .ok (.invokestatic 99, 3) := by decide +kernel
theorem dX7_top_4 : decode cX7_top 4 = .ok (.ifCond .eq 18, 3) := by decide +kernel
theorem dX7_top_7 : decode cX7_top 7 = .ok (.aload_n 0, 1) := by decide +kernel
theorem dX7_top_8 : decode cX7_top 8 = .ok (.getfield 10, 3) := by decide +kernel
theorem dX7_top_11 : decode cX7_top 11 = .ok (.getfield 105, 3) := by decide +kernel
theorem dX7_top_14 : decode cX7_top 14 = .ok (.getfield 181, 3) := by decide +kernel
theorem dX7_top_17 : decode cX7_top 17 = .ok (.iload_n 1, 1) := by decide +kernel
theorem dX7_top_18 : decode cX7_top 18 = .ok (.iaload, 1) := by decide +kernel
theorem dX7_top_19 : decode cX7_top 19 = .ok (.ifCond .ne 5, 3) := by decide +kernel
theorem dX7_top_22 : decode cX7_top 22 = .ok (.iconst (-1), 1) := by decide +kernel
theorem dX7_top_23 : decode cX7_top 23 = .ok (.ireturn, 1) := by decide +kernel
theorem dX7_top_24 : decode cX7_top 24 = .ok (.aload_n 0, 1) := by decide +kernel
theorem dX7_top_25 : decode cX7_top 25 = .ok (.getfield 10, 3) := by decide +kernel
theorem dX7_top_28 : decode cX7_top 28 = .ok (.getfield 105, 3) := by decide +kernel
theorem dX7_top_31 : decode cX7_top 31 = .ok (.getfield 181, 3) := by decide +kernel
theorem dX7_top_34 : decode cX7_top 34 = .ok (.iload_n 1, 1) := by decide +kernel
theorem dX7_top_35 : decode cX7_top 35 = .ok (.iaload, 1) := by decide +kernel
theorem dX7_top_36 : decode cX7_top 36 = .ok (.ireturn, 1) := by decide +kernel
set_option maxRecDepth 20000 in
theorem ggX7_ahead_X0_find : GoodIn wsX7_ahead wsX0_find := goodIn_r _ [7, 8, 9, 10, 44, 45, 46, 47, 48, 49, 50, 51, 52, 53] (by decide +kernel) (by decide +kernel)
set_option maxRecDepth 20000 in
theorem gX7_ahead_X0_find : GoodIn wsX7_ahead (wsV RX7 109 RX0 yX0_find wsX0_find) := goodIn_app (goodIn_of _ (by decide +kernel)) ggX7_ahead_X0_find
set_option maxRecDepth 20000 in
theorem ggX7_ahead_X0_earlierSizes : GoodIn wsX7_ahead wsX0_earlierSizes := goodIn_r _ [14, 8, 9, 15, 16, 17, 18, 19, 20, 6, 21, 44, 45, 46, 47, 48, 49, 50, 51, 52, 53] (by decide +kernel) (by decide +kernel)
set_option maxRecDepth 20000 in
theorem gX7_ahead_X0_earlierSizes : GoodIn wsX7_ahead (wsV RX7 184 RX0 yX0_earlierSizes wsX0_earlierSizes) := goodIn_app (goodIn_of _ (by decide +kernel)) ggX7_ahead_X0_earlierSizes
set_option maxRecDepth 20000 in
theorem ggX7_ahead_X0_betterSizes : GoodIn wsX7_ahead wsX0_betterSizes := goodIn_r _ [25, 8, 9, 15, 16, 17, 26, 27, 28, 44, 45, 46, 47, 48, 49, 50, 51, 52, 53] (by decide +kernel) (by decide +kernel)
set_option maxRecDepth 20000 in
theorem gX7_ahead_X0_betterSizes : GoodIn wsX7_ahead (wsV RX7 187 RX0 yX0_betterSizes wsX0_betterSizes) := goodIn_app (goodIn_of _ (by decide +kernel)) ggX7_ahead_X0_betterSizes
theorem dX7_ahead_0 : decode cX7_ahead 0 = .ok (.aload_n 0, 1) := by decide +kernel
theorem dX7_ahead_1 : decode cX7_ahead 1 = .ok (.getfield 10, 3) := by decide +kernel
theorem dX7_ahead_4 : decode cX7_ahead 4 = .ok (.getfield 105, 3) := by decide +kernel
theorem dX7_ahead_7 : decode cX7_ahead 7 = .ok (.iload_n 1, 1) := by decide +kernel
theorem dX7_ahead_8 : decode cX7_ahead 8 = .ok (.invokevirtual 109, 3) := by decide +kernel
theorem dX7_ahead_11 : decode cX7_ahead 11 = .ok (.astore_n 3, 1) := by decide +kernel
theorem dX7_ahead_12 : decode cX7_ahead 12 = .ok (.aload_n 3, 1) := by decide +kernel
theorem dX7_ahead_13 : decode cX7_ahead 13 = .ok (.ifnull 12, 3) := by decide +kernel
theorem dX7_ahead_16 : decode cX7_ahead 16 = .ok (.iload_n 2, 1) := by decide +kernel
theorem dX7_ahead_17 : decode cX7_ahead 17 = .ok (.ifCond .lt 8, 3) := by decide +kernel
theorem dX7_ahead_20 : decode cX7_ahead 20 = .ok (.iload_n 2, 1) := by decide +kernel
theorem dX7_ahead_21 : decode cX7_ahead 21 = .ok (.iconst 1, 1) := by decide +kernel
theorem dX7_ahead_22 : decode cX7_ahead 22 = .ok (.if_icmp .le 5, 3) := by decide +kernel
theorem dX7_ahead_25 : decode cX7_ahead 25 = .ok (.iconst (-1), 1) := by decide +kernel
theorem dX7_ahead_26 : decode cX7_ahead 26 = .ok (.ireturn, 1) := by decide +kernel
theorem dX7_ahead_27 : decode cX7_ahead 27 = .ok (.iload_n 2, 1) := by decide +kernel
theorem dX7_ahead_28 : decode cX7_ahead 28 = .ok (.ifCond .ne 17, 3) := by decide +kernel
theorem dX7_ahead_31 : decode cX7_ahead 31 = .ok (.aload_n 0, 1) := by decide +kernel
theorem dX7_ahead_32 : decode cX7_ahead 32 = .ok (.getfield 10, 3) := by decide +kernel
theorem dX7_ahead_35 : decode cX7_ahead 35 = .ok (.getfield 105, 3) := by decide +kernel
theorem dX7_ahead_38 : decode cX7_ahead 38 = .ok (.aload_n 3, 1) := by decide +kernel
theorem dX7_ahead_39 : decode cX7_ahead 39 = .ok (.invokevirtual 184, 3) := by decide +kernel
theorem dX7_ahead_42 : decode cX7_ahead 42 = .ok (.goto 14, 3) := by decide +kernel
theorem dX7_ahead_45 : decode cX7_ahead 45 = .ok (.aload_n 0, 1) := by decide +kernel
theorem dX7_ahead_46 : decode cX7_ahead 46 = .ok (.getfield 10, 3) := by decide +kernel
theorem dX7_ahead_49 : decode cX7_ahead 49 = .ok (.getfield 105, 3) := by decide +kernel
theorem dX7_ahead_52 : decode cX7_ahead 52 = .ok (.aload_n 3, 1) := by decide +kernel
theorem dX7_ahead_53 : decode cX7_ahead 53 = .ok (.invokevirtual 187, 3) := by decide +kernel
theorem dX7_ahead_56 : decode cX7_ahead 56 = .ok (.ireturn, 1) := by decide +kernel
set_option maxRecDepth 20000 in
theorem ggX7_share_X0_find : GoodIn wsX7_share wsX0_find := goodIn_r _ [12, 13, 14, 15, 96, 97, 98, 99, 82, 83, 84, 85, 86, 87] (by decide +kernel) (by decide +kernel)
set_option maxRecDepth 20000 in
theorem gX7_share_X0_find : GoodIn wsX7_share (wsV RX7 109 RX0 yX0_find wsX0_find) := goodIn_app (goodIn_of _ (by decide +kernel)) ggX7_share_X0_find
set_option maxRecDepth 20000 in
theorem ggX7_share_X5_load : GoodIn wsX7_share wsX5_load := goodIn_r _ [20, 21, 22, 23, 24, 25, 26, 27, 28, 11, 29, 14, 30, 31, 32, 33, 34, 35, 36, 15, 37, 38, 39, 40, 19, 41, 42, 43, 44, 88, 89, 90, 91, 92, 93, 94, 95, 96, 97, 98, 99, 82, 83, 84, 85, 86, 87] (by decide +kernel) (by decide +kernel)
set_option maxRecDepth 20000 in
theorem gX7_share_X5_load : GoodIn wsX7_share (wsV RX7 194 RX5 yX5_load wsX5_load) := goodIn_app (goodIn_of _ (by decide +kernel)) ggX7_share_X5_load
set_option maxRecDepth 20000 in
theorem ggX7_share_X5_deal : GoodIn wsX7_share wsX5_deal := goodIn_r _ [48, 21, 49, 43, 44, 50, 51, 52, 53, 54, 55, 56, 57, 19, 58, 88, 89, 90, 91, 92, 93, 94, 95] (by decide +kernel) (by decide +kernel)
set_option maxRecDepth 20000 in
theorem gX7_share_X5_deal : GoodIn wsX7_share (wsV RX7 203 RX5 yX5_deal wsX5_deal) := goodIn_app (goodIn_of _ (by decide +kernel)) ggX7_share_X5_deal
set_option maxRecDepth 20000 in
theorem ggX7_share_X5_partOf : GoodIn wsX7_share wsX5_partOf := goodIn_r _ [62, 21, 42, 63, 64, 65, 19, 66, 49, 54, 55, 88, 89, 90, 91, 92, 93, 94, 95] (by decide +kernel) (by decide +kernel)
set_option maxRecDepth 20000 in
theorem gX7_share_X5_partOf : GoodIn wsX7_share (wsV RX7 207 RX5 yX5_partOf wsX5_partOf) := goodIn_app (goodIn_of _ (by decide +kernel)) ggX7_share_X5_partOf
theorem dX7_share_0 : decode cX7_share 0 = .ok (.aload_n 0, 1) := by decide +kernel
theorem dX7_share_1 : decode cX7_share 1 = .ok (.getfield 10, 3) := by decide +kernel
theorem dX7_share_4 : decode cX7_share 4 = .ok (.getfield 105, 3) := by decide +kernel
theorem dX7_share_7 : decode cX7_share 7 = .ok (.iload_n 1, 1) := by decide +kernel
theorem dX7_share_8 : decode cX7_share 8 = .ok (.invokevirtual 109, 3) := by decide +kernel
theorem dX7_share_11 : decode cX7_share 11 = .ok (.astore 4, 2) := by decide +kernel
theorem dX7_share_13 : decode cX7_share 13 = .ok (.aload 4, 2) := by decide +kernel
theorem dX7_share_15 : decode cX7_share 15 = .ok (.ifnull 12, 3) := by decide +kernel
theorem dX7_share_18 : decode cX7_share 18 = .ok (.iload_n 3, 1) := by decide +kernel
theorem dX7_share_19 : decode cX7_share 19 = .ok (.ifCond .lt 8, 3) := by decide +kernel
theorem dX7_share_22 : decode cX7_share 22 = .ok (.iload_n 3, 1) := by decide +kernel
theorem dX7_share_23 : decode cX7_share 23 = .ok (.iconst 3, 1) := by decide +kernel
theorem dX7_share_24 : decode cX7_share 24 = .ok (.if_icmp .le 5, 3) := by decide +kernel
theorem dX7_share_27 : decode cX7_share 27 = .ok (.iconst (-1), 1) := by decide +kernel
theorem dX7_share_28 : decode cX7_share 28 = .ok (.ireturn, 1) := by decide +kernel
theorem dX7_share_29 : decode cX7_share 29 = .ok (.aload_n 0, 1) := by decide +kernel
theorem dX7_share_30 : decode cX7_share 30 = .ok (.getfield 10, 3) := by decide +kernel
theorem dX7_share_33 : decode cX7_share 33 = .ok (.getfield 190, 3) := by decide +kernel
theorem dX7_share_36 : decode cX7_share 36 = .ok (.astore 5, 2) := by decide +kernel
theorem dX7_share_38 : decode cX7_share 38 = .ok (.aload 5, 2) := by decide +kernel
theorem dX7_share_40 : decode cX7_share 40 = .ok (.aload_n 0, 1) := by decide +kernel
theorem dX7_share_41 : decode cX7_share 41 = .ok (.getfield 10, 3) := by decide +kernel
theorem dX7_share_44 : decode cX7_share 44 = .ok (.getfield 105, 3) := by decide +kernel
theorem dX7_share_47 : decode cX7_share 47 = .ok (.aload 4, 2) := by decide +kernel
theorem dX7_share_49 : decode cX7_share 49 = .ok (.getfield 150, 3) := by decide +kernel
theorem dX7_share_52 : decode cX7_share 52 = .ok (.aload 4, 2) := by decide +kernel
theorem dX7_share_54 : decode cX7_share 54 = .ok (.getfield 153, 3) := by decide +kernel
theorem dX7_share_57 : decode cX7_share 57 = .ok (.invokevirtual 194, 3) := by decide +kernel
theorem dX7_share_60 : decode cX7_share 60 = .ok (.iload_n 2, 1) := by decide +kernel
theorem dX7_share_61 : decode cX7_share 61 = .ok (.iconst 1, 1) := by decide +kernel
theorem dX7_share_62 : decode cX7_share 62 = .ok (.if_icmp .lt 12, 3) := by decide +kernel
theorem dX7_share_65 : decode cX7_share 65 = .ok (.iload_n 2, 1) := by decide +kernel
theorem dX7_share_66 : decode cX7_share 66 = .ok (.aload 5, 2) := by decide +kernel
theorem dX7_share_68 : decode cX7_share 68 = .ok (.getfield 200, 3) := by decide +kernel
theorem dX7_share_71 : decode cX7_share 71 = .ok (.if_icmp .le 5, 3) := by decide +kernel
theorem dX7_share_74 : decode cX7_share 74 = .ok (.iconst (-1), 1) := by decide +kernel
theorem dX7_share_75 : decode cX7_share 75 = .ok (.ireturn, 1) := by decide +kernel
theorem dX7_share_76 : decode cX7_share 76 = .ok (.aload 5, 2) := by decide +kernel
theorem dX7_share_78 : decode cX7_share 78 = .ok (.iload_n 2, 1) := by decide +kernel
theorem dX7_share_79 : decode cX7_share 79 = .ok (.aload_n 0, 1) := by decide +kernel
theorem dX7_share_80 : decode cX7_share 80 = .ok (.getfield 10, 3) := by decide +kernel
theorem dX7_share_83 : decode cX7_share 83 = .ok (.getfield 129, 3) := by decide +kernel
theorem dX7_share_86 : decode cX7_share 86 = .ok (.invokevirtual 203, 3) := by decide +kernel
theorem dX7_share_89 : decode cX7_share 89 = .ok (.aload 5, 2) := by decide +kernel
theorem dX7_share_91 : decode cX7_share 91 = .ok (.aload 4, 2) := by decide +kernel
theorem dX7_share_93 : decode cX7_share 93 = .ok (.iload_n 3, 1) := by decide +kernel
theorem dX7_share_94 : decode cX7_share 94 = .ok (.invokevirtual 207, 3) := by decide +kernel
theorem dX7_share_97 : decode cX7_share 97 = .ok (.ireturn, 1) := by decide +kernel
set_option maxRecDepth 20000 in
theorem ggX7_takeFor_X0_find : GoodIn wsX7_takeFor wsX0_find := goodIn_r _ [12, 13, 14, 15, 95, 96, 97, 98, 89, 90, 91, 92, 93, 94] (by decide +kernel) (by decide +kernel)
set_option maxRecDepth 20000 in
theorem gX7_takeFor_X0_find : GoodIn wsX7_takeFor (wsV RX7 109 RX0 yX0_find wsX0_find) := goodIn_app (goodIn_of _ (by decide +kernel)) ggX7_takeFor_X0_find
set_option maxRecDepth 20000 in
theorem ggX7_takeFor_X5_load : GoodIn wsX7_takeFor wsX5_load := goodIn_r _ [20, 21, 22, 23, 24, 25, 26, 27, 28, 11, 29, 14, 30, 31, 32, 33, 34, 35, 36, 15, 37, 38, 39, 40, 19, 41, 42, 43, 44, 99, 100, 101, 102, 103, 104, 105, 106, 95, 96, 97, 98, 89, 90, 91, 92, 93, 94] (by decide +kernel) (by decide +kernel)
set_option maxRecDepth 20000 in
theorem gX7_takeFor_X5_load : GoodIn wsX7_takeFor (wsV RX7 194 RX5 yX5_load wsX5_load) := goodIn_app (goodIn_of _ (by decide +kernel)) ggX7_takeFor_X5_load
set_option maxRecDepth 20000 in
theorem ggX7_takeFor_X5_leastTake : GoodIn wsX7_takeFor wsX5_leastTake := goodIn_r _ [48, 21, 42, 43, 44, 49, 50, 51, 52, 22, 53, 54, 55, 56, 57, 58, 19, 59, 60, 61, 62, 63, 64, 65, 66, 67, 68, 69, 70, 71, 72, 73, 99, 100, 101, 102, 103, 104, 105, 106] (by decide +kernel) (by decide +kernel)
set_option maxRecDepth 20000 in
theorem gX7_takeFor_X5_leastTake : GoodIn wsX7_takeFor (wsV RX7 211 RX5 yX5_leastTake wsX5_leastTake) := goodIn_app (goodIn_of _ (by decide +kernel)) ggX7_takeFor_X5_leastTake
theorem dX7_takeFor_0 : decode cX7_takeFor 0 = .ok (.aload_n 0, 1) := by decide +kernel
theorem dX7_takeFor_1 : decode cX7_takeFor 1 = .ok (.getfield 10, 3) := by decide +kernel
theorem dX7_takeFor_4 : decode cX7_takeFor 4 = .ok (.getfield 105, 3) := by decide +kernel
theorem dX7_takeFor_7 : decode cX7_takeFor 7 = .ok (.iload_n 1, 1) := by decide +kernel
theorem dX7_takeFor_8 : decode cX7_takeFor 8 = .ok (.invokevirtual 109, 3) := by decide +kernel
theorem dX7_takeFor_11 : decode cX7_takeFor 11 = .ok (.astore_n 3, 1) := by decide +kernel
theorem dX7_takeFor_12 : decode cX7_takeFor 12 = .ok (.aload_n 3, 1) := by decide +kernel
theorem dX7_takeFor_13 : decode cX7_takeFor 13 = .ok (.ifnull 12, 3) := by decide +kernel
theorem dX7_takeFor_16 : decode cX7_takeFor 16 = .ok (.iload_n 2, 1) := by decide +kernel
theorem dX7_takeFor_17 : decode cX7_takeFor 17 = .ok (.ifCond .lt 8, 3) := by decide +kernel
theorem dX7_takeFor_20 : decode cX7_takeFor 20 = .ok (.iload_n 2, 1) := by decide +kernel
theorem dX7_takeFor_21 : decode cX7_takeFor 21 = .ok (.iconst 1, 1) := by decide +kernel
theorem dX7_takeFor_22 : decode cX7_takeFor 22 = .ok (.if_icmp .le 5, 3) := by decide +kernel
theorem dX7_takeFor_25 : decode cX7_takeFor 25 = .ok (.iconst (-1), 1) := by decide +kernel
theorem dX7_takeFor_26 : decode cX7_takeFor 26 = .ok (.ireturn, 1) := by decide +kernel
theorem dX7_takeFor_27 : decode cX7_takeFor 27 = .ok (.aload_n 0, 1) := by decide +kernel
theorem dX7_takeFor_28 : decode cX7_takeFor 28 = .ok (.getfield 10, 3) := by decide +kernel
theorem dX7_takeFor_31 : decode cX7_takeFor 31 = .ok (.getfield 190, 3) := by decide +kernel
theorem dX7_takeFor_34 : decode cX7_takeFor 34 = .ok (.aload_n 0, 1) := by decide +kernel
theorem dX7_takeFor_35 : decode cX7_takeFor 35 = .ok (.getfield 10, 3) := by decide +kernel
theorem dX7_takeFor_38 : decode cX7_takeFor 38 = .ok (.getfield 105, 3) := by decide +kernel
theorem dX7_takeFor_41 : decode cX7_takeFor 41 = .ok (.aload_n 3, 1) := by decide +kernel
theorem dX7_takeFor_42 : decode cX7_takeFor 42 = .ok (.getfield 150, 3) := by decide +kernel
theorem dX7_takeFor_45 : decode cX7_takeFor 45 = .ok (.aload_n 3, 1) := by decide +kernel
theorem dX7_takeFor_46 : decode cX7_takeFor 46 = .ok (.getfield 153, 3) := by decide +kernel
theorem dX7_takeFor_49 : decode cX7_takeFor 49 = .ok (.invokevirtual 194, 3) := by decide +kernel
theorem dX7_takeFor_52 : decode cX7_takeFor 52 = .ok (.aload_n 0, 1) := by decide +kernel
theorem dX7_takeFor_53 : decode cX7_takeFor 53 = .ok (.getfield 10, 3) := by decide +kernel
theorem dX7_takeFor_56 : decode cX7_takeFor 56 = .ok (.getfield 190, 3) := by decide +kernel
theorem dX7_takeFor_59 : decode cX7_takeFor 59 = .ok (.aload_n 3, 1) := by decide +kernel
theorem dX7_takeFor_60 : decode cX7_takeFor 60 = .ok (.iload_n 2, 1) := by decide +kernel
theorem dX7_takeFor_61 : decode cX7_takeFor 61 = .ok (.ifCond .ne 7, 3) := by decide +kernel
theorem dX7_takeFor_64 : decode cX7_takeFor 64 = .ok (.iconst 1, 1) := by decide +kernel
theorem dX7_takeFor_65 : decode cX7_takeFor 65 = .ok (.goto 7, 3) := by decide +kernel
theorem dX7_takeFor_68 : decode cX7_takeFor 68 = .ok (.aload_n 3, 1) := by decide +kernel
theorem dX7_takeFor_69 : decode cX7_takeFor 69 = .ok (.getfield 115, 3) := by decide +kernel
theorem dX7_takeFor_72 : decode cX7_takeFor 72 = .ok (.aload_n 0, 1) := by decide +kernel
theorem dX7_takeFor_73 : decode cX7_takeFor 73 = .ok (.getfield 10, 3) := by decide +kernel
theorem dX7_takeFor_76 : decode cX7_takeFor 76 = .ok (.getfield 129, 3) := by decide +kernel
theorem dX7_takeFor_79 : decode cX7_takeFor 79 = .ok (.invokevirtual 211, 3) := by decide +kernel
theorem dX7_takeFor_82 : decode cX7_takeFor 82 = .ok (.ireturn, 1) := by decide +kernel
set_option maxRecDepth 20000 in
theorem ggX7_splits_X0_find : GoodIn wsX7_splits wsX0_find := goodIn_r _ [12, 13, 14, 15, 102, 103, 104, 105, 88, 89, 90, 91, 92, 93] (by decide +kernel) (by decide +kernel)
set_option maxRecDepth 20000 in
theorem gX7_splits_X0_find : GoodIn wsX7_splits (wsV RX7 109 RX0 yX0_find wsX0_find) := goodIn_app (goodIn_of _ (by decide +kernel)) ggX7_splits_X0_find
set_option maxRecDepth 20000 in
theorem ggX7_splits_X5_loadInParts : GoodIn wsX7_splits wsX5_loadInParts := goodIn_r _ [20, 21, 22, 23, 24, 25, 26, 27, 28, 29, 30, 19, 31, 32, 33, 34, 35, 36, 37, 38, 39, 40, 41, 11, 42, 14, 43, 44, 45, 46, 47, 48, 49, 15, 50, 94, 95, 96, 97, 98, 99, 100, 101, 102, 103, 104, 105, 88, 89, 90, 91, 92, 93] (by decide +kernel) (by decide +kernel)
set_option maxRecDepth 20000 in
theorem gX7_splits_X5_loadInParts : GoodIn wsX7_splits (wsV RX7 216 RX5 yX5_loadInParts wsX5_loadInParts) := goodIn_app (goodIn_of _ (by decide +kernel)) ggX7_splits_X5_loadInParts
set_option maxRecDepth 20000 in
theorem ggX7_splits_X5_deal : GoodIn wsX7_splits wsX5_deal := goodIn_r _ [54, 21, 55, 37, 38, 56, 57, 58, 59, 60, 61, 62, 63, 19, 64, 94, 95, 96, 97, 98, 99, 100, 101] (by decide +kernel) (by decide +kernel)
set_option maxRecDepth 20000 in
theorem gX7_splits_X5_deal : GoodIn wsX7_splits (wsV RX7 203 RX5 yX5_deal wsX5_deal) := goodIn_app (goodIn_of _ (by decide +kernel)) ggX7_splits_X5_deal
set_option maxRecDepth 20000 in
theorem ggX7_splits_X5_partOf : GoodIn wsX7_splits wsX5_partOf := goodIn_r _ [68, 21, 36, 69, 70, 71, 19, 72, 55, 60, 61, 94, 95, 96, 97, 98, 99, 100, 101] (by decide +kernel) (by decide +kernel)
set_option maxRecDepth 20000 in
theorem gX7_splits_X5_partOf : GoodIn wsX7_splits (wsV RX7 207 RX5 yX5_partOf wsX5_partOf) := goodIn_app (goodIn_of _ (by decide +kernel)) ggX7_splits_X5_partOf
theorem dX7_splits_0 : decode cX7_splits 0 = .ok (.aload_n 0, 1) := by decide +kernel
theorem dX7_splits_1 : decode cX7_splits 1 = .ok (.getfield 10, 3) := by decide +kernel
theorem dX7_splits_4 : decode cX7_splits 4 = .ok (.getfield 105, 3) := by decide +kernel
theorem dX7_splits_7 : decode cX7_splits 7 = .ok (.iload_n 1, 1) := by decide +kernel
theorem dX7_splits_8 : decode cX7_splits 8 = .ok (.invokevirtual 109, 3) := by decide +kernel
theorem dX7_splits_11 : decode cX7_splits 11 = .ok (.astore 4, 2) := by decide +kernel
theorem dX7_splits_13 : decode cX7_splits 13 = .ok (.aload 4, 2) := by decide +kernel
theorem dX7_splits_15 : decode cX7_splits 15 = .ok (.ifnull 23, 3) := by decide +kernel
theorem dX7_splits_18 : decode cX7_splits 18 = .ok (.iload_n 2, 1) := by decide +kernel
theorem dX7_splits_19 : decode cX7_splits 19 = .ok (.iconst 2, 1) := by decide +kernel
theorem dX7_splits_20 : decode cX7_splits 20 = .ok (.if_icmp .lt 18, 3) := by decide +kernel
theorem dX7_splits_23 : decode cX7_splits 23 = .ok (.iload_n 2, 1) := by decide +kernel
theorem dX7_splits_24 : decode cX7_splits 24 = .ok (.bipush 9, 2) := by decide +kernel
theorem dX7_splits_26 : decode cX7_splits 26 = .ok (.if_icmp .gt 12, 3) := by decide +kernel
theorem dX7_splits_29 : decode cX7_splits 29 = .ok (.aload 4, 2) := by decide +kernel
theorem dX7_splits_31 : decode cX7_splits 31 = .ok (.getfield 115, 3) := by decide +kernel
theorem dX7_splits_34 : decode cX7_splits 34 = .ok (.iload_n 2, 1) := by decide +kernel
theorem dX7_splits_35 : decode cX7_splits 35 = .ok (.if_icmp .ge 6, 3) := by decide +kernel
theorem dX7_splits_38 : decode cX7_splits 38 = .ok (.ldc 215, 2) := by decide +kernel
theorem dX7_splits_40 : decode cX7_splits 40 = .ok (.ireturn, 1) := by decide +kernel
theorem dX7_splits_41 : decode cX7_splits 41 = .ok (.aload_n 0, 1) := by decide +kernel
theorem dX7_splits_42 : decode cX7_splits 42 = .ok (.getfield 10, 3) := by decide +kernel
theorem dX7_splits_45 : decode cX7_splits 45 = .ok (.getfield 190, 3) := by decide +kernel
theorem dX7_splits_48 : decode cX7_splits 48 = .ok (.astore 5, 2) := by decide +kernel
theorem dX7_splits_50 : decode cX7_splits 50 = .ok (.aload 5, 2) := by decide +kernel
theorem dX7_splits_52 : decode cX7_splits 52 = .ok (.aload_n 0, 1) := by decide +kernel
theorem dX7_splits_53 : decode cX7_splits 53 = .ok (.getfield 10, 3) := by decide +kernel
theorem dX7_splits_56 : decode cX7_splits 56 = .ok (.getfield 105, 3) := by decide +kernel
theorem dX7_splits_59 : decode cX7_splits 59 = .ok (.aload 4, 2) := by decide +kernel
theorem dX7_splits_61 : decode cX7_splits 61 = .ok (.iconst 1, 1) := by decide +kernel
theorem dX7_splits_62 : decode cX7_splits 62 = .ok (.invokevirtual 216, 3) := by decide +kernel
theorem dX7_splits_65 : decode cX7_splits 65 = .ok (.iload_n 3, 1) := by decide +kernel
theorem dX7_splits_66 : decode cX7_splits 66 = .ok (.iconst 1, 1) := by decide +kernel
theorem dX7_splits_67 : decode cX7_splits 67 = .ok (.if_icmp .lt 12, 3) := by decide +kernel
theorem dX7_splits_70 : decode cX7_splits 70 = .ok (.iload_n 3, 1) := by decide +kernel
theorem dX7_splits_71 : decode cX7_splits 71 = .ok (.aload 5, 2) := by decide +kernel
theorem dX7_splits_73 : decode cX7_splits 73 = .ok (.getfield 200, 3) := by decide +kernel
theorem dX7_splits_76 : decode cX7_splits 76 = .ok (.if_icmp .le 6, 3) := by decide +kernel
theorem dX7_splits_79 : decode cX7_splits 79 = .ok (.ldc 215, 2) := by decide +kernel
theorem dX7_splits_81 : decode cX7_splits 81 = .ok (.ireturn, 1) := by decide +kernel
theorem dX7_splits_82 : decode cX7_splits 82 = .ok (.aload 5, 2) := by decide +kernel
theorem dX7_splits_84 : decode cX7_splits 84 = .ok (.iload_n 3, 1) := by decide +kernel
theorem dX7_splits_85 : decode cX7_splits 85 = .ok (.aload_n 0, 1) := by decide +kernel
theorem dX7_splits_86 : decode cX7_splits 86 = .ok (.getfield 10, 3) := by decide +kernel
theorem dX7_splits_89 : decode cX7_splits 89 = .ok (.getfield 129, 3) := by decide +kernel
theorem dX7_splits_92 : decode cX7_splits 92 = .ok (.invokevirtual 203, 3) := by decide +kernel
theorem dX7_splits_95 : decode cX7_splits 95 = .ok (.aload 5, 2) := by decide +kernel
theorem dX7_splits_97 : decode cX7_splits 97 = .ok (.aload 4, 2) := by decide +kernel
theorem dX7_splits_99 : decode cX7_splits 99 = .ok (.iconst 0, 1) := by decide +kernel
theorem dX7_splits_100 : decode cX7_splits 100 = .ok (.invokevirtual 207, 3) := by decide +kernel
theorem dX7_splits_103 : decode cX7_splits 103 = .ok (.istore 6, 2) := by decide +kernel
theorem dX7_splits_105 : decode cX7_splits 105 = .ok (.aload 5, 2) := by decide +kernel
theorem dX7_splits_107 : decode cX7_splits 107 = .ok (.aload_n 0, 1) := by decide +kernel
theorem dX7_splits_108 : decode cX7_splits 108 = .ok (.getfield 10, 3) := by decide +kernel
theorem dX7_splits_111 : decode cX7_splits 111 = .ok (.getfield 105, 3) := by decide +kernel
theorem dX7_splits_114 : decode cX7_splits 114 = .ok (.aload 4, 2) := by decide +kernel
theorem dX7_splits_116 : decode cX7_splits 116 = .ok (.iload_n 2, 1) := by decide +kernel
theorem dX7_splits_117 : decode cX7_splits 117 = .ok (.invokevirtual 216, 3) := by decide +kernel
theorem dX7_splits_120 : decode cX7_splits 120 = .ok (.aload 5, 2) := by decide +kernel
theorem dX7_splits_122 : decode cX7_splits 122 = .ok (.iload_n 3, 1) := by decide +kernel
theorem dX7_splits_123 : decode cX7_splits 123 = .ok (.aload_n 0, 1) := by decide +kernel
theorem dX7_splits_124 : decode cX7_splits 124 = .ok (.getfield 10, 3) := by decide +kernel
theorem dX7_splits_127 : decode cX7_splits 127 = .ok (.getfield 129, 3) := by decide +kernel
theorem dX7_splits_130 : decode cX7_splits 130 = .ok (.invokevirtual 203, 3) := by decide +kernel
theorem dX7_splits_133 : decode cX7_splits 133 = .ok (.aload 5, 2) := by decide +kernel
theorem dX7_splits_135 : decode cX7_splits 135 = .ok (.aload 4, 2) := by decide +kernel
theorem dX7_splits_137 : decode cX7_splits 137 = .ok (.iconst 0, 1) := by decide +kernel
theorem dX7_splits_138 : decode cX7_splits 138 = .ok (.invokevirtual 207, 3) := by decide +kernel
theorem dX7_splits_141 : decode cX7_splits 141 = .ok (.iload 6, 2) := by decide +kernel
theorem dX7_splits_143 : decode cX7_splits 143 = .ok (.isub, 1) := by decide +kernel
theorem dX7_splits_144 : decode cX7_splits 144 = .ok (.ireturn, 1) := by decide +kernel
set_option maxRecDepth 20000 in
theorem ggX7_would_X7_isForm : GoodIn wsX7_would wsX7_isForm := goodIn_r _ [13, 14, 15, 16, 12, 17, 18, 19, 20] (by decide +kernel) (by decide +kernel)
set_option maxRecDepth 20000 in
theorem gX7_would_X7_isForm : GoodIn wsX7_would (va_wsS RX7 87 yX7_isForm wsX7_isForm) := goodIn_app (goodIn_of _ (by decide +kernel)) ggX7_would_X7_isForm
set_option maxRecDepth 20000 in
theorem ggX7_would_X7_isWorthInt : GoodIn wsX7_would wsX7_isWorthInt := goodIn_r _ [23, 24] (by decide +kernel) (by decide +kernel)
set_option maxRecDepth 20000 in
theorem gX7_would_X7_isWorthInt : GoodIn wsX7_would (va_wsS RX7 91 yX7_isWorthInt wsX7_isWorthInt) := goodIn_app (goodIn_of _ (by decide +kernel)) ggX7_would_X7_isWorthInt
set_option maxRecDepth 20000 in
theorem ggX7_would_X2_prepareTrial : GoodIn wsX7_would wsX2_prepareTrial := goodIn_r _ [29, 30, 31, 32, 33, 34, 35, 36, 37, 38, 39, 40, 41, 42, 43, 44, 45, 46, 47, 48, 49, 50, 51, 52, 53, 54, 55, 56, 57, 58, 59, 60, 61, 62, 63, 64, 65, 66, 67, 68, 69, 70, 71, 72, 73, 214, 215, 216, 217, 218, 219, 220, 221, 222, 223, 224, 225, 239, 240, 241, 242, 233, 234, 235, 236, 237, 238, 226, 227, 228, 229, 230, 231, 232] (by decide +kernel) (by decide +kernel)
set_option maxRecDepth 20000 in
theorem gX7_would_X2_prepareTrial : GoodIn wsX7_would (wsV RX7 220 RX2 yX2_prepareTrial wsX2_prepareTrial) := goodIn_app (goodIn_of _ (by decide +kernel)) ggX7_would_X2_prepareTrial
set_option maxRecDepth 20000 in
theorem ggX7_would_X2_comeIn_h : GoodIn wsX7_would [Cond.code yX2_comeIn cX2_comeIn 6 (some .int)] := goodIn_r _ [77] (by decide +kernel) (by decide +kernel)
set_option maxRecDepth 20000 in
theorem ggX7_would_X2_comeIn_1 : GoodIn wsX7_would wsX2_comeIn_r1 := goodIn_r _ [34, 30, 35, 78, 79, 80, 81, 82, 42, 83, 44, 84, 60, 61, 51, 62, 53, 54, 55, 56, 57, 58, 85, 86] (by decide +kernel) (by decide +kernel)
set_option maxRecDepth 20000 in
theorem ggX7_would_X2_comeIn_2 : GoodIn wsX7_would wsX2_comeIn_r2 := goodIn_r _ [87, 28, 88, 89, 90, 91, 92, 93, 94, 95, 96, 97, 98, 99, 45, 100, 101, 102, 12, 103, 104, 105, 106, 107] (by decide +kernel) (by decide +kernel)
set_option maxRecDepth 20000 in
theorem ggX7_would_X2_comeIn_3 : GoodIn wsX7_would wsX2_comeIn_r3 := goodIn_r _ [108, 109, 110, 111, 112, 113, 114, 115, 116, 117, 118, 37, 36, 119, 120, 121, 122, 38, 123, 124, 125, 126, 127, 128] (by decide +kernel) (by decide +kernel)
set_option maxRecDepth 20000 in
theorem ggX7_would_X2_comeIn_4 : GoodIn wsX7_would wsX2_comeIn_r4 := goodIn_r _ [129, 130, 131, 46, 132, 47, 133, 134, 135, 136, 137, 138, 33, 139, 140, 141, 142, 31, 143, 144, 145, 146, 147, 148] (by decide +kernel) (by decide +kernel)
set_option maxRecDepth 20000 in
theorem ggX7_would_X2_comeIn_5 : GoodIn wsX7_would wsX2_comeIn_r5 := goodIn_r _ [149, 150, 151, 152, 153, 154, 155, 156, 157, 158, 159, 160, 161, 162, 163, 164, 165, 166, 167, 168, 169, 170, 171, 172] (by decide +kernel) (by decide +kernel)
set_option maxRecDepth 20000 in
theorem ggX7_would_X2_comeIn_6 : GoodIn wsX7_would wsX2_comeIn_r6 := goodIn_r _ [173, 174, 175, 176, 177, 178, 179, 180, 181, 182, 183, 184, 185, 186, 187, 188, 189, 66, 190, 191, 69, 68, 192, 70] (by decide +kernel) (by decide +kernel)
set_option maxRecDepth 20000 in
theorem ggX7_would_X2_comeIn_7 : GoodIn wsX7_would wsX2_comeIn_r7 := goodIn_r _ [193, 194, 195, 196, 72, 73, 197, 198, 199, 200, 201, 32, 202, 203, 204, 205, 206, 48, 49, 50, 52, 59, 207, 208] (by decide +kernel) (by decide +kernel)
set_option maxRecDepth 20000 in
theorem ggX7_would_X2_comeIn_8 : GoodIn wsX7_would wsX2_comeIn_r8 := goodIn_r _ [209, 210] (by decide +kernel) (by decide +kernel)
set_option maxRecDepth 20000 in
theorem ggX7_would_X2_comeIn_9 : GoodIn wsX7_would wsX20 := goodIn_r _ [214, 215, 216, 217, 218, 219, 220, 221, 222, 223, 224, 225] (by decide +kernel) (by decide +kernel)
set_option maxRecDepth 20000 in
theorem ggX7_would_X2_comeIn_10 : GoodIn wsX7_would wsX40 := goodIn_r _ [233, 234, 235, 236, 237, 238] (by decide +kernel) (by decide +kernel)
set_option maxRecDepth 20000 in
theorem ggX7_would_X2_comeIn_11 : GoodIn wsX7_would wsX00 := goodIn_r _ [239, 240, 241, 242] (by decide +kernel) (by decide +kernel)
set_option maxRecDepth 20000 in
theorem ggX7_would_X2_comeIn_12 : GoodIn wsX7_would wsX50 := goodIn_r _ [243, 244, 245, 246, 247, 248, 249, 250] (by decide +kernel) (by decide +kernel)
set_option maxRecDepth 20000 in
theorem ggX7_would_X2_comeIn_13 : GoodIn wsX7_would wsX30 := goodIn_r _ [226, 227, 228, 229, 230, 231, 232] (by decide +kernel) (by decide +kernel)
theorem ggX7_would_X2_comeIn : GoodIn wsX7_would wsX2_comeIn := goodIn_app ggX7_would_X2_comeIn_h (goodIn_app (goodIn_app (goodIn_app (goodIn_app (goodIn_app (goodIn_app ggX7_would_X2_comeIn_1 (goodIn_app ggX7_would_X2_comeIn_2 (goodIn_app ggX7_would_X2_comeIn_3 (goodIn_app ggX7_would_X2_comeIn_4 (goodIn_app ggX7_would_X2_comeIn_5 (goodIn_app ggX7_would_X2_comeIn_6 (goodIn_app ggX7_would_X2_comeIn_7 ggX7_would_X2_comeIn_8))))))) ggX7_would_X2_comeIn_9) ggX7_would_X2_comeIn_10) ggX7_would_X2_comeIn_11) ggX7_would_X2_comeIn_12) ggX7_would_X2_comeIn_13)
set_option maxRecDepth 20000 in
theorem gX7_would_X2_comeIn : GoodIn wsX7_would (wsV RX7 62 RX2 yX2_comeIn wsX2_comeIn) := goodIn_app (goodIn_of _ (by decide +kernel)) ggX7_would_X2_comeIn
theorem dX7_would_0 : decode cX7_would 0 = .ok (.iload_n 1, 1) := by decide +kernel
theorem dX7_would_1 : decode cX7_would 1 = .ok (.iload_n 2, 1) := by decide +kernel
theorem dX7_would_2 : decode cX7_would 2 = .ok (.iload_n 3, 1) := by decide +kernel
theorem dX7_would_3 : decode cX7_would 3 = .ok (.iload 4, 2) := by decide +kernel
theorem dX7_would_5 : decode cX7_would 5 = .ok (.iload 5, 2) := by decide +kernel
theorem dX7_would_7 : decode cX7_would 7 = .ok (.invokestatic 87, 3) := by decide +kernel
theorem dX7_would_10 : decode cX7_would 10 = .ok (.ifCond .eq 12, 3) := by decide +kernel
theorem dX7_would_13 : decode cX7_would 13 = .ok (.iload_n 3, 1) := by decide +kernel
theorem dX7_would_14 : decode cX7_would 14 = .ok (.iload 4, 2) := by decide +kernel
theorem dX7_would_16 : decode cX7_would 16 = .ok (.invokestatic 91, 3) := by decide +kernel
theorem dX7_would_19 : decode cX7_would 19 = .ok (.ifCond .ne 5, 3) := by decide +kernel
theorem dX7_would_22 : decode cX7_would 22 = .ok (.iconst (-1), 1) := by decide +kernel
theorem dX7_would_23 : decode cX7_would 23 = .ok (.ireturn, 1) := by decide +kernel
theorem dX7_would_24 : decode cX7_would 24 = .ok (.aload_n 0, 1) := by decide +kernel
theorem dX7_would_25 : decode cX7_would 25 = .ok (.getfield 16, 3) := by decide +kernel
theorem dX7_would_28 : decode cX7_would 28 = .ok (.aload_n 0, 1) := by decide +kernel
theorem dX7_would_29 : decode cX7_would 29 = .ok (.getfield 10, 3) := by decide +kernel
theorem dX7_would_32 : decode cX7_would 32 = .ok (.invokevirtual 220, 3) := by decide +kernel
theorem dX7_would_35 : decode cX7_would 35 = .ok (.aload_n 0, 1) := by decide +kernel
theorem dX7_would_36 : decode cX7_would 36 = .ok (.getfield 16, 3) := by decide +kernel
theorem dX7_would_39 : decode cX7_would 39 = .ok (.iload_n 1, 1) := by decide +kernel
theorem dX7_would_40 : decode cX7_would 40 = .ok (.iload_n 2, 1) := by decide +kernel
theorem dX7_would_41 : decode cX7_would 41 = .ok (.iload_n 3, 1) := by decide +kernel
theorem dX7_would_42 : decode cX7_would 42 = .ok (.iload 4, 2) := by decide +kernel
theorem dX7_would_44 : decode cX7_would 44 = .ok (.iload 5, 2) := by decide +kernel
theorem dX7_would_46 : decode cX7_would 46 = .ok (.invokevirtual 62, 3) := by decide +kernel
theorem dX7_would_49 : decode cX7_would 49 = .ok (.pop, 1) := by decide +kernel
theorem dX7_would_50 : decode cX7_would 50 = .ok (.iload 6, 2) := by decide +kernel
theorem dX7_would_52 : decode cX7_would 52 = .ok (.tableswitch 81 0 3 #[32, 43, 54, 65], 32) := by decide +kernel
theorem dX7_would_84 : decode cX7_would 84 = .ok (.aload_n 0, 1) := by decide +kernel
theorem dX7_would_85 : decode cX7_would 85 = .ok (.getfield 16, 3) := by decide +kernel
theorem dX7_would_88 : decode cX7_would 88 = .ok (.getfield 224, 3) := by decide +kernel
theorem dX7_would_91 : decode cX7_would 91 = .ok (.getfield 228, 3) := by decide +kernel
theorem dX7_would_94 : decode cX7_would 94 = .ok (.ireturn, 1) := by decide +kernel
theorem dX7_would_95 : decode cX7_would 95 = .ok (.aload_n 0, 1) := by decide +kernel
theorem dX7_would_96 : decode cX7_would 96 = .ok (.getfield 16, 3) := by decide +kernel
theorem dX7_would_99 : decode cX7_would 99 = .ok (.getfield 233, 3) := by decide +kernel
theorem dX7_would_102 : decode cX7_would 102 = .ok (.getfield 115, 3) := by decide +kernel
theorem dX7_would_105 : decode cX7_would 105 = .ok (.ireturn, 1) := by decide +kernel
theorem dX7_would_106 : decode cX7_would 106 = .ok (.aload_n 0, 1) := by decide +kernel
theorem dX7_would_107 : decode cX7_would 107 = .ok (.getfield 16, 3) := by decide +kernel
theorem dX7_would_110 : decode cX7_would 110 = .ok (.getfield 224, 3) := by decide +kernel
theorem dX7_would_113 : decode cX7_would 113 = .ok (.getfield 237, 3) := by decide +kernel
theorem dX7_would_116 : decode cX7_would 116 = .ok (.ireturn, 1) := by decide +kernel
theorem dX7_would_117 : decode cX7_would 117 = .ok (.aload_n 0, 1) := by decide +kernel
theorem dX7_would_118 : decode cX7_would 118 = .ok (.getfield 16, 3) := by decide +kernel
theorem dX7_would_121 : decode cX7_would 121 = .ok (.getfield 240, 3) := by decide +kernel
theorem dX7_would_124 : decode cX7_would 124 = .ok (.aload_n 0, 1) := by decide +kernel
theorem dX7_would_125 : decode cX7_would 125 = .ok (.getfield 16, 3) := by decide +kernel
theorem dX7_would_128 : decode cX7_would 128 = .ok (.getfield 243, 3) := by decide +kernel
theorem dX7_would_131 : decode cX7_would 131 = .ok (.iadd, 1) := by decide +kernel
theorem dX7_would_132 : decode cX7_would 132 = .ok (.ireturn, 1) := by decide +kernel
theorem dX7_would_133 : decode cX7_would 133 = .ok (.iconst (-1), 1) := by decide +kernel
theorem dX7_would_134 : decode cX7_would 134 = .ok (.ireturn, 1) := by decide +kernel
set_option maxRecDepth 20000 in
theorem ggX7_worth_X7_isForm : GoodIn wsX7_worth wsX7_isForm := goodIn_r _ [9, 10, 11, 12, 8, 13, 14, 15, 16] (by decide +kernel) (by decide +kernel)
set_option maxRecDepth 20000 in
theorem gX7_worth_X7_isForm : GoodIn wsX7_worth (va_wsS RX7 87 yX7_isForm wsX7_isForm) := goodIn_app (goodIn_of _ (by decide +kernel)) ggX7_worth_X7_isForm
set_option maxRecDepth 20000 in
theorem ggX7_worth_X7_isWorthInt : GoodIn wsX7_worth wsX7_isWorthInt := goodIn_r _ [19, 20] (by decide +kernel) (by decide +kernel)
set_option maxRecDepth 20000 in
theorem gX7_worth_X7_isWorthInt : GoodIn wsX7_worth (va_wsS RX7 91 yX7_isWorthInt wsX7_isWorthInt) := goodIn_app (goodIn_of _ (by decide +kernel)) ggX7_worth_X7_isWorthInt
set_option maxRecDepth 20000 in
theorem ggX7_worth_X2_prepareTrial : GoodIn wsX7_worth wsX2_prepareTrial := goodIn_r _ [25, 26, 27, 28, 29, 30, 31, 32, 33, 34, 35, 36, 37, 38, 39, 40, 41, 42, 43, 44, 45, 46, 47, 48, 49, 50, 51, 52, 53, 54, 55, 56, 57, 58, 59, 60, 61, 62, 63, 64, 65, 66, 67, 68, 69, 210, 211, 212, 213, 214, 215, 216, 217, 218, 219, 220, 221, 229, 230, 231, 232, 233, 234, 235, 236, 237, 238, 222, 223, 224, 225, 226, 227, 228] (by decide +kernel) (by decide +kernel)
set_option maxRecDepth 20000 in
theorem gX7_worth_X2_prepareTrial : GoodIn wsX7_worth (wsV RX7 220 RX2 yX2_prepareTrial wsX2_prepareTrial) := goodIn_app (goodIn_of _ (by decide +kernel)) ggX7_worth_X2_prepareTrial
set_option maxRecDepth 20000 in
theorem ggX7_worth_X2_comeIn_h : GoodIn wsX7_worth [Cond.code yX2_comeIn cX2_comeIn 6 (some .int)] := goodIn_r _ [73] (by decide +kernel) (by decide +kernel)
set_option maxRecDepth 20000 in
theorem ggX7_worth_X2_comeIn_1 : GoodIn wsX7_worth wsX2_comeIn_r1 := goodIn_r _ [30, 26, 31, 74, 75, 76, 77, 78, 38, 79, 40, 80, 56, 57, 47, 58, 49, 50, 51, 52, 53, 54, 81, 82] (by decide +kernel) (by decide +kernel)
set_option maxRecDepth 20000 in
theorem ggX7_worth_X2_comeIn_2 : GoodIn wsX7_worth wsX2_comeIn_r2 := goodIn_r _ [83, 24, 84, 85, 86, 87, 88, 89, 90, 91, 92, 93, 94, 95, 41, 96, 97, 98, 8, 99, 100, 101, 102, 103] (by decide +kernel) (by decide +kernel)
set_option maxRecDepth 20000 in
theorem ggX7_worth_X2_comeIn_3 : GoodIn wsX7_worth wsX2_comeIn_r3 := goodIn_r _ [104, 105, 106, 107, 108, 109, 110, 111, 112, 113, 114, 33, 32, 115, 116, 117, 118, 34, 119, 120, 121, 122, 123, 124] (by decide +kernel) (by decide +kernel)
set_option maxRecDepth 20000 in
theorem ggX7_worth_X2_comeIn_4 : GoodIn wsX7_worth wsX2_comeIn_r4 := goodIn_r _ [125, 126, 127, 42, 128, 43, 129, 130, 131, 132, 133, 134, 29, 135, 136, 137, 138, 27, 139, 140, 141, 142, 143, 144] (by decide +kernel) (by decide +kernel)
set_option maxRecDepth 20000 in
theorem ggX7_worth_X2_comeIn_5 : GoodIn wsX7_worth wsX2_comeIn_r5 := goodIn_r _ [145, 146, 147, 148, 149, 150, 151, 152, 153, 154, 155, 156, 157, 158, 159, 160, 161, 162, 163, 164, 165, 166, 167, 168] (by decide +kernel) (by decide +kernel)
set_option maxRecDepth 20000 in
theorem ggX7_worth_X2_comeIn_6 : GoodIn wsX7_worth wsX2_comeIn_r6 := goodIn_r _ [169, 170, 171, 172, 173, 174, 175, 176, 177, 178, 179, 180, 181, 182, 183, 184, 185, 62, 186, 187, 65, 64, 188, 66] (by decide +kernel) (by decide +kernel)
set_option maxRecDepth 20000 in
theorem ggX7_worth_X2_comeIn_7 : GoodIn wsX7_worth wsX2_comeIn_r7 := goodIn_r _ [189, 190, 191, 192, 68, 69, 193, 194, 195, 196, 197, 28, 198, 199, 200, 201, 202, 44, 45, 46, 48, 55, 203, 204] (by decide +kernel) (by decide +kernel)
set_option maxRecDepth 20000 in
theorem ggX7_worth_X2_comeIn_8 : GoodIn wsX7_worth wsX2_comeIn_r8 := goodIn_r _ [205, 206] (by decide +kernel) (by decide +kernel)
set_option maxRecDepth 20000 in
theorem ggX7_worth_X2_comeIn_9 : GoodIn wsX7_worth wsX20 := goodIn_r _ [210, 211, 212, 213, 214, 215, 216, 217, 218, 219, 220, 221] (by decide +kernel) (by decide +kernel)
set_option maxRecDepth 20000 in
theorem ggX7_worth_X2_comeIn_10 : GoodIn wsX7_worth wsX40 := goodIn_r _ [233, 234, 235, 236, 237, 238] (by decide +kernel) (by decide +kernel)
set_option maxRecDepth 20000 in
theorem ggX7_worth_X2_comeIn_11 : GoodIn wsX7_worth wsX00 := goodIn_r _ [229, 230, 231, 232] (by decide +kernel) (by decide +kernel)
set_option maxRecDepth 20000 in
theorem ggX7_worth_X2_comeIn_12 : GoodIn wsX7_worth wsX50 := goodIn_r _ [239, 240, 241, 242, 243, 244, 245, 246] (by decide +kernel) (by decide +kernel)
set_option maxRecDepth 20000 in
theorem ggX7_worth_X2_comeIn_13 : GoodIn wsX7_worth wsX30 := goodIn_r _ [222, 223, 224, 225, 226, 227, 228] (by decide +kernel) (by decide +kernel)
theorem ggX7_worth_X2_comeIn : GoodIn wsX7_worth wsX2_comeIn := goodIn_app ggX7_worth_X2_comeIn_h (goodIn_app (goodIn_app (goodIn_app (goodIn_app (goodIn_app (goodIn_app ggX7_worth_X2_comeIn_1 (goodIn_app ggX7_worth_X2_comeIn_2 (goodIn_app ggX7_worth_X2_comeIn_3 (goodIn_app ggX7_worth_X2_comeIn_4 (goodIn_app ggX7_worth_X2_comeIn_5 (goodIn_app ggX7_worth_X2_comeIn_6 (goodIn_app ggX7_worth_X2_comeIn_7 ggX7_worth_X2_comeIn_8))))))) ggX7_worth_X2_comeIn_9) ggX7_worth_X2_comeIn_10) ggX7_worth_X2_comeIn_11) ggX7_worth_X2_comeIn_12) ggX7_worth_X2_comeIn_13)
set_option maxRecDepth 20000 in
theorem gX7_worth_X2_comeIn : GoodIn wsX7_worth (wsV RX7 62 RX2 yX2_comeIn wsX2_comeIn) := goodIn_app (goodIn_of _ (by decide +kernel)) ggX7_worth_X2_comeIn
theorem dX7_worth_0 : decode cX7_worth 0 = .ok (.iload_n 1, 1) := by decide +kernel
theorem dX7_worth_1 : decode cX7_worth 1 = .ok (.iload_n 2, 1) := by decide +kernel
theorem dX7_worth_2 : decode cX7_worth 2 = .ok (.iload_n 3, 1) := by decide +kernel
theorem dX7_worth_3 : decode cX7_worth 3 = .ok (.iload 4, 2) := by decide +kernel
theorem dX7_worth_5 : decode cX7_worth 5 = .ok (.iload 5, 2) := by decide +kernel
theorem dX7_worth_7 : decode cX7_worth 7 = .ok (.invokestatic 87, 3) := by decide +kernel
theorem dX7_worth_10 : decode cX7_worth 10 = .ok (.ifCond .eq 12, 3) := by decide +kernel
theorem dX7_worth_13 : decode cX7_worth 13 = .ok (.iload_n 3, 1) := by decide +kernel
theorem dX7_worth_14 : decode cX7_worth 14 = .ok (.iload 4, 2) := by decide +kernel
theorem dX7_worth_16 : decode cX7_worth 16 = .ok (.invokestatic 91, 3) := by decide +kernel
theorem dX7_worth_19 : decode cX7_worth 19 = .ok (.ifCond .ne 7, 3) := by decide +kernel
theorem dX7_worth_22 : decode cX7_worth 22 = .ok (.ldc2_w 246, 3) := by decide +kernel
theorem dX7_worth_25 : decode cX7_worth 25 = .ok (.lreturn, 1) := by decide +kernel
theorem dX7_worth_26 : decode cX7_worth 26 = .ok (.aload_n 0, 1) := by decide +kernel
theorem dX7_worth_27 : decode cX7_worth 27 = .ok (.getfield 16, 3) := by decide +kernel
theorem dX7_worth_30 : decode cX7_worth 30 = .ok (.aload_n 0, 1) := by decide +kernel
theorem dX7_worth_31 : decode cX7_worth 31 = .ok (.getfield 10, 3) := by decide +kernel
theorem dX7_worth_34 : decode cX7_worth 34 = .ok (.invokevirtual 220, 3) := by decide +kernel
theorem dX7_worth_37 : decode cX7_worth 37 = .ok (.aload_n 0, 1) := by decide +kernel
theorem dX7_worth_38 : decode cX7_worth 38 = .ok (.getfield 16, 3) := by decide +kernel
theorem dX7_worth_41 : decode cX7_worth 41 = .ok (.iload_n 1, 1) := by decide +kernel
theorem dX7_worth_42 : decode cX7_worth 42 = .ok (.iload_n 2, 1) := by decide +kernel
theorem dX7_worth_43 : decode cX7_worth 43 = .ok (.iload_n 3, 1) := by decide +kernel
theorem dX7_worth_44 : decode cX7_worth 44 = .ok (.iload 4, 2) := by decide +kernel
theorem dX7_worth_46 : decode cX7_worth 46 = .ok (.iload 5, 2) := by decide +kernel
theorem dX7_worth_48 : decode cX7_worth 48 = .ok (.invokevirtual 62, 3) := by decide +kernel
theorem dX7_worth_51 : decode cX7_worth 51 = .ok (.pop, 1) := by decide +kernel
theorem dX7_worth_52 : decode cX7_worth 52 = .ok (.aload_n 0, 1) := by decide +kernel
theorem dX7_worth_53 : decode cX7_worth 53 = .ok (.getfield 16, 3) := by decide +kernel
theorem dX7_worth_56 : decode cX7_worth 56 = .ok (.getfield 224, 3) := by decide +kernel
theorem dX7_worth_59 : decode cX7_worth 59 = .ok (.getfield 248, 3) := by decide +kernel
theorem dX7_worth_62 : decode cX7_worth 62 = .ok (.iload_n 1, 1) := by decide +kernel
theorem dX7_worth_63 : decode cX7_worth 63 = .ok (.laload, 1) := by decide +kernel
theorem dX7_worth_64 : decode cX7_worth 64 = .ok (.lstore 6, 2) := by decide +kernel
theorem dX7_worth_66 : decode cX7_worth 66 = .ok (.iload_n 2, 1) := by decide +kernel
theorem dX7_worth_67 : decode cX7_worth 67 = .ok (.ifCond .ne 9, 3) := by decide +kernel
theorem dX7_worth_70 : decode cX7_worth 70 = .ok (.lload 6, 2) := by decide +kernel
theorem dX7_worth_72 : decode cX7_worth 72 = .ok (.lneg, 1) := by decide +kernel
theorem dX7_worth_73 : decode cX7_worth 73 = .ok (.goto 5, 3) := by decide +kernel
theorem dX7_worth_76 : decode cX7_worth 76 = .ok (.lload 6, 2) := by decide +kernel
theorem dX7_worth_78 : decode cX7_worth 78 = .ok (.lreturn, 1) := by decide +kernel
set_option maxRecDepth 20000 in
theorem ggX7_clears_X1_seek : GoodIn wsX7_clears wsX1_seek := goodIn_r _ [14, 15, 16, 17, 18, 19, 20, 21, 22, 23, 13, 24, 25, 26, 27, 28, 29, 30, 31, 32, 33, 34, 35, 36, 37, 38, 61, 62, 63, 64, 65, 66, 67, 68, 69, 70, 71, 72, 73] (by decide +kernel) (by decide +kernel)
set_option maxRecDepth 20000 in
theorem gX7_clears_X1_seek : GoodIn wsX7_clears (wsV RX7 256 RX1 yX1_seek wsX1_seek) := goodIn_app (goodIn_of _ (by decide +kernel)) ggX7_clears_X1_seek
theorem dX7_clears_0 : decode cX7_clears 0 = .ok (.iload_n 1, 1) := by decide +kernel
theorem dX7_clears_1 : decode cX7_clears 1 = .ok (.ifCond .lt 8, 3) := by decide +kernel
theorem dX7_clears_4 : decode cX7_clears 4 = .ok (.iload_n 1, 1) := by decide +kernel
theorem dX7_clears_5 : decode cX7_clears 5 = .ok (.iconst 2, 1) := by decide +kernel
theorem dX7_clears_6 : decode cX7_clears 6 = .ok (.if_icmp .le 5, 3) := by decide +kernel
theorem dX7_clears_9 : decode cX7_clears 9 = .ok (.iconst (-1), 1) := by decide +kernel
theorem dX7_clears_10 : decode cX7_clears 10 = .ok (.ireturn, 1) := by decide +kernel
theorem dX7_clears_11 : decode cX7_clears 11 = .ok (.aload_n 0, 1) := by decide +kernel
theorem dX7_clears_12 : decode cX7_clears 12 = .ok (.getfield 10, 3) := by decide +kernel
theorem dX7_clears_15 : decode cX7_clears 15 = .ok (.getfield 131, 3) := by decide +kernel
theorem dX7_clears_18 : decode cX7_clears 18 = .ok (.ifCond .ne 5, 3) := by decide +kernel
theorem dX7_clears_21 : decode cX7_clears 21 = .ok (.iconst 0, 1) := by decide +kernel
theorem dX7_clears_22 : decode cX7_clears 22 = .ok (.ireturn, 1) := by decide +kernel
theorem dX7_clears_23 : decode cX7_clears 23 = .ok (.aload_n 0, 1) := by decide +kernel
theorem dX7_clears_24 : decode cX7_clears 24 = .ok (.getfield 10, 3) := by decide +kernel
theorem dX7_clears_27 : decode cX7_clears 27 = .ok (.getfield 252, 3) := by decide +kernel
theorem dX7_clears_30 : decode cX7_clears 30 = .ok (.astore_n 2, 1) := by decide +kernel
theorem dX7_clears_31 : decode cX7_clears 31 = .ok (.aload_n 2, 1) := by decide +kernel
theorem dX7_clears_32 : decode cX7_clears 32 = .ok (.aload_n 0, 1) := by decide +kernel
theorem dX7_clears_33 : decode cX7_clears 33 = .ok (.getfield 10, 3) := by decide +kernel
theorem dX7_clears_36 : decode cX7_clears 36 = .ok (.getfield 105, 3) := by decide +kernel
theorem dX7_clears_39 : decode cX7_clears 39 = .ok (.aload_n 0, 1) := by decide +kernel
theorem dX7_clears_40 : decode cX7_clears 40 = .ok (.getfield 10, 3) := by decide +kernel
theorem dX7_clears_43 : decode cX7_clears 43 = .ok (.getfield 224, 3) := by decide +kernel
theorem dX7_clears_46 : decode cX7_clears 46 = .ok (.getfield 237, 3) := by decide +kernel
theorem dX7_clears_49 : decode cX7_clears 49 = .ok (.invokevirtual 256, 3) := by decide +kernel
theorem dX7_clears_52 : decode cX7_clears 52 = .ok (.iload_n 1, 1) := by decide +kernel
theorem dX7_clears_53 : decode cX7_clears 53 = .ok (.lookupswitch 37 #[(0, 27), (1, 32)], 27) := by decide +kernel
theorem dX7_clears_80 : decode cX7_clears 80 = .ok (.aload_n 2, 1) := by decide +kernel
theorem dX7_clears_81 : decode cX7_clears 81 = .ok (.getfield 262, 3) := by decide +kernel
theorem dX7_clears_84 : decode cX7_clears 84 = .ok (.ireturn, 1) := by decide +kernel
theorem dX7_clears_85 : decode cX7_clears 85 = .ok (.aload_n 2, 1) := by decide +kernel
theorem dX7_clears_86 : decode cX7_clears 86 = .ok (.getfield 263, 3) := by decide +kernel
theorem dX7_clears_89 : decode cX7_clears 89 = .ok (.ireturn, 1) := by decide +kernel
theorem dX7_clears_90 : decode cX7_clears 90 = .ok (.aload_n 2, 1) := by decide +kernel
theorem dX7_clears_91 : decode cX7_clears 91 = .ok (.getfield 266, 3) := by decide +kernel
theorem dX7_clears_94 : decode cX7_clears 94 = .ok (.ireturn, 1) := by decide +kernel
set_option maxRecDepth 20000 in
theorem ggX7_trade_X3_told : GoodIn wsX7_trade wsX3_told := goodIn_r _ [8, 9, 10, 11, 12, 13, 14, 30, 31, 32, 33, 34, 35, 36] (by decide +kernel) (by decide +kernel)
set_option maxRecDepth 20000 in
theorem gX7_trade_X3_told : GoodIn wsX7_trade (wsV RX7 272 RX3 yX3_told wsX3_told) := goodIn_app (goodIn_of _ (by decide +kernel)) ggX7_trade_X3_told
theorem dX7_trade_0 : decode cX7_trade 0 = .ok (.iload_n 1, 1) := by decide +kernel
theorem dX7_trade_1 : decode cX7_trade 1 = .ok (.ifCond .lt 26, 3) := by decide +kernel
theorem dX7_trade_4 : decode cX7_trade 4 = .ok (.iload_n 1, 1) := by decide +kernel
theorem dX7_trade_5 : decode cX7_trade 5 = .ok (.aload_n 0, 1) := by decide +kernel
theorem dX7_trade_6 : decode cX7_trade 6 = .ok (.getfield 10, 3) := by decide +kernel
theorem dX7_trade_9 : decode cX7_trade 9 = .ok (.getfield 224, 3) := by decide +kernel
theorem dX7_trade_12 : decode cX7_trade 12 = .ok (.getfield 269, 3) := by decide +kernel
theorem dX7_trade_15 : decode cX7_trade 15 = .ok (.if_icmp .ge 12, 3) := by decide +kernel
theorem dX7_trade_18 : decode cX7_trade 18 = .ok (.iload_n 2, 1) := by decide +kernel
theorem dX7_trade_19 : decode cX7_trade 19 = .ok (.ifCond .lt 8, 3) := by decide +kernel
theorem dX7_trade_22 : decode cX7_trade 22 = .ok (.iload_n 2, 1) := by decide +kernel
theorem dX7_trade_23 : decode cX7_trade 23 = .ok (.iconst 4, 1) := by decide +kernel
theorem dX7_trade_24 : decode cX7_trade 24 = .ok (.if_icmp .le 5, 3) := by decide +kernel
theorem dX7_trade_27 : decode cX7_trade 27 = .ok (.iconst (-1), 1) := by decide +kernel
theorem dX7_trade_28 : decode cX7_trade 28 = .ok (.ireturn, 1) := by decide +kernel
theorem dX7_trade_29 : decode cX7_trade 29 = .ok (.aload_n 0, 1) := by decide +kernel
