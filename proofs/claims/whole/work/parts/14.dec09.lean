set_option maxRecDepth 20000 in
theorem ggX8_rests_X8_setOrder : GoodIn wsX8_rests wsX8_setOrder := goodIn_r _ [6, 1, 7, 8, 9, 10, 11, 12, 13, 14, 15, 16, 17, 18, 19, 20, 21, 22, 23, 24, 25, 26, 27, 28, 29, 30, 31, 32, 33, 34, 35, 36, 37, 38] (by decide +kernel) (by decide +kernel)
set_option maxRecDepth 20000 in
theorem gX8_rests_X8_setOrder : GoodIn wsX8_rests (wsV RX8 64 RX8 yX8_setOrder wsX8_setOrder) := goodIn_app (goodIn_of _ (by decide +kernel)) ggX8_rests_X8_setOrder
theorem dX8_rests_0 : decode cX8_rests 0 = .ok (.aload_n 0, 1) := by decide +kernel
theorem dX8_rests_1 : decode cX8_rests 1 = .ok (.getfield 7, 3) := by decide +kernel
theorem dX8_rests_4 : decode cX8_rests 4 = .ok (.iconst 5, 1) := by decide +kernel
theorem dX8_rests_5 : decode cX8_rests 5 = .ok (.iaload, 1) := by decide +kernel
theorem dX8_rests_6 : decode cX8_rests 6 = .ok (.istore 7, 2) := by decide +kernel
theorem dX8_rests_8 : decode cX8_rests 8 = .ok (.aload_n 0, 1) := by decide +kernel
theorem dX8_rests_9 : decode cX8_rests 9 = .ok (.getfield 7, 3) := by decide +kernel
theorem dX8_rests_12 : decode cX8_rests 12 = .ok (.iconst 5, 1) := by decide +kernel
theorem dX8_rests_13 : decode cX8_rests 13 = .ok (.dup2, 1) := by decide +kernel
theorem dX8_rests_14 : decode cX8_rests 14 = .ok (.iaload, 1) := by decide +kernel
theorem dX8_rests_15 : decode cX8_rests 15 = .ok (.iconst 1, 1) := by decide +kernel
theorem dX8_rests_16 : decode cX8_rests 16 = .ok (.iadd, 1) := by decide +kernel
theorem dX8_rests_17 : decode cX8_rests 17 = .ok (.iastore, 1) := by decide +kernel
theorem dX8_rests_18 : decode cX8_rests 18 = .ok (.aload_n 0, 1) := by decide +kernel
theorem dX8_rests_19 : decode cX8_rests 19 = .ok (.iload 7, 2) := by decide +kernel
theorem dX8_rests_21 : decode cX8_rests 21 = .ok (.iconst 0, 1) := by decide +kernel
theorem dX8_rests_22 : decode cX8_rests 22 = .ok (.iload_n 1, 1) := by decide +kernel
theorem dX8_rests_23 : decode cX8_rests 23 = .ok (.invokevirtual 64, 3) := by decide +kernel
theorem dX8_rests_26 : decode cX8_rests 26 = .ok (.aload_n 0, 1) := by decide +kernel
theorem dX8_rests_27 : decode cX8_rests 27 = .ok (.iload 7, 2) := by decide +kernel
theorem dX8_rests_29 : decode cX8_rests 29 = .ok (.iconst 1, 1) := by decide +kernel
theorem dX8_rests_30 : decode cX8_rests 30 = .ok (.iload_n 2, 1) := by decide +kernel
theorem dX8_rests_31 : decode cX8_rests 31 = .ok (.invokevirtual 64, 3) := by decide +kernel
theorem dX8_rests_34 : decode cX8_rests 34 = .ok (.aload_n 0, 1) := by decide +kernel
theorem dX8_rests_35 : decode cX8_rests 35 = .ok (.iload 7, 2) := by decide +kernel
theorem dX8_rests_37 : decode cX8_rests 37 = .ok (.iconst 2, 1) := by decide +kernel
theorem dX8_rests_38 : decode cX8_rests 38 = .ok (.iload_n 3, 1) := by decide +kernel
theorem dX8_rests_39 : decode cX8_rests 39 = .ok (.invokevirtual 64, 3) := by decide +kernel
theorem dX8_rests_42 : decode cX8_rests 42 = .ok (.aload_n 0, 1) := by decide +kernel
theorem dX8_rests_43 : decode cX8_rests 43 = .ok (.iload 7, 2) := by decide +kernel
theorem dX8_rests_45 : decode cX8_rests 45 = .ok (.iconst 3, 1) := by decide +kernel
theorem dX8_rests_46 : decode cX8_rests 46 = .ok (.iload 4, 2) := by decide +kernel
theorem dX8_rests_48 : decode cX8_rests 48 = .ok (.invokevirtual 64, 3) := by decide +kernel
theorem dX8_rests_51 : decode cX8_rests 51 = .ok (.aload_n 0, 1) := by decide +kernel
theorem dX8_rests_52 : decode cX8_rests 52 = .ok (.iload 7, 2) := by decide +kernel
theorem dX8_rests_54 : decode cX8_rests 54 = .ok (.iconst 4, 1) := by decide +kernel
theorem dX8_rests_55 : decode cX8_rests 55 = .ok (.iload 5, 2) := by decide +kernel
theorem dX8_rests_57 : decode cX8_rests 57 = .ok (.invokevirtual 64, 3) := by decide +kernel
theorem dX8_rests_60 : decode cX8_rests 60 = .ok (.aload_n 0, 1) := by decide +kernel
theorem dX8_rests_61 : decode cX8_rests 61 = .ok (.iload 7, 2) := by decide +kernel
theorem dX8_rests_63 : decode cX8_rests 63 = .ok (.iconst 5, 1) := by decide +kernel
theorem dX8_rests_64 : decode cX8_rests 64 = .ok (.iload 6, 2) := by decide +kernel
theorem dX8_rests_66 : decode cX8_rests 66 = .ok (.invokevirtual 64, 3) := by decide +kernel
theorem dX8_rests_69 : decode cX8_rests 69 = .ok (.return_, 1) := by decide +kernel
set_option maxRecDepth 20000 in
theorem ggX8_lays_X8_isAt : GoodIn wsX8_lays wsX8_isAt := goodIn_r _ [9, 10, 11, 12, 8, 13, 2, 14, 15, 16, 17, 18, 19, 20, 21, 22, 23, 24, 25, 26, 27, 28, 29, 30, 31, 32, 33, 34, 35, 36, 37, 38, 39, 40, 41, 42, 43, 44, 45] (by decide +kernel) (by decide +kernel)
set_option maxRecDepth 20000 in
theorem gX8_lays_X8_isAt : GoodIn wsX8_lays (wsV RX8 57 RX8 yX8_isAt wsX8_isAt) := goodIn_app (goodIn_of _ (by decide +kernel)) ggX8_lays_X8_isAt
set_option maxRecDepth 20000 in
theorem ggX8_lays_X8_ofOrder : GoodIn wsX8_lays wsX8_ofOrder := goodIn_r _ [13, 2, 14, 15, 16, 17, 18, 19, 20, 21, 22, 23, 24, 25, 26, 27, 28, 29, 30, 31, 32, 33, 34, 35, 36, 37, 38, 39, 40, 41, 42, 43, 44, 45] (by decide +kernel) (by decide +kernel)
set_option maxRecDepth 20000 in
theorem gX8_lays_X8_ofOrder : GoodIn wsX8_lays (wsV RX8 49 RX8 yX8_ofOrder wsX8_ofOrder) := goodIn_app (goodIn_of _ (by decide +kernel)) ggX8_lays_X8_ofOrder
theorem dX8_lays_0 : decode cX8_lays 0 = .ok (.aload_n 0, 1) := by decide +kernel
theorem dX8_lays_1 : decode cX8_lays 1 = .ok (.iconst 0, 1) := by decide +kernel
theorem dX8_lays_2 : decode cX8_lays 2 = .ok (.putfield 68, 3) := by decide +kernel
theorem dX8_lays_5 : decode cX8_lays 5 = .ok (.iconst 0, 1) := by decide +kernel
theorem dX8_lays_6 : decode cX8_lays 6 = .ok (.istore_n 3, 1) := by decide +kernel
theorem dX8_lays_7 : decode cX8_lays 7 = .ok (.iload_n 3, 1) := by decide +kernel
theorem dX8_lays_8 : decode cX8_lays 8 = .ok (.aload_n 0, 1) := by decide +kernel
theorem dX8_lays_9 : decode cX8_lays 9 = .ok (.getfield 7, 3) := by decide +kernel
theorem dX8_lays_12 : decode cX8_lays 12 = .ok (.iconst 5, 1) := by decide +kernel
theorem dX8_lays_13 : decode cX8_lays 13 = .ok (.iaload, 1) := by decide +kernel
theorem dX8_lays_14 : decode cX8_lays 14 = .ok (.if_icmp .ge 57, 3) := by decide +kernel
theorem dX8_lays_17 : decode cX8_lays 17 = .ok (.aload_n 0, 1) := by decide +kernel
theorem dX8_lays_18 : decode cX8_lays 18 = .ok (.iload_n 3, 1) := by decide +kernel
theorem dX8_lays_19 : decode cX8_lays 19 = .ok (.iload_n 1, 1) := by decide +kernel
theorem dX8_lays_20 : decode cX8_lays 20 = .ok (.iload_n 2, 1) := by decide +kernel
theorem dX8_lays_21 : decode cX8_lays 21 = .ok (.invokevirtual 57, 3) := by decide +kernel
theorem dX8_lays_24 : decode cX8_lays 24 = .ok (.ifCond .ne 6, 3) := by decide +kernel
theorem dX8_lays_27 : decode cX8_lays 27 = .ok (.goto 38, 3) := by decide +kernel
theorem dX8_lays_30 : decode cX8_lays 30 = .ok (.aload_n 0, 1) := by decide +kernel
theorem dX8_lays_31 : decode cX8_lays 31 = .ok (.getfield 23, 3) := by decide +kernel
theorem dX8_lays_34 : decode cX8_lays 34 = .ok (.aload_n 0, 1) := by decide +kernel
theorem dX8_lays_35 : decode cX8_lays 35 = .ok (.getfield 68, 3) := by decide +kernel
theorem dX8_lays_38 : decode cX8_lays 38 = .ok (.iload_n 3, 1) := by decide +kernel
theorem dX8_lays_39 : decode cX8_lays 39 = .ok (.iastore, 1) := by decide +kernel
theorem dX8_lays_40 : decode cX8_lays 40 = .ok (.aload_n 0, 1) := by decide +kernel
theorem dX8_lays_41 : decode cX8_lays 41 = .ok (.getfield 26, 3) := by decide +kernel
theorem dX8_lays_44 : decode cX8_lays 44 = .ok (.aload_n 0, 1) := by decide +kernel
theorem dX8_lays_45 : decode cX8_lays 45 = .ok (.getfield 68, 3) := by decide +kernel
theorem dX8_lays_48 : decode cX8_lays 48 = .ok (.aload_n 0, 1) := by decide +kernel
theorem dX8_lays_49 : decode cX8_lays 49 = .ok (.iload_n 3, 1) := by decide +kernel
theorem dX8_lays_50 : decode cX8_lays 50 = .ok (.iconst 4, 1) := by decide +kernel
theorem dX8_lays_51 : decode cX8_lays 51 = .ok (.invokevirtual 49, 3) := by decide +kernel
theorem dX8_lays_54 : decode cX8_lays 54 = .ok (.iastore, 1) := by decide +kernel
theorem dX8_lays_55 : decode cX8_lays 55 = .ok (.aload_n 0, 1) := by decide +kernel
theorem dX8_lays_56 : decode cX8_lays 56 = .ok (.dup, 1) := by decide +kernel
theorem dX8_lays_57 : decode cX8_lays 57 = .ok (.getfield 68, 3) := by decide +kernel
theorem dX8_lays_60 : decode cX8_lays 60 = .ok (.iconst 1, 1) := by decide +kernel
theorem dX8_lays_61 : decode cX8_lays 61 = .ok (.iadd, 1) := by decide +kernel
theorem dX8_lays_62 : decode cX8_lays 62 = .ok (.putfield 68, 3) := by decide +kernel
theorem dX8_lays_65 : decode cX8_lays 65 = .ok (.iinc 3 1, 3) := by decide +kernel
theorem dX8_lays_68 : decode cX8_lays 68 = .ok (.goto (-61), 3) := by decide +kernel
theorem dX8_lays_71 : decode cX8_lays 71 = .ok (.return_, 1) := by decide +kernel
set_option maxRecDepth 20000 in
theorem ggX8_topLaid_X8_ofOrder : GoodIn wsX8_topLaid wsX8_ofOrder := goodIn_r _ [8, 3, 9, 10, 11, 12, 13, 14, 15, 16, 17, 18, 19, 20, 21, 22, 23, 24, 25, 26, 27, 28, 29, 30, 31, 32, 33, 34, 35, 36, 37, 38, 39, 40] (by decide +kernel) (by decide +kernel)
set_option maxRecDepth 20000 in
theorem gX8_topLaid_X8_ofOrder : GoodIn wsX8_topLaid (wsV RX8 49 RX8 yX8_ofOrder wsX8_ofOrder) := goodIn_app (goodIn_of _ (by decide +kernel)) ggX8_topLaid_X8_ofOrder
theorem dX8_topLaid_0 : decode cX8_topLaid 0 = .ok (.iconst 0, 1) := by decide +kernel
theorem dX8_topLaid_1 : decode cX8_topLaid 1 = .ok (.istore_n 2, 1) := by decide +kernel
theorem dX8_topLaid_2 : decode cX8_topLaid 2 = .ok (.iload_n 2, 1) := by decide +kernel
theorem dX8_topLaid_3 : decode cX8_topLaid 3 = .ok (.aload_n 0, 1) := by decide +kernel
theorem dX8_topLaid_4 : decode cX8_topLaid 4 = .ok (.getfield 68, 3) := by decide +kernel
theorem dX8_topLaid_7 : decode cX8_topLaid 7 = .ok (.if_icmp .ge 43, 3) := by decide +kernel
theorem dX8_topLaid_10 : decode cX8_topLaid 10 = .ok (.aload_n 0, 1) := by decide +kernel
theorem dX8_topLaid_11 : decode cX8_topLaid 11 = .ok (.getfield 23, 3) := by decide +kernel
theorem dX8_topLaid_14 : decode cX8_topLaid 14 = .ok (.iload_n 2, 1) := by decide +kernel
theorem dX8_topLaid_15 : decode cX8_topLaid 15 = .ok (.iaload, 1) := by decide +kernel
theorem dX8_topLaid_16 : decode cX8_topLaid 16 = .ok (.ifCond .lt 28, 3) := by decide +kernel
theorem dX8_topLaid_19 : decode cX8_topLaid 19 = .ok (.aload_n 0, 1) := by decide +kernel
theorem dX8_topLaid_20 : decode cX8_topLaid 20 = .ok (.aload_n 0, 1) := by decide +kernel
theorem dX8_topLaid_21 : decode cX8_topLaid 21 = .ok (.getfield 23, 3) := by decide +kernel
theorem dX8_topLaid_24 : decode cX8_topLaid 24 = .ok (.iload_n 2, 1) := by decide +kernel
theorem dX8_topLaid_25 : decode cX8_topLaid 25 = .ok (.iaload, 1) := by decide +kernel
theorem dX8_topLaid_26 : decode cX8_topLaid 26 = .ok (.iconst 0, 1) := by decide +kernel
theorem dX8_topLaid_27 : decode cX8_topLaid 27 = .ok (.invokevirtual 49, 3) := by decide +kernel
theorem dX8_topLaid_30 : decode cX8_topLaid 30 = .ok (.aload_n 0, 1) := by decide +kernel
theorem dX8_topLaid_31 : decode cX8_topLaid 31 = .ok (.getfield 7, 3) := by decide +kernel
theorem dX8_topLaid_34 : decode cX8_topLaid 34 = .ok (.bipush 6, 2) := by decide +kernel
theorem dX8_topLaid_36 : decode cX8_topLaid 36 = .ok (.iload_n 1, 1) := by decide +kernel
theorem dX8_topLaid_37 : decode cX8_topLaid 37 = .ok (.iadd, 1) := by decide +kernel
theorem dX8_topLaid_38 : decode cX8_topLaid 38 = .ok (.iaload, 1) := by decide +kernel
theorem dX8_topLaid_39 : decode cX8_topLaid 39 = .ok (.if_icmp .ne 5, 3) := by decide +kernel
theorem dX8_topLaid_42 : decode cX8_topLaid 42 = .ok (.iload_n 2, 1) := by decide +kernel
theorem dX8_topLaid_43 : decode cX8_topLaid 43 = .ok (.ireturn, 1) := by decide +kernel
theorem dX8_topLaid_44 : decode cX8_topLaid 44 = .ok (.iinc 2 1, 3) := by decide +kernel
theorem dX8_topLaid_47 : decode cX8_topLaid 47 = .ok (.goto (-45), 3) := by decide +kernel
theorem dX8_topLaid_50 : decode cX8_topLaid 50 = .ok (.iconst (-1), 1) := by decide +kernel
theorem dX8_topLaid_51 : decode cX8_topLaid 51 = .ok (.ireturn, 1) := by decide +kernel
theorem dX8_shares_0 : decode cX8_shares 0 = .ok (.iload_n 1, 1) := by decide +kernel
theorem dX8_shares_1 : decode cX8_shares 1 = .ok (.istore 4, 2) := by decide +kernel
theorem dX8_shares_3 : decode cX8_shares 3 = .ok (.iconst 0, 1) := by decide +kernel
theorem dX8_shares_4 : decode cX8_shares 4 = .ok (.istore 5, 2) := by decide +kernel
theorem dX8_shares_6 : decode cX8_shares 6 = .ok (.iload 5, 2) := by decide +kernel
theorem dX8_shares_8 : decode cX8_shares 8 = .ok (.aload_n 0, 1) := by decide +kernel
theorem dX8_shares_9 : decode cX8_shares 9 = .ok (.getfield 68, 3) := by decide +kernel
theorem dX8_shares_12 : decode cX8_shares 12 = .ok (.if_icmp .ge 33, 3) := by decide +kernel
theorem dX8_shares_15 : decode cX8_shares 15 = .ok (.aload_n 0, 1) := by decide +kernel
theorem dX8_shares_16 : decode cX8_shares 16 = .ok (.getfield 29, 3) := by decide +kernel
theorem dX8_shares_19 : decode cX8_shares 19 = .ok (.iload 5, 2) := by decide +kernel
theorem dX8_shares_21 : decode cX8_shares 21 = .ok (.iconst 0, 1) := by decide +kernel
theorem dX8_shares_22 : decode cX8_shares 22 = .ok (.iastore, 1) := by decide +kernel
theorem dX8_shares_23 : decode cX8_shares 23 = .ok (.aload_n 0, 1) := by decide +kernel
theorem dX8_shares_24 : decode cX8_shares 24 = .ok (.getfield 32, 3) := by decide +kernel
theorem dX8_shares_27 : decode cX8_shares 27 = .ok (.iload 5, 2) := by decide +kernel
theorem dX8_shares_29 : decode cX8_shares 29 = .ok (.iconst 0, 1) := by decide +kernel
theorem dX8_shares_30 : decode cX8_shares 30 = .ok (.iastore, 1) := by decide +kernel
theorem dX8_shares_31 : decode cX8_shares 31 = .ok (.aload_n 0, 1) := by decide +kernel
theorem dX8_shares_32 : decode cX8_shares 32 = .ok (.getfield 35, 3) := by decide +kernel
theorem dX8_shares_35 : decode cX8_shares 35 = .ok (.iload 5, 2) := by decide +kernel
theorem dX8_shares_37 : decode cX8_shares 37 = .ok (.iconst 0, 1) := by decide +kernel
theorem dX8_shares_38 : decode cX8_shares 38 = .ok (.iastore, 1) := by decide +kernel
theorem dX8_shares_39 : decode cX8_shares 39 = .ok (.iinc 5 1, 3) := by decide +kernel
theorem dX8_shares_42 : decode cX8_shares 42 = .ok (.goto (-36), 3) := by decide +kernel
theorem dX8_shares_45 : decode cX8_shares 45 = .ok (.iload_n 2, 1) := by decide +kernel
theorem dX8_shares_46 : decode cX8_shares 46 = .ok (.ifCond .lt 56, 3) := by decide +kernel
theorem dX8_shares_49 : decode cX8_shares 49 = .ok (.iload 4, 2) := by decide +kernel
theorem dX8_shares_51 : decode cX8_shares 51 = .ok (.aload_n 0, 1) := by decide +kernel
theorem dX8_shares_52 : decode cX8_shares 52 = .ok (.getfield 26, 3) := by decide +kernel
theorem dX8_shares_55 : decode cX8_shares 55 = .ok (.iload_n 2, 1) := by decide +kernel
theorem dX8_shares_56 : decode cX8_shares 56 = .ok (.iaload, 1) := by decide +kernel
theorem dX8_shares_57 : decode cX8_shares 57 = .ok (.if_icmp .ge 8, 3) := by decide +kernel
theorem dX8_shares_60 : decode cX8_shares 60 = .ok (.iload 4, 2) := by decide +kernel
theorem dX8_shares_62 : decode cX8_shares 62 = .ok (.goto 9, 3) := by decide +kernel
theorem dX8_shares_65 : decode cX8_shares 65 = .ok (.aload_n 0, 1) := by decide +kernel
theorem dX8_shares_66 : decode cX8_shares 66 = .ok (.getfield 26, 3) := by decide +kernel
theorem dX8_shares_69 : decode cX8_shares 69 = .ok (.iload_n 2, 1) := by decide +kernel
theorem dX8_shares_70 : decode cX8_shares 70 = .ok (.iaload, 1) := by decide +kernel
theorem dX8_shares_71 : decode cX8_shares 71 = .ok (.istore 5, 2) := by decide +kernel
theorem dX8_shares_73 : decode cX8_shares 73 = .ok (.aload_n 0, 1) := by decide +kernel
theorem dX8_shares_74 : decode cX8_shares 74 = .ok (.getfield 29, 3) := by decide +kernel
theorem dX8_shares_77 : decode cX8_shares 77 = .ok (.iload_n 2, 1) := by decide +kernel
theorem dX8_shares_78 : decode cX8_shares 78 = .ok (.iload 5, 2) := by decide +kernel
theorem dX8_shares_80 : decode cX8_shares 80 = .ok (.iload_n 3, 1) := by decide +kernel
theorem dX8_shares_81 : decode cX8_shares 81 = .ok (.if_icmp .ge 8, 3) := by decide +kernel
theorem dX8_shares_84 : decode cX8_shares 84 = .ok (.iload 5, 2) := by decide +kernel
theorem dX8_shares_86 : decode cX8_shares 86 = .ok (.goto 4, 3) := by decide +kernel
theorem dX8_shares_89 : decode cX8_shares 89 = .ok (.iload_n 3, 1) := by decide +kernel
theorem dX8_shares_90 : decode cX8_shares 90 = .ok (.iastore, 1) := by decide +kernel
theorem dX8_shares_91 : decode cX8_shares 91 = .ok (.iload 4, 2) := by decide +kernel
theorem dX8_shares_93 : decode cX8_shares 93 = .ok (.aload_n 0, 1) := by decide +kernel
theorem dX8_shares_94 : decode cX8_shares 94 = .ok (.getfield 29, 3) := by decide +kernel
theorem dX8_shares_97 : decode cX8_shares 97 = .ok (.iload_n 2, 1) := by decide +kernel
theorem dX8_shares_98 : decode cX8_shares 98 = .ok (.iaload, 1) := by decide +kernel
theorem dX8_shares_99 : decode cX8_shares 99 = .ok (.isub, 1) := by decide +kernel
theorem dX8_shares_100 : decode cX8_shares 100 = .ok (.istore 4, 2) := by decide +kernel
theorem dX8_shares_102 : decode cX8_shares 102 = .ok (.lconst 0, 1) := by decide +kernel
theorem dX8_shares_103 : decode cX8_shares 103 = .ok (.lstore 5, 2) := by decide +kernel
theorem dX8_shares_105 : decode cX8_shares 105 = .ok (.iconst 0, 1) := by decide +kernel
theorem dX8_shares_106 : decode cX8_shares 106 = .ok (.istore 7, 2) := by decide +kernel
theorem dX8_shares_108 : decode cX8_shares 108 = .ok (.iload 7, 2) := by decide +kernel
theorem dX8_shares_110 : decode cX8_shares 110 = .ok (.aload_n 0, 1) := by decide +kernel
theorem dX8_shares_111 : decode cX8_shares 111 = .ok (.getfield 68, 3) := by decide +kernel
theorem dX8_shares_114 : decode cX8_shares 114 = .ok (.if_icmp .ge 30, 3) := by decide +kernel
theorem dX8_shares_117 : decode cX8_shares 117 = .ok (.lload 5, 2) := by decide +kernel
theorem dX8_shares_119 : decode cX8_shares 119 = .ok (.aload_n 0, 1) := by decide +kernel
theorem dX8_shares_120 : decode cX8_shares 120 = .ok (.getfield 26, 3) := by decide +kernel
theorem dX8_shares_123 : decode cX8_shares 123 = .ok (.iload 7, 2) := by decide +kernel
theorem dX8_shares_125 : decode cX8_shares 125 = .ok (.iaload, 1) := by decide +kernel
theorem dX8_shares_126 : decode cX8_shares 126 = .ok (.aload_n 0, 1) := by decide +kernel
theorem dX8_shares_127 : decode cX8_shares 127 = .ok (.getfield 29, 3) := by decide +kernel
theorem dX8_shares_130 : decode cX8_shares 130 = .ok (.iload 7, 2) := by decide +kernel
theorem dX8_shares_132 : decode cX8_shares 132 = .ok (.iaload, 1) := by decide +kernel
theorem dX8_shares_133 : decode cX8_shares 133 = .ok (.isub, 1) := by decide +kernel
theorem dX8_shares_134 : decode cX8_shares 134 = .ok (.i2l, 1) := by decide +kernel
theorem dX8_shares_135 : decode cX8_shares 135 = .ok (.ladd, 1) := by decide +kernel
theorem dX8_shares_136 : decode cX8_shares 136 = .ok (.lstore 5, 2) := by decide +kernel
theorem dX8_shares_138 : decode cX8_shares 138 = .ok (.iinc 7 1, 3) := by decide +kernel
theorem dX8_shares_141 : decode cX8_shares 141 = .ok (.goto (-33), 3) := by decide +kernel
theorem dX8_shares_144 : decode cX8_shares 144 = .ok (.iload 4, 2) := by decide +kernel
theorem dX8_shares_146 : decode cX8_shares 146 = .ok (.i2l, 1) := by decide +kernel
theorem dX8_shares_147 : decode cX8_shares 147 = .ok (.lstore 7, 2) := by decide +kernel
theorem dX8_shares_149 : decode cX8_shares 149 = .ok (.iconst 0, 1) := by decide +kernel
theorem dX8_shares_150 : decode cX8_shares 150 = .ok (.istore 9, 2) := by decide +kernel
theorem dX8_shares_152 : decode cX8_shares 152 = .ok (.iload 9, 2) := by decide +kernel
theorem dX8_shares_154 : decode cX8_shares 154 = .ok (.aload_n 0, 1) := by decide +kernel
theorem dX8_shares_155 : decode cX8_shares 155 = .ok (.getfield 68, 3) := by decide +kernel
theorem dX8_shares_158 : decode cX8_shares 158 = .ok (.if_icmp .ge 77, 3) := by decide +kernel
theorem dX8_shares_161 : decode cX8_shares 161 = .ok (.lload 5, 2) := by decide +kernel
theorem dX8_shares_163 : decode cX8_shares 163 = .ok (.lconst 0, 1) := by decide +kernel
theorem dX8_shares_164 : decode cX8_shares 164 = .ok (.lcmp, 1) := by decide +kernel
theorem dX8_shares_165 : decode cX8_shares 165 = .ok (.ifCond .le 70, 3) := by decide +kernel
theorem dX8_shares_168 : decode cX8_shares 168 = .ok (.lload 7, 2) := by decide +kernel
theorem dX8_shares_170 : decode cX8_shares 170 = .ok (.aload_n 0, 1) := by decide +kernel
theorem dX8_shares_171 : decode cX8_shares 171 = .ok (.getfield 26, 3) := by decide +kernel
theorem dX8_shares_174 : decode cX8_shares 174 = .ok (.iload 9, 2) := by decide +kernel
theorem dX8_shares_176 : decode cX8_shares 176 = .ok (.iaload, 1) := by decide +kernel
theorem dX8_shares_177 : decode cX8_shares 177 = .ok (.aload_n 0, 1) := by decide +kernel
theorem dX8_shares_178 : decode cX8_shares 178 = .ok (.getfield 29, 3) := by decide +kernel
theorem dX8_shares_181 : decode cX8_shares 181 = .ok (.iload 9, 2) := by decide +kernel
theorem dX8_shares_183 : decode cX8_shares 183 = .ok (.iaload, 1) := by decide +kernel
theorem dX8_shares_184 : decode cX8_shares 184 = .ok (.isub, 1) := by decide +kernel
theorem dX8_shares_185 : decode cX8_shares 185 = .ok (.i2l, 1) := by decide +kernel
theorem dX8_shares_186 : decode cX8_shares 186 = .ok (.lmul, 1) := by decide +kernel
theorem dX8_shares_187 : decode cX8_shares 187 = .ok (.lload 5, 2) := by decide +kernel
theorem dX8_shares_189 : decode cX8_shares 189 = .ok (.ldiv, 1) := by decide +kernel
theorem dX8_shares_190 : decode cX8_shares 190 = .ok (.l2i, 1) := by decide +kernel
theorem dX8_shares_191 : decode cX8_shares 191 = .ok (.istore 10, 2) := by decide +kernel
theorem dX8_shares_193 : decode cX8_shares 193 = .ok (.aload_n 0, 1) := by decide +kernel
theorem dX8_shares_194 : decode cX8_shares 194 = .ok (.getfield 32, 3) := by decide +kernel
theorem dX8_shares_197 : decode cX8_shares 197 = .ok (.iload 9, 2) := by decide +kernel
theorem dX8_shares_199 : decode cX8_shares 199 = .ok (.iload 10, 2) := by decide +kernel
theorem dX8_shares_201 : decode cX8_shares 201 = .ok (.aload_n 0, 1) := by decide +kernel
theorem dX8_shares_202 : decode cX8_shares 202 = .ok (.getfield 7, 3) := by decide +kernel
theorem dX8_shares_205 : decode cX8_shares 205 = .ok (.iconst 1, 1) := by decide +kernel
theorem dX8_shares_206 : decode cX8_shares 206 = .ok (.iaload, 1) := by decide +kernel
theorem dX8_shares_207 : decode cX8_shares 207 = .ok (.if_icmp .ge 7, 3) := by decide +kernel
theorem dX8_shares_210 : decode cX8_shares 210 = .ok (.iconst 0, 1) := by decide +kernel
theorem dX8_shares_211 : decode cX8_shares 211 = .ok (.goto 5, 3) := by decide +kernel
theorem dX8_shares_214 : decode cX8_shares 214 = .ok (.iload 10, 2) := by decide +kernel
theorem dX8_shares_216 : decode cX8_shares 216 = .ok (.iastore, 1) := by decide +kernel
theorem dX8_shares_217 : decode cX8_shares 217 = .ok (.iload 4, 2) := by decide +kernel
theorem dX8_shares_219 : decode cX8_shares 219 = .ok (.aload_n 0, 1) := by decide +kernel
theorem dX8_shares_220 : decode cX8_shares 220 = .ok (.getfield 32, 3) := by decide +kernel
theorem dX8_shares_223 : decode cX8_shares 223 = .ok (.iload 9, 2) := by decide +kernel
theorem dX8_shares_225 : decode cX8_shares 225 = .ok (.iaload, 1) := by decide +kernel
theorem dX8_shares_226 : decode cX8_shares 226 = .ok (.isub, 1) := by decide +kernel
theorem dX8_shares_227 : decode cX8_shares 227 = .ok (.istore 4, 2) := by decide +kernel
theorem dX8_shares_229 : decode cX8_shares 229 = .ok (.iinc 9 1, 3) := by decide +kernel
theorem dX8_shares_232 : decode cX8_shares 232 = .ok (.goto (-80), 3) := by decide +kernel
theorem dX8_shares_235 : decode cX8_shares 235 = .ok (.iconst 0, 1) := by decide +kernel
theorem dX8_shares_236 : decode cX8_shares 236 = .ok (.istore 9, 2) := by decide +kernel
theorem dX8_shares_238 : decode cX8_shares 238 = .ok (.iload 9, 2) := by decide +kernel
theorem dX8_shares_240 : decode cX8_shares 240 = .ok (.aload_n 0, 1) := by decide +kernel
theorem dX8_shares_241 : decode cX8_shares 241 = .ok (.getfield 68, 3) := by decide +kernel
theorem dX8_shares_244 : decode cX8_shares 244 = .ok (.if_icmp .ge 67, 3) := by decide +kernel
theorem dX8_shares_247 : decode cX8_shares 247 = .ok (.aload_n 0, 1) := by decide +kernel
theorem dX8_shares_248 : decode cX8_shares 248 = .ok (.getfield 26, 3) := by decide +kernel
theorem dX8_shares_251 : decode cX8_shares 251 = .ok (.iload 9, 2) := by decide +kernel
theorem dX8_shares_253 : decode cX8_shares 253 = .ok (.iaload, 1) := by decide +kernel
theorem dX8_shares_254 : decode cX8_shares 254 = .ok (.aload_n 0, 1) := by decide +kernel
theorem dX8_shares_255 : decode cX8_shares 255 = .ok (.getfield 29, 3) := by decide +kernel
theorem dX8_shares_258 : decode cX8_shares 258 = .ok (.iload 9, 2) := by decide +kernel
theorem dX8_shares_260 : decode cX8_shares 260 = .ok (.iaload, 1) := by decide +kernel
theorem dX8_shares_261 : decode cX8_shares 261 = .ok (.isub, 1) := by decide +kernel
theorem dX8_shares_262 : decode cX8_shares 262 = .ok (.aload_n 0, 1) := by decide +kernel
theorem dX8_shares_263 : decode cX8_shares 263 = .ok (.getfield 32, 3) := by decide +kernel
theorem dX8_shares_266 : decode cX8_shares 266 = .ok (.iload 9, 2) := by decide +kernel
theorem dX8_shares_268 : decode cX8_shares 268 = .ok (.iaload, 1) := by decide +kernel
theorem dX8_shares_269 : decode cX8_shares 269 = .ok (.isub, 1) := by decide +kernel
theorem dX8_shares_270 : decode cX8_shares 270 = .ok (.istore 10, 2) := by decide +kernel
theorem dX8_shares_272 : decode cX8_shares 272 = .ok (.aload_n 0, 1) := by decide +kernel
theorem dX8_shares_273 : decode cX8_shares 273 = .ok (.getfield 35, 3) := by decide +kernel
theorem dX8_shares_276 : decode cX8_shares 276 = .ok (.iload 9, 2) := by decide +kernel
theorem dX8_shares_278 : decode cX8_shares 278 = .ok (.iload 4, 2) := by decide +kernel
theorem dX8_shares_280 : decode cX8_shares 280 = .ok (.iload 10, 2) := by decide +kernel
theorem dX8_shares_282 : decode cX8_shares 282 = .ok (.if_icmp .ge 8, 3) := by decide +kernel
theorem dX8_shares_285 : decode cX8_shares 285 = .ok (.iload 4, 2) := by decide +kernel
theorem dX8_shares_287 : decode cX8_shares 287 = .ok (.goto 5, 3) := by decide +kernel
theorem dX8_shares_290 : decode cX8_shares 290 = .ok (.iload 10, 2) := by decide +kernel
theorem dX8_shares_292 : decode cX8_shares 292 = .ok (.iastore, 1) := by decide +kernel
theorem dX8_shares_293 : decode cX8_shares 293 = .ok (.iload 4, 2) := by decide +kernel
theorem dX8_shares_295 : decode cX8_shares 295 = .ok (.aload_n 0, 1) := by decide +kernel
theorem dX8_shares_296 : decode cX8_shares 296 = .ok (.getfield 35, 3) := by decide +kernel
theorem dX8_shares_299 : decode cX8_shares 299 = .ok (.iload 9, 2) := by decide +kernel
theorem dX8_shares_301 : decode cX8_shares 301 = .ok (.iaload, 1) := by decide +kernel
theorem dX8_shares_302 : decode cX8_shares 302 = .ok (.isub, 1) := by decide +kernel
theorem dX8_shares_303 : decode cX8_shares 303 = .ok (.istore 4, 2) := by decide +kernel
theorem dX8_shares_305 : decode cX8_shares 305 = .ok (.iinc 9 1, 3) := by decide +kernel
theorem dX8_shares_308 : decode cX8_shares 308 = .ok (.goto (-70), 3) := by decide +kernel
theorem dX8_shares_311 : decode cX8_shares 311 = .ok (.return_, 1) := by decide +kernel
theorem dX8_has_0 : decode cX8_has 0 = .ok (.aload_n 0, 1) := by decide +kernel
theorem dX8_has_1 : decode cX8_has 1 = .ok (.getfield 29, 3) := by decide +kernel
theorem dX8_has_4 : decode cX8_has 4 = .ok (.iload_n 1, 1) := by decide +kernel
theorem dX8_has_5 : decode cX8_has 5 = .ok (.iaload, 1) := by decide +kernel
theorem dX8_has_6 : decode cX8_has 6 = .ok (.aload_n 0, 1) := by decide +kernel
theorem dX8_has_7 : decode cX8_has 7 = .ok (.getfield 32, 3) := by decide +kernel
theorem dX8_has_10 : decode cX8_has 10 = .ok (.iload_n 1, 1) := by decide +kernel
theorem dX8_has_11 : decode cX8_has 11 = .ok (.iaload, 1) := by decide +kernel
theorem dX8_has_12 : decode cX8_has 12 = .ok (.iadd, 1) := by decide +kernel
theorem dX8_has_13 : decode cX8_has 13 = .ok (.aload_n 0, 1) := by decide +kernel
theorem dX8_has_14 : decode cX8_has 14 = .ok (.getfield 35, 3) := by decide +kernel
theorem dX8_has_17 : decode cX8_has 17 = .ok (.iload_n 1, 1) := by decide +kernel
theorem dX8_has_18 : decode cX8_has 18 = .ok (.iaload, 1) := by decide +kernel
theorem dX8_has_19 : decode cX8_has 19 = .ok (.iadd, 1) := by decide +kernel
theorem dX8_has_20 : decode cX8_has 20 = .ok (.ireturn, 1) := by decide +kernel
theorem dX8_tells_0 : decode cX8_tells 0 = .ok (.sipush 683, 3) := by decide +kernel
theorem dX8_tells_3 : decode cX8_tells 3 = .ok (.istore 6, 2) := by decide +kernel
theorem dX8_tells_5 : decode cX8_tells 5 = .ok (.iload 6, 2) := by decide +kernel
theorem dX8_tells_7 : decode cX8_tells 7 = .ok (.sipush 389, 3) := by decide +kernel
theorem dX8_tells_10 : decode cX8_tells 10 = .ok (.if_icmp .lt 25, 3) := by decide +kernel
theorem dX8_tells_13 : decode cX8_tells 13 = .ok (.aload_n 0, 1) := by decide +kernel
theorem dX8_tells_14 : decode cX8_tells 14 = .ok (.getfield 7, 3) := by decide +kernel
theorem dX8_tells_17 : decode cX8_tells 17 = .ok (.iload 6, 2) := by decide +kernel
theorem dX8_tells_19 : decode cX8_tells 19 = .ok (.aload_n 0, 1) := by decide +kernel
theorem dX8_tells_20 : decode cX8_tells 20 = .ok (.getfield 7, 3) := by decide +kernel
theorem dX8_tells_23 : decode cX8_tells 23 = .ok (.iload 6, 2) := by decide +kernel
theorem dX8_tells_25 : decode cX8_tells 25 = .ok (.iconst 5, 1) := by decide +kernel
theorem dX8_tells_26 : decode cX8_tells 26 = .ok (.isub, 1) := by decide +kernel
theorem dX8_tells_27 : decode cX8_tells 27 = .ok (.iaload, 1) := by decide +kernel
theorem dX8_tells_28 : decode cX8_tells 28 = .ok (.iastore, 1) := by decide +kernel
theorem dX8_tells_29 : decode cX8_tells 29 = .ok (.iinc 6 (-1), 3) := by decide +kernel
theorem dX8_tells_32 : decode cX8_tells 32 = .ok (.goto (-27), 3) := by decide +kernel
theorem dX8_tells_35 : decode cX8_tells 35 = .ok (.aload_n 0, 1) := by decide +kernel
theorem dX8_tells_36 : decode cX8_tells 36 = .ok (.getfield 7, 3) := by decide +kernel
theorem dX8_tells_39 : decode cX8_tells 39 = .ok (.sipush 384, 3) := by decide +kernel
theorem dX8_tells_42 : decode cX8_tells 42 = .ok (.iload_n 1, 1) := by decide +kernel
theorem dX8_tells_43 : decode cX8_tells 43 = .ok (.iastore, 1) := by decide +kernel
theorem dX8_tells_44 : decode cX8_tells 44 = .ok (.aload_n 0, 1) := by decide +kernel
theorem dX8_tells_45 : decode cX8_tells 45 = .ok (.getfield 7, 3) := by decide +kernel
theorem dX8_tells_48 : decode cX8_tells 48 = .ok (.sipush 385, 3) := by decide +kernel
theorem dX8_tells_51 : decode cX8_tells 51 = .ok (.iload_n 2, 1) := by decide +kernel
theorem dX8_tells_52 : decode cX8_tells 52 = .ok (.iastore, 1) := by decide +kernel
theorem dX8_tells_53 : decode cX8_tells 53 = .ok (.aload_n 0, 1) := by decide +kernel
theorem dX8_tells_54 : decode cX8_tells 54 = .ok (.getfield 7, 3) := by decide +kernel
theorem dX8_tells_57 : decode cX8_tells 57 = .ok (.sipush 386, 3) := by decide +kernel
theorem dX8_tells_60 : decode cX8_tells 60 = .ok (.iload_n 3, 1) := by decide +kernel
theorem dX8_tells_61 : decode cX8_tells 61 = .ok (.iastore, 1) := by decide +kernel
theorem dX8_tells_62 : decode cX8_tells 62 = .ok (.aload_n 0, 1) := by decide +kernel
theorem dX8_tells_63 : decode cX8_tells 63 = .ok (.getfield 7, 3) := by decide +kernel
theorem dX8_tells_66 : decode cX8_tells 66 = .ok (.sipush 387, 3) := by decide +kernel
theorem dX8_tells_69 : decode cX8_tells 69 = .ok (.iload 4, 2) := by decide +kernel
theorem dX8_tells_71 : decode cX8_tells 71 = .ok (.iastore, 1) := by decide +kernel
theorem dX8_tells_72 : decode cX8_tells 72 = .ok (.aload_n 0, 1) := by decide +kernel
theorem dX8_tells_73 : decode cX8_tells 73 = .ok (.getfield 7, 3) := by decide +kernel
theorem dX8_tells_76 : decode cX8_tells 76 = .ok (.sipush 388, 3) := by decide +kernel
theorem dX8_tells_79 : decode cX8_tells 79 = .ok (.iload 5, 2) := by decide +kernel
theorem dX8_tells_81 : decode cX8_tells 81 = .ok (.iastore, 1) := by decide +kernel
theorem dX8_tells_82 : decode cX8_tells 82 = .ok (.aload_n 0, 1) := by decide +kernel
theorem dX8_tells_83 : decode cX8_tells 83 = .ok (.getfield 7, 3) := by decide +kernel
theorem dX8_tells_86 : decode cX8_tells 86 = .ok (.bipush 10, 2) := by decide +kernel
theorem dX8_tells_88 : decode cX8_tells 88 = .ok (.iaload, 1) := by decide +kernel
theorem dX8_tells_89 : decode cX8_tells 89 = .ok (.bipush 60, 2) := by decide +kernel
theorem dX8_tells_91 : decode cX8_tells 91 = .ok (.if_icmp .ge 14, 3) := by decide +kernel
theorem dX8_tells_94 : decode cX8_tells 94 = .ok (.aload_n 0, 1) := by decide +kernel
theorem dX8_tells_95 : decode cX8_tells 95 = .ok (.getfield 7, 3) := by decide +kernel
theorem dX8_tells_98 : decode cX8_tells 98 = .ok (.bipush 10, 2) := by decide +kernel
theorem dX8_tells_100 : decode cX8_tells 100 = .ok (.dup2, 1) := by decide +kernel
theorem dX8_tells_101 : decode cX8_tells 101 = .ok (.iaload, 1) := by decide +kernel
theorem dX8_tells_102 : decode cX8_tells 102 = .ok (.iconst 1, 1) := by decide +kernel
theorem dX8_tells_103 : decode cX8_tells 103 = .ok (.iadd, 1) := by decide +kernel
theorem dX8_tells_104 : decode cX8_tells 104 = .ok (.iastore, 1) := by decide +kernel
theorem dX8_tells_105 : decode cX8_tells 105 = .ok (.return_, 1) := by decide +kernel
theorem dX8_moves_0 : decode cX8_moves 0 = .ok (.aload_n 0, 1) := by decide +kernel
theorem dX8_moves_1 : decode cX8_moves 1 = .ok (.getfield 7, 3) := by decide +kernel
theorem dX8_moves_4 : decode cX8_moves 4 = .ok (.bipush 14, 2) := by decide +kernel
theorem dX8_moves_6 : decode cX8_moves 6 = .ok (.iload_n 1, 1) := by decide +kernel
theorem dX8_moves_7 : decode cX8_moves 7 = .ok (.iadd, 1) := by decide +kernel
theorem dX8_moves_8 : decode cX8_moves 8 = .ok (.dup2, 1) := by decide +kernel
theorem dX8_moves_9 : decode cX8_moves 9 = .ok (.iaload, 1) := by decide +kernel
theorem dX8_moves_10 : decode cX8_moves 10 = .ok (.iload_n 2, 1) := by decide +kernel
theorem dX8_moves_11 : decode cX8_moves 11 = .ok (.ifCond .ne 8, 3) := by decide +kernel
theorem dX8_moves_14 : decode cX8_moves 14 = .ok (.iload 4, 2) := by decide +kernel
theorem dX8_moves_16 : decode cX8_moves 16 = .ok (.goto 6, 3) := by decide +kernel
theorem dX8_moves_19 : decode cX8_moves 19 = .ok (.iload 4, 2) := by decide +kernel
theorem dX8_moves_21 : decode cX8_moves 21 = .ok (.ineg, 1) := by decide +kernel
theorem dX8_moves_22 : decode cX8_moves 22 = .ok (.iadd, 1) := by decide +kernel
theorem dX8_moves_23 : decode cX8_moves 23 = .ok (.iastore, 1) := by decide +kernel
theorem dX8_moves_24 : decode cX8_moves 24 = .ok (.aload_n 0, 1) := by decide +kernel
theorem dX8_moves_25 : decode cX8_moves 25 = .ok (.getfield 16, 3) := by decide +kernel
theorem dX8_moves_28 : decode cX8_moves 28 = .ok (.iload_n 1, 1) := by decide +kernel
theorem dX8_moves_29 : decode cX8_moves 29 = .ok (.dup2, 1) := by decide +kernel
theorem dX8_moves_30 : decode cX8_moves 30 = .ok (.laload, 1) := by decide +kernel
theorem dX8_moves_31 : decode cX8_moves 31 = .ok (.iload_n 2, 1) := by decide +kernel
theorem dX8_moves_32 : decode cX8_moves 32 = .ok (.ifCond .ne 9, 3) := by decide +kernel
theorem dX8_moves_35 : decode cX8_moves 35 = .ok (.ldc2_w 71, 3) := by decide +kernel
theorem dX8_moves_38 : decode cX8_moves 38 = .ok (.goto 4, 3) := by decide +kernel
theorem dX8_moves_41 : decode cX8_moves 41 = .ok (.lconst 1, 1) := by decide +kernel
theorem dX8_moves_42 : decode cX8_moves 42 = .ok (.iload_n 3, 1) := by decide +kernel
theorem dX8_moves_43 : decode cX8_moves 43 = .ok (.i2l, 1) := by decide +kernel
theorem dX8_moves_44 : decode cX8_moves 44 = .ok (.lmul, 1) := by decide +kernel
theorem dX8_moves_45 : decode cX8_moves 45 = .ok (.iload 4, 2) := by decide +kernel
theorem dX8_moves_47 : decode cX8_moves 47 = .ok (.i2l, 1) := by decide +kernel
theorem dX8_moves_48 : decode cX8_moves 48 = .ok (.lmul, 1) := by decide +kernel
theorem dX8_moves_49 : decode cX8_moves 49 = .ok (.ladd, 1) := by decide +kernel
theorem dX8_moves_50 : decode cX8_moves 50 = .ok (.lastore, 1) := by decide +kernel
theorem dX8_moves_51 : decode cX8_moves 51 = .ok (.return_, 1) := by decide +kernel
set_option maxRecDepth 20000 in
theorem ggX8_trades_X8_ofOrder : GoodIn wsX8_trades wsX8_ofOrder := goodIn_r _ [13, 5, 24, 25, 26, 27, 28, 29, 30, 31, 32, 33, 34, 35, 36, 37, 38, 39, 40, 41, 42, 43, 44, 45, 46, 47, 48, 49, 50, 51, 52, 53, 54, 55] (by decide +kernel) (by decide +kernel)
set_option maxRecDepth 20000 in
theorem gX8_trades_X8_ofOrder : GoodIn wsX8_trades (wsV RX8 49 RX8 yX8_ofOrder wsX8_ofOrder) := goodIn_app (goodIn_of _ (by decide +kernel)) ggX8_trades_X8_ofOrder
set_option maxRecDepth 20000 in
theorem ggX8_trades_X8_tells : GoodIn wsX8_trades wsX8_tells := goodIn_r _ [17, 5, 24, 25, 26, 27, 28, 29, 30, 31, 32, 33, 34, 35, 36, 37, 38, 39, 40, 41, 42, 43, 44, 45, 46, 47, 48, 49, 50, 51, 52, 53, 54, 55] (by decide +kernel) (by decide +kernel)
set_option maxRecDepth 20000 in
theorem gX8_trades_X8_tells : GoodIn wsX8_trades (wsV RX8 76 RX8 yX8_tells wsX8_tells) := goodIn_app (goodIn_of _ (by decide +kernel)) ggX8_trades_X8_tells
set_option maxRecDepth 20000 in
theorem ggX8_trades_X8_moves : GoodIn wsX8_trades wsX8_moves := goodIn_r _ [21, 5, 22, 23, 24, 25, 26, 27, 28, 29, 30, 31, 32, 33, 34, 35, 36, 37, 38, 39, 40, 41, 42, 43, 44, 45, 46, 47, 48, 49, 50, 51, 52, 53, 54, 55] (by decide +kernel) (by decide +kernel)
set_option maxRecDepth 20000 in
theorem gX8_trades_X8_moves : GoodIn wsX8_trades (wsV RX8 83 RX8 yX8_moves wsX8_moves) := goodIn_app (goodIn_of _ (by decide +kernel)) ggX8_trades_X8_moves
theorem dX8_trades_0 : decode cX8_trades 0 = .ok (.iload_n 3, 1) := by decide +kernel
theorem dX8_trades_1 : decode cX8_trades 1 = .ok (.ifCond .ne 4, 3) := by decide +kernel
theorem dX8_trades_4 : decode cX8_trades 4 = .ok (.return_, 1) := by decide +kernel
theorem dX8_trades_5 : decode cX8_trades 5 = .ok (.aload_n 0, 1) := by decide +kernel
theorem dX8_trades_6 : decode cX8_trades 6 = .ok (.getfield 23, 3) := by decide +kernel
theorem dX8_trades_9 : decode cX8_trades 9 = .ok (.iload_n 1, 1) := by decide +kernel
theorem dX8_trades_10 : decode cX8_trades 10 = .ok (.iaload, 1) := by decide +kernel
theorem dX8_trades_11 : decode cX8_trades 11 = .ok (.istore 5, 2) := by decide +kernel
theorem dX8_trades_13 : decode cX8_trades 13 = .ok (.aload_n 0, 1) := by decide +kernel
theorem dX8_trades_14 : decode cX8_trades 14 = .ok (.aload_n 0, 1) := by decide +kernel
theorem dX8_trades_15 : decode cX8_trades 15 = .ok (.iload 5, 2) := by decide +kernel
theorem dX8_trades_17 : decode cX8_trades 17 = .ok (.iconst 0, 1) := by decide +kernel
theorem dX8_trades_18 : decode cX8_trades 18 = .ok (.invokevirtual 49, 3) := by decide +kernel
theorem dX8_trades_21 : decode cX8_trades 21 = .ok (.aload_n 0, 1) := by decide +kernel
theorem dX8_trades_22 : decode cX8_trades 22 = .ok (.getfield 73, 3) := by decide +kernel
theorem dX8_trades_25 : decode cX8_trades 25 = .ok (.iload_n 2, 1) := by decide +kernel
theorem dX8_trades_26 : decode cX8_trades 26 = .ok (.iload_n 3, 1) := by decide +kernel
theorem dX8_trades_27 : decode cX8_trades 27 = .ok (.iload 4, 2) := by decide +kernel
theorem dX8_trades_29 : decode cX8_trades 29 = .ok (.invokevirtual 76, 3) := by decide +kernel
theorem dX8_trades_32 : decode cX8_trades 32 = .ok (.aload_n 0, 1) := by decide +kernel
theorem dX8_trades_33 : decode cX8_trades 33 = .ok (.aload_n 0, 1) := by decide +kernel
theorem dX8_trades_34 : decode cX8_trades 34 = .ok (.iload 5, 2) := by decide +kernel
theorem dX8_trades_36 : decode cX8_trades 36 = .ok (.iconst 1, 1) := by decide +kernel
theorem dX8_trades_37 : decode cX8_trades 37 = .ok (.invokevirtual 49, 3) := by decide +kernel
theorem dX8_trades_40 : decode cX8_trades 40 = .ok (.iconst 1, 1) := by decide +kernel
theorem dX8_trades_41 : decode cX8_trades 41 = .ok (.aload_n 0, 1) := by decide +kernel
theorem dX8_trades_42 : decode cX8_trades 42 = .ok (.getfield 80, 3) := by decide +kernel
theorem dX8_trades_45 : decode cX8_trades 45 = .ok (.isub, 1) := by decide +kernel
theorem dX8_trades_46 : decode cX8_trades 46 = .ok (.iload_n 2, 1) := by decide +kernel
theorem dX8_trades_47 : decode cX8_trades 47 = .ok (.iload_n 3, 1) := by decide +kernel
theorem dX8_trades_48 : decode cX8_trades 48 = .ok (.invokevirtual 83, 3) := by decide +kernel
theorem dX8_trades_51 : decode cX8_trades 51 = .ok (.aload_n 0, 1) := by decide +kernel
theorem dX8_trades_52 : decode cX8_trades 52 = .ok (.aload_n 0, 1) := by decide +kernel
theorem dX8_trades_53 : decode cX8_trades 53 = .ok (.getfield 87, 3) := by decide +kernel
theorem dX8_trades_56 : decode cX8_trades 56 = .ok (.aload_n 0, 1) := by decide +kernel
theorem dX8_trades_57 : decode cX8_trades 57 = .ok (.getfield 80, 3) := by decide +kernel
theorem dX8_trades_60 : decode cX8_trades 60 = .ok (.iload_n 2, 1) := by decide +kernel
theorem dX8_trades_61 : decode cX8_trades 61 = .ok (.iload_n 3, 1) := by decide +kernel
theorem dX8_trades_62 : decode cX8_trades 62 = .ok (.invokevirtual 83, 3) := by decide +kernel
theorem dX8_trades_65 : decode cX8_trades 65 = .ok (.aload_n 0, 1) := by decide +kernel
theorem dX8_trades_66 : decode cX8_trades 66 = .ok (.getfield 7, 3) := by decide +kernel
theorem dX8_trades_69 : decode cX8_trades 69 = .ok (.iconst 3, 1) := by decide +kernel
theorem dX8_trades_70 : decode cX8_trades 70 = .ok (.iload_n 2, 1) := by decide +kernel
theorem dX8_trades_71 : decode cX8_trades 71 = .ok (.iastore, 1) := by decide +kernel
theorem dX8_trades_72 : decode cX8_trades 72 = .ok (.aload_n 0, 1) := by decide +kernel
theorem dX8_trades_73 : decode cX8_trades 73 = .ok (.getfield 7, 3) := by decide +kernel
theorem dX8_trades_76 : decode cX8_trades 76 = .ok (.bipush 11, 2) := by decide +kernel
theorem dX8_trades_78 : decode cX8_trades 78 = .ok (.dup2, 1) := by decide +kernel
theorem dX8_trades_79 : decode cX8_trades 79 = .ok (.iaload, 1) := by decide +kernel
theorem dX8_trades_80 : decode cX8_trades 80 = .ok (.iload_n 3, 1) := by decide +kernel
theorem dX8_trades_81 : decode cX8_trades 81 = .ok (.iadd, 1) := by decide +kernel
theorem dX8_trades_82 : decode cX8_trades 82 = .ok (.iastore, 1) := by decide +kernel
theorem dX8_trades_83 : decode cX8_trades 83 = .ok (.aload_n 0, 1) := by decide +kernel
theorem dX8_trades_84 : decode cX8_trades 84 = .ok (.dup, 1) := by decide +kernel
theorem dX8_trades_85 : decode cX8_trades 85 = .ok (.getfield 90, 3) := by decide +kernel
theorem dX8_trades_88 : decode cX8_trades 88 = .ok (.iload_n 3, 1) := by decide +kernel
theorem dX8_trades_89 : decode cX8_trades 89 = .ok (.iadd, 1) := by decide +kernel
theorem dX8_trades_90 : decode cX8_trades 90 = .ok (.putfield 90, 3) := by decide +kernel
theorem dX8_trades_93 : decode cX8_trades 93 = .ok (.aload_n 0, 1) := by decide +kernel
theorem dX8_trades_94 : decode cX8_trades 94 = .ok (.iload_n 2, 1) := by decide +kernel
theorem dX8_trades_95 : decode cX8_trades 95 = .ok (.putfield 93, 3) := by decide +kernel
theorem dX8_trades_98 : decode cX8_trades 98 = .ok (.aload_n 0, 1) := by decide +kernel
theorem dX8_trades_99 : decode cX8_trades 99 = .ok (.dup, 1) := by decide +kernel
theorem dX8_trades_100 : decode cX8_trades 100 = .ok (.getfield 96, 3) := by decide +kernel
theorem dX8_trades_103 : decode cX8_trades 103 = .ok (.iload_n 3, 1) := by decide +kernel
theorem dX8_trades_104 : decode cX8_trades 104 = .ok (.i2l, 1) := by decide +kernel
theorem dX8_trades_105 : decode cX8_trades 105 = .ok (.iload_n 2, 1) := by decide +kernel
theorem dX8_trades_106 : decode cX8_trades 106 = .ok (.i2l, 1) := by decide +kernel
theorem dX8_trades_107 : decode cX8_trades 107 = .ok (.lmul, 1) := by decide +kernel
theorem dX8_trades_108 : decode cX8_trades 108 = .ok (.ladd, 1) := by decide +kernel
theorem dX8_trades_109 : decode cX8_trades 109 = .ok (.putfield 96, 3) := by decide +kernel
theorem dX8_trades_112 : decode cX8_trades 112 = .ok (.return_, 1) := by decide +kernel
set_option maxRecDepth 20000 in
theorem ggX8_settles_X8_lapses : GoodIn wsX8_settles wsX8_lapses := goodIn_r _ [10, 1, 29, 30, 31, 32, 33, 34, 35, 36, 37, 38, 39, 40, 41, 42, 43, 44, 45, 46, 47, 48, 49, 50, 51, 52, 53, 54, 55, 56, 57, 58, 59, 60] (by decide +kernel) (by decide +kernel)
set_option maxRecDepth 20000 in
theorem gX8_settles_X8_lapses : GoodIn wsX8_settles (wsV RX8 60 RX8 yX8_lapses wsX8_lapses) := goodIn_app (goodIn_of _ (by decide +kernel)) ggX8_settles_X8_lapses
set_option maxRecDepth 20000 in
theorem ggX8_settles_X8_has : GoodIn wsX8_settles wsX8_has := goodIn_r _ [14, 2, 15, 16, 29, 30, 31, 32, 33, 34, 35, 36, 37, 38, 39, 40, 41, 42, 43, 44, 45, 46, 47, 48, 49, 50, 51, 52, 53, 54, 55, 56, 57, 58, 59, 60] (by decide +kernel) (by decide +kernel)
