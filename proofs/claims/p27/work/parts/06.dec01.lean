theorem dX2_meet_39 : decode cX2_meet 39 = .ok (.invokevirtual 97, 3) := by decide +kernel
theorem dX2_meet_42 : decode cX2_meet 42 = .ok (.istore 4, 2) := by decide +kernel
theorem dX2_meet_44 : decode cX2_meet 44 = .ok (.iload 4, 2) := by decide +kernel
theorem dX2_meet_46 : decode cX2_meet 46 = .ok (.ifCond .eq 19, 3) := by decide +kernel
theorem dX2_meet_49 : decode cX2_meet 49 = .ok (.iload_n 2, 1) := by decide +kernel
theorem dX2_meet_50 : decode cX2_meet 50 = .ok (.aload_n 0, 1) := by decide +kernel
theorem dX2_meet_51 : decode cX2_meet 51 = .ok (.getfield 42, 3) := by decide +kernel
theorem dX2_meet_54 : decode cX2_meet 54 = .ok (.getfield 101, 3) := by decide +kernel
theorem dX2_meet_57 : decode cX2_meet 57 = .ok (.iload 4, 2) := by decide +kernel
theorem dX2_meet_59 : decode cX2_meet 59 = .ok (.invokestatic 104, 3) := by decide +kernel
theorem dX2_meet_62 : decode cX2_meet 62 = .ok (.ifCond .eq 4, 3) := by decide +kernel
theorem dX2_meet_65 : decode cX2_meet 65 = .ok (.return_, 1) := by decide +kernel
theorem dX2_meet_66 : decode cX2_meet 66 = .ok (.aload_n 0, 1) := by decide +kernel
theorem dX2_meet_67 : decode cX2_meet 67 = .ok (.iload_n 2, 1) := by decide +kernel
theorem dX2_meet_68 : decode cX2_meet 68 = .ok (.iload 4, 2) := by decide +kernel
theorem dX2_meet_70 : decode cX2_meet 70 = .ok (.iload_n 1, 1) := by decide +kernel
theorem dX2_meet_71 : decode cX2_meet 71 = .ok (.invokevirtual 119, 3) := by decide +kernel
theorem dX2_meet_74 : decode cX2_meet 74 = .ok (.aload_n 0, 1) := by decide +kernel
theorem dX2_meet_75 : decode cX2_meet 75 = .ok (.getfield 42, 3) := by decide +kernel
theorem dX2_meet_78 : decode cX2_meet 78 = .ok (.getfield 88, 3) := by decide +kernel
theorem dX2_meet_81 : decode cX2_meet 81 = .ok (.ifCond .le 10, 3) := by decide +kernel
theorem dX2_meet_84 : decode cX2_meet 84 = .ok (.aload_n 0, 1) := by decide +kernel
theorem dX2_meet_85 : decode cX2_meet 85 = .ok (.iload_n 2, 1) := by decide +kernel
theorem dX2_meet_86 : decode cX2_meet 86 = .ok (.iload 4, 2) := by decide +kernel
theorem dX2_meet_88 : decode cX2_meet 88 = .ok (.invokevirtual 123, 3) := by decide +kernel
theorem dX2_meet_91 : decode cX2_meet 91 = .ok (.iinc 3 1, 3) := by decide +kernel
theorem dX2_meet_94 : decode cX2_meet 94 = .ok (.goto (-76), 3) := by decide +kernel
theorem dX2_meet_97 : decode cX2_meet 97 = .ok (.return_, 1) := by decide +kernel
set_option maxRecDepth 20000 in
theorem ggX2_preventSelf_X0_isAt : GoodIn wsX2_preventSelf wsX0_isAt := goodIn_r _ [11, 12, 13, 14, 52, 53, 54, 55, 56, 57, 58, 59, 60, 61] (by decide +kernel) (by decide +kernel)
set_option maxRecDepth 20000 in
theorem gX2_preventSelf_X0_isAt : GoodIn wsX2_preventSelf (wsV RX2 134 RX0 yX0_isAt wsX0_isAt) := goodIn_app (goodIn_of _ (by decide +kernel)) ggX2_preventSelf_X0_isAt
set_option maxRecDepth 20000 in
theorem ggX2_preventSelf_X2_loseOwn : GoodIn wsX2_preventSelf wsX2_loseOwn := goodIn_r _ [19, 20, 6, 21, 5, 22, 23, 24, 25, 26, 40, 41, 42, 43, 44, 45, 46, 47, 48, 49, 50, 51, 56, 57, 58, 59, 60, 61] (by decide +kernel) (by decide +kernel)
set_option maxRecDepth 20000 in
theorem gX2_preventSelf_X2_loseOwn : GoodIn wsX2_preventSelf (wsV RX2 140 RX2 yX2_loseOwn wsX2_loseOwn) := goodIn_app (goodIn_of _ (by decide +kernel)) ggX2_preventSelf_X2_loseOwn
set_option maxRecDepth 20000 in
theorem ggX2_preventSelf_X0_sweep : GoodIn wsX2_preventSelf wsX0_sweep := goodIn_r _ [30, 31, 12, 32, 33, 34, 35, 10, 36, 37, 13, 38, 39, 52, 53, 54, 55, 56, 57, 58, 59, 60, 61] (by decide +kernel) (by decide +kernel)
set_option maxRecDepth 20000 in
theorem gX2_preventSelf_X0_sweep : GoodIn wsX2_preventSelf (wsV RX2 143 RX0 yX0_sweep wsX0_sweep) := goodIn_app (goodIn_of _ (by decide +kernel)) ggX2_preventSelf_X0_sweep
theorem dX2_preventSelf_0 : decode cX2_preventSelf 0 = .ok (.iconst 0, 1) := by decide +kernel
theorem dX2_preventSelf_1 : decode cX2_preventSelf 1 = .ok (.istore 4, 2) := by decide +kernel
theorem dX2_preventSelf_3 : decode cX2_preventSelf 3 = .ok (.iconst 0, 1) := by decide +kernel
theorem dX2_preventSelf_4 : decode cX2_preventSelf 4 = .ok (.istore 5, 2) := by decide +kernel
theorem dX2_preventSelf_6 : decode cX2_preventSelf 6 = .ok (.iload 5, 2) := by decide +kernel
theorem dX2_preventSelf_8 : decode cX2_preventSelf 8 = .ok (.aload_n 0, 1) := by decide +kernel
theorem dX2_preventSelf_9 : decode cX2_preventSelf 9 = .ok (.getfield 12, 3) := by decide +kernel
theorem dX2_preventSelf_12 : decode cX2_preventSelf 12 = .ok (.getfield 127, 3) := by decide +kernel
theorem dX2_preventSelf_15 : decode cX2_preventSelf 15 = .ok (.if_icmp .ge 60, 3) := by decide +kernel
theorem dX2_preventSelf_18 : decode cX2_preventSelf 18 = .ok (.aload_n 0, 1) := by decide +kernel
theorem dX2_preventSelf_19 : decode cX2_preventSelf 19 = .ok (.getfield 12, 3) := by decide +kernel
theorem dX2_preventSelf_22 : decode cX2_preventSelf 22 = .ok (.getfield 130, 3) := by decide +kernel
theorem dX2_preventSelf_25 : decode cX2_preventSelf 25 = .ok (.iload 5, 2) := by decide +kernel
theorem dX2_preventSelf_27 : decode cX2_preventSelf 27 = .ok (.aaload, 1) := by decide +kernel
theorem dX2_preventSelf_28 : decode cX2_preventSelf 28 = .ok (.astore 6, 2) := by decide +kernel
theorem dX2_preventSelf_30 : decode cX2_preventSelf 30 = .ok (.aload_n 0, 1) := by decide +kernel
theorem dX2_preventSelf_31 : decode cX2_preventSelf 31 = .ok (.getfield 12, 3) := by decide +kernel
theorem dX2_preventSelf_34 : decode cX2_preventSelf 34 = .ok (.iload 5, 2) := by decide +kernel
theorem dX2_preventSelf_36 : decode cX2_preventSelf 36 = .ok (.iload_n 1, 1) := by decide +kernel
theorem dX2_preventSelf_37 : decode cX2_preventSelf 37 = .ok (.iload_n 2, 1) := by decide +kernel
theorem dX2_preventSelf_38 : decode cX2_preventSelf 38 = .ok (.invokevirtual 134, 3) := by decide +kernel
theorem dX2_preventSelf_41 : decode cX2_preventSelf 41 = .ok (.ifCond .eq 28, 3) := by decide +kernel
theorem dX2_preventSelf_44 : decode cX2_preventSelf 44 = .ok (.aload 6, 2) := by decide +kernel
theorem dX2_preventSelf_46 : decode cX2_preventSelf 46 = .ok (.getfield 137, 3) := by decide +kernel
theorem dX2_preventSelf_49 : decode cX2_preventSelf 49 = .ok (.aload_n 0, 1) := by decide +kernel
theorem dX2_preventSelf_50 : decode cX2_preventSelf 50 = .ok (.getfield 42, 3) := by decide +kernel
theorem dX2_preventSelf_53 : decode cX2_preventSelf 53 = .ok (.getfield 137, 3) := by decide +kernel
theorem dX2_preventSelf_56 : decode cX2_preventSelf 56 = .ok (.if_icmp .ne 13, 3) := by decide +kernel
theorem dX2_preventSelf_59 : decode cX2_preventSelf 59 = .ok (.iconst 1, 1) := by decide +kernel
theorem dX2_preventSelf_60 : decode cX2_preventSelf 60 = .ok (.istore 4, 2) := by decide +kernel
theorem dX2_preventSelf_62 : decode cX2_preventSelf 62 = .ok (.aload_n 0, 1) := by decide +kernel
theorem dX2_preventSelf_63 : decode cX2_preventSelf 63 = .ok (.aload 6, 2) := by decide +kernel
theorem dX2_preventSelf_65 : decode cX2_preventSelf 65 = .ok (.iload_n 3, 1) := by decide +kernel
theorem dX2_preventSelf_66 : decode cX2_preventSelf 66 = .ok (.invokevirtual 140, 3) := by decide +kernel
theorem dX2_preventSelf_69 : decode cX2_preventSelf 69 = .ok (.iinc 5 1, 3) := by decide +kernel
theorem dX2_preventSelf_72 : decode cX2_preventSelf 72 = .ok (.goto (-66), 3) := by decide +kernel
theorem dX2_preventSelf_75 : decode cX2_preventSelf 75 = .ok (.iload 4, 2) := by decide +kernel
theorem dX2_preventSelf_77 : decode cX2_preventSelf 77 = .ok (.ifCond .eq 21, 3) := by decide +kernel
theorem dX2_preventSelf_80 : decode cX2_preventSelf 80 = .ok (.iload_n 3, 1) := by decide +kernel
theorem dX2_preventSelf_81 : decode cX2_preventSelf 81 = .ok (.iconst 1, 1) := by decide +kernel
theorem dX2_preventSelf_82 : decode cX2_preventSelf 82 = .ok (.if_icmp .eq 8, 3) := by decide +kernel
theorem dX2_preventSelf_85 : decode cX2_preventSelf 85 = .ok (.iload_n 3, 1) := by decide +kernel
theorem dX2_preventSelf_86 : decode cX2_preventSelf 86 = .ok (.iconst 2, 1) := by decide +kernel
theorem dX2_preventSelf_87 : decode cX2_preventSelf 87 = .ok (.if_icmp .ne 11, 3) := by decide +kernel
theorem dX2_preventSelf_90 : decode cX2_preventSelf 90 = .ok (.aload_n 0, 1) := by decide +kernel
theorem dX2_preventSelf_91 : decode cX2_preventSelf 91 = .ok (.getfield 42, 3) := by decide +kernel
theorem dX2_preventSelf_94 : decode cX2_preventSelf 94 = .ok (.iconst 0, 1) := by decide +kernel
theorem dX2_preventSelf_95 : decode cX2_preventSelf 95 = .ok (.putfield 88, 3) := by decide +kernel
theorem dX2_preventSelf_98 : decode cX2_preventSelf 98 = .ok (.aload_n 0, 1) := by decide +kernel
theorem dX2_preventSelf_99 : decode cX2_preventSelf 99 = .ok (.getfield 12, 3) := by decide +kernel
theorem dX2_preventSelf_102 : decode cX2_preventSelf 102 = .ok (.invokevirtual 143, 3) := by decide +kernel
theorem dX2_preventSelf_105 : decode cX2_preventSelf 105 = .ok (.return_, 1) := by decide +kernel
theorem dX2_loseOwn_0 : decode cX2_loseOwn 0 = .ok (.iload_n 2, 1) := by decide +kernel
theorem dX2_loseOwn_1 : decode cX2_loseOwn 1 = .ok (.ifCond .eq 8, 3) := by decide +kernel
theorem dX2_loseOwn_4 : decode cX2_loseOwn 4 = .ok (.iload_n 2, 1) := by decide +kernel
theorem dX2_loseOwn_5 : decode cX2_loseOwn 5 = .ok (.iconst 2, 1) := by decide +kernel
theorem dX2_loseOwn_6 : decode cX2_loseOwn 6 = .ok (.if_icmp .ne 34, 3) := by decide +kernel
theorem dX2_loseOwn_9 : decode cX2_loseOwn 9 = .ok (.aload_n 0, 1) := by decide +kernel
theorem dX2_loseOwn_10 : decode cX2_loseOwn 10 = .ok (.dup, 1) := by decide +kernel
theorem dX2_loseOwn_11 : decode cX2_loseOwn 11 = .ok (.getfield 70, 3) := by decide +kernel
theorem dX2_loseOwn_14 : decode cX2_loseOwn 14 = .ok (.aload_n 1, 1) := by decide +kernel
theorem dX2_loseOwn_15 : decode cX2_loseOwn 15 = .ok (.getfield 88, 3) := by decide +kernel
theorem dX2_loseOwn_18 : decode cX2_loseOwn 18 = .ok (.iadd, 1) := by decide +kernel
theorem dX2_loseOwn_19 : decode cX2_loseOwn 19 = .ok (.putfield 70, 3) := by decide +kernel
theorem dX2_loseOwn_22 : decode cX2_loseOwn 22 = .ok (.aload_n 1, 1) := by decide +kernel
theorem dX2_loseOwn_23 : decode cX2_loseOwn 23 = .ok (.iconst 0, 1) := by decide +kernel
theorem dX2_loseOwn_24 : decode cX2_loseOwn 24 = .ok (.putfield 88, 3) := by decide +kernel
theorem dX2_loseOwn_27 : decode cX2_loseOwn 27 = .ok (.aload_n 0, 1) := by decide +kernel
theorem dX2_loseOwn_28 : decode cX2_loseOwn 28 = .ok (.dup, 1) := by decide +kernel
theorem dX2_loseOwn_29 : decode cX2_loseOwn 29 = .ok (.getfield 67, 3) := by decide +kernel
theorem dX2_loseOwn_32 : decode cX2_loseOwn 32 = .ok (.iconst 1, 1) := by decide +kernel
theorem dX2_loseOwn_33 : decode cX2_loseOwn 33 = .ok (.iadd, 1) := by decide +kernel
theorem dX2_loseOwn_34 : decode cX2_loseOwn 34 = .ok (.putfield 67, 3) := by decide +kernel
theorem dX2_loseOwn_37 : decode cX2_loseOwn 37 = .ok (.goto 77, 3) := by decide +kernel
theorem dX2_loseOwn_40 : decode cX2_loseOwn 40 = .ok (.iload_n 2, 1) := by decide +kernel
theorem dX2_loseOwn_41 : decode cX2_loseOwn 41 = .ok (.iconst 3, 1) := by decide +kernel
theorem dX2_loseOwn_42 : decode cX2_loseOwn 42 = .ok (.if_icmp .ne 72, 3) := by decide +kernel
theorem dX2_loseOwn_45 : decode cX2_loseOwn 45 = .ok (.aload_n 1, 1) := by decide +kernel
theorem dX2_loseOwn_46 : decode cX2_loseOwn 46 = .ok (.getfield 88, 3) := by decide +kernel
theorem dX2_loseOwn_49 : decode cX2_loseOwn 49 = .ok (.aload_n 0, 1) := by decide +kernel
theorem dX2_loseOwn_50 : decode cX2_loseOwn 50 = .ok (.getfield 42, 3) := by decide +kernel
theorem dX2_loseOwn_53 : decode cX2_loseOwn 53 = .ok (.getfield 88, 3) := by decide +kernel
theorem dX2_loseOwn_56 : decode cX2_loseOwn 56 = .ok (.invokestatic 146, 3) := by decide +kernel
theorem dX2_loseOwn_59 : decode cX2_loseOwn 59 = .ok (.istore_n 3, 1) := by decide +kernel
theorem dX2_loseOwn_60 : decode cX2_loseOwn 60 = .ok (.aload_n 1, 1) := by decide +kernel
theorem dX2_loseOwn_61 : decode cX2_loseOwn 61 = .ok (.dup, 1) := by decide +kernel
theorem dX2_loseOwn_62 : decode cX2_loseOwn 62 = .ok (.getfield 88, 3) := by decide +kernel
theorem dX2_loseOwn_65 : decode cX2_loseOwn 65 = .ok (.iload_n 3, 1) := by decide +kernel
theorem dX2_loseOwn_66 : decode cX2_loseOwn 66 = .ok (.isub, 1) := by decide +kernel
theorem dX2_loseOwn_67 : decode cX2_loseOwn 67 = .ok (.putfield 88, 3) := by decide +kernel
theorem dX2_loseOwn_70 : decode cX2_loseOwn 70 = .ok (.aload_n 0, 1) := by decide +kernel
theorem dX2_loseOwn_71 : decode cX2_loseOwn 71 = .ok (.getfield 42, 3) := by decide +kernel
theorem dX2_loseOwn_74 : decode cX2_loseOwn 74 = .ok (.dup, 1) := by decide +kernel
theorem dX2_loseOwn_75 : decode cX2_loseOwn 75 = .ok (.getfield 88, 3) := by decide +kernel
theorem dX2_loseOwn_78 : decode cX2_loseOwn 78 = .ok (.iload_n 3, 1) := by decide +kernel
theorem dX2_loseOwn_79 : decode cX2_loseOwn 79 = .ok (.isub, 1) := by decide +kernel
theorem dX2_loseOwn_80 : decode cX2_loseOwn 80 = .ok (.putfield 88, 3) := by decide +kernel
theorem dX2_loseOwn_83 : decode cX2_loseOwn 83 = .ok (.aload_n 0, 1) := by decide +kernel
theorem dX2_loseOwn_84 : decode cX2_loseOwn 84 = .ok (.dup, 1) := by decide +kernel
theorem dX2_loseOwn_85 : decode cX2_loseOwn 85 = .ok (.getfield 73, 3) := by decide +kernel
theorem dX2_loseOwn_88 : decode cX2_loseOwn 88 = .ok (.iload_n 3, 1) := by decide +kernel
theorem dX2_loseOwn_89 : decode cX2_loseOwn 89 = .ok (.iadd, 1) := by decide +kernel
theorem dX2_loseOwn_90 : decode cX2_loseOwn 90 = .ok (.putfield 73, 3) := by decide +kernel
theorem dX2_loseOwn_93 : decode cX2_loseOwn 93 = .ok (.aload_n 0, 1) := by decide +kernel
theorem dX2_loseOwn_94 : decode cX2_loseOwn 94 = .ok (.dup, 1) := by decide +kernel
theorem dX2_loseOwn_95 : decode cX2_loseOwn 95 = .ok (.getfield 67, 3) := by decide +kernel
theorem dX2_loseOwn_98 : decode cX2_loseOwn 98 = .ok (.aload_n 1, 1) := by decide +kernel
theorem dX2_loseOwn_99 : decode cX2_loseOwn 99 = .ok (.getfield 88, 3) := by decide +kernel
theorem dX2_loseOwn_102 : decode cX2_loseOwn 102 = .ok (.ifCond .ne 7, 3) := by decide +kernel
theorem dX2_loseOwn_105 : decode cX2_loseOwn 105 = .ok (.iconst 1, 1) := by decide +kernel
theorem dX2_loseOwn_106 : decode cX2_loseOwn 106 = .ok (.goto 4, 3) := by decide +kernel
theorem dX2_loseOwn_109 : decode cX2_loseOwn 109 = .ok (.iconst 0, 1) := by decide +kernel
theorem dX2_loseOwn_110 : decode cX2_loseOwn 110 = .ok (.iadd, 1) := by decide +kernel
theorem dX2_loseOwn_111 : decode cX2_loseOwn 111 = .ok (.putfield 67, 3) := by decide +kernel
theorem dX2_loseOwn_114 : decode cX2_loseOwn 114 = .ok (.return_, 1) := by decide +kernel
set_option maxRecDepth 20000 in
theorem ggX2_takeAt_X5_load : GoodIn wsX2_takeAt wsX5_load := goodIn_r _ [23, 24, 25, 26, 27, 28, 29, 30, 31, 32, 33, 34, 35, 36, 37, 38, 39, 40, 41, 42, 43, 44, 45, 46, 22, 47, 48, 49, 50, 117, 118, 119, 120, 121, 122, 123, 124, 132, 133, 134, 135, 111, 112, 113, 114, 115, 116] (by decide +kernel) (by decide +kernel)
set_option maxRecDepth 20000 in
theorem gX2_takeAt_X5_load : GoodIn wsX2_takeAt (wsV RX2 152 RX5 yX5_load wsX5_load) := goodIn_app (goodIn_of _ (by decide +kernel)) ggX2_takeAt_X5_load
set_option maxRecDepth 20000 in
theorem ggX2_takeAt_X5_deal : GoodIn wsX2_takeAt wsX5_deal := goodIn_r _ [54, 24, 55, 49, 50, 56, 7, 8, 9, 57, 58, 59, 60, 22, 61, 117, 118, 119, 120, 121, 122, 123, 124] (by decide +kernel) (by decide +kernel)
set_option maxRecDepth 20000 in
theorem gX2_takeAt_X5_deal : GoodIn wsX2_takeAt (wsV RX2 159 RX5 yX5_deal wsX5_deal) := goodIn_app (goodIn_of _ (by decide +kernel)) ggX2_takeAt_X5_deal
set_option maxRecDepth 20000 in
theorem ggX2_takeAt_X2_tradeRows : GoodIn wsX2_takeAt wsX2_tradeRows := goodIn_r _ [66, 1, 67, 68, 4, 2, 15, 12, 16, 17, 69, 70, 71, 32, 72, 43, 35, 41, 73, 74, 75, 76, 77, 78, 79, 80, 81, 7, 8, 9, 82, 83, 84, 85, 86, 87, 88, 99, 100, 101, 102, 103, 104, 105, 106, 107, 108, 109, 110, 117, 118, 119, 120, 121, 122, 123, 124, 111, 112, 113, 114, 115, 116, 132, 133, 134, 135, 125, 126, 127, 128, 129, 130, 131] (by decide +kernel) (by decide +kernel)
set_option maxRecDepth 20000 in
theorem gX2_takeAt_X2_tradeRows : GoodIn wsX2_takeAt (wsV RX2 169 RX2 yX2_tradeRows wsX2_tradeRows) := goodIn_app (goodIn_of _ (by decide +kernel)) ggX2_takeAt_X2_tradeRows
set_option maxRecDepth 20000 in
theorem ggX2_takeAt_X3_enter : GoodIn wsX2_takeAt wsX3_enter := goodIn_r _ [86, 87, 88, 125, 126, 127, 128, 129, 130, 131] (by decide +kernel) (by decide +kernel)
set_option maxRecDepth 20000 in
theorem gX2_takeAt_X3_enter : GoodIn wsX2_takeAt (wsV RX2 179 RX3 yX3_enter wsX3_enter) := goodIn_app (goodIn_of _ (by decide +kernel)) ggX2_takeAt_X3_enter
set_option maxRecDepth 20000 in
theorem ggX2_takeAt_X0_sweep : GoodIn wsX2_takeAt wsX0_sweep := goodIn_r _ [92, 93, 34, 94, 95, 96, 97, 32, 98, 41, 35, 42, 43, 132, 133, 134, 135, 111, 112, 113, 114, 115, 116] (by decide +kernel) (by decide +kernel)
set_option maxRecDepth 20000 in
theorem gX2_takeAt_X0_sweep : GoodIn wsX2_takeAt (wsV RX2 143 RX0 yX0_sweep wsX0_sweep) := goodIn_app (goodIn_of _ (by decide +kernel)) ggX2_takeAt_X0_sweep
theorem dX2_takeAt_0 : decode cX2_takeAt 0 = .ok (.aload_n 0, 1) := by decide +kernel
theorem dX2_takeAt_1 : decode cX2_takeAt 1 = .ok (.getfield 28, 3) := by decide +kernel
theorem dX2_takeAt_4 : decode cX2_takeAt 4 = .ok (.aload_n 0, 1) := by decide +kernel
theorem dX2_takeAt_5 : decode cX2_takeAt 5 = .ok (.getfield 12, 3) := by decide +kernel
theorem dX2_takeAt_8 : decode cX2_takeAt 8 = .ok (.iload_n 1, 1) := by decide +kernel
theorem dX2_takeAt_9 : decode cX2_takeAt 9 = .ok (.iload_n 2, 1) := by decide +kernel
theorem dX2_takeAt_10 : decode cX2_takeAt 10 = .ok (.invokevirtual 152, 3) := by decide +kernel
theorem dX2_takeAt_13 : decode cX2_takeAt 13 = .ok (.aload_n 0, 1) := by decide +kernel
theorem dX2_takeAt_14 : decode cX2_takeAt 14 = .ok (.getfield 42, 3) := by decide +kernel
theorem dX2_takeAt_17 : decode cX2_takeAt 17 = .ok (.getfield 88, 3) := by decide +kernel
theorem dX2_takeAt_20 : decode cX2_takeAt 20 = .ok (.aload_n 0, 1) := by decide +kernel
theorem dX2_takeAt_21 : decode cX2_takeAt 21 = .ok (.getfield 28, 3) := by decide +kernel
theorem dX2_takeAt_24 : decode cX2_takeAt 24 = .ok (.getfield 156, 3) := by decide +kernel
theorem dX2_takeAt_27 : decode cX2_takeAt 27 = .ok (.invokestatic 146, 3) := by decide +kernel
theorem dX2_takeAt_30 : decode cX2_takeAt 30 = .ok (.istore_n 3, 1) := by decide +kernel
theorem dX2_takeAt_31 : decode cX2_takeAt 31 = .ok (.iload_n 3, 1) := by decide +kernel
theorem dX2_takeAt_32 : decode cX2_takeAt 32 = .ok (.ifCond .gt 4, 3) := by decide +kernel
theorem dX2_takeAt_35 : decode cX2_takeAt 35 = .ok (.return_, 1) := by decide +kernel
theorem dX2_takeAt_36 : decode cX2_takeAt 36 = .ok (.aload_n 0, 1) := by decide +kernel
theorem dX2_takeAt_37 : decode cX2_takeAt 37 = .ok (.getfield 28, 3) := by decide +kernel
theorem dX2_takeAt_40 : decode cX2_takeAt 40 = .ok (.iload_n 3, 1) := by decide +kernel
theorem dX2_takeAt_41 : decode cX2_takeAt 41 = .ok (.aload_n 0, 1) := by decide +kernel
theorem dX2_takeAt_42 : decode cX2_takeAt 42 = .ok (.getfield 50, 3) := by decide +kernel
theorem dX2_takeAt_45 : decode cX2_takeAt 45 = .ok (.invokevirtual 159, 3) := by decide +kernel
theorem dX2_takeAt_48 : decode cX2_takeAt 48 = .ok (.aload_n 0, 1) := by decide +kernel
theorem dX2_takeAt_49 : decode cX2_takeAt 49 = .ok (.aload_n 0, 1) := by decide +kernel
theorem dX2_takeAt_50 : decode cX2_takeAt 50 = .ok (.getfield 28, 3) := by decide +kernel
theorem dX2_takeAt_53 : decode cX2_takeAt 53 = .ok (.getfield 162, 3) := by decide +kernel
theorem dX2_takeAt_56 : decode cX2_takeAt 56 = .ok (.aload_n 0, 1) := by decide +kernel
theorem dX2_takeAt_57 : decode cX2_takeAt 57 = .ok (.getfield 42, 3) := by decide +kernel
theorem dX2_takeAt_60 : decode cX2_takeAt 60 = .ok (.getfield 166, 3) := by decide +kernel
theorem dX2_takeAt_63 : decode cX2_takeAt 63 = .ok (.iload_n 2, 1) := by decide +kernel
theorem dX2_takeAt_64 : decode cX2_takeAt 64 = .ok (.iconst 0, 1) := by decide +kernel
theorem dX2_takeAt_65 : decode cX2_takeAt 65 = .ok (.invokevirtual 169, 3) := by decide +kernel
theorem dX2_takeAt_68 : decode cX2_takeAt 68 = .ok (.aload_n 0, 1) := by decide +kernel
theorem dX2_takeAt_69 : decode cX2_takeAt 69 = .ok (.aload_n 0, 1) := by decide +kernel
theorem dX2_takeAt_70 : decode cX2_takeAt 70 = .ok (.getfield 28, 3) := by decide +kernel
theorem dX2_takeAt_73 : decode cX2_takeAt 73 = .ok (.getfield 173, 3) := by decide +kernel
theorem dX2_takeAt_76 : decode cX2_takeAt 76 = .ok (.aload_n 0, 1) := by decide +kernel
theorem dX2_takeAt_77 : decode cX2_takeAt 77 = .ok (.getfield 42, 3) := by decide +kernel
theorem dX2_takeAt_80 : decode cX2_takeAt 80 = .ok (.getfield 166, 3) := by decide +kernel
theorem dX2_takeAt_83 : decode cX2_takeAt 83 = .ok (.iload_n 2, 1) := by decide +kernel
theorem dX2_takeAt_84 : decode cX2_takeAt 84 = .ok (.iconst 1, 1) := by decide +kernel
theorem dX2_takeAt_85 : decode cX2_takeAt 85 = .ok (.invokevirtual 169, 3) := by decide +kernel
theorem dX2_takeAt_88 : decode cX2_takeAt 88 = .ok (.aload_n 0, 1) := by decide +kernel
theorem dX2_takeAt_89 : decode cX2_takeAt 89 = .ok (.aload_n 0, 1) := by decide +kernel
theorem dX2_takeAt_90 : decode cX2_takeAt 90 = .ok (.getfield 28, 3) := by decide +kernel
theorem dX2_takeAt_93 : decode cX2_takeAt 93 = .ok (.getfield 176, 3) := by decide +kernel
theorem dX2_takeAt_96 : decode cX2_takeAt 96 = .ok (.aload_n 0, 1) := by decide +kernel
theorem dX2_takeAt_97 : decode cX2_takeAt 97 = .ok (.getfield 42, 3) := by decide +kernel
theorem dX2_takeAt_100 : decode cX2_takeAt 100 = .ok (.getfield 166, 3) := by decide +kernel
theorem dX2_takeAt_103 : decode cX2_takeAt 103 = .ok (.iload_n 2, 1) := by decide +kernel
theorem dX2_takeAt_104 : decode cX2_takeAt 104 = .ok (.iconst 2, 1) := by decide +kernel
theorem dX2_takeAt_105 : decode cX2_takeAt 105 = .ok (.invokevirtual 169, 3) := by decide +kernel
theorem dX2_takeAt_108 : decode cX2_takeAt 108 = .ok (.aload_n 0, 1) := by decide +kernel
theorem dX2_takeAt_109 : decode cX2_takeAt 109 = .ok (.getfield 21, 3) := by decide +kernel
theorem dX2_takeAt_112 : decode cX2_takeAt 112 = .ok (.aload_n 0, 1) := by decide +kernel
theorem dX2_takeAt_113 : decode cX2_takeAt 113 = .ok (.getfield 42, 3) := by decide +kernel
theorem dX2_takeAt_116 : decode cX2_takeAt 116 = .ok (.getfield 137, 3) := by decide +kernel
theorem dX2_takeAt_119 : decode cX2_takeAt 119 = .ok (.aload_n 0, 1) := by decide +kernel
theorem dX2_takeAt_120 : decode cX2_takeAt 120 = .ok (.getfield 42, 3) := by decide +kernel
theorem dX2_takeAt_123 : decode cX2_takeAt 123 = .ok (.getfield 94, 3) := by decide +kernel
theorem dX2_takeAt_126 : decode cX2_takeAt 126 = .ok (.iload_n 2, 1) := by decide +kernel
theorem dX2_takeAt_127 : decode cX2_takeAt 127 = .ok (.iload_n 3, 1) := by decide +kernel
theorem dX2_takeAt_128 : decode cX2_takeAt 128 = .ok (.invokevirtual 179, 3) := by decide +kernel
theorem dX2_takeAt_131 : decode cX2_takeAt 131 = .ok (.aload_n 0, 1) := by decide +kernel
theorem dX2_takeAt_132 : decode cX2_takeAt 132 = .ok (.getfield 21, 3) := by decide +kernel
theorem dX2_takeAt_135 : decode cX2_takeAt 135 = .ok (.dup, 1) := by decide +kernel
theorem dX2_takeAt_136 : decode cX2_takeAt 136 = .ok (.getfield 183, 3) := by decide +kernel
theorem dX2_takeAt_139 : decode cX2_takeAt 139 = .ok (.iload_n 3, 1) := by decide +kernel
theorem dX2_takeAt_140 : decode cX2_takeAt 140 = .ok (.iadd, 1) := by decide +kernel
theorem dX2_takeAt_141 : decode cX2_takeAt 141 = .ok (.putfield 183, 3) := by decide +kernel
theorem dX2_takeAt_144 : decode cX2_takeAt 144 = .ok (.aload_n 0, 1) := by decide +kernel
theorem dX2_takeAt_145 : decode cX2_takeAt 145 = .ok (.getfield 42, 3) := by decide +kernel
theorem dX2_takeAt_148 : decode cX2_takeAt 148 = .ok (.dup, 1) := by decide +kernel
theorem dX2_takeAt_149 : decode cX2_takeAt 149 = .ok (.getfield 88, 3) := by decide +kernel
theorem dX2_takeAt_152 : decode cX2_takeAt 152 = .ok (.iload_n 3, 1) := by decide +kernel
theorem dX2_takeAt_153 : decode cX2_takeAt 153 = .ok (.isub, 1) := by decide +kernel
theorem dX2_takeAt_154 : decode cX2_takeAt 154 = .ok (.putfield 88, 3) := by decide +kernel
theorem dX2_takeAt_157 : decode cX2_takeAt 157 = .ok (.aload_n 0, 1) := by decide +kernel
theorem dX2_takeAt_158 : decode cX2_takeAt 158 = .ok (.getfield 12, 3) := by decide +kernel
theorem dX2_takeAt_161 : decode cX2_takeAt 161 = .ok (.invokevirtual 143, 3) := by decide +kernel
theorem dX2_takeAt_164 : decode cX2_takeAt 164 = .ok (.return_, 1) := by decide +kernel
set_option maxRecDepth 20000 in
theorem ggX2_tradeRows_X0_useGrant : GoodIn wsX2_tradeRows wsX0_useGrant := goodIn_r _ [14, 15, 16, 17, 63, 64, 65, 66, 57, 58, 59, 60, 61, 62] (by decide +kernel) (by decide +kernel)
set_option maxRecDepth 20000 in
theorem gX2_tradeRows_X0_useGrant : GoodIn wsX2_tradeRows (wsV RX2 191 RX0 yX0_useGrant wsX0_useGrant) := goodIn_app (goodIn_of _ (by decide +kernel)) ggX2_tradeRows_X0_useGrant
set_option maxRecDepth 20000 in
theorem ggX2_tradeRows_X3_keep : GoodIn wsX2_tradeRows wsX3_keep := goodIn_r _ [22, 23, 24, 25, 26, 27, 28, 29, 30, 67, 68, 69, 70, 71, 72, 73] (by decide +kernel) (by decide +kernel)
set_option maxRecDepth 20000 in
theorem gX2_tradeRows_X3_keep : GoodIn wsX2_tradeRows (wsV RX2 194 RX3 yX3_keep wsX3_keep) := goodIn_app (goodIn_of _ (by decide +kernel)) ggX2_tradeRows_X3_keep
set_option maxRecDepth 20000 in
theorem ggX2_tradeRows_X3_enter : GoodIn wsX2_tradeRows wsX3_enter := goodIn_r _ [34, 35, 36, 67, 68, 69, 70, 71, 72, 73] (by decide +kernel) (by decide +kernel)
set_option maxRecDepth 20000 in
theorem gX2_tradeRows_X3_enter : GoodIn wsX2_tradeRows (wsV RX2 179 RX3 yX3_enter wsX3_enter) := goodIn_app (goodIn_of _ (by decide +kernel)) ggX2_tradeRows_X3_enter
theorem dX2_tradeRows_0 : decode cX2_tradeRows 0 = .ok (.iconst 0, 1) := by decide +kernel
theorem dX2_tradeRows_1 : decode cX2_tradeRows 1 = .ok (.istore 5, 2) := by decide +kernel
theorem dX2_tradeRows_3 : decode cX2_tradeRows 3 = .ok (.iload 5, 2) := by decide +kernel
theorem dX2_tradeRows_5 : decode cX2_tradeRows 5 = .ok (.aload_n 0, 1) := by decide +kernel
theorem dX2_tradeRows_6 : decode cX2_tradeRows 6 = .ok (.getfield 28, 3) := by decide +kernel
theorem dX2_tradeRows_9 : decode cX2_tradeRows 9 = .ok (.getfield 186, 3) := by decide +kernel
theorem dX2_tradeRows_12 : decode cX2_tradeRows 12 = .ok (.if_icmp .ge 109, 3) := by decide +kernel
theorem dX2_tradeRows_15 : decode cX2_tradeRows 15 = .ok (.iload 5, 2) := by decide +kernel
theorem dX2_tradeRows_17 : decode cX2_tradeRows 17 = .ok (.aload_n 1, 1) := by decide +kernel
theorem dX2_tradeRows_18 : decode cX2_tradeRows 18 = .ok (.arraylength, 1) := by decide +kernel
theorem dX2_tradeRows_19 : decode cX2_tradeRows 19 = .ok (.if_icmp .ge 102, 3) := by decide +kernel
theorem dX2_tradeRows_22 : decode cX2_tradeRows 22 = .ok (.aload_n 1, 1) := by decide +kernel
theorem dX2_tradeRows_23 : decode cX2_tradeRows 23 = .ok (.iload 5, 2) := by decide +kernel
theorem dX2_tradeRows_25 : decode cX2_tradeRows 25 = .ok (.iaload, 1) := by decide +kernel
theorem dX2_tradeRows_26 : decode cX2_tradeRows 26 = .ok (.ifCond .le 89, 3) := by decide +kernel
theorem dX2_tradeRows_29 : decode cX2_tradeRows 29 = .ok (.aload_n 0, 1) := by decide +kernel
theorem dX2_tradeRows_30 : decode cX2_tradeRows 30 = .ok (.getfield 28, 3) := by decide +kernel
theorem dX2_tradeRows_33 : decode cX2_tradeRows 33 = .ok (.getfield 188, 3) := by decide +kernel
theorem dX2_tradeRows_36 : decode cX2_tradeRows 36 = .ok (.iload 5, 2) := by decide +kernel
theorem dX2_tradeRows_38 : decode cX2_tradeRows 38 = .ok (.aaload, 1) := by decide +kernel
theorem dX2_tradeRows_39 : decode cX2_tradeRows 39 = .ok (.astore 6, 2) := by decide +kernel
theorem dX2_tradeRows_41 : decode cX2_tradeRows 41 = .ok (.aload 6, 2) := by decide +kernel
theorem dX2_tradeRows_43 : decode cX2_tradeRows 43 = .ok (.dup, 1) := by decide +kernel
theorem dX2_tradeRows_44 : decode cX2_tradeRows 44 = .ok (.getfield 88, 3) := by decide +kernel
theorem dX2_tradeRows_47 : decode cX2_tradeRows 47 = .ok (.aload_n 1, 1) := by decide +kernel
theorem dX2_tradeRows_48 : decode cX2_tradeRows 48 = .ok (.iload 5, 2) := by decide +kernel
theorem dX2_tradeRows_50 : decode cX2_tradeRows 50 = .ok (.iaload, 1) := by decide +kernel
theorem dX2_tradeRows_51 : decode cX2_tradeRows 51 = .ok (.isub, 1) := by decide +kernel
theorem dX2_tradeRows_52 : decode cX2_tradeRows 52 = .ok (.putfield 88, 3) := by decide +kernel
theorem dX2_tradeRows_55 : decode cX2_tradeRows 55 = .ok (.iload 4, 2) := by decide +kernel
theorem dX2_tradeRows_57 : decode cX2_tradeRows 57 = .ok (.ifCond .ne 16, 3) := by decide +kernel
theorem dX2_tradeRows_60 : decode cX2_tradeRows 60 = .ok (.aload_n 0, 1) := by decide +kernel
theorem dX2_tradeRows_61 : decode cX2_tradeRows 61 = .ok (.getfield 12, 3) := by decide +kernel
theorem dX2_tradeRows_64 : decode cX2_tradeRows 64 = .ok (.aload 6, 2) := by decide +kernel
theorem dX2_tradeRows_66 : decode cX2_tradeRows 66 = .ok (.aload_n 1, 1) := by decide +kernel
theorem dX2_tradeRows_67 : decode cX2_tradeRows 67 = .ok (.iload 5, 2) := by decide +kernel
theorem dX2_tradeRows_69 : decode cX2_tradeRows 69 = .ok (.iaload, 1) := by decide +kernel
theorem dX2_tradeRows_70 : decode cX2_tradeRows 70 = .ok (.invokevirtual 191, 3) := by decide +kernel
theorem dX2_tradeRows_73 : decode cX2_tradeRows 73 = .ok (.aload_n 0, 1) := by decide +kernel
theorem dX2_tradeRows_74 : decode cX2_tradeRows 74 = .ok (.getfield 21, 3) := by decide +kernel
theorem dX2_tradeRows_77 : decode cX2_tradeRows 77 = .ok (.aload 6, 2) := by decide +kernel
theorem dX2_tradeRows_79 : decode cX2_tradeRows 79 = .ok (.getfield 166, 3) := by decide +kernel
theorem dX2_tradeRows_82 : decode cX2_tradeRows 82 = .ok (.iload_n 2, 1) := by decide +kernel
theorem dX2_tradeRows_83 : decode cX2_tradeRows 83 = .ok (.iload_n 3, 1) := by decide +kernel
theorem dX2_tradeRows_84 : decode cX2_tradeRows 84 = .ok (.aload_n 1, 1) := by decide +kernel
theorem dX2_tradeRows_85 : decode cX2_tradeRows 85 = .ok (.iload 5, 2) := by decide +kernel
theorem dX2_tradeRows_87 : decode cX2_tradeRows 87 = .ok (.iaload, 1) := by decide +kernel
theorem dX2_tradeRows_88 : decode cX2_tradeRows 88 = .ok (.iload 4, 2) := by decide +kernel
theorem dX2_tradeRows_90 : decode cX2_tradeRows 90 = .ok (.invokevirtual 194, 3) := by decide +kernel
theorem dX2_tradeRows_93 : decode cX2_tradeRows 93 = .ok (.aload_n 0, 1) := by decide +kernel
theorem dX2_tradeRows_94 : decode cX2_tradeRows 94 = .ok (.getfield 21, 3) := by decide +kernel
theorem dX2_tradeRows_97 : decode cX2_tradeRows 97 = .ok (.aload 6, 2) := by decide +kernel
theorem dX2_tradeRows_99 : decode cX2_tradeRows 99 = .ok (.getfield 137, 3) := by decide +kernel
theorem dX2_tradeRows_102 : decode cX2_tradeRows 102 = .ok (.aload 6, 2) := by decide +kernel
theorem dX2_tradeRows_104 : decode cX2_tradeRows 104 = .ok (.getfield 94, 3) := by decide +kernel
theorem dX2_tradeRows_107 : decode cX2_tradeRows 107 = .ok (.iload_n 3, 1) := by decide +kernel
theorem dX2_tradeRows_108 : decode cX2_tradeRows 108 = .ok (.aload_n 1, 1) := by decide +kernel
theorem dX2_tradeRows_109 : decode cX2_tradeRows 109 = .ok (.iload 5, 2) := by decide +kernel
theorem dX2_tradeRows_111 : decode cX2_tradeRows 111 = .ok (.iaload, 1) := by decide +kernel
theorem dX2_tradeRows_112 : decode cX2_tradeRows 112 = .ok (.invokevirtual 179, 3) := by decide +kernel
theorem dX2_tradeRows_115 : decode cX2_tradeRows 115 = .ok (.iinc 5 1, 3) := by decide +kernel
theorem dX2_tradeRows_118 : decode cX2_tradeRows 118 = .ok (.goto (-115), 3) := by decide +kernel
theorem dX2_tradeRows_121 : decode cX2_tradeRows 121 = .ok (.return_, 1) := by decide +kernel
theorem dX3_init_0 : decode cX3_init 0 = .ok (.aload_n 0, 1) := by decide +kernel
theorem dX3_init_1 : decode cX3_init 1 = .ok (.invokespecial 3, 3) := by decide +kernel
theorem dX3_init_4 : decode cX3_init 4 = .ok (.aload_n 0, 1) := by decide +kernel
theorem dX3_init_5 : decode cX3_init 5 = .ok (.bipush 60, 2) := by decide +kernel
theorem dX3_init_7 : decode cX3_init 7 = .ok (.iconst 5, 1) := by decide +kernel
theorem dX3_init_8 : decode cX3_init 8 = .ok (.multianewarray 9 2, 4) := by decide +kernel
theorem dX3_init_12 : decode cX3_init 12 = .ok (.putfield 11, 3) := by decide +kernel
theorem dX3_init_15 : decode cX3_init 15 = .ok (.aload_n 0, 1) := by decide +kernel
theorem dX3_init_16 : decode cX3_init 16 = .ok (.bipush 10, 2) := by decide +kernel
theorem dX3_init_18 : decode cX3_init 18 = .ok (.newarray .int, 2) := by decide +kernel
theorem dX3_init_20 : decode cX3_init 20 = .ok (.putfield 16, 3) := by decide +kernel
theorem dX3_init_23 : decode cX3_init 23 = .ok (.aload_n 0, 1) := by decide +kernel
theorem dX3_init_24 : decode cX3_init 24 = .ok (.bipush 10, 2) := by decide +kernel
theorem dX3_init_26 : decode cX3_init 26 = .ok (.newarray .long, 2) := by decide +kernel
theorem dX3_init_28 : decode cX3_init 28 = .ok (.putfield 20, 3) := by decide +kernel
theorem dX3_init_31 : decode cX3_init 31 = .ok (.return_, 1) := by decide +kernel
theorem dX3_keep_0 : decode cX3_keep 0 = .ok (.aload_n 0, 1) := by decide +kernel
theorem dX3_keep_1 : decode cX3_keep 1 = .ok (.getfield 11, 3) := by decide +kernel
theorem dX3_keep_4 : decode cX3_keep 4 = .ok (.aload_n 0, 1) := by decide +kernel
theorem dX3_keep_5 : decode cX3_keep 5 = .ok (.getfield 28, 3) := by decide +kernel
theorem dX3_keep_8 : decode cX3_keep 8 = .ok (.aaload, 1) := by decide +kernel
theorem dX3_keep_9 : decode cX3_keep 9 = .ok (.astore 6, 2) := by decide +kernel
theorem dX3_keep_11 : decode cX3_keep 11 = .ok (.aload 6, 2) := by decide +kernel
theorem dX3_keep_13 : decode cX3_keep 13 = .ok (.iconst 0, 1) := by decide +kernel
theorem dX3_keep_14 : decode cX3_keep 14 = .ok (.iload_n 1, 1) := by decide +kernel
theorem dX3_keep_15 : decode cX3_keep 15 = .ok (.iastore, 1) := by decide +kernel
theorem dX3_keep_16 : decode cX3_keep 16 = .ok (.aload 6, 2) := by decide +kernel
theorem dX3_keep_18 : decode cX3_keep 18 = .ok (.iconst 1, 1) := by decide +kernel
theorem dX3_keep_19 : decode cX3_keep 19 = .ok (.iload_n 2, 1) := by decide +kernel
theorem dX3_keep_20 : decode cX3_keep 20 = .ok (.iastore, 1) := by decide +kernel
theorem dX3_keep_21 : decode cX3_keep 21 = .ok (.aload 6, 2) := by decide +kernel
theorem dX3_keep_23 : decode cX3_keep 23 = .ok (.iconst 2, 1) := by decide +kernel
theorem dX3_keep_24 : decode cX3_keep 24 = .ok (.iload_n 3, 1) := by decide +kernel
theorem dX3_keep_25 : decode cX3_keep 25 = .ok (.iastore, 1) := by decide +kernel
theorem dX3_keep_26 : decode cX3_keep 26 = .ok (.aload 6, 2) := by decide +kernel
theorem dX3_keep_28 : decode cX3_keep 28 = .ok (.iconst 3, 1) := by decide +kernel
theorem dX3_keep_29 : decode cX3_keep 29 = .ok (.iload 4, 2) := by decide +kernel
theorem dX3_keep_31 : decode cX3_keep 31 = .ok (.iastore, 1) := by decide +kernel
theorem dX3_keep_32 : decode cX3_keep 32 = .ok (.aload 6, 2) := by decide +kernel
theorem dX3_keep_34 : decode cX3_keep 34 = .ok (.iconst 4, 1) := by decide +kernel
theorem dX3_keep_35 : decode cX3_keep 35 = .ok (.iload 5, 2) := by decide +kernel
theorem dX3_keep_37 : decode cX3_keep 37 = .ok (.iastore, 1) := by decide +kernel
theorem dX3_keep_38 : decode cX3_keep 38 = .ok (.aload_n 0, 1) := by decide +kernel
theorem dX3_keep_39 : decode cX3_keep 39 = .ok (.aload_n 0, 1) := by decide +kernel
theorem dX3_keep_40 : decode cX3_keep 40 = .ok (.getfield 28, 3) := by decide +kernel
theorem dX3_keep_43 : decode cX3_keep 43 = .ok (.iconst 1, 1) := by decide +kernel
theorem dX3_keep_44 : decode cX3_keep 44 = .ok (.iadd, 1) := by decide +kernel
theorem dX3_keep_45 : decode cX3_keep 45 = .ok (.bipush 60, 2) := by decide +kernel
theorem dX3_keep_47 : decode cX3_keep 47 = .ok (.irem, 1) := by decide +kernel
theorem dX3_keep_48 : decode cX3_keep 48 = .ok (.putfield 28, 3) := by decide +kernel
theorem dX3_keep_51 : decode cX3_keep 51 = .ok (.aload_n 0, 1) := by decide +kernel
theorem dX3_keep_52 : decode cX3_keep 52 = .ok (.aload_n 0, 1) := by decide +kernel
theorem dX3_keep_53 : decode cX3_keep 53 = .ok (.getfield 24, 3) := by decide +kernel
theorem dX3_keep_56 : decode cX3_keep 56 = .ok (.iconst 1, 1) := by decide +kernel
theorem dX3_keep_57 : decode cX3_keep 57 = .ok (.iadd, 1) := by decide +kernel
theorem dX3_keep_58 : decode cX3_keep 58 = .ok (.bipush 60, 2) := by decide +kernel
theorem dX3_keep_60 : decode cX3_keep 60 = .ok (.invokestatic 37, 3) := by decide +kernel
theorem dX3_keep_63 : decode cX3_keep 63 = .ok (.putfield 24, 3) := by decide +kernel
theorem dX3_keep_66 : decode cX3_keep 66 = .ok (.aload_n 0, 1) := by decide +kernel
theorem dX3_keep_67 : decode cX3_keep 67 = .ok (.iload_n 3, 1) := by decide +kernel
theorem dX3_keep_68 : decode cX3_keep 68 = .ok (.putfield 31, 3) := by decide +kernel
theorem dX3_keep_71 : decode cX3_keep 71 = .ok (.return_, 1) := by decide +kernel
theorem dX3_enter_0 : decode cX3_enter 0 = .ok (.iload_n 2, 1) := by decide +kernel
theorem dX3_enter_1 : decode cX3_enter 1 = .ok (.ifCond .ne 8, 3) := by decide +kernel
theorem dX3_enter_4 : decode cX3_enter 4 = .ok (.iload 4, 2) := by decide +kernel
theorem dX3_enter_6 : decode cX3_enter 6 = .ok (.goto 6, 3) := by decide +kernel
theorem dX3_enter_9 : decode cX3_enter 9 = .ok (.iload 4, 2) := by decide +kernel
theorem dX3_enter_11 : decode cX3_enter 11 = .ok (.ineg, 1) := by decide +kernel
theorem dX3_enter_12 : decode cX3_enter 12 = .ok (.istore 5, 2) := by decide +kernel
theorem dX3_enter_14 : decode cX3_enter 14 = .ok (.aload_n 0, 1) := by decide +kernel
theorem dX3_enter_15 : decode cX3_enter 15 = .ok (.getfield 16, 3) := by decide +kernel
theorem dX3_enter_18 : decode cX3_enter 18 = .ok (.iload_n 1, 1) := by decide +kernel
theorem dX3_enter_19 : decode cX3_enter 19 = .ok (.dup2, 1) := by decide +kernel
theorem dX3_enter_20 : decode cX3_enter 20 = .ok (.iaload, 1) := by decide +kernel
theorem dX3_enter_21 : decode cX3_enter 21 = .ok (.iload 5, 2) := by decide +kernel
theorem dX3_enter_23 : decode cX3_enter 23 = .ok (.iadd, 1) := by decide +kernel
theorem dX3_enter_24 : decode cX3_enter 24 = .ok (.iastore, 1) := by decide +kernel
theorem dX3_enter_25 : decode cX3_enter 25 = .ok (.aload_n 0, 1) := by decide +kernel
theorem dX3_enter_26 : decode cX3_enter 26 = .ok (.getfield 20, 3) := by decide +kernel
theorem dX3_enter_29 : decode cX3_enter 29 = .ok (.iload_n 1, 1) := by decide +kernel
theorem dX3_enter_30 : decode cX3_enter 30 = .ok (.dup2, 1) := by decide +kernel
theorem dX3_enter_31 : decode cX3_enter 31 = .ok (.laload, 1) := by decide +kernel
theorem dX3_enter_32 : decode cX3_enter 32 = .ok (.iload_n 3, 1) := by decide +kernel
theorem dX3_enter_33 : decode cX3_enter 33 = .ok (.i2l, 1) := by decide +kernel
theorem dX3_enter_34 : decode cX3_enter 34 = .ok (.iload 5, 2) := by decide +kernel
theorem dX3_enter_36 : decode cX3_enter 36 = .ok (.i2l, 1) := by decide +kernel
theorem dX3_enter_37 : decode cX3_enter 37 = .ok (.lmul, 1) := by decide +kernel
theorem dX3_enter_38 : decode cX3_enter 38 = .ok (.lsub, 1) := by decide +kernel
theorem dX3_enter_39 : decode cX3_enter 39 = .ok (.lastore, 1) := by decide +kernel
theorem dX3_enter_40 : decode cX3_enter 40 = .ok (.return_, 1) := by decide +kernel
set_option maxRecDepth 20000 in
theorem ggX3_told_J9_floorMod_7cf53 : GoodIn wsX3_told wsJ9_floorMod_7cf53 := goodIn_r _ [6] (by decide +kernel) (by decide +kernel)
set_option maxRecDepth 20000 in
theorem gX3_told_J9_floorMod_7cf53 : GoodIn wsX3_told (va_wsS RX3 43 yJ9_floorMod_7cf53 wsJ9_floorMod_7cf53) := goodIn_app (goodIn_of _ (by decide +kernel)) ggX3_told_J9_floorMod_7cf53
theorem dX3_told_0 : decode cX3_told 0 = .ok (.aload_n 0, 1) := by decide +kernel
theorem dX3_told_1 : decode cX3_told 1 = .ok (.getfield 11, 3) := by decide +kernel
theorem dX3_told_4 : decode cX3_told 4 = .ok (.aload_n 0, 1) := by decide +kernel
theorem dX3_told_5 : decode cX3_told 5 = .ok (.getfield 28, 3) := by decide +kernel
theorem dX3_told_8 : decode cX3_told 8 = .ok (.iconst 1, 1) := by decide +kernel
theorem dX3_told_9 : decode cX3_told 9 = .ok (.isub, 1) := by decide +kernel
theorem dX3_told_10 : decode cX3_told 10 = .ok (.iload_n 1, 1) := by decide +kernel
theorem dX3_told_11 : decode cX3_told 11 = .ok (.isub, 1) := by decide +kernel
theorem dX3_told_12 : decode cX3_told 12 = .ok (.bipush 60, 2) := by decide +kernel
theorem dX3_told_14 : decode cX3_told 14 = .ok (.invokestatic 43, 3) := by decide +kernel
theorem dX3_told_17 : decode cX3_told 17 = .ok (.aaload, 1) := by decide +kernel
theorem dX3_told_18 : decode cX3_told 18 = .ok (.iload_n 2, 1) := by decide +kernel
theorem dX3_told_19 : decode cX3_told 19 = .ok (.iaload, 1) := by decide +kernel
theorem dX3_told_20 : decode cX3_told 20 = .ok (.ireturn, 1) := by decide +kernel
theorem dX4_init_0 : decode cX4_init 0 = .ok (.aload_n 0, 1) := by decide +kernel
theorem dX4_init_1 : decode cX4_init 1 = .ok (.invokespecial 1, 3) := by decide +kernel
theorem dX4_init_4 : decode cX4_init 4 = .ok (.return_, 1) := by decide +kernel
theorem dX4_become_0 : decode cX4_become 0 = .ok (.aload_n 0, 1) := by decide +kernel
theorem dX4_become_1 : decode cX4_become 1 = .ok (.iload_n 1, 1) := by decide +kernel
theorem dX4_become_2 : decode cX4_become 2 = .ok (.putfield 7, 3) := by decide +kernel
theorem dX4_become_5 : decode cX4_become 5 = .ok (.aload_n 0, 1) := by decide +kernel
theorem dX4_become_6 : decode cX4_become 6 = .ok (.iload_n 2, 1) := by decide +kernel
theorem dX4_become_7 : decode cX4_become 7 = .ok (.putfield 13, 3) := by decide +kernel
theorem dX4_become_10 : decode cX4_become 10 = .ok (.aload_n 0, 1) := by decide +kernel
theorem dX4_become_11 : decode cX4_become 11 = .ok (.iload_n 3, 1) := by decide +kernel
theorem dX4_become_12 : decode cX4_become 12 = .ok (.putfield 16, 3) := by decide +kernel
theorem dX4_become_15 : decode cX4_become 15 = .ok (.aload_n 0, 1) := by decide +kernel
theorem dX4_become_16 : decode cX4_become 16 = .ok (.iload 4, 2) := by decide +kernel
theorem dX4_become_18 : decode cX4_become 18 = .ok (.putfield 19, 3) := by decide +kernel
theorem dX4_become_21 : decode cX4_become 21 = .ok (.aload_n 0, 1) := by decide +kernel
theorem dX4_become_22 : decode cX4_become 22 = .ok (.iload 5, 2) := by decide +kernel
theorem dX4_become_24 : decode cX4_become 24 = .ok (.putfield 22, 3) := by decide +kernel
theorem dX4_become_27 : decode cX4_become 27 = .ok (.aload_n 0, 1) := by decide +kernel
theorem dX4_become_28 : decode cX4_become 28 = .ok (.iload 5, 2) := by decide +kernel
theorem dX4_become_30 : decode cX4_become 30 = .ok (.putfield 25, 3) := by decide +kernel
theorem dX4_become_33 : decode cX4_become 33 = .ok (.return_, 1) := by decide +kernel
set_option maxRecDepth 20000 in
theorem ggX4_copyFrom_X4_become : GoodIn wsX4_copyFrom wsX4_become := goodIn_r _ [11, 1, 2, 3, 4, 5, 6, 12, 13, 14, 15, 16, 17] (by decide +kernel) (by decide +kernel)
set_option maxRecDepth 20000 in
theorem gX4_copyFrom_X4_become : GoodIn wsX4_copyFrom (wsV RX4 28 RX4 yX4_become wsX4_become) := goodIn_app (goodIn_of _ (by decide +kernel)) ggX4_copyFrom_X4_become
theorem dX4_copyFrom_0 : decode cX4_copyFrom 0 = .ok (.aload_n 0, 1) := by decide +kernel
theorem dX4_copyFrom_1 : decode cX4_copyFrom 1 = .ok (.aload_n 1, 1) := by decide +kernel
theorem dX4_copyFrom_2 : decode cX4_copyFrom 2 = .ok (.getfield 7, 3) := by decide +kernel
theorem dX4_copyFrom_5 : decode cX4_copyFrom 5 = .ok (.aload_n 1, 1) := by decide +kernel
theorem dX4_copyFrom_6 : decode cX4_copyFrom 6 = .ok (.getfield 13, 3) := by decide +kernel
theorem dX4_copyFrom_9 : decode cX4_copyFrom 9 = .ok (.aload_n 1, 1) := by decide +kernel
theorem dX4_copyFrom_10 : decode cX4_copyFrom 10 = .ok (.getfield 16, 3) := by decide +kernel
theorem dX4_copyFrom_13 : decode cX4_copyFrom 13 = .ok (.aload_n 1, 1) := by decide +kernel
theorem dX4_copyFrom_14 : decode cX4_copyFrom 14 = .ok (.getfield 19, 3) := by decide +kernel
theorem dX4_copyFrom_17 : decode cX4_copyFrom 17 = .ok (.aload_n 1, 1) := by decide +kernel
theorem dX4_copyFrom_18 : decode cX4_copyFrom 18 = .ok (.getfield 22, 3) := by decide +kernel
theorem dX4_copyFrom_21 : decode cX4_copyFrom 21 = .ok (.invokevirtual 28, 3) := by decide +kernel
theorem dX4_copyFrom_24 : decode cX4_copyFrom 24 = .ok (.aload_n 0, 1) := by decide +kernel
theorem dX4_copyFrom_25 : decode cX4_copyFrom 25 = .ok (.aload_n 1, 1) := by decide +kernel
theorem dX4_copyFrom_26 : decode cX4_copyFrom 26 = .ok (.getfield 25, 3) := by decide +kernel
theorem dX4_copyFrom_29 : decode cX4_copyFrom 29 = .ok (.putfield 25, 3) := by decide +kernel
theorem dX4_copyFrom_32 : decode cX4_copyFrom 32 = .ok (.return_, 1) := by decide +kernel
theorem dX5_init_0 : decode cX5_init 0 = .ok (.aload_n 0, 1) := by decide +kernel
theorem dX5_init_1 : decode cX5_init 1 = .ok (.invokespecial 3, 3) := by decide +kernel
theorem dX5_init_4 : decode cX5_init 4 = .ok (.aload_n 0, 1) := by decide +kernel
theorem dX5_init_5 : decode cX5_init 5 = .ok (.bipush 68, 2) := by decide +kernel
theorem dX5_init_7 : decode cX5_init 7 = .ok (.anewarray 11, 3) := by decide +kernel
theorem dX5_init_10 : decode cX5_init 10 = .ok (.putfield 13, 3) := by decide +kernel
theorem dX5_init_13 : decode cX5_init 13 = .ok (.aload_n 0, 1) := by decide +kernel
theorem dX5_init_14 : decode cX5_init 14 = .ok (.bipush 68, 2) := by decide +kernel
theorem dX5_init_16 : decode cX5_init 16 = .ok (.newarray .int, 2) := by decide +kernel
theorem dX5_init_18 : decode cX5_init 18 = .ok (.putfield 17, 3) := by decide +kernel
theorem dX5_init_21 : decode cX5_init 21 = .ok (.aload_n 0, 1) := by decide +kernel
theorem dX5_init_22 : decode cX5_init 22 = .ok (.bipush 68, 2) := by decide +kernel
theorem dX5_init_24 : decode cX5_init 24 = .ok (.newarray .int, 2) := by decide +kernel
theorem dX5_init_26 : decode cX5_init 26 = .ok (.putfield 21, 3) := by decide +kernel
theorem dX5_init_29 : decode cX5_init 29 = .ok (.aload_n 0, 1) := by decide +kernel
theorem dX5_init_30 : decode cX5_init 30 = .ok (.bipush 68, 2) := by decide +kernel
