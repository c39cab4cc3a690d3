theorem dX0_numberAt_49 : decode cX0_numberAt 49 = .ok (.goto (-43), 3) := by decide +kernel
theorem dX0_numberAt_52 : decode cX0_numberAt 52 = .ok (.iconst (-1), 1) := by decide +kernel
theorem dX0_numberAt_53 : decode cX0_numberAt 53 = .ok (.ireturn, 1) := by decide +kernel
set_option maxRecDepth 20000 in
theorem ggX0_earlierSizes_X0_isAt : GoodIn wsX0_earlierSizes wsX0_isAt := goodIn_r _ [10, 2, 3, 4, 11, 12, 13, 14, 15, 16, 17, 18, 19, 20] (by decide +kernel) (by decide +kernel)
set_option maxRecDepth 20000 in
theorem gX0_earlierSizes_X0_isAt : GoodIn wsX0_earlierSizes (wsV RX0 65 RX0 yX0_isAt wsX0_isAt) := goodIn_app (goodIn_of _ (by decide +kernel)) ggX0_earlierSizes_X0_isAt
theorem dX0_earlierSizes_0 : decode cX0_earlierSizes 0 = .ok (.iconst 0, 1) := by decide +kernel
theorem dX0_earlierSizes_1 : decode cX0_earlierSizes 1 = .ok (.istore_n 2, 1) := by decide +kernel
theorem dX0_earlierSizes_2 : decode cX0_earlierSizes 2 = .ok (.iconst 0, 1) := by decide +kernel
theorem dX0_earlierSizes_3 : decode cX0_earlierSizes 3 = .ok (.istore_n 3, 1) := by decide +kernel
theorem dX0_earlierSizes_4 : decode cX0_earlierSizes 4 = .ok (.iload_n 3, 1) := by decide +kernel
theorem dX0_earlierSizes_5 : decode cX0_earlierSizes 5 = .ok (.aload_n 0, 1) := by decide +kernel
theorem dX0_earlierSizes_6 : decode cX0_earlierSizes 6 = .ok (.getfield 25, 3) := by decide +kernel
theorem dX0_earlierSizes_9 : decode cX0_earlierSizes 9 = .ok (.if_icmp .ge 51, 3) := by decide +kernel
theorem dX0_earlierSizes_12 : decode cX0_earlierSizes 12 = .ok (.aload_n 0, 1) := by decide +kernel
theorem dX0_earlierSizes_13 : decode cX0_earlierSizes 13 = .ok (.getfield 11, 3) := by decide +kernel
theorem dX0_earlierSizes_16 : decode cX0_earlierSizes 16 = .ok (.iload_n 3, 1) := by decide +kernel
theorem dX0_earlierSizes_17 : decode cX0_earlierSizes 17 = .ok (.aaload, 1) := by decide +kernel
theorem dX0_earlierSizes_18 : decode cX0_earlierSizes 18 = .ok (.aload_n 1, 1) := by decide +kernel
theorem dX0_earlierSizes_19 : decode cX0_earlierSizes 19 = .ok (.if_acmp .eq 41, 3) := by decide +kernel
theorem dX0_earlierSizes_22 : decode cX0_earlierSizes 22 = .ok (.iload_n 2, 1) := by decide +kernel
theorem dX0_earlierSizes_23 : decode cX0_earlierSizes 23 = .ok (.aload_n 0, 1) := by decide +kernel
theorem dX0_earlierSizes_24 : decode cX0_earlierSizes 24 = .ok (.iload_n 3, 1) := by decide +kernel
theorem dX0_earlierSizes_25 : decode cX0_earlierSizes 25 = .ok (.aload_n 1, 1) := by decide +kernel
theorem dX0_earlierSizes_26 : decode cX0_earlierSizes 26 = .ok (.getfield 46, 3) := by decide +kernel
theorem dX0_earlierSizes_29 : decode cX0_earlierSizes 29 = .ok (.aload_n 1, 1) := by decide +kernel
theorem dX0_earlierSizes_30 : decode cX0_earlierSizes 30 = .ok (.getfield 54, 3) := by decide +kernel
theorem dX0_earlierSizes_33 : decode cX0_earlierSizes 33 = .ok (.invokevirtual 65, 3) := by decide +kernel
theorem dX0_earlierSizes_36 : decode cX0_earlierSizes 36 = .ok (.ifCond .eq 15, 3) := by decide +kernel
theorem dX0_earlierSizes_39 : decode cX0_earlierSizes 39 = .ok (.aload_n 0, 1) := by decide +kernel
theorem dX0_earlierSizes_40 : decode cX0_earlierSizes 40 = .ok (.getfield 11, 3) := by decide +kernel
theorem dX0_earlierSizes_43 : decode cX0_earlierSizes 43 = .ok (.iload_n 3, 1) := by decide +kernel
theorem dX0_earlierSizes_44 : decode cX0_earlierSizes 44 = .ok (.aaload, 1) := by decide +kernel
theorem dX0_earlierSizes_45 : decode cX0_earlierSizes 45 = .ok (.getfield 40, 3) := by decide +kernel
theorem dX0_earlierSizes_48 : decode cX0_earlierSizes 48 = .ok (.goto 4, 3) := by decide +kernel
theorem dX0_earlierSizes_51 : decode cX0_earlierSizes 51 = .ok (.iconst 0, 1) := by decide +kernel
theorem dX0_earlierSizes_52 : decode cX0_earlierSizes 52 = .ok (.iadd, 1) := by decide +kernel
theorem dX0_earlierSizes_53 : decode cX0_earlierSizes 53 = .ok (.istore_n 2, 1) := by decide +kernel
theorem dX0_earlierSizes_54 : decode cX0_earlierSizes 54 = .ok (.iinc 3 1, 3) := by decide +kernel
theorem dX0_earlierSizes_57 : decode cX0_earlierSizes 57 = .ok (.goto (-53), 3) := by decide +kernel
theorem dX0_earlierSizes_60 : decode cX0_earlierSizes 60 = .ok (.iload_n 2, 1) := by decide +kernel
theorem dX0_earlierSizes_61 : decode cX0_earlierSizes 61 = .ok (.ireturn, 1) := by decide +kernel
set_option maxRecDepth 20000 in
theorem ggX0_betterSizes_X7_isBetter : GoodIn wsX0_betterSizes wsX7_isBetter := goodIn_r _ [8] (by decide +kernel) (by decide +kernel)
set_option maxRecDepth 20000 in
theorem gX0_betterSizes_X7_isBetter_n57 : GoodIn wsX0_betterSizes (wsX7_isBetter) := ggX0_betterSizes_X7_isBetter
theorem dX0_betterSizes_0 : decode cX0_betterSizes 0 = .ok (.iconst 0, 1) := by decide +kernel
theorem dX0_betterSizes_1 : decode cX0_betterSizes 1 = .ok (.istore_n 2, 1) := by decide +kernel
theorem dX0_betterSizes_2 : decode cX0_betterSizes 2 = .ok (.iconst 0, 1) := by decide +kernel
theorem dX0_betterSizes_3 : decode cX0_betterSizes 3 = .ok (.istore_n 3, 1) := by decide +kernel
theorem dX0_betterSizes_4 : decode cX0_betterSizes 4 = .ok (.iload_n 3, 1) := by decide +kernel
theorem dX0_betterSizes_5 : decode cX0_betterSizes 5 = .ok (.aload_n 0, 1) := by decide +kernel
theorem dX0_betterSizes_6 : decode cX0_betterSizes 6 = .ok (.getfield 25, 3) := by decide +kernel
theorem dX0_betterSizes_9 : decode cX0_betterSizes 9 = .ok (.if_icmp .ge 57, 3) := by decide +kernel
theorem dX0_betterSizes_12 : decode cX0_betterSizes 12 = .ok (.aload_n 0, 1) := by decide +kernel
theorem dX0_betterSizes_13 : decode cX0_betterSizes 13 = .ok (.getfield 11, 3) := by decide +kernel
theorem dX0_betterSizes_16 : decode cX0_betterSizes 16 = .ok (.iload_n 3, 1) := by decide +kernel
theorem dX0_betterSizes_17 : decode cX0_betterSizes 17 = .ok (.aaload, 1) := by decide +kernel
theorem dX0_betterSizes_18 : decode cX0_betterSizes 18 = .ok (.astore 4, 2) := by decide +kernel
theorem dX0_betterSizes_20 : decode cX0_betterSizes 20 = .ok (.aload 4, 2) := by decide +kernel
theorem dX0_betterSizes_22 : decode cX0_betterSizes 22 = .ok (.getfield 46, 3) := by decide +kernel
theorem dX0_betterSizes_25 : decode cX0_betterSizes 25 = .ok (.aload_n 1, 1) := by decide +kernel
theorem dX0_betterSizes_26 : decode cX0_betterSizes 26 = .ok (.getfield 46, 3) := by decide +kernel
theorem dX0_betterSizes_29 : decode cX0_betterSizes 29 = .ok (.if_icmp .ne 31, 3) := by decide +kernel
theorem dX0_betterSizes_32 : decode cX0_betterSizes 32 = .ok (.aload 4, 2) := by decide +kernel
theorem dX0_betterSizes_34 : decode cX0_betterSizes 34 = .ok (.getfield 46, 3) := by decide +kernel
theorem dX0_betterSizes_37 : decode cX0_betterSizes 37 = .ok (.aload 4, 2) := by decide +kernel
theorem dX0_betterSizes_39 : decode cX0_betterSizes 39 = .ok (.getfield 54, 3) := by decide +kernel
theorem dX0_betterSizes_42 : decode cX0_betterSizes 42 = .ok (.aload_n 1, 1) := by decide +kernel
theorem dX0_betterSizes_43 : decode cX0_betterSizes 43 = .ok (.getfield 54, 3) := by decide +kernel
theorem dX0_betterSizes_46 : decode cX0_betterSizes 46 = .ok (.invokestatic 57, 3) := by decide +kernel
theorem dX0_betterSizes_49 : decode cX0_betterSizes 49 = .ok (.ifCond .eq 11, 3) := by decide +kernel
theorem dX0_betterSizes_52 : decode cX0_betterSizes 52 = .ok (.iload_n 2, 1) := by decide +kernel
theorem dX0_betterSizes_53 : decode cX0_betterSizes 53 = .ok (.aload 4, 2) := by decide +kernel
theorem dX0_betterSizes_55 : decode cX0_betterSizes 55 = .ok (.getfield 40, 3) := by decide +kernel
theorem dX0_betterSizes_58 : decode cX0_betterSizes 58 = .ok (.iadd, 1) := by decide +kernel
theorem dX0_betterSizes_59 : decode cX0_betterSizes 59 = .ok (.istore_n 2, 1) := by decide +kernel
theorem dX0_betterSizes_60 : decode cX0_betterSizes 60 = .ok (.iinc 3 1, 3) := by decide +kernel
theorem dX0_betterSizes_63 : decode cX0_betterSizes 63 = .ok (.goto (-59), 3) := by decide +kernel
theorem dX0_betterSizes_66 : decode cX0_betterSizes 66 = .ok (.iload_n 2, 1) := by decide +kernel
theorem dX0_betterSizes_67 : decode cX0_betterSizes 67 = .ok (.ireturn, 1) := by decide +kernel
theorem dX1_init_0 : decode cX1_init 0 = .ok (.aload_n 0, 1) := by decide +kernel
theorem dX1_init_1 : decode cX1_init 1 = .ok (.invokespecial 3, 3) := by decide +kernel
theorem dX1_init_4 : decode cX1_init 4 = .ok (.return_, 1) := by decide +kernel
set_option maxRecDepth 20000 in
theorem ggX1_seek_X1_consider : GoodIn wsX1_seek wsX1_consider := goodIn_r _ [11, 12, 4, 5, 13, 6, 14, 15, 16, 17, 18, 1, 2, 3, 19, 20, 21, 10, 22, 23, 24, 25, 29, 30, 31, 32, 33, 34, 35, 36, 37, 38, 26, 27, 28] (by decide +kernel) (by decide +kernel)
set_option maxRecDepth 20000 in
theorem gX1_seek_X1_consider : GoodIn wsX1_seek (wsV RX1 21 RX1 yX1_consider wsX1_consider) := goodIn_app (goodIn_of _ (by decide +kernel)) ggX1_seek_X1_consider
theorem dX1_seek_0 : decode cX1_seek 0 = .ok (.aload_n 0, 1) := by decide +kernel
theorem dX1_seek_1 : decode cX1_seek 1 = .ok (.iconst 0, 1) := by decide +kernel
theorem dX1_seek_2 : decode cX1_seek 2 = .ok (.putfield 9, 3) := by decide +kernel
theorem dX1_seek_5 : decode cX1_seek 5 = .ok (.aload_n 0, 1) := by decide +kernel
theorem dX1_seek_6 : decode cX1_seek 6 = .ok (.iconst 0, 1) := by decide +kernel
theorem dX1_seek_7 : decode cX1_seek 7 = .ok (.putfield 15, 3) := by decide +kernel
theorem dX1_seek_10 : decode cX1_seek 10 = .ok (.aload_n 0, 1) := by decide +kernel
theorem dX1_seek_11 : decode cX1_seek 11 = .ok (.iconst 0, 1) := by decide +kernel
theorem dX1_seek_12 : decode cX1_seek 12 = .ok (.putfield 18, 3) := by decide +kernel
theorem dX1_seek_15 : decode cX1_seek 15 = .ok (.aload_n 0, 1) := by decide +kernel
theorem dX1_seek_16 : decode cX1_seek 16 = .ok (.aload_n 1, 1) := by decide +kernel
theorem dX1_seek_17 : decode cX1_seek 17 = .ok (.iload_n 2, 1) := by decide +kernel
theorem dX1_seek_18 : decode cX1_seek 18 = .ok (.iload_n 2, 1) := by decide +kernel
theorem dX1_seek_19 : decode cX1_seek 19 = .ok (.invokevirtual 21, 3) := by decide +kernel
theorem dX1_seek_22 : decode cX1_seek 22 = .ok (.iconst 0, 1) := by decide +kernel
theorem dX1_seek_23 : decode cX1_seek 23 = .ok (.istore_n 3, 1) := by decide +kernel
theorem dX1_seek_24 : decode cX1_seek 24 = .ok (.iload_n 3, 1) := by decide +kernel
theorem dX1_seek_25 : decode cX1_seek 25 = .ok (.aload_n 1, 1) := by decide +kernel
theorem dX1_seek_26 : decode cX1_seek 26 = .ok (.getfield 25, 3) := by decide +kernel
theorem dX1_seek_29 : decode cX1_seek 29 = .ok (.if_icmp .ge 48, 3) := by decide +kernel
theorem dX1_seek_32 : decode cX1_seek 32 = .ok (.aload_n 1, 1) := by decide +kernel
theorem dX1_seek_33 : decode cX1_seek 33 = .ok (.getfield 30, 3) := by decide +kernel
theorem dX1_seek_36 : decode cX1_seek 36 = .ok (.iload_n 3, 1) := by decide +kernel
theorem dX1_seek_37 : decode cX1_seek 37 = .ok (.aaload, 1) := by decide +kernel
theorem dX1_seek_38 : decode cX1_seek 38 = .ok (.getfield 34, 3) := by decide +kernel
theorem dX1_seek_41 : decode cX1_seek 41 = .ok (.istore 4, 2) := by decide +kernel
theorem dX1_seek_43 : decode cX1_seek 43 = .ok (.aload_n 0, 1) := by decide +kernel
theorem dX1_seek_44 : decode cX1_seek 44 = .ok (.aload_n 1, 1) := by decide +kernel
theorem dX1_seek_45 : decode cX1_seek 45 = .ok (.iload 4, 2) := by decide +kernel
theorem dX1_seek_47 : decode cX1_seek 47 = .ok (.iconst 1, 1) := by decide +kernel
theorem dX1_seek_48 : decode cX1_seek 48 = .ok (.isub, 1) := by decide +kernel
theorem dX1_seek_49 : decode cX1_seek 49 = .ok (.iload_n 2, 1) := by decide +kernel
theorem dX1_seek_50 : decode cX1_seek 50 = .ok (.invokevirtual 21, 3) := by decide +kernel
theorem dX1_seek_53 : decode cX1_seek 53 = .ok (.aload_n 0, 1) := by decide +kernel
theorem dX1_seek_54 : decode cX1_seek 54 = .ok (.aload_n 1, 1) := by decide +kernel
theorem dX1_seek_55 : decode cX1_seek 55 = .ok (.iload 4, 2) := by decide +kernel
theorem dX1_seek_57 : decode cX1_seek 57 = .ok (.iload_n 2, 1) := by decide +kernel
theorem dX1_seek_58 : decode cX1_seek 58 = .ok (.invokevirtual 21, 3) := by decide +kernel
theorem dX1_seek_61 : decode cX1_seek 61 = .ok (.aload_n 0, 1) := by decide +kernel
theorem dX1_seek_62 : decode cX1_seek 62 = .ok (.aload_n 1, 1) := by decide +kernel
theorem dX1_seek_63 : decode cX1_seek 63 = .ok (.iload 4, 2) := by decide +kernel
theorem dX1_seek_65 : decode cX1_seek 65 = .ok (.iconst 1, 1) := by decide +kernel
theorem dX1_seek_66 : decode cX1_seek 66 = .ok (.iadd, 1) := by decide +kernel
theorem dX1_seek_67 : decode cX1_seek 67 = .ok (.iload_n 2, 1) := by decide +kernel
theorem dX1_seek_68 : decode cX1_seek 68 = .ok (.invokevirtual 21, 3) := by decide +kernel
theorem dX1_seek_71 : decode cX1_seek 71 = .ok (.iinc 3 1, 3) := by decide +kernel
theorem dX1_seek_74 : decode cX1_seek 74 = .ok (.goto (-50), 3) := by decide +kernel
theorem dX1_seek_77 : decode cX1_seek 77 = .ok (.return_, 1) := by decide +kernel
set_option maxRecDepth 20000 in
theorem ggX1_consider_X1_isPreferred : GoodIn wsX1_consider wsX1_isPreferred := goodIn_r _ [18, 12, 19, 20, 9, 21, 13, 11, 32, 33, 34] (by decide +kernel) (by decide +kernel)
set_option maxRecDepth 20000 in
theorem gX1_consider_X1_isPreferred : GoodIn wsX1_consider (wsV RX1 50 RX1 yX1_isPreferred wsX1_isPreferred) := goodIn_app (goodIn_of _ (by decide +kernel)) ggX1_consider_X1_isPreferred
theorem dX1_consider_0 : decode cX1_consider 0 = .ok (.iload_n 2, 1) := by decide +kernel
theorem dX1_consider_1 : decode cX1_consider 1 = .ok (.iconst 1, 1) := by decide +kernel
theorem dX1_consider_2 : decode cX1_consider 2 = .ok (.if_icmp .lt 9, 3) := by decide +kernel
theorem dX1_consider_5 : decode cX1_consider 5 = .ok (.iload_n 2, 1) := by decide +kernel
theorem dX1_consider_6 : decode cX1_consider 6 = .ok (.ldc 37, 2) := by decide +kernel
theorem dX1_consider_8 : decode cX1_consider 8 = .ok (.if_icmp .le 4, 3) := by decide +kernel
theorem dX1_consider_11 : decode cX1_consider 11 = .ok (.return_, 1) := by decide +kernel
theorem dX1_consider_12 : decode cX1_consider 12 = .ok (.iconst 0, 1) := by decide +kernel
theorem dX1_consider_13 : decode cX1_consider 13 = .ok (.istore 4, 2) := by decide +kernel
theorem dX1_consider_15 : decode cX1_consider 15 = .ok (.iconst 0, 1) := by decide +kernel
theorem dX1_consider_16 : decode cX1_consider 16 = .ok (.istore 5, 2) := by decide +kernel
theorem dX1_consider_18 : decode cX1_consider 18 = .ok (.iconst 0, 1) := by decide +kernel
theorem dX1_consider_19 : decode cX1_consider 19 = .ok (.istore 6, 2) := by decide +kernel
theorem dX1_consider_21 : decode cX1_consider 21 = .ok (.iload 6, 2) := by decide +kernel
theorem dX1_consider_23 : decode cX1_consider 23 = .ok (.aload_n 1, 1) := by decide +kernel
theorem dX1_consider_24 : decode cX1_consider 24 = .ok (.getfield 25, 3) := by decide +kernel
theorem dX1_consider_27 : decode cX1_consider 27 = .ok (.if_icmp .ge 75, 3) := by decide +kernel
theorem dX1_consider_30 : decode cX1_consider 30 = .ok (.aload_n 1, 1) := by decide +kernel
theorem dX1_consider_31 : decode cX1_consider 31 = .ok (.getfield 30, 3) := by decide +kernel
theorem dX1_consider_34 : decode cX1_consider 34 = .ok (.iload 6, 2) := by decide +kernel
theorem dX1_consider_36 : decode cX1_consider 36 = .ok (.aaload, 1) := by decide +kernel
theorem dX1_consider_37 : decode cX1_consider 37 = .ok (.astore 7, 2) := by decide +kernel
theorem dX1_consider_39 : decode cX1_consider 39 = .ok (.aload 7, 2) := by decide +kernel
theorem dX1_consider_41 : decode cX1_consider 41 = .ok (.getfield 38, 3) := by decide +kernel
theorem dX1_consider_44 : decode cX1_consider 44 = .ok (.ifCond .ne 29, 3) := by decide +kernel
theorem dX1_consider_47 : decode cX1_consider 47 = .ok (.iload 4, 2) := by decide +kernel
theorem dX1_consider_49 : decode cX1_consider 49 = .ok (.aload 7, 2) := by decide +kernel
theorem dX1_consider_51 : decode cX1_consider 51 = .ok (.getfield 34, 3) := by decide +kernel
theorem dX1_consider_54 : decode cX1_consider 54 = .ok (.iload_n 2, 1) := by decide +kernel
theorem dX1_consider_55 : decode cX1_consider 55 = .ok (.if_icmp .lt 11, 3) := by decide +kernel
theorem dX1_consider_58 : decode cX1_consider 58 = .ok (.aload 7, 2) := by decide +kernel
theorem dX1_consider_60 : decode cX1_consider 60 = .ok (.getfield 41, 3) := by decide +kernel
theorem dX1_consider_63 : decode cX1_consider 63 = .ok (.goto 4, 3) := by decide +kernel
theorem dX1_consider_66 : decode cX1_consider 66 = .ok (.iconst 0, 1) := by decide +kernel
theorem dX1_consider_67 : decode cX1_consider 67 = .ok (.iadd, 1) := by decide +kernel
theorem dX1_consider_68 : decode cX1_consider 68 = .ok (.istore 4, 2) := by decide +kernel
theorem dX1_consider_70 : decode cX1_consider 70 = .ok (.goto 26, 3) := by decide +kernel
theorem dX1_consider_73 : decode cX1_consider 73 = .ok (.iload 5, 2) := by decide +kernel
theorem dX1_consider_75 : decode cX1_consider 75 = .ok (.aload 7, 2) := by decide +kernel
theorem dX1_consider_77 : decode cX1_consider 77 = .ok (.getfield 34, 3) := by decide +kernel
theorem dX1_consider_80 : decode cX1_consider 80 = .ok (.iload_n 2, 1) := by decide +kernel
theorem dX1_consider_81 : decode cX1_consider 81 = .ok (.if_icmp .gt 11, 3) := by decide +kernel
theorem dX1_consider_84 : decode cX1_consider 84 = .ok (.aload 7, 2) := by decide +kernel
theorem dX1_consider_86 : decode cX1_consider 86 = .ok (.getfield 41, 3) := by decide +kernel
theorem dX1_consider_89 : decode cX1_consider 89 = .ok (.goto 4, 3) := by decide +kernel
theorem dX1_consider_92 : decode cX1_consider 92 = .ok (.iconst 0, 1) := by decide +kernel
theorem dX1_consider_93 : decode cX1_consider 93 = .ok (.iadd, 1) := by decide +kernel
theorem dX1_consider_94 : decode cX1_consider 94 = .ok (.istore 5, 2) := by decide +kernel
theorem dX1_consider_96 : decode cX1_consider 96 = .ok (.iinc 6 1, 3) := by decide +kernel
theorem dX1_consider_99 : decode cX1_consider 99 = .ok (.goto (-78), 3) := by decide +kernel
theorem dX1_consider_102 : decode cX1_consider 102 = .ok (.iload 4, 2) := by decide +kernel
theorem dX1_consider_104 : decode cX1_consider 104 = .ok (.iload 5, 2) := by decide +kernel
theorem dX1_consider_106 : decode cX1_consider 106 = .ok (.invokestatic 44, 3) := by decide +kernel
theorem dX1_consider_109 : decode cX1_consider 109 = .ok (.istore 6, 2) := by decide +kernel
theorem dX1_consider_111 : decode cX1_consider 111 = .ok (.iload 6, 2) := by decide +kernel
theorem dX1_consider_113 : decode cX1_consider 113 = .ok (.ifCond .le 39, 3) := by decide +kernel
theorem dX1_consider_116 : decode cX1_consider 116 = .ok (.aload_n 0, 1) := by decide +kernel
theorem dX1_consider_117 : decode cX1_consider 117 = .ok (.iload_n 2, 1) := by decide +kernel
theorem dX1_consider_118 : decode cX1_consider 118 = .ok (.iload 6, 2) := by decide +kernel
theorem dX1_consider_120 : decode cX1_consider 120 = .ok (.iload 4, 2) := by decide +kernel
theorem dX1_consider_122 : decode cX1_consider 122 = .ok (.iload 5, 2) := by decide +kernel
theorem dX1_consider_124 : decode cX1_consider 124 = .ok (.isub, 1) := by decide +kernel
theorem dX1_consider_125 : decode cX1_consider 125 = .ok (.iload_n 3, 1) := by decide +kernel
theorem dX1_consider_126 : decode cX1_consider 126 = .ok (.invokevirtual 50, 3) := by decide +kernel
theorem dX1_consider_129 : decode cX1_consider 129 = .ok (.ifCond .eq 23, 3) := by decide +kernel
theorem dX1_consider_132 : decode cX1_consider 132 = .ok (.aload_n 0, 1) := by decide +kernel
theorem dX1_consider_133 : decode cX1_consider 133 = .ok (.iload_n 2, 1) := by decide +kernel
theorem dX1_consider_134 : decode cX1_consider 134 = .ok (.putfield 9, 3) := by decide +kernel
theorem dX1_consider_137 : decode cX1_consider 137 = .ok (.aload_n 0, 1) := by decide +kernel
theorem dX1_consider_138 : decode cX1_consider 138 = .ok (.iload 6, 2) := by decide +kernel
theorem dX1_consider_140 : decode cX1_consider 140 = .ok (.putfield 15, 3) := by decide +kernel
theorem dX1_consider_143 : decode cX1_consider 143 = .ok (.aload_n 0, 1) := by decide +kernel
theorem dX1_consider_144 : decode cX1_consider 144 = .ok (.iload 4, 2) := by decide +kernel
theorem dX1_consider_146 : decode cX1_consider 146 = .ok (.iload 5, 2) := by decide +kernel
theorem dX1_consider_148 : decode cX1_consider 148 = .ok (.isub, 1) := by decide +kernel
theorem dX1_consider_149 : decode cX1_consider 149 = .ok (.putfield 18, 3) := by decide +kernel
theorem dX1_consider_152 : decode cX1_consider 152 = .ok (.return_, 1) := by decide +kernel
theorem dX1_isPreferred_0 : decode cX1_isPreferred 0 = .ok (.iload_n 2, 1) := by decide +kernel
theorem dX1_isPreferred_1 : decode cX1_isPreferred 1 = .ok (.aload_n 0, 1) := by decide +kernel
theorem dX1_isPreferred_2 : decode cX1_isPreferred 2 = .ok (.getfield 15, 3) := by decide +kernel
theorem dX1_isPreferred_5 : decode cX1_isPreferred 5 = .ok (.if_icmp .eq 17, 3) := by decide +kernel
theorem dX1_isPreferred_8 : decode cX1_isPreferred 8 = .ok (.iload_n 2, 1) := by decide +kernel
theorem dX1_isPreferred_9 : decode cX1_isPreferred 9 = .ok (.aload_n 0, 1) := by decide +kernel
theorem dX1_isPreferred_10 : decode cX1_isPreferred 10 = .ok (.getfield 15, 3) := by decide +kernel
theorem dX1_isPreferred_13 : decode cX1_isPreferred 13 = .ok (.if_icmp .le 7, 3) := by decide +kernel
theorem dX1_isPreferred_16 : decode cX1_isPreferred 16 = .ok (.iconst 1, 1) := by decide +kernel
theorem dX1_isPreferred_17 : decode cX1_isPreferred 17 = .ok (.goto 4, 3) := by decide +kernel
theorem dX1_isPreferred_20 : decode cX1_isPreferred 20 = .ok (.iconst 0, 1) := by decide +kernel
theorem dX1_isPreferred_21 : decode cX1_isPreferred 21 = .ok (.ireturn, 1) := by decide +kernel
theorem dX1_isPreferred_22 : decode cX1_isPreferred 22 = .ok (.iload_n 3, 1) := by decide +kernel
theorem dX1_isPreferred_23 : decode cX1_isPreferred 23 = .ok (.invokestatic 54, 3) := by decide +kernel
theorem dX1_isPreferred_26 : decode cX1_isPreferred 26 = .ok (.aload_n 0, 1) := by decide +kernel
theorem dX1_isPreferred_27 : decode cX1_isPreferred 27 = .ok (.getfield 18, 3) := by decide +kernel
theorem dX1_isPreferred_30 : decode cX1_isPreferred 30 = .ok (.invokestatic 54, 3) := by decide +kernel
theorem dX1_isPreferred_33 : decode cX1_isPreferred 33 = .ok (.if_icmp .eq 23, 3) := by decide +kernel
theorem dX1_isPreferred_36 : decode cX1_isPreferred 36 = .ok (.iload_n 3, 1) := by decide +kernel
theorem dX1_isPreferred_37 : decode cX1_isPreferred 37 = .ok (.invokestatic 54, 3) := by decide +kernel
theorem dX1_isPreferred_40 : decode cX1_isPreferred 40 = .ok (.aload_n 0, 1) := by decide +kernel
theorem dX1_isPreferred_41 : decode cX1_isPreferred 41 = .ok (.getfield 18, 3) := by decide +kernel
theorem dX1_isPreferred_44 : decode cX1_isPreferred 44 = .ok (.invokestatic 54, 3) := by decide +kernel
theorem dX1_isPreferred_47 : decode cX1_isPreferred 47 = .ok (.if_icmp .ge 7, 3) := by decide +kernel
theorem dX1_isPreferred_50 : decode cX1_isPreferred 50 = .ok (.iconst 1, 1) := by decide +kernel
theorem dX1_isPreferred_51 : decode cX1_isPreferred 51 = .ok (.goto 4, 3) := by decide +kernel
theorem dX1_isPreferred_54 : decode cX1_isPreferred 54 = .ok (.iconst 0, 1) := by decide +kernel
theorem dX1_isPreferred_55 : decode cX1_isPreferred 55 = .ok (.ireturn, 1) := by decide +kernel
theorem dX1_isPreferred_56 : decode cX1_isPreferred 56 = .ok (.iload_n 1, 1) := by decide +kernel
theorem dX1_isPreferred_57 : decode cX1_isPreferred 57 = .ok (.iload 4, 2) := by decide +kernel
theorem dX1_isPreferred_59 : decode cX1_isPreferred 59 = .ok (.isub, 1) := by decide +kernel
theorem dX1_isPreferred_60 : decode cX1_isPreferred 60 = .ok (.invokestatic 54, 3) := by decide +kernel
theorem dX1_isPreferred_63 : decode cX1_isPreferred 63 = .ok (.aload_n 0, 1) := by decide +kernel
theorem dX1_isPreferred_64 : decode cX1_isPreferred 64 = .ok (.getfield 9, 3) := by decide +kernel
theorem dX1_isPreferred_67 : decode cX1_isPreferred 67 = .ok (.iload 4, 2) := by decide +kernel
theorem dX1_isPreferred_69 : decode cX1_isPreferred 69 = .ok (.isub, 1) := by decide +kernel
theorem dX1_isPreferred_70 : decode cX1_isPreferred 70 = .ok (.invokestatic 54, 3) := by decide +kernel
theorem dX1_isPreferred_73 : decode cX1_isPreferred 73 = .ok (.if_icmp .eq 29, 3) := by decide +kernel
theorem dX1_isPreferred_76 : decode cX1_isPreferred 76 = .ok (.iload_n 1, 1) := by decide +kernel
theorem dX1_isPreferred_77 : decode cX1_isPreferred 77 = .ok (.iload 4, 2) := by decide +kernel
theorem dX1_isPreferred_79 : decode cX1_isPreferred 79 = .ok (.isub, 1) := by decide +kernel
theorem dX1_isPreferred_80 : decode cX1_isPreferred 80 = .ok (.invokestatic 54, 3) := by decide +kernel
theorem dX1_isPreferred_83 : decode cX1_isPreferred 83 = .ok (.aload_n 0, 1) := by decide +kernel
theorem dX1_isPreferred_84 : decode cX1_isPreferred 84 = .ok (.getfield 9, 3) := by decide +kernel
theorem dX1_isPreferred_87 : decode cX1_isPreferred 87 = .ok (.iload 4, 2) := by decide +kernel
theorem dX1_isPreferred_89 : decode cX1_isPreferred 89 = .ok (.isub, 1) := by decide +kernel
theorem dX1_isPreferred_90 : decode cX1_isPreferred 90 = .ok (.invokestatic 54, 3) := by decide +kernel
theorem dX1_isPreferred_93 : decode cX1_isPreferred 93 = .ok (.if_icmp .ge 7, 3) := by decide +kernel
theorem dX1_isPreferred_96 : decode cX1_isPreferred 96 = .ok (.iconst 1, 1) := by decide +kernel
theorem dX1_isPreferred_97 : decode cX1_isPreferred 97 = .ok (.goto 4, 3) := by decide +kernel
theorem dX1_isPreferred_100 : decode cX1_isPreferred 100 = .ok (.iconst 0, 1) := by decide +kernel
theorem dX1_isPreferred_101 : decode cX1_isPreferred 101 = .ok (.ireturn, 1) := by decide +kernel
theorem dX1_isPreferred_102 : decode cX1_isPreferred 102 = .ok (.iload_n 1, 1) := by decide +kernel
theorem dX1_isPreferred_103 : decode cX1_isPreferred 103 = .ok (.aload_n 0, 1) := by decide +kernel
theorem dX1_isPreferred_104 : decode cX1_isPreferred 104 = .ok (.getfield 9, 3) := by decide +kernel
theorem dX1_isPreferred_107 : decode cX1_isPreferred 107 = .ok (.if_icmp .ge 7, 3) := by decide +kernel
theorem dX1_isPreferred_110 : decode cX1_isPreferred 110 = .ok (.iconst 1, 1) := by decide +kernel
theorem dX1_isPreferred_111 : decode cX1_isPreferred 111 = .ok (.goto 4, 3) := by decide +kernel
theorem dX1_isPreferred_114 : decode cX1_isPreferred 114 = .ok (.iconst 0, 1) := by decide +kernel
theorem dX1_isPreferred_115 : decode cX1_isPreferred 115 = .ok (.ireturn, 1) := by decide +kernel
set_option maxRecDepth 20000 in
theorem ggX2_init_X0_init : GoodIn wsX2_init wsX0_init := goodIn_r _ [28, 29, 2, 3, 30, 31, 32, 33, 34, 21, 22, 35, 36, 37, 59, 60, 61, 62, 93, 94, 95, 96, 97, 98] (by decide +kernel) (by decide +kernel)
set_option maxRecDepth 20000 in
theorem gX2_init_X0_init : GoodIn wsX2_init (wsX0_init) := ggX2_init_X0_init
set_option maxRecDepth 20000 in
theorem ggX2_init_X3_init : GoodIn wsX2_init wsX3_init := goodIn_r _ [39, 40, 2, 3, 41, 32, 42, 43, 44, 45, 75, 76, 77, 78, 79, 80, 81] (by decide +kernel) (by decide +kernel)
set_option maxRecDepth 20000 in
theorem gX2_init_X3_init_n20 : GoodIn wsX2_init (wsX3_init) := ggX2_init_X3_init
set_option maxRecDepth 20000 in
theorem ggX2_init_X5_init : GoodIn wsX2_init wsX5_init := goodIn_r _ [47, 48, 2, 3, 49, 50, 32, 51, 52, 53, 54, 55, 82, 83, 84, 85, 86, 87, 88, 89] (by decide +kernel) (by decide +kernel)
set_option maxRecDepth 20000 in
theorem gX2_init_X5_init_n27 : GoodIn wsX2_init (wsX5_init) := ggX2_init_X5_init
set_option maxRecDepth 20000 in
theorem ggX2_init_X1_init : GoodIn wsX2_init wsX1_init := goodIn_r _ [57, 58, 2, 3] (by decide +kernel) (by decide +kernel)
set_option maxRecDepth 20000 in
theorem gX2_init_X1_init_n34 : GoodIn wsX2_init (wsX1_init) := ggX2_init_X1_init
set_option maxRecDepth 20000 in
theorem ggX2_init_X4_init : GoodIn wsX2_init wsX4_init := goodIn_r _ [36, 37, 2, 3] (by decide +kernel) (by decide +kernel)
set_option maxRecDepth 20000 in
theorem gX2_init_X4_init_n41 : GoodIn wsX2_init (wsX4_init) := ggX2_init_X4_init
theorem dX2_init_0 : decode cX2_init 0 = .ok (.aload_n 0, 1) := by decide +kernel
theorem dX2_init_1 : decode cX2_init 1 = .ok (.invokespecial 3, 3) := by decide +kernel
theorem dX2_init_4 : decode cX2_init 4 = .ok (.aload_n 0, 1) := by decide +kernel
theorem dX2_init_5 : decode cX2_init 5 = .ok (.new 9, 3) := by decide +kernel
theorem dX2_init_8 : decode cX2_init 8 = .ok (.dup, 1) := by decide +kernel
theorem dX2_init_9 : decode cX2_init 9 = .ok (.invokespecial 11, 3) := by decide +kernel
theorem dX2_init_12 : decode cX2_init 12 = .ok (.putfield 12, 3) := by decide +kernel
theorem dX2_init_15 : decode cX2_init 15 = .ok (.aload_n 0, 1) := by decide +kernel
theorem dX2_init_16 : decode cX2_init 16 = .ok (.new 18, 3) := by decide +kernel
theorem dX2_init_19 : decode cX2_init 19 = .ok (.dup, 1) := by decide +kernel
theorem dX2_init_20 : decode cX2_init 20 = .ok (.invokespecial 20, 3) := by decide +kernel
theorem dX2_init_23 : decode cX2_init 23 = .ok (.putfield 21, 3) := by decide +kernel
theorem dX2_init_26 : decode cX2_init 26 = .ok (.aload_n 0, 1) := by decide +kernel
theorem dX2_init_27 : decode cX2_init 27 = .ok (.new 25, 3) := by decide +kernel
theorem dX2_init_30 : decode cX2_init 30 = .ok (.dup, 1) := by decide +kernel
theorem dX2_init_31 : decode cX2_init 31 = .ok (.invokespecial 27, 3) := by decide +kernel
theorem dX2_init_34 : decode cX2_init 34 = .ok (.putfield 28, 3) := by decide +kernel
theorem dX2_init_37 : decode cX2_init 37 = .ok (.aload_n 0, 1) := by decide +kernel
theorem dX2_init_38 : decode cX2_init 38 = .ok (.new 32, 3) := by decide +kernel
theorem dX2_init_41 : decode cX2_init 41 = .ok (.dup, 1) := by decide +kernel
theorem dX2_init_42 : decode cX2_init 42 = .ok (.invokespecial 34, 3) := by decide +kernel
theorem dX2_init_45 : decode cX2_init 45 = .ok (.putfield 35, 3) := by decide +kernel
theorem dX2_init_48 : decode cX2_init 48 = .ok (.aload_n 0, 1) := by decide +kernel
theorem dX2_init_49 : decode cX2_init 49 = .ok (.new 39, 3) := by decide +kernel
theorem dX2_init_52 : decode cX2_init 52 = .ok (.dup, 1) := by decide +kernel
theorem dX2_init_53 : decode cX2_init 53 = .ok (.invokespecial 41, 3) := by decide +kernel
theorem dX2_init_56 : decode cX2_init 56 = .ok (.putfield 42, 3) := by decide +kernel
theorem dX2_init_59 : decode cX2_init 59 = .ok (.aload_n 0, 1) := by decide +kernel
theorem dX2_init_60 : decode cX2_init 60 = .ok (.bipush 20, 2) := by decide +kernel
theorem dX2_init_62 : decode cX2_init 62 = .ok (.putfield 46, 3) := by decide +kernel
theorem dX2_init_65 : decode cX2_init 65 = .ok (.aload_n 0, 1) := by decide +kernel
theorem dX2_init_66 : decode cX2_init 66 = .ok (.iconst 2, 1) := by decide +kernel
theorem dX2_init_67 : decode cX2_init 67 = .ok (.putfield 50, 3) := by decide +kernel
theorem dX2_init_70 : decode cX2_init 70 = .ok (.return_, 1) := by decide +kernel
set_option maxRecDepth 20000 in
theorem ggX2_prepareTrial_X0_copyFrom : GoodIn wsX2_prepareTrial wsX0_copyFrom := goodIn_r _ [14, 15, 16, 17, 18, 19, 20, 21, 22, 23, 24, 25, 26, 27, 28, 29, 30, 31, 32, 33, 57, 58, 59, 60, 61, 62, 63, 64, 65, 66] (by decide +kernel) (by decide +kernel)
set_option maxRecDepth 20000 in
theorem gX2_prepareTrial_X0_copyFrom : GoodIn wsX2_prepareTrial (wsV RX2 53 RX0 yX0_copyFrom wsX0_copyFrom) := goodIn_app (goodIn_of _ (by decide +kernel)) ggX2_prepareTrial_X0_copyFrom
set_option maxRecDepth 20000 in
theorem ggX2_prepareTrial_X3_clear : GoodIn wsX2_prepareTrial wsX3_clear := goodIn_r _ [38, 39, 40, 41, 42, 43, 44, 67, 68, 69, 70, 71, 72, 73] (by decide +kernel) (by decide +kernel)
set_option maxRecDepth 20000 in
theorem gX2_prepareTrial_X3_clear : GoodIn wsX2_prepareTrial (wsV RX2 57 RX3 yX3_clear wsX3_clear) := goodIn_app (goodIn_of _ (by decide +kernel)) ggX2_prepareTrial_X3_clear
theorem dX2_prepareTrial_0 : decode cX2_prepareTrial 0 = .ok (.aload_n 0, 1) := by decide +kernel
theorem dX2_prepareTrial_1 : decode cX2_prepareTrial 1 = .ok (.getfield 12, 3) := by decide +kernel
theorem dX2_prepareTrial_4 : decode cX2_prepareTrial 4 = .ok (.aload_n 1, 1) := by decide +kernel
theorem dX2_prepareTrial_5 : decode cX2_prepareTrial 5 = .ok (.getfield 12, 3) := by decide +kernel
theorem dX2_prepareTrial_8 : decode cX2_prepareTrial 8 = .ok (.invokevirtual 53, 3) := by decide +kernel
theorem dX2_prepareTrial_11 : decode cX2_prepareTrial 11 = .ok (.aload_n 0, 1) := by decide +kernel
theorem dX2_prepareTrial_12 : decode cX2_prepareTrial 12 = .ok (.getfield 21, 3) := by decide +kernel
theorem dX2_prepareTrial_15 : decode cX2_prepareTrial 15 = .ok (.invokevirtual 57, 3) := by decide +kernel
theorem dX2_prepareTrial_18 : decode cX2_prepareTrial 18 = .ok (.aload_n 0, 1) := by decide +kernel
theorem dX2_prepareTrial_19 : decode cX2_prepareTrial 19 = .ok (.aload_n 1, 1) := by decide +kernel
theorem dX2_prepareTrial_20 : decode cX2_prepareTrial 20 = .ok (.getfield 46, 3) := by decide +kernel
theorem dX2_prepareTrial_23 : decode cX2_prepareTrial 23 = .ok (.putfield 46, 3) := by decide +kernel
theorem dX2_prepareTrial_26 : decode cX2_prepareTrial 26 = .ok (.aload_n 0, 1) := by decide +kernel
theorem dX2_prepareTrial_27 : decode cX2_prepareTrial 27 = .ok (.aload_n 1, 1) := by decide +kernel
theorem dX2_prepareTrial_28 : decode cX2_prepareTrial 28 = .ok (.getfield 50, 3) := by decide +kernel
theorem dX2_prepareTrial_31 : decode cX2_prepareTrial 31 = .ok (.putfield 50, 3) := by decide +kernel
theorem dX2_prepareTrial_34 : decode cX2_prepareTrial 34 = .ok (.aload_n 0, 1) := by decide +kernel
theorem dX2_prepareTrial_35 : decode cX2_prepareTrial 35 = .ok (.iconst 0, 1) := by decide +kernel
theorem dX2_prepareTrial_36 : decode cX2_prepareTrial 36 = .ok (.putfield 60, 3) := by decide +kernel
theorem dX2_prepareTrial_39 : decode cX2_prepareTrial 39 = .ok (.aload_n 0, 1) := by decide +kernel
theorem dX2_prepareTrial_40 : decode cX2_prepareTrial 40 = .ok (.aload_n 1, 1) := by decide +kernel
theorem dX2_prepareTrial_41 : decode cX2_prepareTrial 41 = .ok (.getfield 64, 3) := by decide +kernel
theorem dX2_prepareTrial_44 : decode cX2_prepareTrial 44 = .ok (.putfield 64, 3) := by decide +kernel
theorem dX2_prepareTrial_47 : decode cX2_prepareTrial 47 = .ok (.aload_n 0, 1) := by decide +kernel
theorem dX2_prepareTrial_48 : decode cX2_prepareTrial 48 = .ok (.iconst 0, 1) := by decide +kernel
theorem dX2_prepareTrial_49 : decode cX2_prepareTrial 49 = .ok (.putfield 67, 3) := by decide +kernel
theorem dX2_prepareTrial_52 : decode cX2_prepareTrial 52 = .ok (.aload_n 0, 1) := by decide +kernel
theorem dX2_prepareTrial_53 : decode cX2_prepareTrial 53 = .ok (.iconst 0, 1) := by decide +kernel
theorem dX2_prepareTrial_54 : decode cX2_prepareTrial 54 = .ok (.putfield 70, 3) := by decide +kernel
theorem dX2_prepareTrial_57 : decode cX2_prepareTrial 57 = .ok (.aload_n 0, 1) := by decide +kernel
theorem dX2_prepareTrial_58 : decode cX2_prepareTrial 58 = .ok (.iconst 0, 1) := by decide +kernel
theorem dX2_prepareTrial_59 : decode cX2_prepareTrial 59 = .ok (.putfield 73, 3) := by decide +kernel
theorem dX2_prepareTrial_62 : decode cX2_prepareTrial 62 = .ok (.return_, 1) := by decide +kernel
set_option maxRecDepth 20000 in
theorem ggX2_comeIn_X0_isFull : GoodIn wsX2_comeIn wsX0_isFull := goodIn_r _ [10, 11, 189, 190, 191, 192] (by decide +kernel) (by decide +kernel)
set_option maxRecDepth 20000 in
theorem gX2_comeIn_X0_isFull : GoodIn wsX2_comeIn (wsV RX2 76 RX0 yX0_isFull wsX0_isFull) := goodIn_app (goodIn_of _ (by decide +kernel)) ggX2_comeIn_X0_isFull
set_option maxRecDepth 20000 in
theorem ggX2_comeIn_X4_become : GoodIn wsX2_comeIn wsX4_become := goodIn_r _ [16, 17, 18, 19, 20, 21, 22, 183, 184, 185, 186, 187, 188] (by decide +kernel) (by decide +kernel)
set_option maxRecDepth 20000 in
theorem gX2_comeIn_X4_become : GoodIn wsX2_comeIn (wsV RX2 80 RX4 yX4_become wsX4_become) := goodIn_app (goodIn_of _ (by decide +kernel)) ggX2_comeIn_X4_become
set_option maxRecDepth 20000 in
theorem ggX2_comeIn_X2_meet : GoodIn wsX2_comeIn wsX2_meet := goodIn_r _ [27, 4, 28, 5, 2, 29, 30, 31, 32, 9, 33, 34, 35, 36, 37, 38, 11, 39, 40, 41, 42, 43, 44, 45, 46, 47, 26, 48, 49, 50, 51, 52, 53, 54, 55, 56, 57, 58, 59, 60, 61, 62, 63, 64, 65, 66, 67, 68, 69, 70, 71, 72, 73, 74, 75, 76, 77, 78, 79, 80, 81, 82, 83, 84, 85, 86, 87, 88, 89, 90, 91, 92, 93, 94, 95, 96, 97, 98, 99, 100, 101, 102, 103, 104, 105, 106, 107, 108, 109, 110, 111, 112, 113, 114, 115, 116, 117, 118, 119, 120, 121, 122, 123, 124, 125, 126, 127, 128, 129, 130, 131, 132, 133, 134, 135, 136, 137, 138, 139, 140, 141, 142, 143, 144, 145, 146, 147, 148, 149, 150, 171, 172, 173, 174, 175, 176, 177, 178, 179, 180, 181, 182, 183, 184, 185, 186, 187, 188, 189, 190, 191, 192, 193, 194, 195, 196, 197, 198, 199, 200, 201, 202, 203, 204, 205, 206, 207] (by decide +kernel) (by decide +kernel)
set_option maxRecDepth 20000 in
theorem gX2_comeIn_X2_meet : GoodIn wsX2_comeIn (wsV RX2 84 RX2 yX2_meet wsX2_meet) := goodIn_app (goodIn_of _ (by decide +kernel)) ggX2_comeIn_X2_meet
set_option maxRecDepth 20000 in
theorem ggX2_comeIn_X2_restComing : GoodIn wsX2_comeIn wsX2_restComing := goodIn_r _ [154, 2, 4, 28, 29, 1, 5, 155, 156, 30, 31, 32, 9, 33, 34, 35, 36, 37, 38, 11, 39, 40, 41, 42, 43, 44, 157, 158, 159, 160, 161, 7, 8, 10, 162, 163, 164, 15, 165, 17, 18, 19, 20, 21, 22, 166, 13, 14, 16, 167, 168, 169, 170, 76, 77, 78, 171, 172, 173, 174, 175, 176, 177, 178, 179, 180, 181, 182, 183, 184, 185, 186, 187, 188, 189, 190, 191, 192] (by decide +kernel) (by decide +kernel)
set_option maxRecDepth 20000 in
theorem gX2_comeIn_X2_restComing : GoodIn wsX2_comeIn (wsV RX2 91 RX2 yX2_restComing wsX2_restComing) := goodIn_app (goodIn_of _ (by decide +kernel)) ggX2_comeIn_X2_restComing
theorem dX2_comeIn_0 : decode cX2_comeIn 0 = .ok (.aload_n 0, 1) := by decide +kernel
theorem dX2_comeIn_1 : decode cX2_comeIn 1 = .ok (.getfield 60, 3) := by decide +kernel
theorem dX2_comeIn_4 : decode cX2_comeIn 4 = .ok (.ifCond .eq 16, 3) := by decide +kernel
theorem dX2_comeIn_7 : decode cX2_comeIn 7 = .ok (.aload_n 0, 1) := by decide +kernel
theorem dX2_comeIn_8 : decode cX2_comeIn 8 = .ok (.getfield 12, 3) := by decide +kernel
theorem dX2_comeIn_11 : decode cX2_comeIn 11 = .ok (.invokevirtual 76, 3) := by decide +kernel
theorem dX2_comeIn_14 : decode cX2_comeIn 14 = .ok (.ifCond .eq 6, 3) := by decide +kernel
theorem dX2_comeIn_17 : decode cX2_comeIn 17 = .ok (.bipush (-3), 2) := by decide +kernel
theorem dX2_comeIn_19 : decode cX2_comeIn 19 = .ok (.ireturn, 1) := by decide +kernel
theorem dX2_comeIn_20 : decode cX2_comeIn 20 = .ok (.aload_n 0, 1) := by decide +kernel
theorem dX2_comeIn_21 : decode cX2_comeIn 21 = .ok (.dup, 1) := by decide +kernel
theorem dX2_comeIn_22 : decode cX2_comeIn 22 = .ok (.getfield 64, 3) := by decide +kernel
theorem dX2_comeIn_25 : decode cX2_comeIn 25 = .ok (.iconst 1, 1) := by decide +kernel
theorem dX2_comeIn_26 : decode cX2_comeIn 26 = .ok (.iadd, 1) := by decide +kernel
theorem dX2_comeIn_27 : decode cX2_comeIn 27 = .ok (.putfield 64, 3) := by decide +kernel
theorem dX2_comeIn_30 : decode cX2_comeIn 30 = .ok (.aload_n 0, 1) := by decide +kernel
theorem dX2_comeIn_31 : decode cX2_comeIn 31 = .ok (.getfield 42, 3) := by decide +kernel
theorem dX2_comeIn_34 : decode cX2_comeIn 34 = .ok (.aload_n 0, 1) := by decide +kernel
theorem dX2_comeIn_35 : decode cX2_comeIn 35 = .ok (.getfield 64, 3) := by decide +kernel
theorem dX2_comeIn_38 : decode cX2_comeIn 38 = .ok (.iload_n 1, 1) := by decide +kernel
theorem dX2_comeIn_39 : decode cX2_comeIn 39 = .ok (.iload_n 2, 1) := by decide +kernel
theorem dX2_comeIn_40 : decode cX2_comeIn 40 = .ok (.iload_n 3, 1) := by decide +kernel
theorem dX2_comeIn_41 : decode cX2_comeIn 41 = .ok (.iload 4, 2) := by decide +kernel
theorem dX2_comeIn_43 : decode cX2_comeIn 43 = .ok (.invokevirtual 80, 3) := by decide +kernel
theorem dX2_comeIn_46 : decode cX2_comeIn 46 = .ok (.aload_n 0, 1) := by decide +kernel
theorem dX2_comeIn_47 : decode cX2_comeIn 47 = .ok (.getfield 60, 3) := by decide +kernel
theorem dX2_comeIn_50 : decode cX2_comeIn 50 = .ok (.ifCond .ne 9, 3) := by decide +kernel
theorem dX2_comeIn_53 : decode cX2_comeIn 53 = .ok (.aload_n 0, 1) := by decide +kernel
theorem dX2_comeIn_54 : decode cX2_comeIn 54 = .ok (.iload 5, 2) := by decide +kernel
theorem dX2_comeIn_56 : decode cX2_comeIn 56 = .ok (.invokevirtual 84, 3) := by decide +kernel
theorem dX2_comeIn_59 : decode cX2_comeIn 59 = .ok (.aload_n 0, 1) := by decide +kernel
theorem dX2_comeIn_60 : decode cX2_comeIn 60 = .ok (.getfield 12, 3) := by decide +kernel
theorem dX2_comeIn_63 : decode cX2_comeIn 63 = .ok (.invokevirtual 76, 3) := by decide +kernel
theorem dX2_comeIn_66 : decode cX2_comeIn 66 = .ok (.ifCond .eq 11, 3) := by decide +kernel
theorem dX2_comeIn_69 : decode cX2_comeIn 69 = .ok (.aload_n 0, 1) := by decide +kernel
theorem dX2_comeIn_70 : decode cX2_comeIn 70 = .ok (.getfield 42, 3) := by decide +kernel
theorem dX2_comeIn_73 : decode cX2_comeIn 73 = .ok (.iconst 0, 1) := by decide +kernel
theorem dX2_comeIn_74 : decode cX2_comeIn 74 = .ok (.putfield 88, 3) := by decide +kernel
theorem dX2_comeIn_77 : decode cX2_comeIn 77 = .ok (.aload_n 0, 1) := by decide +kernel
theorem dX2_comeIn_78 : decode cX2_comeIn 78 = .ok (.getfield 42, 3) := by decide +kernel
theorem dX2_comeIn_81 : decode cX2_comeIn 81 = .ok (.getfield 88, 3) := by decide +kernel
theorem dX2_comeIn_84 : decode cX2_comeIn 84 = .ok (.ifCond .le 7, 3) := by decide +kernel
theorem dX2_comeIn_87 : decode cX2_comeIn 87 = .ok (.aload_n 0, 1) := by decide +kernel
theorem dX2_comeIn_88 : decode cX2_comeIn 88 = .ok (.invokevirtual 91, 3) := by decide +kernel
theorem dX2_comeIn_91 : decode cX2_comeIn 91 = .ok (.aload_n 0, 1) := by decide +kernel
theorem dX2_comeIn_92 : decode cX2_comeIn 92 = .ok (.getfield 64, 3) := by decide +kernel
theorem dX2_comeIn_95 : decode cX2_comeIn 95 = .ok (.ireturn, 1) := by decide +kernel
set_option maxRecDepth 20000 in
theorem ggX2_restComing_X0_best : GoodIn wsX2_restComing wsX0_best := goodIn_r _ [13, 14, 15, 16, 17, 12, 18, 19, 20, 21, 22, 23, 24, 25, 74, 75, 76, 77, 68, 69, 70, 71, 72, 73] (by decide +kernel) (by decide +kernel)
set_option maxRecDepth 20000 in
theorem gX2_restComing_X0_best : GoodIn wsX2_restComing (wsV RX2 97 RX0 yX0_best wsX0_best) := goodIn_app (goodIn_of _ (by decide +kernel)) ggX2_restComing_X0_best
set_option maxRecDepth 20000 in
theorem ggX2_restComing_X7_isBetter : GoodIn wsX2_restComing wsX7_isBetter := goodIn_r _ [25] (by decide +kernel) (by decide +kernel)
set_option maxRecDepth 20000 in
theorem gX2_restComing_X7_isBetter_n104 : GoodIn wsX2_restComing (wsX7_isBetter) := ggX2_restComing_X7_isBetter
set_option maxRecDepth 20000 in
theorem ggX2_restComing_X0_add : GoodIn wsX2_restComing wsX0_add := goodIn_r _ [29, 20, 19, 30, 31, 32, 12, 33, 34, 35, 36, 37, 38, 39, 40, 41, 42, 43, 44, 45, 46, 47, 48, 74, 75, 76, 77, 68, 69, 70, 71, 72, 73] (by decide +kernel) (by decide +kernel)
set_option maxRecDepth 20000 in
theorem gX2_restComing_X0_add : GoodIn wsX2_restComing (wsV RX2 108 RX0 yX0_add wsX0_add) := goodIn_app (goodIn_of _ (by decide +kernel)) ggX2_restComing_X0_add
set_option maxRecDepth 20000 in
theorem ggX2_restComing_X0_makeTop : GoodIn wsX2_restComing wsX0_makeTop := goodIn_r _ [52, 53, 21, 54, 55, 74, 75, 76, 77, 68, 69, 70, 71, 72, 73] (by decide +kernel) (by decide +kernel)
set_option maxRecDepth 20000 in
theorem gX2_restComing_X0_makeTop : GoodIn wsX2_restComing (wsV RX2 115 RX0 yX0_makeTop wsX0_makeTop) := goodIn_app (goodIn_of _ (by decide +kernel)) ggX2_restComing_X0_makeTop
theorem dX2_restComing_0 : decode cX2_restComing 0 = .ok (.aload_n 0, 1) := by decide +kernel
theorem dX2_restComing_1 : decode cX2_restComing 1 = .ok (.getfield 12, 3) := by decide +kernel
theorem dX2_restComing_4 : decode cX2_restComing 4 = .ok (.aload_n 0, 1) := by decide +kernel
theorem dX2_restComing_5 : decode cX2_restComing 5 = .ok (.getfield 42, 3) := by decide +kernel
theorem dX2_restComing_8 : decode cX2_restComing 8 = .ok (.getfield 94, 3) := by decide +kernel
theorem dX2_restComing_11 : decode cX2_restComing 11 = .ok (.invokevirtual 97, 3) := by decide +kernel
theorem dX2_restComing_14 : decode cX2_restComing 14 = .ok (.istore_n 1, 1) := by decide +kernel
theorem dX2_restComing_15 : decode cX2_restComing 15 = .ok (.iload_n 1, 1) := by decide +kernel
theorem dX2_restComing_16 : decode cX2_restComing 16 = .ok (.ifCond .eq 24, 3) := by decide +kernel
theorem dX2_restComing_19 : decode cX2_restComing 19 = .ok (.aload_n 0, 1) := by decide +kernel
theorem dX2_restComing_20 : decode cX2_restComing 20 = .ok (.getfield 42, 3) := by decide +kernel
theorem dX2_restComing_23 : decode cX2_restComing 23 = .ok (.getfield 94, 3) := by decide +kernel
theorem dX2_restComing_26 : decode cX2_restComing 26 = .ok (.aload_n 0, 1) := by decide +kernel
theorem dX2_restComing_27 : decode cX2_restComing 27 = .ok (.getfield 42, 3) := by decide +kernel
theorem dX2_restComing_30 : decode cX2_restComing 30 = .ok (.getfield 101, 3) := by decide +kernel
theorem dX2_restComing_33 : decode cX2_restComing 33 = .ok (.iload_n 1, 1) := by decide +kernel
theorem dX2_restComing_34 : decode cX2_restComing 34 = .ok (.invokestatic 104, 3) := by decide +kernel
theorem dX2_restComing_37 : decode cX2_restComing 37 = .ok (.ifCond .eq 7, 3) := by decide +kernel
theorem dX2_restComing_40 : decode cX2_restComing 40 = .ok (.iconst 1, 1) := by decide +kernel
theorem dX2_restComing_41 : decode cX2_restComing 41 = .ok (.goto 4, 3) := by decide +kernel
theorem dX2_restComing_44 : decode cX2_restComing 44 = .ok (.iconst 0, 1) := by decide +kernel
theorem dX2_restComing_45 : decode cX2_restComing 45 = .ok (.istore_n 2, 1) := by decide +kernel
theorem dX2_restComing_46 : decode cX2_restComing 46 = .ok (.aload_n 0, 1) := by decide +kernel
theorem dX2_restComing_47 : decode cX2_restComing 47 = .ok (.getfield 12, 3) := by decide +kernel
theorem dX2_restComing_50 : decode cX2_restComing 50 = .ok (.aload_n 0, 1) := by decide +kernel
theorem dX2_restComing_51 : decode cX2_restComing 51 = .ok (.getfield 42, 3) := by decide +kernel
theorem dX2_restComing_54 : decode cX2_restComing 54 = .ok (.invokevirtual 108, 3) := by decide +kernel
theorem dX2_restComing_57 : decode cX2_restComing 57 = .ok (.aload_n 0, 1) := by decide +kernel
theorem dX2_restComing_58 : decode cX2_restComing 58 = .ok (.getfield 60, 3) := by decide +kernel
theorem dX2_restComing_61 : decode cX2_restComing 61 = .ok (.ifCond .ne 46, 3) := by decide +kernel
theorem dX2_restComing_64 : decode cX2_restComing 64 = .ok (.iload_n 2, 1) := by decide +kernel
theorem dX2_restComing_65 : decode cX2_restComing 65 = .ok (.ifCond .eq 42, 3) := by decide +kernel
theorem dX2_restComing_68 : decode cX2_restComing 68 = .ok (.aload_n 0, 1) := by decide +kernel
theorem dX2_restComing_69 : decode cX2_restComing 69 = .ok (.getfield 42, 3) := by decide +kernel
theorem dX2_restComing_72 : decode cX2_restComing 72 = .ok (.getfield 88, 3) := by decide +kernel
theorem dX2_restComing_75 : decode cX2_restComing 75 = .ok (.aload_n 0, 1) := by decide +kernel
theorem dX2_restComing_76 : decode cX2_restComing 76 = .ok (.getfield 42, 3) := by decide +kernel
theorem dX2_restComing_79 : decode cX2_restComing 79 = .ok (.getfield 112, 3) := by decide +kernel
theorem dX2_restComing_82 : decode cX2_restComing 82 = .ok (.if_icmp .ne 25, 3) := by decide +kernel
theorem dX2_restComing_85 : decode cX2_restComing 85 = .ok (.aload_n 0, 1) := by decide +kernel
theorem dX2_restComing_86 : decode cX2_restComing 86 = .ok (.getfield 46, 3) := by decide +kernel
theorem dX2_restComing_89 : decode cX2_restComing 89 = .ok (.ifCond .le 18, 3) := by decide +kernel
theorem dX2_restComing_92 : decode cX2_restComing 92 = .ok (.aload_n 0, 1) := by decide +kernel
theorem dX2_restComing_93 : decode cX2_restComing 93 = .ok (.getfield 12, 3) := by decide +kernel
theorem dX2_restComing_96 : decode cX2_restComing 96 = .ok (.aload_n 0, 1) := by decide +kernel
theorem dX2_restComing_97 : decode cX2_restComing 97 = .ok (.getfield 42, 3) := by decide +kernel
theorem dX2_restComing_100 : decode cX2_restComing 100 = .ok (.aload_n 0, 1) := by decide +kernel
theorem dX2_restComing_101 : decode cX2_restComing 101 = .ok (.getfield 46, 3) := by decide +kernel
