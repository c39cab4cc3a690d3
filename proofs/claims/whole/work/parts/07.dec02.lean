theorem dX2_restComing_104 : decode cX2_restComing 104 = .ok (.invokevirtual 115, 3) := by decide +kernel
theorem dX2_restComing_107 : decode cX2_restComing 107 = .ok (.return_, 1) := by decide +kernel
set_option maxRecDepth 20000 in
theorem ggX2_meet_X0_best : GoodIn wsX2_meet wsX0_best := goodIn_r _ [10, 11, 12, 13, 14, 9, 15, 16, 17, 18, 19, 20, 21, 22, 148, 149, 150, 151, 142, 143, 144, 145, 146, 147] (by decide +kernel) (by decide +kernel)
set_option maxRecDepth 20000 in
theorem gX2_meet_X0_best : GoodIn wsX2_meet (wsV RX2 97 RX0 yX0_best wsX0_best) := goodIn_app (goodIn_of _ (by decide +kernel)) ggX2_meet_X0_best
set_option maxRecDepth 20000 in
theorem ggX2_meet_X7_isBetter : GoodIn wsX2_meet wsX7_isBetter := goodIn_r _ [22] (by decide +kernel) (by decide +kernel)
set_option maxRecDepth 20000 in
theorem gX2_meet_X7_isBetter_n104 : GoodIn wsX2_meet (wsX7_isBetter) := ggX2_meet_X7_isBetter
set_option maxRecDepth 20000 in
theorem ggX2_meet_X2_preventSelf : GoodIn wsX2_meet wsX2_preventSelf := goodIn_r _ [27, 4, 28, 29, 30, 1, 3, 31, 32, 33, 9, 34, 17, 18, 19, 35, 36, 37, 26, 38, 39, 40, 41, 42, 43, 44, 45, 46, 47, 48, 49, 16, 50, 51, 52, 53, 54, 55, 56, 57, 130, 131, 132, 133, 134, 135, 136, 137, 138, 139, 140, 141, 148, 149, 150, 151, 142, 143, 144, 145, 146, 147] (by decide +kernel) (by decide +kernel)
set_option maxRecDepth 20000 in
theorem gX2_meet_X2_preventSelf : GoodIn wsX2_meet (wsV RX2 119 RX2 yX2_preventSelf wsX2_preventSelf) := goodIn_app (goodIn_of _ (by decide +kernel)) ggX2_meet_X2_preventSelf
set_option maxRecDepth 20000 in
theorem ggX2_meet_X2_takeAt : GoodIn wsX2_meet wsX2_takeAt := goodIn_r _ [61, 62, 4, 1, 3, 63, 41, 42, 43, 44, 64, 65, 66, 67, 68, 69, 30, 2, 70, 71, 72, 73, 74, 75, 76, 77, 78, 79, 80, 81, 32, 33, 9, 34, 17, 18, 19, 82, 83, 84, 85, 55, 56, 57, 86, 87, 88, 89, 90, 91, 92, 93, 94, 95, 96, 97, 98, 99, 100, 101, 102, 103, 104, 105, 106, 26, 107, 108, 109, 110, 111, 112, 113, 114, 115, 116, 117, 118, 119, 120, 121, 122, 123, 124, 125, 126, 127, 128, 129, 46, 47, 48, 49, 16, 50, 51, 52, 53, 54, 130, 131, 132, 133, 134, 135, 136, 137, 138, 139, 140, 141, 142, 143, 144, 145, 146, 147, 152, 153, 154, 155, 156, 157, 158, 159, 160, 161, 162, 163, 164, 165, 166, 148, 149, 150, 151] (by decide +kernel) (by decide +kernel)
set_option maxRecDepth 20000 in
theorem gX2_meet_X2_takeAt : GoodIn wsX2_meet (wsV RX2 123 RX2 yX2_takeAt wsX2_takeAt) := goodIn_app (goodIn_of _ (by decide +kernel)) ggX2_meet_X2_takeAt
theorem dX2_meet_0 : decode cX2_meet 0 = .ok (.aload_n 0, 1) := by decide +kernel
theorem dX2_meet_1 : decode cX2_meet 1 = .ok (.getfield 42, 3) := by decide +kernel
theorem dX2_meet_4 : decode cX2_meet 4 = .ok (.getfield 94, 3) := by decide +kernel
theorem dX2_meet_7 : decode cX2_meet 7 = .ok (.ifCond .ne 7, 3) := by decide +kernel
theorem dX2_meet_10 : decode cX2_meet 10 = .ok (.iconst 1, 1) := by decide +kernel
theorem dX2_meet_11 : decode cX2_meet 11 = .ok (.goto 4, 3) := by decide +kernel
theorem dX2_meet_14 : decode cX2_meet 14 = .ok (.iconst 0, 1) := by decide +kernel
theorem dX2_meet_15 : decode cX2_meet 15 = .ok (.istore_n 2, 1) := by decide +kernel
theorem dX2_meet_16 : decode cX2_meet 16 = .ok (.iconst 0, 1) := by decide +kernel
theorem dX2_meet_17 : decode cX2_meet 17 = .ok (.istore_n 3, 1) := by decide +kernel
theorem dX2_meet_18 : decode cX2_meet 18 = .ok (.iload_n 3, 1) := by decide +kernel
theorem dX2_meet_19 : decode cX2_meet 19 = .ok (.bipush 60, 2) := by decide +kernel
theorem dX2_meet_21 : decode cX2_meet 21 = .ok (.if_icmp .ge 76, 3) := by decide +kernel
theorem dX2_meet_24 : decode cX2_meet 24 = .ok (.aload_n 0, 1) := by decide +kernel
theorem dX2_meet_25 : decode cX2_meet 25 = .ok (.getfield 42, 3) := by decide +kernel
theorem dX2_meet_28 : decode cX2_meet 28 = .ok (.getfield 88, 3) := by decide +kernel
theorem dX2_meet_31 : decode cX2_meet 31 = .ok (.ifCond .le 66, 3) := by decide +kernel
theorem dX2_meet_34 : decode cX2_meet 34 = .ok (.aload_n 0, 1) := by decide +kernel
theorem dX2_meet_35 : decode cX2_meet 35 = .ok (.getfield 12, 3) := by decide +kernel
theorem dX2_meet_38 : decode cX2_meet 38 = .ok (.iload_n 2, 1) := by decide +kernel
theorem dX2_meet_39 : decode cX2_meet 39 = .ok (.invokevirtual 97, 3) := by decide +kernel
theorem dX2_meet_42 : decode cX2_meet 42 = .ok (.istore 4, 2) := by decide +kernel
theorem dX2_meet_44 : decode cX2_meet 44 = .ok (.iload 4, 2) := by decide +kernel
theorem dX2_meet_46 : decode cX2_meet 46 = .ok (.ifCond .eq 19, 3) := by decide +kernel
theorem dX2_meet_49 : decode cX2_meet 49 = .ok (.iload_n 2, 1) := by decide +kernel
theorem dX2_meet_50 : decode cX2_meet 50 = .ok (.aload_n 0, 1) := by decide +kernel
theorem dX2_meet_51 : decode cX2_meet 51 = .ok (.getfield 42, 3) := by decide +kernel
theorem dX2_meet_54 : decode cX2_meet 54 = .ok (.getfield 101, 3) := by decide +kernel
theorem dX2_meet_57 : decode cX2_meet 57 = .ok (.iload 4, 2) := by decide +kernel
theorem dX2_meet_59 : decode cX2_meet 59 = .ok (.invokestatic 104, 3) := by decide +kernel
theorem dX2_meet_62 : decode cX2_meet 62 = .ok (.ifCond .eq 4, 3) := by decide +kernel
theorem dX2_meet_65 : decode cX2_meet 65 = .ok (.return_, 1) := by decide +kernel
theorem dX2_meet_66 : decode cX2_meet 66 = .ok (.aload_n 0, 1) := by decide +kernel
theorem dX2_meet_67 : decode cX2_meet 67 = .ok (.iload_n 2, 1) := by decide +kernel
theorem dX2_meet_68 : decode cX2_meet 68 = .ok (.iload 4, 2) := by decide +kernel
theorem dX2_meet_70 : decode cX2_meet 70 = .ok (.iload_n 1, 1) := by decide +kernel
theorem dX2_meet_71 : decode cX2_meet 71 = .ok (.invokevirtual 119, 3) := by decide +kernel
theorem dX2_meet_74 : decode cX2_meet 74 = .ok (.aload_n 0, 1) := by decide +kernel
theorem dX2_meet_75 : decode cX2_meet 75 = .ok (.getfield 42, 3) := by decide +kernel
theorem dX2_meet_78 : decode cX2_meet 78 = .ok (.getfield 88, 3) := by decide +kernel
theorem dX2_meet_81 : decode cX2_meet 81 = .ok (.ifCond .le 10, 3) := by decide +kernel
theorem dX2_meet_84 : decode cX2_meet 84 = .ok (.aload_n 0, 1) := by decide +kernel
theorem dX2_meet_85 : decode cX2_meet 85 = .ok (.iload_n 2, 1) := by decide +kernel
theorem dX2_meet_86 : decode cX2_meet 86 = .ok (.iload 4, 2) := by decide +kernel
theorem dX2_meet_88 : decode cX2_meet 88 = .ok (.invokevirtual 123, 3) := by decide +kernel
theorem dX2_meet_91 : decode cX2_meet 91 = .ok (.iinc 3 1, 3) := by decide +kernel
theorem dX2_meet_94 : decode cX2_meet 94 = .ok (.goto (-76), 3) := by decide +kernel
theorem dX2_meet_97 : decode cX2_meet 97 = .ok (.return_, 1) := by decide +kernel
set_option maxRecDepth 20000 in
theorem ggX2_preventSelf_X0_isAt : GoodIn wsX2_preventSelf wsX0_isAt := goodIn_r _ [11, 12, 13, 14, 52, 53, 54, 55, 56, 57, 58, 59, 60, 61] (by decide +kernel) (by decide +kernel)
set_option maxRecDepth 20000 in
theorem gX2_preventSelf_X0_isAt : GoodIn wsX2_preventSelf (wsV RX2 134 RX0 yX0_isAt wsX0_isAt) := goodIn_app (goodIn_of _ (by decide +kernel)) ggX2_preventSelf_X0_isAt
set_option maxRecDepth 20000 in
theorem ggX2_preventSelf_X2_loseOwn : GoodIn wsX2_preventSelf wsX2_loseOwn := goodIn_r _ [19, 20, 6, 21, 5, 22, 23, 24, 25, 26, 40, 41, 42, 43, 44, 45, 46, 47, 48, 49, 50, 51, 56, 57, 58, 59, 60, 61] (by decide +kernel) (by decide +kernel)
set_option maxRecDepth 20000 in
theorem gX2_preventSelf_X2_loseOwn : GoodIn wsX2_preventSelf (wsV RX2 140 RX2 yX2_loseOwn wsX2_loseOwn) := goodIn_app (goodIn_of _ (by decide +kernel)) ggX2_preventSelf_X2_loseOwn
set_option maxRecDepth 20000 in
theorem ggX2_preventSelf_X0_sweep : GoodIn wsX2_preventSelf wsX0_sweep := goodIn_r _ [30, 31, 12, 32, 33, 34, 35, 10, 36, 37, 13, 38, 39, 52, 53, 54, 55, 56, 57, 58, 59, 60, 61] (by decide +kernel) (by decide +kernel)
set_option maxRecDepth 20000 in
theorem gX2_preventSelf_X0_sweep : GoodIn wsX2_preventSelf (wsV RX2 143 RX0 yX0_sweep wsX0_sweep) := goodIn_app (goodIn_of _ (by decide +kernel)) ggX2_preventSelf_X0_sweep
theorem dX2_preventSelf_0 : decode cX2_preventSelf 0 = .ok (.iconst 0, 1) := by decide +kernel
theorem dX2_preventSelf_1 : decode cX2_preventSelf 1 = .ok (.istore 4, 2) := by decide +kernel
theorem dX2_preventSelf_3 : decode cX2_preventSelf 3 = .ok (.iconst 0, 1) := by decide +kernel
theorem dX2_preventSelf_4 : decode cX2_preventSelf 4 = .ok (.istore 5, 2) := by decide +kernel
theorem dX2_preventSelf_6 : decode cX2_preventSelf 6 = .ok (.iload 5, 2) := by decide +kernel
theorem dX2_preventSelf_8 : decode cX2_preventSelf 8 = .ok (.aload_n 0, 1) := by decide +kernel
theorem dX2_preventSelf_9 : decode cX2_preventSelf 9 = .ok (.getfield 12, 3) := by decide +kernel
theorem dX2_preventSelf_12 : decode cX2_preventSelf 12 = .ok (.getfield 127, 3) := by decide +kernel
theorem dX2_preventSelf_15 : decode cX2_preventSelf 15 = .ok (.if_icmp .ge 60, 3) := by decide +kernel
theorem dX2_preventSelf_18 : decode cX2_preventSelf 18 = .ok (.aload_n 0, 1) := by decide +kernel
theorem dX2_preventSelf_19 : decode cX2_preventSelf 19 = .ok (.getfield 12, 3) := by decide +kernel
theorem dX2_preventSelf_22 : decode cX2_preventSelf 22 = .ok (.getfield 130, 3) := by decide +kernel
theorem dX2_preventSelf_25 : decode cX2_preventSelf 25 = .ok (.iload 5, 2) := by decide +kernel
theorem dX2_preventSelf_27 : decode cX2_preventSelf 27 = .ok (.aaload, 1) := by decide +kernel
theorem dX2_preventSelf_28 : decode cX2_preventSelf 28 = .ok (.astore 6, 2) := by decide +kernel
theorem dX2_preventSelf_30 : decode cX2_preventSelf 30 = .ok (.aload_n 0, 1) := by decide +kernel
theorem dX2_preventSelf_31 : decode cX2_preventSelf 31 = .ok (.getfield 12, 3) := by decide +kernel
theorem dX2_preventSelf_34 : decode cX2_preventSelf 34 = .ok (.iload 5, 2) := by decide +kernel
theorem dX2_preventSelf_36 : decode cX2_preventSelf 36 = .ok (.iload_n 1, 1) := by decide +kernel
theorem dX2_preventSelf_37 : decode cX2_preventSelf 37 = .ok (.iload_n 2, 1) := by decide +kernel
theorem dX2_preventSelf_38 : decode cX2_preventSelf 38 = .ok (.invokevirtual 134, 3) := by decide +kernel
theorem dX2_preventSelf_41 : decode cX2_preventSelf 41 = .ok (.ifCond .eq 28, 3) := by decide +kernel
theorem dX2_preventSelf_44 : decode cX2_preventSelf 44 = .ok (.aload 6, 2) := by decide +kernel
theorem dX2_preventSelf_46 : decode cX2_preventSelf 46 = .ok (.getfield 137, 3) := by decide +kernel
theorem dX2_preventSelf_49 : decode cX2_preventSelf 49 = .ok (.aload_n 0, 1) := by decide +kernel
theorem dX2_preventSelf_50 : decode cX2_preventSelf 50 = .ok (.getfield 42, 3) := by decide +kernel
theorem dX2_preventSelf_53 : decode cX2_preventSelf 53 = .ok (.getfield 137, 3) := by decide +kernel
theorem dX2_preventSelf_56 : decode cX2_preventSelf 56 = .ok (.if_icmp .ne 13, 3) := by decide +kernel
theorem dX2_preventSelf_59 : decode cX2_preventSelf 59 = .ok (.iconst 1, 1) := by decide +kernel
theorem dX2_preventSelf_60 : decode cX2_preventSelf 60 = .ok (.istore 4, 2) := by decide +kernel
theorem dX2_preventSelf_62 : decode cX2_preventSelf 62 = .ok (.aload_n 0, 1) := by decide +kernel
theorem dX2_preventSelf_63 : decode cX2_preventSelf 63 = .ok (.aload 6, 2) := by decide +kernel
theorem dX2_preventSelf_65 : decode cX2_preventSelf 65 = .ok (.iload_n 3, 1) := by decide +kernel
theorem dX2_preventSelf_66 : decode cX2_preventSelf 66 = .ok (.invokevirtual 140, 3) := by decide +kernel
theorem dX2_preventSelf_69 : decode cX2_preventSelf 69 = .ok (.iinc 5 1, 3) := by decide +kernel
theorem dX2_preventSelf_72 : decode cX2_preventSelf 72 = .ok (.goto (-66), 3) := by decide +kernel
theorem dX2_preventSelf_75 : decode cX2_preventSelf 75 = .ok (.iload 4, 2) := by decide +kernel
theorem dX2_preventSelf_77 : decode cX2_preventSelf 77 = .ok (.ifCond .eq 21, 3) := by decide +kernel
theorem dX2_preventSelf_80 : decode cX2_preventSelf 80 = .ok (.iload_n 3, 1) := by decide +kernel
theorem dX2_preventSelf_81 : decode cX2_preventSelf 81 = .ok (.iconst 1, 1) := by decide +kernel
theorem dX2_preventSelf_82 : decode cX2_preventSelf 82 = .ok (.if_icmp .eq 8, 3) := by decide +kernel
theorem dX2_preventSelf_85 : decode cX2_preventSelf 85 = .ok (.iload_n 3, 1) := by decide +kernel
theorem dX2_preventSelf_86 : decode cX2_preventSelf 86 = .ok (.iconst 2, 1) := by decide +kernel
theorem dX2_preventSelf_87 : decode cX2_preventSelf 87 = .ok (.if_icmp .ne 11, 3) := by decide +kernel
theorem dX2_preventSelf_90 : decode cX2_preventSelf 90 = .ok (.aload_n 0, 1) := by decide +kernel
theorem dX2_preventSelf_91 : decode cX2_preventSelf 91 = .ok (.getfield 42, 3) := by decide +kernel
theorem dX2_preventSelf_94 : decode cX2_preventSelf 94 = .ok (.iconst 0, 1) := by decide +kernel
theorem dX2_preventSelf_95 : decode cX2_preventSelf 95 = .ok (.putfield 88, 3) := by decide +kernel
theorem dX2_preventSelf_98 : decode cX2_preventSelf 98 = .ok (.aload_n 0, 1) := by decide +kernel
theorem dX2_preventSelf_99 : decode cX2_preventSelf 99 = .ok (.getfield 12, 3) := by decide +kernel
theorem dX2_preventSelf_102 : decode cX2_preventSelf 102 = .ok (.invokevirtual 143, 3) := by decide +kernel
theorem dX2_preventSelf_105 : decode cX2_preventSelf 105 = .ok (.return_, 1) := by decide +kernel
theorem dX2_loseOwn_0 : decode cX2_loseOwn 0 = .ok (.iload_n 2, 1) := by decide +kernel
theorem dX2_loseOwn_1 : decode cX2_loseOwn 1 = .ok (.ifCond .eq 8, 3) := by decide +kernel
theorem dX2_loseOwn_4 : decode cX2_loseOwn 4 = .ok (.iload_n 2, 1) := by decide +kernel
theorem dX2_loseOwn_5 : decode cX2_loseOwn 5 = .ok (.iconst 2, 1) := by decide +kernel
theorem dX2_loseOwn_6 : decode cX2_loseOwn 6 = .ok (.if_icmp .ne 34, 3) := by decide +kernel
theorem dX2_loseOwn_9 : decode cX2_loseOwn 9 = .ok (.aload_n 0, 1) := by decide +kernel
theorem dX2_loseOwn_10 : decode cX2_loseOwn 10 = .ok (.dup, 1) := by decide +kernel
theorem dX2_loseOwn_11 : decode cX2_loseOwn 11 = .ok (.getfield 70, 3) := by decide +kernel
theorem dX2_loseOwn_14 : decode cX2_loseOwn 14 = .ok (.aload_n 1, 1) := by decide +kernel
theorem dX2_loseOwn_15 : decode cX2_loseOwn 15 = .ok (.getfield 88, 3) := by decide +kernel
theorem dX2_loseOwn_18 : decode cX2_loseOwn 18 = .ok (.iadd, 1) := by decide +kernel
theorem dX2_loseOwn_19 : decode cX2_loseOwn 19 = .ok (.putfield 70, 3) := by decide +kernel
theorem dX2_loseOwn_22 : decode cX2_loseOwn 22 = .ok (.aload_n 1, 1) := by decide +kernel
theorem dX2_loseOwn_23 : decode cX2_loseOwn 23 = .ok (.iconst 0, 1) := by decide +kernel
theorem dX2_loseOwn_24 : decode cX2_loseOwn 24 = .ok (.putfield 88, 3) := by decide +kernel
theorem dX2_loseOwn_27 : decode cX2_loseOwn 27 = .ok (.aload_n 0, 1) := by decide +kernel
theorem dX2_loseOwn_28 : decode cX2_loseOwn 28 = .ok (.dup, 1) := by decide +kernel
theorem dX2_loseOwn_29 : decode cX2_loseOwn 29 = .ok (.getfield 67, 3) := by decide +kernel
theorem dX2_loseOwn_32 : decode cX2_loseOwn 32 = .ok (.iconst 1, 1) := by decide +kernel
theorem dX2_loseOwn_33 : decode cX2_loseOwn 33 = .ok (.iadd, 1) := by decide +kernel
theorem dX2_loseOwn_34 : decode cX2_loseOwn 34 = .ok (.putfield 67, 3) := by decide +kernel
theorem dX2_loseOwn_37 : decode cX2_loseOwn 37 = .ok (.goto 77, 3) := by decide +kernel
theorem dX2_loseOwn_40 : decode cX2_loseOwn 40 = .ok (.iload_n 2, 1) := by decide +kernel
theorem dX2_loseOwn_41 : decode cX2_loseOwn 41 = .ok (.iconst 3, 1) := by decide +kernel
theorem dX2_loseOwn_42 : decode cX2_loseOwn 42 = .ok (.if_icmp .ne 72, 3) := by decide +kernel
theorem dX2_loseOwn_45 : decode cX2_loseOwn 45 = .ok (.aload_n 1, 1) := by decide +kernel
theorem dX2_loseOwn_46 : decode cX2_loseOwn 46 = .ok (.getfield 88, 3) := by decide +kernel
theorem dX2_loseOwn_49 : decode cX2_loseOwn 49 = .ok (.aload_n 0, 1) := by decide +kernel
theorem dX2_loseOwn_50 : decode cX2_loseOwn 50 = .ok (.getfield 42, 3) := by decide +kernel
theorem dX2_loseOwn_53 : decode cX2_loseOwn 53 = .ok (.getfield 88, 3) := by decide +kernel
theorem dX2_loseOwn_56 : decode cX2_loseOwn 56 = .ok (.invokestatic 146, 3) := by decide +kernel
theorem dX2_loseOwn_59 : decode cX2_loseOwn 59 = .ok (.istore_n 3, 1) := by decide +kernel
theorem dX2_loseOwn_60 : decode cX2_loseOwn 60 = .ok (.aload_n 1, 1) := by decide +kernel
theorem dX2_loseOwn_61 : decode cX2_loseOwn 61 = .ok (.dup, 1) := by decide +kernel
theorem dX2_loseOwn_62 : decode cX2_loseOwn 62 = .ok (.getfield 88, 3) := by decide +kernel
theorem dX2_loseOwn_65 : decode cX2_loseOwn 65 = .ok (.iload_n 3, 1) := by decide +kernel
theorem dX2_loseOwn_66 : decode cX2_loseOwn 66 = .ok (.isub, 1) := by decide +kernel
theorem dX2_loseOwn_67 : decode cX2_loseOwn 67 = .ok (.putfield 88, 3) := by decide +kernel
theorem dX2_loseOwn_70 : decode cX2_loseOwn 70 = .ok (.aload_n 0, 1) := by decide +kernel
theorem dX2_loseOwn_71 : decode cX2_loseOwn 71 = .ok (.getfield 42, 3) := by decide +kernel
theorem dX2_loseOwn_74 : decode cX2_loseOwn 74 = .ok (.dup, 1) := by decide +kernel
theorem dX2_loseOwn_75 : decode cX2_loseOwn 75 = .ok (.getfield 88, 3) := by decide +kernel
theorem dX2_loseOwn_78 : decode cX2_loseOwn 78 = .ok (.iload_n 3, 1) := by decide +kernel
theorem dX2_loseOwn_79 : decode cX2_loseOwn 79 = .ok (.isub, 1) := by decide +kernel
theorem dX2_loseOwn_80 : decode cX2_loseOwn 80 = .ok (.putfield 88, 3) := by decide +kernel
theorem dX2_loseOwn_83 : decode cX2_loseOwn 83 = .ok (.aload_n 0, 1) := by decide +kernel
theorem dX2_loseOwn_84 : decode cX2_loseOwn 84 = .ok (.dup, 1) := by decide +kernel
theorem dX2_loseOwn_85 : decode cX2_loseOwn 85 = .ok (.getfield 73, 3) := by decide +kernel
theorem dX2_loseOwn_88 : decode cX2_loseOwn 88 = .ok (.iload_n 3, 1) := by decide +kernel
theorem dX2_loseOwn_89 : decode cX2_loseOwn 89 = .ok (.iadd, 1) := by decide +kernel
theorem dX2_loseOwn_90 : decode cX2_loseOwn 90 = .ok (.putfield 73, 3) := by decide +kernel
theorem dX2_loseOwn_93 : decode cX2_loseOwn 93 = .ok (.aload_n 0, 1) := by decide +kernel
theorem dX2_loseOwn_94 : decode cX2_loseOwn 94 = .ok (.dup, 1) := by decide +kernel
theorem dX2_loseOwn_95 : decode cX2_loseOwn 95 = .ok (.getfield 67, 3) := by decide +kernel
theorem dX2_loseOwn_98 : decode cX2_loseOwn 98 = .ok (.aload_n 1, 1) := by decide +kernel
theorem dX2_loseOwn_99 : decode cX2_loseOwn 99 = .ok (.getfield 88, 3) := by decide +kernel
theorem dX2_loseOwn_102 : decode cX2_loseOwn 102 = .ok (.ifCond .ne 7, 3) := by decide +kernel
theorem dX2_loseOwn_105 : decode cX2_loseOwn 105 = .ok (.iconst 1, 1) := by decide +kernel
theorem dX2_loseOwn_106 : decode cX2_loseOwn 106 = .ok (.goto 4, 3) := by decide +kernel
theorem dX2_loseOwn_109 : decode cX2_loseOwn 109 = .ok (.iconst 0, 1) := by decide +kernel
theorem dX2_loseOwn_110 : decode cX2_loseOwn 110 = .ok (.iadd, 1) := by decide +kernel
theorem dX2_loseOwn_111 : decode cX2_loseOwn 111 = .ok (.putfield 67, 3) := by decide +kernel
theorem dX2_loseOwn_114 : decode cX2_loseOwn 114 = .ok (.return_, 1) := by decide +kernel
set_option maxRecDepth 20000 in
theorem ggX2_takeAt_X5_load : GoodIn wsX2_takeAt wsX5_load := goodIn_r _ [23, 24, 25, 26, 27, 28, 29, 30, 31, 32, 33, 34, 35, 36, 37, 38, 39, 40, 41, 42, 43, 44, 45, 46, 22, 47, 48, 49, 50, 117, 118, 119, 120, 121, 122, 123, 124, 132, 133, 134, 135, 111, 112, 113, 114, 115, 116] (by decide +kernel) (by decide +kernel)
set_option maxRecDepth 20000 in
theorem gX2_takeAt_X5_load : GoodIn wsX2_takeAt (wsV RX2 152 RX5 yX5_load wsX5_load) := goodIn_app (goodIn_of _ (by decide +kernel)) ggX2_takeAt_X5_load
set_option maxRecDepth 20000 in
theorem ggX2_takeAt_X5_deal : GoodIn wsX2_takeAt wsX5_deal := goodIn_r _ [54, 24, 55, 49, 50, 56, 7, 8, 9, 57, 58, 59, 60, 22, 61, 117, 118, 119, 120, 121, 122, 123, 124] (by decide +kernel) (by decide +kernel)
set_option maxRecDepth 20000 in
theorem gX2_takeAt_X5_deal : GoodIn wsX2_takeAt (wsV RX2 159 RX5 yX5_deal wsX5_deal) := goodIn_app (goodIn_of _ (by decide +kernel)) ggX2_takeAt_X5_deal
set_option maxRecDepth 20000 in
theorem ggX2_takeAt_X2_tradeRows : GoodIn wsX2_takeAt wsX2_tradeRows := goodIn_r _ [66, 1, 67, 68, 4, 2, 15, 12, 16, 17, 69, 70, 71, 32, 72, 43, 35, 41, 73, 74, 75, 76, 77, 78, 79, 80, 81, 7, 8, 9, 82, 83, 84, 85, 86, 87, 88, 99, 100, 101, 102, 103, 104, 105, 106, 107, 108, 109, 110, 117, 118, 119, 120, 121, 122, 123, 124, 111, 112, 113, 114, 115, 116, 132, 133, 134, 135, 125, 126, 127, 128, 129, 130, 131] (by decide +kernel) (by decide +kernel)
set_option maxRecDepth 20000 in
theorem gX2_takeAt_X2_tradeRows : GoodIn wsX2_takeAt (wsV RX2 169 RX2 yX2_tradeRows wsX2_tradeRows) := goodIn_app (goodIn_of _ (by decide +kernel)) ggX2_takeAt_X2_tradeRows
set_option maxRecDepth 20000 in
theorem ggX2_takeAt_X3_enter : GoodIn wsX2_takeAt wsX3_enter := goodIn_r _ [86, 87, 88, 125, 126, 127, 128, 129, 130, 131] (by decide +kernel) (by decide +kernel)
set_option maxRecDepth 20000 in
theorem gX2_takeAt_X3_enter : GoodIn wsX2_takeAt (wsV RX2 179 RX3 yX3_enter wsX3_enter) := goodIn_app (goodIn_of _ (by decide +kernel)) ggX2_takeAt_X3_enter
set_option maxRecDepth 20000 in
theorem ggX2_takeAt_X0_sweep : GoodIn wsX2_takeAt wsX0_sweep := goodIn_r _ [92, 93, 34, 94, 95, 96, 97, 32, 98, 41, 35, 42, 43, 132, 133, 134, 135, 111, 112, 113, 114, 115, 116] (by decide +kernel) (by decide +kernel)
set_option maxRecDepth 20000 in
theorem gX2_takeAt_X0_sweep : GoodIn wsX2_takeAt (wsV RX2 143 RX0 yX0_sweep wsX0_sweep) := goodIn_app (goodIn_of _ (by decide +kernel)) ggX2_takeAt_X0_sweep
theorem dX2_takeAt_0 : decode cX2_takeAt 0 = .ok (.aload_n 0, 1) := by decide +kernel
theorem dX2_takeAt_1 : decode cX2_takeAt 1 = .ok (.getfield 28, 3) := by decide +kernel
theorem dX2_takeAt_4 : decode cX2_takeAt 4 = .ok (.aload_n 0, 1) := by decide +kernel
theorem dX2_takeAt_5 : decode cX2_takeAt 5 = .ok (.getfield 12, 3) := by decide +kernel
theorem dX2_takeAt_8 : decode cX2_takeAt 8 = .ok (.iload_n 1, 1) := by decide +kernel
theorem dX2_takeAt_9 : decode cX2_takeAt 9 = .ok (.iload_n 2, 1) := by decide +kernel
theorem dX2_takeAt_10 : decode cX2_takeAt 10 = .ok (.invokevirtual 152, 3) := by decide +kernel
theorem dX2_takeAt_13 : decode cX2_takeAt 13 = .ok (.aload_n 0, 1) := by decide +kernel
theorem dX2_takeAt_14 : decode cX2_takeAt 14 = .ok (.getfield 42, 3) := by decide +kernel
theorem dX2_takeAt_17 : decode cX2_takeAt 17 = .ok (.getfield 88, 3) := by decide +kernel
theorem dX2_takeAt_20 : decode cX2_takeAt 20 = .ok (.aload_n 0, 1) := by decide +kernel
theorem dX2_takeAt_21 : decode cX2_takeAt 21 = .ok (.getfield 28, 3) := by decide +kernel
theorem dX2_takeAt_24 : decode cX2_takeAt 24 = .ok (.getfield 156, 3) := by decide +kernel
theorem dX2_takeAt_27 : decode cX2_takeAt 27 = .ok (.invokestatic 146, 3) := by decide +kernel
theorem dX2_takeAt_30 : decode cX2_takeAt 30 = .ok (.istore_n 3, 1) := by decide +kernel
theorem dX2_takeAt_31 : decode cX2_takeAt 31 = .ok (.iload_n 3, 1) := by decide +kernel
theorem dX2_takeAt_32 : decode cX2_takeAt 32 = .ok (.ifCond .gt 4, 3) := by decide +kernel
theorem dX2_takeAt_35 : decode cX2_takeAt 35 = .ok (.return_, 1) := by decide +kernel
theorem dX2_takeAt_36 : decode cX2_takeAt 36 = .ok (.aload_n 0, 1) := by decide +kernel
theorem dX2_takeAt_37 : decode cX2_takeAt 37 = .ok (.getfield 28, 3) := by decide +kernel
theorem dX2_takeAt_40 : decode cX2_takeAt 40 = .ok (.iload_n 3, 1) := by decide +kernel
theorem dX2_takeAt_41 : decode cX2_takeAt 41 = .ok (.aload_n 0, 1) := by decide +kernel
theorem dX2_takeAt_42 : decode cX2_takeAt 42 = .ok (.getfield 50, 3) := by decide +kernel
theorem dX2_takeAt_45 : decode cX2_takeAt 45 = .ok (.invokevirtual 159, 3) := by decide +kernel
theorem dX2_takeAt_48 : decode cX2_takeAt 48 = .ok (.aload_n 0, 1) := by decide +kernel
theorem dX2_takeAt_49 : decode cX2_takeAt 49 = .ok (.aload_n 0, 1) := by decide +kernel
theorem dX2_takeAt_50 : decode cX2_takeAt 50 = .ok (.getfield 28, 3) := by decide +kernel
theorem dX2_takeAt_53 : decode cX2_takeAt 53 = .ok (.getfield 162, 3) := by decide +kernel
theorem dX2_takeAt_56 : decode cX2_takeAt 56 = .ok (.aload_n 0, 1) := by decide +kernel
theorem dX2_takeAt_57 : decode cX2_takeAt 57 = .ok (.getfield 42, 3) := by decide +kernel
theorem dX2_takeAt_60 : decode cX2_takeAt 60 = .ok (.getfield 166, 3) := by decide +kernel
theorem dX2_takeAt_63 : decode cX2_takeAt 63 = .ok (.iload_n 2, 1) := by decide +kernel
theorem dX2_takeAt_64 : decode cX2_takeAt 64 = .ok (.iconst 0, 1) := by decide +kernel
theorem dX2_takeAt_65 : decode cX2_takeAt 65 = .ok (.invokevirtual 169, 3) := by decide +kernel
theorem dX2_takeAt_68 : decode cX2_takeAt 68 = .ok (.aload_n 0, 1) := by decide +kernel
theorem dX2_takeAt_69 : decode cX2_takeAt 69 = .ok (.aload_n 0, 1) := by decide +kernel
theorem dX2_takeAt_70 : decode cX2_takeAt 70 = .ok (.getfield 28, 3) := by decide +kernel
theorem dX2_takeAt_73 : decode cX2_takeAt 73 = .ok (.getfield 173, 3) := by decide +kernel
theorem dX2_takeAt_76 : decode cX2_takeAt 76 = .ok (.aload_n 0, 1) := by decide +kernel
theorem dX2_takeAt_77 : decode cX2_takeAt 77 = .ok (.getfield 42, 3) := by decide +kernel
theorem dX2_takeAt_80 : decode cX2_takeAt 80 = .ok (.getfield 166, 3) := by decide +kernel
theorem dX2_takeAt_83 : decode cX2_takeAt 83 = .ok (.iload_n 2, 1) := by decide +kernel
theorem dX2_takeAt_84 : decode cX2_takeAt 84 = .ok (.iconst 1, 1) := by decide +kernel
theorem dX2_takeAt_85 : decode cX2_takeAt 85 = .ok (.invokevirtual 169, 3) := by decide +kernel
theorem dX2_takeAt_88 : decode cX2_takeAt 88 = .ok (.aload_n 0, 1) := by decide +kernel
theorem dX2_takeAt_89 : decode cX2_takeAt 89 = .ok (.aload_n 0, 1) := by decide +kernel
theorem dX2_takeAt_90 : decode cX2_takeAt 90 = .ok (.getfield 28, 3) := by decide +kernel
theorem dX2_takeAt_93 : decode cX2_takeAt 93 = .ok (.getfield 176, 3) := by decide +kernel
theorem dX2_takeAt_96 : decode cX2_takeAt 96 = .ok (.aload_n 0, 1) := by decide +kernel
theorem dX2_takeAt_97 : decode cX2_takeAt 97 = .ok (.getfield 42, 3) := by decide +kernel
theorem dX2_takeAt_100 : decode cX2_takeAt 100 = .ok (.getfield 166, 3) := by decide +kernel
theorem dX2_takeAt_103 : decode cX2_takeAt 103 = .ok (.iload_n 2, 1) := by decide +kernel
theorem dX2_takeAt_104 : decode cX2_takeAt 104 = .ok (.iconst 2, 1) := by decide +kernel
theorem dX2_takeAt_105 : decode cX2_takeAt 105 = .ok (.invokevirtual 169, 3) := by decide +kernel
theorem dX2_takeAt_108 : decode cX2_takeAt 108 = .ok (.aload_n 0, 1) := by decide +kernel
theorem dX2_takeAt_109 : decode cX2_takeAt 109 = .ok (.getfield 21, 3) := by decide +kernel
theorem dX2_takeAt_112 : decode cX2_takeAt 112 = .ok (.aload_n 0, 1) := by decide +kernel
theorem dX2_takeAt_113 : decode cX2_takeAt 113 = .ok (.getfield 42, 3) := by decide +kernel
theorem dX2_takeAt_116 : decode cX2_takeAt 116 = .ok (.getfield 137, 3) := by decide +kernel
theorem dX2_takeAt_119 : decode cX2_takeAt 119 = .ok (.aload_n 0, 1) := by decide +kernel
theorem dX2_takeAt_120 : decode cX2_takeAt 120 = .ok (.getfield 42, 3) := by decide +kernel
theorem dX2_takeAt_123 : decode cX2_takeAt 123 = .ok (.getfield 94, 3) := by decide +kernel
theorem dX2_takeAt_126 : decode cX2_takeAt 126 = .ok (.iload_n 2, 1) := by decide +kernel
theorem dX2_takeAt_127 : decode cX2_takeAt 127 = .ok (.iload_n 3, 1) := by decide +kernel
theorem dX2_takeAt_128 : decode cX2_takeAt 128 = .ok (.invokevirtual 179, 3) := by decide +kernel
theorem dX2_takeAt_131 : decode cX2_takeAt 131 = .ok (.aload_n 0, 1) := by decide +kernel
theorem dX2_takeAt_132 : decode cX2_takeAt 132 = .ok (.getfield 21, 3) := by decide +kernel
theorem dX2_takeAt_135 : decode cX2_takeAt 135 = .ok (.dup, 1) := by decide +kernel
theorem dX2_takeAt_136 : decode cX2_takeAt 136 = .ok (.getfield 183, 3) := by decide +kernel
theorem dX2_takeAt_139 : decode cX2_takeAt 139 = .ok (.iload_n 3, 1) := by decide +kernel
theorem dX2_takeAt_140 : decode cX2_takeAt 140 = .ok (.iadd, 1) := by decide +kernel
theorem dX2_takeAt_141 : decode cX2_takeAt 141 = .ok (.putfield 183, 3) := by decide +kernel
theorem dX2_takeAt_144 : decode cX2_takeAt 144 = .ok (.aload_n 0, 1) := by decide +kernel
theorem dX2_takeAt_145 : decode cX2_takeAt 145 = .ok (.getfield 42, 3) := by decide +kernel
theorem dX2_takeAt_148 : decode cX2_takeAt 148 = .ok (.dup, 1) := by decide +kernel
theorem dX2_takeAt_149 : decode cX2_takeAt 149 = .ok (.getfield 88, 3) := by decide +kernel
theorem dX2_takeAt_152 : decode cX2_takeAt 152 = .ok (.iload_n 3, 1) := by decide +kernel
theorem dX2_takeAt_153 : decode cX2_takeAt 153 = .ok (.isub, 1) := by decide +kernel
theorem dX2_takeAt_154 : decode cX2_takeAt 154 = .ok (.putfield 88, 3) := by decide +kernel
theorem dX2_takeAt_157 : decode cX2_takeAt 157 = .ok (.aload_n 0, 1) := by decide +kernel
theorem dX2_takeAt_158 : decode cX2_takeAt 158 = .ok (.getfield 12, 3) := by decide +kernel
theorem dX2_takeAt_161 : decode cX2_takeAt 161 = .ok (.invokevirtual 143, 3) := by decide +kernel
theorem dX2_takeAt_164 : decode cX2_takeAt 164 = .ok (.return_, 1) := by decide +kernel
set_option maxRecDepth 20000 in
theorem ggX2_tradeRows_X0_useGrant : GoodIn wsX2_tradeRows wsX0_useGrant := goodIn_r _ [14, 15, 16, 17, 63, 64, 65, 66, 57, 58, 59, 60, 61, 62] (by decide +kernel) (by decide +kernel)
set_option maxRecDepth 20000 in
theorem gX2_tradeRows_X0_useGrant : GoodIn wsX2_tradeRows (wsV RX2 191 RX0 yX0_useGrant wsX0_useGrant) := goodIn_app (goodIn_of _ (by decide +kernel)) ggX2_tradeRows_X0_useGrant
set_option maxRecDepth 20000 in
theorem ggX2_tradeRows_X3_keep : GoodIn wsX2_tradeRows wsX3_keep := goodIn_r _ [22, 23, 24, 25, 26, 27, 28, 29, 30, 67, 68, 69, 70, 71, 72, 73] (by decide +kernel) (by decide +kernel)
set_option maxRecDepth 20000 in
theorem gX2_tradeRows_X3_keep : GoodIn wsX2_tradeRows (wsV RX2 194 RX3 yX3_keep wsX3_keep) := goodIn_app (goodIn_of _ (by decide +kernel)) ggX2_tradeRows_X3_keep
set_option maxRecDepth 20000 in
theorem ggX2_tradeRows_X3_enter : GoodIn wsX2_tradeRows wsX3_enter := goodIn_r _ [34, 35, 36, 67, 68, 69, 70, 71, 72, 73] (by decide +kernel) (by decide +kernel)
set_option maxRecDepth 20000 in
theorem gX2_tradeRows_X3_enter : GoodIn wsX2_tradeRows (wsV RX2 179 RX3 yX3_enter wsX3_enter) := goodIn_app (goodIn_of _ (by decide +kernel)) ggX2_tradeRows_X3_enter
theorem dX2_tradeRows_0 : decode cX2_tradeRows 0 = .ok (.iconst 0, 1) := by decide +kernel
theorem dX2_tradeRows_1 : decode cX2_tradeRows 1 = .ok (.istore 5, 2) := by decide +kernel
theorem dX2_tradeRows_3 : decode cX2_tradeRows 3 = .ok (.iload 5, 2) := by decide +kernel
theorem dX2_tradeRows_5 : decode cX2_tradeRows 5 = .ok (.aload_n 0, 1) := by decide +kernel
theorem dX2_tradeRows_6 : decode cX2_tradeRows 6 = .ok (.getfield 28, 3) := by decide +kernel
theorem dX2_tradeRows_9 : decode cX2_tradeRows 9 = .ok (.getfield 186, 3) := by decide +kernel
theorem dX2_tradeRows_12 : decode cX2_tradeRows 12 = .ok (.if_icmp .ge 109, 3) := by decide +kernel
theorem dX2_tradeRows_15 : decode cX2_tradeRows 15 = .ok (.iload 5, 2) := by decide +kernel
theorem dX2_tradeRows_17 : decode cX2_tradeRows 17 = .ok (.aload_n 1, 1) := by decide +kernel
theorem dX2_tradeRows_18 : decode cX2_tradeRows 18 = .ok (.arraylength, 1) := by decide +kernel
theorem dX2_tradeRows_19 : decode cX2_tradeRows 19 = .ok (.if_icmp .ge 102, 3) := by decide +kernel
theorem dX2_tradeRows_22 : decode cX2_tradeRows 22 = .ok (.aload_n 1, 1) := by decide +kernel
theorem dX2_tradeRows_23 : decode cX2_tradeRows 23 = .ok (.iload 5, 2) := by decide +kernel
theorem dX2_tradeRows_25 : decode cX2_tradeRows 25 = .ok (.iaload, 1) := by decide +kernel
theorem dX2_tradeRows_26 : decode cX2_tradeRows 26 = .ok (.ifCond .le 89, 3) := by decide +kernel
theorem dX2_tradeRows_29 : decode cX2_tradeRows 29 = .ok (.aload_n 0, 1) := by decide +kernel
theorem dX2_tradeRows_30 : decode cX2_tradeRows 30 = .ok (.getfield 28, 3) := by decide +kernel
theorem dX2_tradeRows_33 : decode cX2_tradeRows 33 = .ok (.getfield 188, 3) := by decide +kernel
theorem dX2_tradeRows_36 : decode cX2_tradeRows 36 = .ok (.iload 5, 2) := by decide +kernel
theorem dX2_tradeRows_38 : decode cX2_tradeRows 38 = .ok (.aaload, 1) := by decide +kernel
theorem dX2_tradeRows_39 : decode cX2_tradeRows 39 = .ok (.astore 6, 2) := by decide +kernel
theorem dX2_tradeRows_41 : decode cX2_tradeRows 41 = .ok (.aload 6, 2) := by decide +kernel
theorem dX2_tradeRows_43 : decode cX2_tradeRows 43 = .ok (.dup, 1) := by decide +kernel
theorem dX2_tradeRows_44 : decode cX2_tradeRows 44 = .ok (.getfield 88, 3) := by decide +kernel
theorem dX2_tradeRows_47 : decode cX2_tradeRows 47 = .ok (.aload_n 1, 1) := by decide +kernel
theorem dX2_tradeRows_48 : decode cX2_tradeRows 48 = .ok (.iload 5, 2) := by decide +kernel
theorem dX2_tradeRows_50 : decode cX2_tradeRows 50 = .ok (.iaload, 1) := by decide +kernel
theorem dX2_tradeRows_51 : decode cX2_tradeRows 51 = .ok (.isub, 1) := by decide +kernel
theorem dX2_tradeRows_52 : decode cX2_tradeRows 52 = .ok (.putfield 88, 3) := by decide +kernel
theorem dX2_tradeRows_55 : decode cX2_tradeRows 55 = .ok (.iload 4, 2) := by decide +kernel
theorem dX2_tradeRows_57 : decode cX2_tradeRows 57 = .ok (.ifCond .ne 16, 3) := by decide +kernel
theorem dX2_tradeRows_60 : decode cX2_tradeRows 60 = .ok (.aload_n 0, 1) := by decide +kernel
theorem dX2_tradeRows_61 : decode cX2_tradeRows 61 = .ok (.getfield 12, 3) := by decide +kernel
theorem dX2_tradeRows_64 : decode cX2_tradeRows 64 = .ok (.aload 6, 2) := by decide +kernel
theorem dX2_tradeRows_66 : decode cX2_tradeRows 66 = .ok (.aload_n 1, 1) := by decide +kernel
theorem dX2_tradeRows_67 : decode cX2_tradeRows 67 = .ok (.iload 5, 2) := by decide +kernel
theorem dX2_tradeRows_69 : decode cX2_tradeRows 69 = .ok (.iaload, 1) := by decide +kernel
theorem dX2_tradeRows_70 : decode cX2_tradeRows 70 = .ok (.invokevirtual 191, 3) := by decide +kernel
theorem dX2_tradeRows_73 : decode cX2_tradeRows 73 = .ok (.aload_n 0, 1) := by decide +kernel
theorem dX2_tradeRows_74 : decode cX2_tradeRows 74 = .ok (.getfield 21, 3) := by decide +kernel
theorem dX2_tradeRows_77 : decode cX2_tradeRows 77 = .ok (.aload 6, 2) := by decide +kernel
theorem dX2_tradeRows_79 : decode cX2_tradeRows 79 = .ok (.getfield 166, 3) := by decide +kernel
theorem dX2_tradeRows_82 : decode cX2_tradeRows 82 = .ok (.iload_n 2, 1) := by decide +kernel
theorem dX2_tradeRows_83 : decode cX2_tradeRows 83 = .ok (.iload_n 3, 1) := by decide +kernel
theorem dX2_tradeRows_84 : decode cX2_tradeRows 84 = .ok (.aload_n 1, 1) := by decide +kernel
theorem dX2_tradeRows_85 : decode cX2_tradeRows 85 = .ok (.iload 5, 2) := by decide +kernel
theorem dX2_tradeRows_87 : decode cX2_tradeRows 87 = .ok (.iaload, 1) := by decide +kernel
theorem dX2_tradeRows_88 : decode cX2_tradeRows 88 = .ok (.iload 4, 2) := by decide +kernel
theorem dX2_tradeRows_90 : decode cX2_tradeRows 90 = .ok (.invokevirtual 194, 3) := by decide +kernel
theorem dX2_tradeRows_93 : decode cX2_tradeRows 93 = .ok (.aload_n 0, 1) := by decide +kernel
theorem dX2_tradeRows_94 : decode cX2_tradeRows 94 = .ok (.getfield 21, 3) := by decide +kernel
theorem dX2_tradeRows_97 : decode cX2_tradeRows 97 = .ok (.aload 6, 2) := by decide +kernel
theorem dX2_tradeRows_99 : decode cX2_tradeRows 99 = .ok (.getfield 137, 3) := by decide +kernel
theorem dX2_tradeRows_102 : decode cX2_tradeRows 102 = .ok (.aload 6, 2) := by decide +kernel
theorem dX2_tradeRows_104 : decode cX2_tradeRows 104 = .ok (.getfield 94, 3) := by decide +kernel
theorem dX2_tradeRows_107 : decode cX2_tradeRows 107 = .ok (.iload_n 3, 1) := by decide +kernel
theorem dX2_tradeRows_108 : decode cX2_tradeRows 108 = .ok (.aload_n 1, 1) := by decide +kernel
theorem dX2_tradeRows_109 : decode cX2_tradeRows 109 = .ok (.iload 5, 2) := by decide +kernel
theorem dX2_tradeRows_111 : decode cX2_tradeRows 111 = .ok (.iaload, 1) := by decide +kernel
theorem dX2_tradeRows_112 : decode cX2_tradeRows 112 = .ok (.invokevirtual 179, 3) := by decide +kernel
theorem dX2_tradeRows_115 : decode cX2_tradeRows 115 = .ok (.iinc 5 1, 3) := by decide +kernel
theorem dX2_tradeRows_118 : decode cX2_tradeRows 118 = .ok (.goto (-115), 3) := by decide +kernel
theorem dX2_tradeRows_121 : decode cX2_tradeRows 121 = .ok (.return_, 1) := by decide +kernel
set_option maxRecDepth 20000 in
theorem ggX2_changeOver_X1_seek : GoodIn wsX2_changeOver wsX1_seek := goodIn_r _ [12, 13, 14, 15, 16, 17, 18, 19, 20, 21, 11, 22, 23, 24, 25, 26, 27, 28, 29, 30, 31, 32, 33, 34, 35, 36, 165, 166, 167, 168, 169, 170, 171, 172, 173, 174, 175, 176, 177] (by decide +kernel) (by decide +kernel)
set_option maxRecDepth 20000 in
theorem gX2_changeOver_X1_seek : GoodIn wsX2_changeOver (wsV RX2 200 RX1 yX1_seek wsX1_seek) := goodIn_app (goodIn_of _ (by decide +kernel)) ggX2_changeOver_X1_seek
set_option maxRecDepth 20000 in
theorem ggX2_changeOver_X2_tradeSide : GoodIn wsX2_changeOver wsX2_tradeSide := goodIn_r _ [41, 2, 6, 3, 42, 43, 44, 45, 46, 47, 48, 49, 27, 28, 29, 50, 51, 52, 53, 54, 55, 56, 57, 58, 59, 60, 61, 62, 63, 64, 65, 66, 67, 68, 69, 70, 71, 72, 73, 74, 75, 76, 77, 78, 79, 80, 81, 82, 83, 84, 85, 86, 87, 88, 89, 90, 91, 92, 93, 94, 95, 96, 97, 40, 98, 99, 100, 101, 4, 102, 103, 104, 105, 106, 107, 108, 109, 110, 111, 112, 113, 114, 115, 116, 117, 118, 119, 120, 121, 122, 123, 124, 125, 126, 127, 128, 129, 130, 131, 132, 133, 134, 135, 136, 146, 147, 148, 149, 150, 151, 152, 153, 154, 155, 156, 157, 165, 166, 167, 178, 179, 180, 181, 182, 183, 184, 185, 168, 169, 170, 171, 172, 173, 174, 175, 176, 177, 158, 159, 160, 161, 162, 163, 164] (by decide +kernel) (by decide +kernel)
set_option maxRecDepth 20000 in
theorem gX2_changeOver_X2_tradeSide : GoodIn wsX2_changeOver (wsV RX2 207 RX2 yX2_tradeSide wsX2_tradeSide) := goodIn_app (goodIn_of _ (by decide +kernel)) ggX2_changeOver_X2_tradeSide
set_option maxRecDepth 20000 in
theorem ggX2_changeOver_X0_sweep : GoodIn wsX2_changeOver wsX0_sweep := goodIn_r _ [140, 60, 61, 141, 142, 143, 144, 53, 145, 85, 62, 86, 87, 168, 169, 170, 171, 172, 173, 174, 175, 176, 177] (by decide +kernel) (by decide +kernel)
set_option maxRecDepth 20000 in
theorem gX2_changeOver_X0_sweep : GoodIn wsX2_changeOver (wsV RX2 143 RX0 yX0_sweep wsX0_sweep) := goodIn_app (goodIn_of _ (by decide +kernel)) ggX2_changeOver_X0_sweep
theorem dX2_changeOver_0 : decode cX2_changeOver 0 = .ok (.aload_n 0, 1) := by decide +kernel
theorem dX2_changeOver_1 : decode cX2_changeOver 1 = .ok (.iconst 0, 1) := by decide +kernel
theorem dX2_changeOver_2 : decode cX2_changeOver 2 = .ok (.putfield 60, 3) := by decide +kernel
theorem dX2_changeOver_5 : decode cX2_changeOver 5 = .ok (.aload_n 0, 1) := by decide +kernel
theorem dX2_changeOver_6 : decode cX2_changeOver 6 = .ok (.getfield 35, 3) := by decide +kernel
theorem dX2_changeOver_9 : decode cX2_changeOver 9 = .ok (.aload_n 0, 1) := by decide +kernel
theorem dX2_changeOver_10 : decode cX2_changeOver 10 = .ok (.getfield 12, 3) := by decide +kernel
theorem dX2_changeOver_13 : decode cX2_changeOver 13 = .ok (.aload_n 0, 1) := by decide +kernel
theorem dX2_changeOver_14 : decode cX2_changeOver 14 = .ok (.getfield 21, 3) := by decide +kernel
theorem dX2_changeOver_17 : decode cX2_changeOver 17 = .ok (.getfield 197, 3) := by decide +kernel
theorem dX2_changeOver_20 : decode cX2_changeOver 20 = .ok (.invokevirtual 200, 3) := by decide +kernel
theorem dX2_changeOver_23 : decode cX2_changeOver 23 = .ok (.aload_n 0, 1) := by decide +kernel
theorem dX2_changeOver_24 : decode cX2_changeOver 24 = .ok (.getfield 35, 3) := by decide +kernel
theorem dX2_changeOver_27 : decode cX2_changeOver 27 = .ok (.getfield 204, 3) := by decide +kernel
theorem dX2_changeOver_30 : decode cX2_changeOver 30 = .ok (.ifCond .le 39, 3) := by decide +kernel
theorem dX2_changeOver_33 : decode cX2_changeOver 33 = .ok (.aload_n 0, 1) := by decide +kernel
theorem dX2_changeOver_34 : decode cX2_changeOver 34 = .ok (.iconst 0, 1) := by decide +kernel
theorem dX2_changeOver_35 : decode cX2_changeOver 35 = .ok (.invokevirtual 207, 3) := by decide +kernel
theorem dX2_changeOver_38 : decode cX2_changeOver 38 = .ok (.aload_n 0, 1) := by decide +kernel
theorem dX2_changeOver_39 : decode cX2_changeOver 39 = .ok (.iconst 1, 1) := by decide +kernel
theorem dX2_changeOver_40 : decode cX2_changeOver 40 = .ok (.invokevirtual 207, 3) := by decide +kernel
theorem dX2_changeOver_43 : decode cX2_changeOver 43 = .ok (.aload_n 0, 1) := by decide +kernel
theorem dX2_changeOver_44 : decode cX2_changeOver 44 = .ok (.getfield 21, 3) := by decide +kernel
theorem dX2_changeOver_47 : decode cX2_changeOver 47 = .ok (.dup, 1) := by decide +kernel
theorem dX2_changeOver_48 : decode cX2_changeOver 48 = .ok (.getfield 183, 3) := by decide +kernel
theorem dX2_changeOver_51 : decode cX2_changeOver 51 = .ok (.aload_n 0, 1) := by decide +kernel
theorem dX2_changeOver_52 : decode cX2_changeOver 52 = .ok (.getfield 35, 3) := by decide +kernel
theorem dX2_changeOver_55 : decode cX2_changeOver 55 = .ok (.getfield 204, 3) := by decide +kernel
theorem dX2_changeOver_58 : decode cX2_changeOver 58 = .ok (.iadd, 1) := by decide +kernel
theorem dX2_changeOver_59 : decode cX2_changeOver 59 = .ok (.putfield 183, 3) := by decide +kernel
theorem dX2_changeOver_62 : decode cX2_changeOver 62 = .ok (.aload_n 0, 1) := by decide +kernel
theorem dX2_changeOver_63 : decode cX2_changeOver 63 = .ok (.getfield 12, 3) := by decide +kernel
theorem dX2_changeOver_66 : decode cX2_changeOver 66 = .ok (.invokevirtual 143, 3) := by decide +kernel
theorem dX2_changeOver_69 : decode cX2_changeOver 69 = .ok (.aload_n 0, 1) := by decide +kernel
theorem dX2_changeOver_70 : decode cX2_changeOver 70 = .ok (.getfield 35, 3) := by decide +kernel
theorem dX2_changeOver_73 : decode cX2_changeOver 73 = .ok (.getfield 204, 3) := by decide +kernel
theorem dX2_changeOver_76 : decode cX2_changeOver 76 = .ok (.ireturn, 1) := by decide +kernel
set_option maxRecDepth 20000 in
theorem ggX2_tradeSide_X0_best : GoodIn wsX2_tradeSide wsX0_best := goodIn_r _ [19, 20, 21, 22, 23, 18, 24, 25, 26, 27, 28, 29, 30, 31, 127, 128, 129, 130, 131, 132, 133, 134, 135, 136] (by decide +kernel) (by decide +kernel)
set_option maxRecDepth 20000 in
theorem gX2_tradeSide_X0_best : GoodIn wsX2_tradeSide (wsV RX2 97 RX0 yX0_best wsX0_best) := goodIn_app (goodIn_of _ (by decide +kernel)) ggX2_tradeSide_X0_best
set_option maxRecDepth 20000 in
theorem ggX2_tradeSide_X5_load : GoodIn wsX2_tradeSide wsX5_load := goodIn_r _ [36, 37, 38, 39, 40, 41, 42, 43, 44, 18, 45, 26, 27, 28, 46, 47, 48, 49, 50, 51, 52, 53, 54, 55, 35, 56, 57, 58, 59, 119, 120, 121, 122, 123, 124, 125, 126, 127, 128, 129, 130, 131, 132, 133, 134, 135, 136] (by decide +kernel) (by decide +kernel)
set_option maxRecDepth 20000 in
theorem gX2_tradeSide_X5_load : GoodIn wsX2_tradeSide (wsV RX2 152 RX5 yX5_load wsX5_load) := goodIn_app (goodIn_of _ (by decide +kernel)) ggX2_tradeSide_X5_load
set_option maxRecDepth 20000 in
theorem ggX2_tradeSide_X2_tradeRows : GoodIn wsX2_tradeSide wsX2_tradeRows := goodIn_r _ [64, 4, 65, 66, 67, 3, 68, 69, 70, 71, 72, 73, 74, 18, 75, 52, 27, 50, 76, 77, 78, 79, 80, 81, 82, 83, 84, 12, 13, 14, 85, 86, 87, 88, 89, 90, 91, 104, 105, 106, 107, 108, 109, 110, 111, 112, 113, 114, 115, 119, 120, 121, 122, 123, 124, 125, 126, 131, 132, 133, 134, 135, 136, 127, 128, 129, 130, 137, 138, 139, 140, 141, 142, 143] (by decide +kernel) (by decide +kernel)
set_option maxRecDepth 20000 in
theorem gX2_tradeSide_X2_tradeRows : GoodIn wsX2_tradeSide (wsV RX2 169 RX2 yX2_tradeRows wsX2_tradeRows) := goodIn_app (goodIn_of _ (by decide +kernel)) ggX2_tradeSide_X2_tradeRows
set_option maxRecDepth 20000 in
theorem ggX2_tradeSide_X5_deal : GoodIn wsX2_tradeSide wsX5_deal := goodIn_r _ [95, 37, 96, 58, 59, 97, 12, 13, 14, 98, 99, 100, 101, 35, 102, 119, 120, 121, 122, 123, 124, 125, 126] (by decide +kernel) (by decide +kernel)
set_option maxRecDepth 20000 in
theorem gX2_tradeSide_X5_deal : GoodIn wsX2_tradeSide (wsV RX2 159 RX5 yX5_deal wsX5_deal) := goodIn_app (goodIn_of _ (by decide +kernel)) ggX2_tradeSide_X5_deal
set_option maxRecDepth 20000 in
theorem ggX2_tradeSide_X0_nextPrice : GoodIn wsX2_tradeSide wsX0_nextPrice := goodIn_r _ [24, 25, 26, 27, 28, 29, 30, 31, 127, 128, 129, 130, 131, 132, 133, 134, 135, 136] (by decide +kernel) (by decide +kernel)
set_option maxRecDepth 20000 in
theorem gX2_tradeSide_X0_nextPrice : GoodIn wsX2_tradeSide (wsV RX2 213 RX0 yX0_nextPrice wsX0_nextPrice) := goodIn_app (goodIn_of _ (by decide +kernel)) ggX2_tradeSide_X0_nextPrice
theorem dX2_tradeSide_0 : decode cX2_tradeSide 0 = .ok (.aload_n 0, 1) := by decide +kernel
theorem dX2_tradeSide_1 : decode cX2_tradeSide 1 = .ok (.getfield 35, 3) := by decide +kernel
theorem dX2_tradeSide_4 : decode cX2_tradeSide 4 = .ok (.getfield 204, 3) := by decide +kernel
theorem dX2_tradeSide_7 : decode cX2_tradeSide 7 = .ok (.istore_n 2, 1) := by decide +kernel
theorem dX2_tradeSide_8 : decode cX2_tradeSide 8 = .ok (.aload_n 0, 1) := by decide +kernel
theorem dX2_tradeSide_9 : decode cX2_tradeSide 9 = .ok (.getfield 12, 3) := by decide +kernel
theorem dX2_tradeSide_12 : decode cX2_tradeSide 12 = .ok (.iload_n 1, 1) := by decide +kernel
theorem dX2_tradeSide_13 : decode cX2_tradeSide 13 = .ok (.invokevirtual 97, 3) := by decide +kernel
theorem dX2_tradeSide_16 : decode cX2_tradeSide 16 = .ok (.istore_n 3, 1) := by decide +kernel
theorem dX2_tradeSide_17 : decode cX2_tradeSide 17 = .ok (.iconst 0, 1) := by decide +kernel
theorem dX2_tradeSide_18 : decode cX2_tradeSide 18 = .ok (.istore 4, 2) := by decide +kernel
theorem dX2_tradeSide_20 : decode cX2_tradeSide 20 = .ok (.iload 4, 2) := by decide +kernel
theorem dX2_tradeSide_22 : decode cX2_tradeSide 22 = .ok (.bipush 60, 2) := by decide +kernel
theorem dX2_tradeSide_24 : decode cX2_tradeSide 24 = .ok (.if_icmp .ge 140, 3) := by decide +kernel
theorem dX2_tradeSide_27 : decode cX2_tradeSide 27 = .ok (.iload_n 2, 1) := by decide +kernel
theorem dX2_tradeSide_28 : decode cX2_tradeSide 28 = .ok (.ifCond .le 136, 3) := by decide +kernel
theorem dX2_tradeSide_31 : decode cX2_tradeSide 31 = .ok (.iload_n 3, 1) := by decide +kernel
theorem dX2_tradeSide_32 : decode cX2_tradeSide 32 = .ok (.ifCond .le 132, 3) := by decide +kernel
theorem dX2_tradeSide_35 : decode cX2_tradeSide 35 = .ok (.aload_n 0, 1) := by decide +kernel
theorem dX2_tradeSide_36 : decode cX2_tradeSide 36 = .ok (.getfield 28, 3) := by decide +kernel
theorem dX2_tradeSide_39 : decode cX2_tradeSide 39 = .ok (.aload_n 0, 1) := by decide +kernel
theorem dX2_tradeSide_40 : decode cX2_tradeSide 40 = .ok (.getfield 12, 3) := by decide +kernel
theorem dX2_tradeSide_43 : decode cX2_tradeSide 43 = .ok (.iload_n 1, 1) := by decide +kernel
theorem dX2_tradeSide_44 : decode cX2_tradeSide 44 = .ok (.iload_n 3, 1) := by decide +kernel
theorem dX2_tradeSide_45 : decode cX2_tradeSide 45 = .ok (.invokevirtual 152, 3) := by decide +kernel
theorem dX2_tradeSide_48 : decode cX2_tradeSide 48 = .ok (.aload_n 0, 1) := by decide +kernel
theorem dX2_tradeSide_49 : decode cX2_tradeSide 49 = .ok (.getfield 28, 3) := by decide +kernel
theorem dX2_tradeSide_52 : decode cX2_tradeSide 52 = .ok (.getfield 156, 3) := by decide +kernel
theorem dX2_tradeSide_55 : decode cX2_tradeSide 55 = .ok (.iload_n 2, 1) := by decide +kernel
theorem dX2_tradeSide_56 : decode cX2_tradeSide 56 = .ok (.if_icmp .gt 26, 3) := by decide +kernel
theorem dX2_tradeSide_59 : decode cX2_tradeSide 59 = .ok (.aload_n 0, 1) := by decide +kernel
theorem dX2_tradeSide_60 : decode cX2_tradeSide 60 = .ok (.aload_n 0, 1) := by decide +kernel
theorem dX2_tradeSide_61 : decode cX2_tradeSide 61 = .ok (.getfield 28, 3) := by decide +kernel
theorem dX2_tradeSide_64 : decode cX2_tradeSide 64 = .ok (.getfield 210, 3) := by decide +kernel
theorem dX2_tradeSide_67 : decode cX2_tradeSide 67 = .ok (.iconst 0, 1) := by decide +kernel
theorem dX2_tradeSide_68 : decode cX2_tradeSide 68 = .ok (.aload_n 0, 1) := by decide +kernel
theorem dX2_tradeSide_69 : decode cX2_tradeSide 69 = .ok (.getfield 35, 3) := by decide +kernel
theorem dX2_tradeSide_72 : decode cX2_tradeSide 72 = .ok (.getfield 212, 3) := by decide +kernel
theorem dX2_tradeSide_75 : decode cX2_tradeSide 75 = .ok (.iconst 3, 1) := by decide +kernel
theorem dX2_tradeSide_76 : decode cX2_tradeSide 76 = .ok (.invokevirtual 169, 3) := by decide +kernel
theorem dX2_tradeSide_79 : decode cX2_tradeSide 79 = .ok (.goto 55, 3) := by decide +kernel
theorem dX2_tradeSide_82 : decode cX2_tradeSide 82 = .ok (.aload_n 0, 1) := by decide +kernel
theorem dX2_tradeSide_83 : decode cX2_tradeSide 83 = .ok (.getfield 28, 3) := by decide +kernel
theorem dX2_tradeSide_86 : decode cX2_tradeSide 86 = .ok (.iload_n 2, 1) := by decide +kernel
theorem dX2_tradeSide_87 : decode cX2_tradeSide 87 = .ok (.aload_n 0, 1) := by decide +kernel
theorem dX2_tradeSide_88 : decode cX2_tradeSide 88 = .ok (.getfield 50, 3) := by decide +kernel
theorem dX2_tradeSide_91 : decode cX2_tradeSide 91 = .ok (.invokevirtual 159, 3) := by decide +kernel
theorem dX2_tradeSide_94 : decode cX2_tradeSide 94 = .ok (.aload_n 0, 1) := by decide +kernel
theorem dX2_tradeSide_95 : decode cX2_tradeSide 95 = .ok (.aload_n 0, 1) := by decide +kernel
theorem dX2_tradeSide_96 : decode cX2_tradeSide 96 = .ok (.getfield 28, 3) := by decide +kernel
theorem dX2_tradeSide_99 : decode cX2_tradeSide 99 = .ok (.getfield 173, 3) := by decide +kernel
theorem dX2_tradeSide_102 : decode cX2_tradeSide 102 = .ok (.iconst 0, 1) := by decide +kernel
theorem dX2_tradeSide_103 : decode cX2_tradeSide 103 = .ok (.aload_n 0, 1) := by decide +kernel
theorem dX2_tradeSide_104 : decode cX2_tradeSide 104 = .ok (.getfield 35, 3) := by decide +kernel
theorem dX2_tradeSide_107 : decode cX2_tradeSide 107 = .ok (.getfield 212, 3) := by decide +kernel
theorem dX2_tradeSide_110 : decode cX2_tradeSide 110 = .ok (.iconst 1, 1) := by decide +kernel
theorem dX2_tradeSide_111 : decode cX2_tradeSide 111 = .ok (.invokevirtual 169, 3) := by decide +kernel
theorem dX2_tradeSide_114 : decode cX2_tradeSide 114 = .ok (.aload_n 0, 1) := by decide +kernel
theorem dX2_tradeSide_115 : decode cX2_tradeSide 115 = .ok (.aload_n 0, 1) := by decide +kernel
theorem dX2_tradeSide_116 : decode cX2_tradeSide 116 = .ok (.getfield 28, 3) := by decide +kernel
