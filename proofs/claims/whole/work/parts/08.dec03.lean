theorem dX2_tradeSide_119 : decode cX2_tradeSide 119 = .ok (.getfield 176, 3) := by decide +kernel
theorem dX2_tradeSide_122 : decode cX2_tradeSide 122 = .ok (.iconst 0, 1) := by decide +kernel
theorem dX2_tradeSide_123 : decode cX2_tradeSide 123 = .ok (.aload_n 0, 1) := by decide +kernel
theorem dX2_tradeSide_124 : decode cX2_tradeSide 124 = .ok (.getfield 35, 3) := by decide +kernel
theorem dX2_tradeSide_127 : decode cX2_tradeSide 127 = .ok (.getfield 212, 3) := by decide +kernel
theorem dX2_tradeSide_130 : decode cX2_tradeSide 130 = .ok (.iconst 2, 1) := by decide +kernel
theorem dX2_tradeSide_131 : decode cX2_tradeSide 131 = .ok (.invokevirtual 169, 3) := by decide +kernel
theorem dX2_tradeSide_134 : decode cX2_tradeSide 134 = .ok (.iload_n 2, 1) := by decide +kernel
theorem dX2_tradeSide_135 : decode cX2_tradeSide 135 = .ok (.iload_n 2, 1) := by decide +kernel
theorem dX2_tradeSide_136 : decode cX2_tradeSide 136 = .ok (.aload_n 0, 1) := by decide +kernel
theorem dX2_tradeSide_137 : decode cX2_tradeSide 137 = .ok (.getfield 28, 3) := by decide +kernel
theorem dX2_tradeSide_140 : decode cX2_tradeSide 140 = .ok (.getfield 156, 3) := by decide +kernel
theorem dX2_tradeSide_143 : decode cX2_tradeSide 143 = .ok (.invokestatic 146, 3) := by decide +kernel
theorem dX2_tradeSide_146 : decode cX2_tradeSide 146 = .ok (.isub, 1) := by decide +kernel
theorem dX2_tradeSide_147 : decode cX2_tradeSide 147 = .ok (.istore_n 2, 1) := by decide +kernel
theorem dX2_tradeSide_148 : decode cX2_tradeSide 148 = .ok (.aload_n 0, 1) := by decide +kernel
theorem dX2_tradeSide_149 : decode cX2_tradeSide 149 = .ok (.getfield 12, 3) := by decide +kernel
theorem dX2_tradeSide_152 : decode cX2_tradeSide 152 = .ok (.iload_n 1, 1) := by decide +kernel
theorem dX2_tradeSide_153 : decode cX2_tradeSide 153 = .ok (.iload_n 3, 1) := by decide +kernel
theorem dX2_tradeSide_154 : decode cX2_tradeSide 154 = .ok (.invokevirtual 213, 3) := by decide +kernel
theorem dX2_tradeSide_157 : decode cX2_tradeSide 157 = .ok (.istore_n 3, 1) := by decide +kernel
theorem dX2_tradeSide_158 : decode cX2_tradeSide 158 = .ok (.iinc 4 1, 3) := by decide +kernel
theorem dX2_tradeSide_161 : decode cX2_tradeSide 161 = .ok (.goto (-141), 3) := by decide +kernel
theorem dX2_tradeSide_164 : decode cX2_tradeSide 164 = .ok (.return_, 1) := by decide +kernel
theorem dX3_init_0 : decode cX3_init 0 = .ok (.aload_n 0, 1) := by decide +kernel
theorem dX3_init_1 : decode cX3_init 1 = .ok (.invokespecial 3, 3) := by decide +kernel
theorem dX3_init_4 : decode cX3_init 4 = .ok (.aload_n 0, 1) := by decide +kernel
theorem dX3_init_5 : decode cX3_init 5 = .ok (.bipush 60, 2) := by decide +kernel
theorem dX3_init_7 : decode cX3_init 7 = .ok (.iconst 5, 1) := by decide +kernel
theorem dX3_init_8 : decode cX3_init 8 = .ok (.multianewarray 9 2, 4) := by decide +kernel
theorem dX3_init_12 : decode cX3_init 12 = .ok (.putfield 11, 3) := by decide +kernel
theorem dX3_init_15 : decode cX3_init 15 = .ok (.aload_n 0, 1) := by decide +kernel
theorem dX3_init_16 : decode cX3_init 16 = .ok (.bipush 10, 2) := by decide +kernel
theorem dX3_init_18 : decode cX3_init 18 = .ok (.newarray .int, 2) := by decide +kernel
theorem dX3_init_20 : decode cX3_init 20 = .ok (.putfield 16, 3) := by decide +kernel
theorem dX3_init_23 : decode cX3_init 23 = .ok (.aload_n 0, 1) := by decide +kernel
theorem dX3_init_24 : decode cX3_init 24 = .ok (.bipush 10, 2) := by decide +kernel
theorem dX3_init_26 : decode cX3_init 26 = .ok (.newarray .long, 2) := by decide +kernel
theorem dX3_init_28 : decode cX3_init 28 = .ok (.putfield 20, 3) := by decide +kernel
theorem dX3_init_31 : decode cX3_init 31 = .ok (.return_, 1) := by decide +kernel
theorem dX3_clear_0 : decode cX3_clear 0 = .ok (.aload_n 0, 1) := by decide +kernel
theorem dX3_clear_1 : decode cX3_clear 1 = .ok (.iconst 0, 1) := by decide +kernel
theorem dX3_clear_2 : decode cX3_clear 2 = .ok (.putfield 24, 3) := by decide +kernel
theorem dX3_clear_5 : decode cX3_clear 5 = .ok (.aload_n 0, 1) := by decide +kernel
theorem dX3_clear_6 : decode cX3_clear 6 = .ok (.iconst 0, 1) := by decide +kernel
theorem dX3_clear_7 : decode cX3_clear 7 = .ok (.putfield 28, 3) := by decide +kernel
theorem dX3_clear_10 : decode cX3_clear 10 = .ok (.aload_n 0, 1) := by decide +kernel
theorem dX3_clear_11 : decode cX3_clear 11 = .ok (.iconst 0, 1) := by decide +kernel
theorem dX3_clear_12 : decode cX3_clear 12 = .ok (.putfield 31, 3) := by decide +kernel
theorem dX3_clear_15 : decode cX3_clear 15 = .ok (.aload_n 0, 1) := by decide +kernel
theorem dX3_clear_16 : decode cX3_clear 16 = .ok (.iconst 0, 1) := by decide +kernel
theorem dX3_clear_17 : decode cX3_clear 17 = .ok (.putfield 34, 3) := by decide +kernel
theorem dX3_clear_20 : decode cX3_clear 20 = .ok (.iconst 0, 1) := by decide +kernel
theorem dX3_clear_21 : decode cX3_clear 21 = .ok (.istore_n 1, 1) := by decide +kernel
theorem dX3_clear_22 : decode cX3_clear 22 = .ok (.iload_n 1, 1) := by decide +kernel
theorem dX3_clear_23 : decode cX3_clear 23 = .ok (.bipush 10, 2) := by decide +kernel
theorem dX3_clear_25 : decode cX3_clear 25 = .ok (.if_icmp .ge 23, 3) := by decide +kernel
theorem dX3_clear_28 : decode cX3_clear 28 = .ok (.aload_n 0, 1) := by decide +kernel
theorem dX3_clear_29 : decode cX3_clear 29 = .ok (.getfield 16, 3) := by decide +kernel
theorem dX3_clear_32 : decode cX3_clear 32 = .ok (.iload_n 1, 1) := by decide +kernel
theorem dX3_clear_33 : decode cX3_clear 33 = .ok (.iconst 0, 1) := by decide +kernel
theorem dX3_clear_34 : decode cX3_clear 34 = .ok (.iastore, 1) := by decide +kernel
theorem dX3_clear_35 : decode cX3_clear 35 = .ok (.aload_n 0, 1) := by decide +kernel
theorem dX3_clear_36 : decode cX3_clear 36 = .ok (.getfield 20, 3) := by decide +kernel
theorem dX3_clear_39 : decode cX3_clear 39 = .ok (.iload_n 1, 1) := by decide +kernel
theorem dX3_clear_40 : decode cX3_clear 40 = .ok (.lconst 0, 1) := by decide +kernel
theorem dX3_clear_41 : decode cX3_clear 41 = .ok (.lastore, 1) := by decide +kernel
theorem dX3_clear_42 : decode cX3_clear 42 = .ok (.iinc 1 1, 3) := by decide +kernel
theorem dX3_clear_45 : decode cX3_clear 45 = .ok (.goto (-23), 3) := by decide +kernel
theorem dX3_clear_48 : decode cX3_clear 48 = .ok (.return_, 1) := by decide +kernel
theorem dX3_keep_0 : decode cX3_keep 0 = .ok (.aload_n 0, 1) := by decide +kernel
theorem dX3_keep_1 : decode cX3_keep 1 = .ok (.getfield 11, 3) := by decide +kernel
theorem dX3_keep_4 : decode cX3_keep 4 = .ok (.aload_n 0, 1) := by decide +kernel
theorem dX3_keep_5 : decode cX3_keep 5 = .ok (.getfield 28, 3) := by decide +kernel
theorem dX3_keep_8 : decode cX3_keep 8 = .ok (.aaload, 1) := by decide +kernel
theorem dX3_keep_9 : decode cX3_keep 9 = .ok (.astore 6, 2) := by decide +kernel
theorem dX3_keep_11 : decode cX3_keep 11 = .ok (.aload 6, 2) := by decide +kernel
theorem dX3_keep_13 : decode cX3_keep 13 = .ok (.iconst 0, 1) := by decide +kernel
theorem dX3_keep_14 : decode cX3_keep 14 = .ok (.iload_n 1, 1) := by decide +kernel
theorem dX3_keep_15 : decode cX3_keep 15 = .ok (.iastore, 1) := by decide +kernel
theorem dX3_keep_16 : decode cX3_keep 16 = .ok (.aload 6, 2) := by decide +kernel
theorem dX3_keep_18 : decode cX3_keep 18 = .ok (.iconst 1, 1) := by decide +kernel
theorem dX3_keep_19 : decode cX3_keep 19 = .ok (.iload_n 2, 1) := by decide +kernel
theorem dX3_keep_20 : decode cX3_keep 20 = .ok (.iastore, 1) := by decide +kernel
theorem dX3_keep_21 : decode cX3_keep 21 = .ok (.aload 6, 2) := by decide +kernel
theorem dX3_keep_23 : decode cX3_keep 23 = .ok (.iconst 2, 1) := by decide +kernel
theorem dX3_keep_24 : decode cX3_keep 24 = .ok (.iload_n 3, 1) := by decide +kernel
theorem dX3_keep_25 : decode cX3_keep 25 = .ok (.iastore, 1) := by decide +kernel
theorem dX3_keep_26 : decode cX3_keep 26 = .ok (.aload 6, 2) := by decide +kernel
theorem dX3_keep_28 : decode cX3_keep 28 = .ok (.iconst 3, 1) := by decide +kernel
theorem dX3_keep_29 : decode cX3_keep 29 = .ok (.iload 4, 2) := by decide +kernel
theorem dX3_keep_31 : decode cX3_keep 31 = .ok (.iastore, 1) := by decide +kernel
theorem dX3_keep_32 : decode cX3_keep 32 = .ok (.aload 6, 2) := by decide +kernel
theorem dX3_keep_34 : decode cX3_keep 34 = .ok (.iconst 4, 1) := by decide +kernel
theorem dX3_keep_35 : decode cX3_keep 35 = .ok (.iload 5, 2) := by decide +kernel
theorem dX3_keep_37 : decode cX3_keep 37 = .ok (.iastore, 1) := by decide +kernel
theorem dX3_keep_38 : decode cX3_keep 38 = .ok (.aload_n 0, 1) := by decide +kernel
theorem dX3_keep_39 : decode cX3_keep 39 = .ok (.aload_n 0, 1) := by decide +kernel
theorem dX3_keep_40 : decode cX3_keep 40 = .ok (.getfield 28, 3) := by decide +kernel
theorem dX3_keep_43 : decode cX3_keep 43 = .ok (.iconst 1, 1) := by decide +kernel
theorem dX3_keep_44 : decode cX3_keep 44 = .ok (.iadd, 1) := by decide +kernel
theorem dX3_keep_45 : decode cX3_keep 45 = .ok (.bipush 60, 2) := by decide +kernel
theorem dX3_keep_47 : decode cX3_keep 47 = .ok (.irem, 1) := by decide +kernel
theorem dX3_keep_48 : decode cX3_keep 48 = .ok (.putfield 28, 3) := by decide +kernel
theorem dX3_keep_51 : decode cX3_keep 51 = .ok (.aload_n 0, 1) := by decide +kernel
theorem dX3_keep_52 : decode cX3_keep 52 = .ok (.aload_n 0, 1) := by decide +kernel
theorem dX3_keep_53 : decode cX3_keep 53 = .ok (.getfield 24, 3) := by decide +kernel
theorem dX3_keep_56 : decode cX3_keep 56 = .ok (.iconst 1, 1) := by decide +kernel
theorem dX3_keep_57 : decode cX3_keep 57 = .ok (.iadd, 1) := by decide +kernel
theorem dX3_keep_58 : decode cX3_keep 58 = .ok (.bipush 60, 2) := by decide +kernel
theorem dX3_keep_60 : decode cX3_keep 60 = .ok (.invokestatic 37, 3) := by decide +kernel
theorem dX3_keep_63 : decode cX3_keep 63 = .ok (.putfield 24, 3) := by decide +kernel
theorem dX3_keep_66 : decode cX3_keep 66 = .ok (.aload_n 0, 1) := by decide +kernel
theorem dX3_keep_67 : decode cX3_keep 67 = .ok (.iload_n 3, 1) := by decide +kernel
theorem dX3_keep_68 : decode cX3_keep 68 = .ok (.putfield 31, 3) := by decide +kernel
theorem dX3_keep_71 : decode cX3_keep 71 = .ok (.return_, 1) := by decide +kernel
theorem dX3_enter_0 : decode cX3_enter 0 = .ok (.iload_n 2, 1) := by decide +kernel
theorem dX3_enter_1 : decode cX3_enter 1 = .ok (.ifCond .ne 8, 3) := by decide +kernel
theorem dX3_enter_4 : decode cX3_enter 4 = .ok (.iload 4, 2) := by decide +kernel
theorem dX3_enter_6 : decode cX3_enter 6 = .ok (.goto 6, 3) := by decide +kernel
theorem dX3_enter_9 : decode cX3_enter 9 = .ok (.iload 4, 2) := by decide +kernel
theorem dX3_enter_11 : decode cX3_enter 11 = .ok (.ineg, 1) := by decide +kernel
theorem dX3_enter_12 : decode cX3_enter 12 = .ok (.istore 5, 2) := by decide +kernel
theorem dX3_enter_14 : decode cX3_enter 14 = .ok (.aload_n 0, 1) := by decide +kernel
theorem dX3_enter_15 : decode cX3_enter 15 = .ok (.getfield 16, 3) := by decide +kernel
theorem dX3_enter_18 : decode cX3_enter 18 = .ok (.iload_n 1, 1) := by decide +kernel
theorem dX3_enter_19 : decode cX3_enter 19 = .ok (.dup2, 1) := by decide +kernel
theorem dX3_enter_20 : decode cX3_enter 20 = .ok (.iaload, 1) := by decide +kernel
theorem dX3_enter_21 : decode cX3_enter 21 = .ok (.iload 5, 2) := by decide +kernel
theorem dX3_enter_23 : decode cX3_enter 23 = .ok (.iadd, 1) := by decide +kernel
theorem dX3_enter_24 : decode cX3_enter 24 = .ok (.iastore, 1) := by decide +kernel
theorem dX3_enter_25 : decode cX3_enter 25 = .ok (.aload_n 0, 1) := by decide +kernel
theorem dX3_enter_26 : decode cX3_enter 26 = .ok (.getfield 20, 3) := by decide +kernel
theorem dX3_enter_29 : decode cX3_enter 29 = .ok (.iload_n 1, 1) := by decide +kernel
theorem dX3_enter_30 : decode cX3_enter 30 = .ok (.dup2, 1) := by decide +kernel
theorem dX3_enter_31 : decode cX3_enter 31 = .ok (.laload, 1) := by decide +kernel
theorem dX3_enter_32 : decode cX3_enter 32 = .ok (.iload_n 3, 1) := by decide +kernel
theorem dX3_enter_33 : decode cX3_enter 33 = .ok (.i2l, 1) := by decide +kernel
theorem dX3_enter_34 : decode cX3_enter 34 = .ok (.iload 5, 2) := by decide +kernel
theorem dX3_enter_36 : decode cX3_enter 36 = .ok (.i2l, 1) := by decide +kernel
theorem dX3_enter_37 : decode cX3_enter 37 = .ok (.lmul, 1) := by decide +kernel
theorem dX3_enter_38 : decode cX3_enter 38 = .ok (.lsub, 1) := by decide +kernel
theorem dX3_enter_39 : decode cX3_enter 39 = .ok (.lastore, 1) := by decide +kernel
theorem dX3_enter_40 : decode cX3_enter 40 = .ok (.return_, 1) := by decide +kernel
set_option maxRecDepth 20000 in
theorem ggX3_told_J9_floorMod_7cf53 : GoodIn wsX3_told wsJ9_floorMod_7cf53 := goodIn_r _ [6] (by decide +kernel) (by decide +kernel)
set_option maxRecDepth 20000 in
theorem gX3_told_J9_floorMod_7cf53 : GoodIn wsX3_told (va_wsS RX3 43 yJ9_floorMod_7cf53 wsJ9_floorMod_7cf53) := goodIn_app (goodIn_of _ (by decide +kernel)) ggX3_told_J9_floorMod_7cf53
theorem dX3_told_0 : decode cX3_told 0 = .ok (.aload_n 0, 1) := by decide +kernel
theorem dX3_told_1 : decode cX3_told 1 = .ok (.getfield 11, 3) := by decide +kernel
theorem dX3_told_4 : decode cX3_told 4 = .ok (.aload_n 0, 1) := by decide +kernel
theorem dX3_told_5 : decode cX3_told 5 = .ok (.getfield 28, 3) := by decide +kernel
theorem dX3_told_8 : decode cX3_told 8 = .ok (.iconst 1, 1) := by decide +kernel
theorem dX3_told_9 : decode cX3_told 9 = .ok (.isub, 1) := by decide +kernel
theorem dX3_told_10 : decode cX3_told 10 = .ok (.iload_n 1, 1) := by decide +kernel
theorem dX3_told_11 : decode cX3_told 11 = .ok (.isub, 1) := by decide +kernel
theorem dX3_told_12 : decode cX3_told 12 = .ok (.bipush 60, 2) := by decide +kernel
theorem dX3_told_14 : decode cX3_told 14 = .ok (.invokestatic 43, 3) := by decide +kernel
theorem dX3_told_17 : decode cX3_told 17 = .ok (.aaload, 1) := by decide +kernel
theorem dX3_told_18 : decode cX3_told 18 = .ok (.iload_n 2, 1) := by decide +kernel
theorem dX3_told_19 : decode cX3_told 19 = .ok (.iaload, 1) := by decide +kernel
theorem dX3_told_20 : decode cX3_told 20 = .ok (.ireturn, 1) := by decide +kernel
theorem dX4_init_0 : decode cX4_init 0 = .ok (.aload_n 0, 1) := by decide +kernel
theorem dX4_init_1 : decode cX4_init 1 = .ok (.invokespecial 1, 3) := by decide +kernel
theorem dX4_init_4 : decode cX4_init 4 = .ok (.return_, 1) := by decide +kernel
theorem dX4_become_0 : decode cX4_become 0 = .ok (.aload_n 0, 1) := by decide +kernel
theorem dX4_become_1 : decode cX4_become 1 = .ok (.iload_n 1, 1) := by decide +kernel
theorem dX4_become_2 : decode cX4_become 2 = .ok (.putfield 7, 3) := by decide +kernel
theorem dX4_become_5 : decode cX4_become 5 = .ok (.aload_n 0, 1) := by decide +kernel
theorem dX4_become_6 : decode cX4_become 6 = .ok (.iload_n 2, 1) := by decide +kernel
theorem dX4_become_7 : decode cX4_become 7 = .ok (.putfield 13, 3) := by decide +kernel
theorem dX4_become_10 : decode cX4_become 10 = .ok (.aload_n 0, 1) := by decide +kernel
theorem dX4_become_11 : decode cX4_become 11 = .ok (.iload_n 3, 1) := by decide +kernel
theorem dX4_become_12 : decode cX4_become 12 = .ok (.putfield 16, 3) := by decide +kernel
theorem dX4_become_15 : decode cX4_become 15 = .ok (.aload_n 0, 1) := by decide +kernel
theorem dX4_become_16 : decode cX4_become 16 = .ok (.iload 4, 2) := by decide +kernel
theorem dX4_become_18 : decode cX4_become 18 = .ok (.putfield 19, 3) := by decide +kernel
theorem dX4_become_21 : decode cX4_become 21 = .ok (.aload_n 0, 1) := by decide +kernel
theorem dX4_become_22 : decode cX4_become 22 = .ok (.iload 5, 2) := by decide +kernel
theorem dX4_become_24 : decode cX4_become 24 = .ok (.putfield 22, 3) := by decide +kernel
theorem dX4_become_27 : decode cX4_become 27 = .ok (.aload_n 0, 1) := by decide +kernel
theorem dX4_become_28 : decode cX4_become 28 = .ok (.iload 5, 2) := by decide +kernel
theorem dX4_become_30 : decode cX4_become 30 = .ok (.putfield 25, 3) := by decide +kernel
theorem dX4_become_33 : decode cX4_become 33 = .ok (.return_, 1) := by decide +kernel
set_option maxRecDepth 20000 in
theorem ggX4_copyFrom_X4_become : GoodIn wsX4_copyFrom wsX4_become := goodIn_r _ [11, 1, 2, 3, 4, 5, 6, 12, 13, 14, 15, 16, 17] (by decide +kernel) (by decide +kernel)
set_option maxRecDepth 20000 in
theorem gX4_copyFrom_X4_become : GoodIn wsX4_copyFrom (wsV RX4 28 RX4 yX4_become wsX4_become) := goodIn_app (goodIn_of _ (by decide +kernel)) ggX4_copyFrom_X4_become
theorem dX4_copyFrom_0 : decode cX4_copyFrom 0 = .ok (.aload_n 0, 1) := by decide +kernel
theorem dX4_copyFrom_1 : decode cX4_copyFrom 1 = .ok (.aload_n 1, 1) := by decide +kernel
theorem dX4_copyFrom_2 : decode cX4_copyFrom 2 = .ok (.getfield 7, 3) := by decide +kernel
theorem dX4_copyFrom_5 : decode cX4_copyFrom 5 = .ok (.aload_n 1, 1) := by decide +kernel
theorem dX4_copyFrom_6 : decode cX4_copyFrom 6 = .ok (.getfield 13, 3) := by decide +kernel
theorem dX4_copyFrom_9 : decode cX4_copyFrom 9 = .ok (.aload_n 1, 1) := by decide +kernel
theorem dX4_copyFrom_10 : decode cX4_copyFrom 10 = .ok (.getfield 16, 3) := by decide +kernel
theorem dX4_copyFrom_13 : decode cX4_copyFrom 13 = .ok (.aload_n 1, 1) := by decide +kernel
theorem dX4_copyFrom_14 : decode cX4_copyFrom 14 = .ok (.getfield 19, 3) := by decide +kernel
theorem dX4_copyFrom_17 : decode cX4_copyFrom 17 = .ok (.aload_n 1, 1) := by decide +kernel
theorem dX4_copyFrom_18 : decode cX4_copyFrom 18 = .ok (.getfield 22, 3) := by decide +kernel
theorem dX4_copyFrom_21 : decode cX4_copyFrom 21 = .ok (.invokevirtual 28, 3) := by decide +kernel
theorem dX4_copyFrom_24 : decode cX4_copyFrom 24 = .ok (.aload_n 0, 1) := by decide +kernel
theorem dX4_copyFrom_25 : decode cX4_copyFrom 25 = .ok (.aload_n 1, 1) := by decide +kernel
theorem dX4_copyFrom_26 : decode cX4_copyFrom 26 = .ok (.getfield 25, 3) := by decide +kernel
theorem dX4_copyFrom_29 : decode cX4_copyFrom 29 = .ok (.putfield 25, 3) := by decide +kernel
theorem dX4_copyFrom_32 : decode cX4_copyFrom 32 = .ok (.return_, 1) := by decide +kernel
theorem dX5_init_0 : decode cX5_init 0 = .ok (.aload_n 0, 1) := by decide +kernel
theorem dX5_init_1 : decode cX5_init 1 = .ok (.invokespecial 3, 3) := by decide +kernel
theorem dX5_init_4 : decode cX5_init 4 = .ok (.aload_n 0, 1) := by decide +kernel
theorem dX5_init_5 : decode cX5_init 5 = .ok (.bipush 68, 2) := by decide +kernel
theorem dX5_init_7 : decode cX5_init 7 = .ok (.anewarray 11, 3) := by decide +kernel
theorem dX5_init_10 : decode cX5_init 10 = .ok (.putfield 13, 3) := by decide +kernel
theorem dX5_init_13 : decode cX5_init 13 = .ok (.aload_n 0, 1) := by decide +kernel
theorem dX5_init_14 : decode cX5_init 14 = .ok (.bipush 68, 2) := by decide +kernel
theorem dX5_init_16 : decode cX5_init 16 = .ok (.newarray .int, 2) := by decide +kernel
theorem dX5_init_18 : decode cX5_init 18 = .ok (.putfield 17, 3) := by decide +kernel
theorem dX5_init_21 : decode cX5_init 21 = .ok (.aload_n 0, 1) := by decide +kernel
theorem dX5_init_22 : decode cX5_init 22 = .ok (.bipush 68, 2) := by decide +kernel
theorem dX5_init_24 : decode cX5_init 24 = .ok (.newarray .int, 2) := by decide +kernel
theorem dX5_init_26 : decode cX5_init 26 = .ok (.putfield 21, 3) := by decide +kernel
theorem dX5_init_29 : decode cX5_init 29 = .ok (.aload_n 0, 1) := by decide +kernel
theorem dX5_init_30 : decode cX5_init 30 = .ok (.bipush 68, 2) := by decide +kernel
theorem dX5_init_32 : decode cX5_init 32 = .ok (.newarray .int, 2) := by decide +kernel
theorem dX5_init_34 : decode cX5_init 34 = .ok (.putfield 24, 3) := by decide +kernel
theorem dX5_init_37 : decode cX5_init 37 = .ok (.aload_n 0, 1) := by decide +kernel
theorem dX5_init_38 : decode cX5_init 38 = .ok (.bipush 68, 2) := by decide +kernel
theorem dX5_init_40 : decode cX5_init 40 = .ok (.newarray .int, 2) := by decide +kernel
theorem dX5_init_42 : decode cX5_init 42 = .ok (.putfield 27, 3) := by decide +kernel
theorem dX5_init_45 : decode cX5_init 45 = .ok (.aload_n 0, 1) := by decide +kernel
theorem dX5_init_46 : decode cX5_init 46 = .ok (.bipush 68, 2) := by decide +kernel
theorem dX5_init_48 : decode cX5_init 48 = .ok (.newarray .int, 2) := by decide +kernel
theorem dX5_init_50 : decode cX5_init 50 = .ok (.putfield 30, 3) := by decide +kernel
theorem dX5_init_53 : decode cX5_init 53 = .ok (.return_, 1) := by decide +kernel
set_option maxRecDepth 20000 in
theorem ggX5_load_X0_isAt : GoodIn wsX5_load wsX0_isAt := goodIn_r _ [10, 11, 12, 13, 37, 38, 39, 40, 41, 42, 43, 44, 45, 46] (by decide +kernel) (by decide +kernel)
set_option maxRecDepth 20000 in
theorem gX5_load_X0_isAt : GoodIn wsX5_load (wsV RX5 45 RX0 yX0_isAt wsX0_isAt) := goodIn_app (goodIn_of _ (by decide +kernel)) ggX5_load_X0_isAt
set_option maxRecDepth 20000 in
theorem ggX5_load_X0_grantOf : GoodIn wsX5_load wsX0_grantOf := goodIn_r _ [17, 18, 12, 19, 20, 37, 38, 39, 40, 41, 42, 43, 44, 45, 46] (by decide +kernel) (by decide +kernel)
set_option maxRecDepth 20000 in
theorem gX5_load_X0_grantOf : GoodIn wsX5_load (wsV RX5 53 RX0 yX0_grantOf wsX0_grantOf) := goodIn_app (goodIn_of _ (by decide +kernel)) ggX5_load_X0_grantOf
set_option maxRecDepth 20000 in
theorem ggX5_load_X5_put : GoodIn wsX5_load wsX5_put := goodIn_r _ [25, 1, 26, 27, 28, 2, 29, 30, 31, 32, 33, 34, 35, 36] (by decide +kernel) (by decide +kernel)
set_option maxRecDepth 20000 in
theorem gX5_load_X5_put : GoodIn wsX5_load (wsV RX5 57 RX5 yX5_put wsX5_put) := goodIn_app (goodIn_of _ (by decide +kernel)) ggX5_load_X5_put
theorem dX5_load_0 : decode cX5_load 0 = .ok (.aload_n 0, 1) := by decide +kernel
theorem dX5_load_1 : decode cX5_load 1 = .ok (.iconst 0, 1) := by decide +kernel
theorem dX5_load_2 : decode cX5_load 2 = .ok (.putfield 33, 3) := by decide +kernel
theorem dX5_load_5 : decode cX5_load 5 = .ok (.aload_n 0, 1) := by decide +kernel
theorem dX5_load_6 : decode cX5_load 6 = .ok (.iconst 0, 1) := by decide +kernel
theorem dX5_load_7 : decode cX5_load 7 = .ok (.putfield 37, 3) := by decide +kernel
theorem dX5_load_10 : decode cX5_load 10 = .ok (.iconst 0, 1) := by decide +kernel
theorem dX5_load_11 : decode cX5_load 11 = .ok (.istore 4, 2) := by decide +kernel
theorem dX5_load_13 : decode cX5_load 13 = .ok (.iload 4, 2) := by decide +kernel
theorem dX5_load_15 : decode cX5_load 15 = .ok (.aload_n 1, 1) := by decide +kernel
theorem dX5_load_16 : decode cX5_load 16 = .ok (.getfield 40, 3) := by decide +kernel
theorem dX5_load_19 : decode cX5_load 19 = .ok (.if_icmp .ge 46, 3) := by decide +kernel
theorem dX5_load_22 : decode cX5_load 22 = .ok (.aload_n 1, 1) := by decide +kernel
theorem dX5_load_23 : decode cX5_load 23 = .ok (.iload 4, 2) := by decide +kernel
theorem dX5_load_25 : decode cX5_load 25 = .ok (.iload_n 2, 1) := by decide +kernel
theorem dX5_load_26 : decode cX5_load 26 = .ok (.iload_n 3, 1) := by decide +kernel
theorem dX5_load_27 : decode cX5_load 27 = .ok (.invokevirtual 45, 3) := by decide +kernel
theorem dX5_load_30 : decode cX5_load 30 = .ok (.ifCond .eq 29, 3) := by decide +kernel
theorem dX5_load_33 : decode cX5_load 33 = .ok (.aload_n 1, 1) := by decide +kernel
theorem dX5_load_34 : decode cX5_load 34 = .ok (.getfield 49, 3) := by decide +kernel
theorem dX5_load_37 : decode cX5_load 37 = .ok (.iload 4, 2) := by decide +kernel
theorem dX5_load_39 : decode cX5_load 39 = .ok (.aaload, 1) := by decide +kernel
theorem dX5_load_40 : decode cX5_load 40 = .ok (.astore 5, 2) := by decide +kernel
theorem dX5_load_42 : decode cX5_load 42 = .ok (.aload_n 0, 1) := by decide +kernel
theorem dX5_load_43 : decode cX5_load 43 = .ok (.aload 5, 2) := by decide +kernel
theorem dX5_load_45 : decode cX5_load 45 = .ok (.aload 5, 2) := by decide +kernel
theorem dX5_load_47 : decode cX5_load 47 = .ok (.getfield 51, 3) := by decide +kernel
theorem dX5_load_50 : decode cX5_load 50 = .ok (.aload_n 1, 1) := by decide +kernel
theorem dX5_load_51 : decode cX5_load 51 = .ok (.aload 5, 2) := by decide +kernel
theorem dX5_load_53 : decode cX5_load 53 = .ok (.invokevirtual 53, 3) := by decide +kernel
theorem dX5_load_56 : decode cX5_load 56 = .ok (.invokevirtual 57, 3) := by decide +kernel
theorem dX5_load_59 : decode cX5_load 59 = .ok (.iinc 4 1, 3) := by decide +kernel
theorem dX5_load_62 : decode cX5_load 62 = .ok (.goto (-49), 3) := by decide +kernel
theorem dX5_load_65 : decode cX5_load 65 = .ok (.return_, 1) := by decide +kernel
set_option maxRecDepth 20000 in
theorem ggX5_loadInParts_X5_putParts : GoodIn wsX5_loadInParts wsX5_putParts := goodIn_r _ [12, 7, 13, 14, 15, 11, 16, 1, 17, 18, 19, 2, 47, 48, 49, 50, 51, 52, 35, 36, 37, 38, 39, 40, 41, 42] (by decide +kernel) (by decide +kernel)
set_option maxRecDepth 20000 in
theorem gX5_loadInParts_X5_putParts : GoodIn wsX5_loadInParts (wsV RX5 61 RX5 yX5_putParts wsX5_putParts) := goodIn_app (goodIn_of _ (by decide +kernel)) ggX5_loadInParts_X5_putParts
set_option maxRecDepth 20000 in
theorem ggX5_loadInParts_X0_isAt : GoodIn wsX5_loadInParts wsX0_isAt := goodIn_r _ [24, 25, 26, 27, 43, 44, 45, 46, 47, 48, 49, 50, 51, 52] (by decide +kernel) (by decide +kernel)
set_option maxRecDepth 20000 in
theorem gX5_loadInParts_X0_isAt : GoodIn wsX5_loadInParts (wsV RX5 45 RX0 yX0_isAt wsX0_isAt) := goodIn_app (goodIn_of _ (by decide +kernel)) ggX5_loadInParts_X0_isAt
set_option maxRecDepth 20000 in
theorem ggX5_loadInParts_X0_grantOf : GoodIn wsX5_loadInParts wsX0_grantOf := goodIn_r _ [31, 32, 26, 33, 34, 43, 44, 45, 46, 47, 48, 49, 50, 51, 52] (by decide +kernel) (by decide +kernel)
set_option maxRecDepth 20000 in
theorem gX5_loadInParts_X0_grantOf : GoodIn wsX5_loadInParts (wsV RX5 53 RX0 yX0_grantOf wsX0_grantOf) := goodIn_app (goodIn_of _ (by decide +kernel)) ggX5_loadInParts_X0_grantOf
set_option maxRecDepth 20000 in
theorem ggX5_loadInParts_X5_put : GoodIn wsX5_loadInParts wsX5_put := goodIn_r _ [16, 1, 17, 18, 19, 2, 35, 36, 37, 38, 39, 40, 41, 42] (by decide +kernel) (by decide +kernel)
set_option maxRecDepth 20000 in
theorem gX5_loadInParts_X5_put : GoodIn wsX5_loadInParts (wsV RX5 57 RX5 yX5_put wsX5_put) := goodIn_app (goodIn_of _ (by decide +kernel)) ggX5_loadInParts_X5_put
theorem dX5_loadInParts_0 : decode cX5_loadInParts 0 = .ok (.aload_n 0, 1) := by decide +kernel
theorem dX5_loadInParts_1 : decode cX5_loadInParts 1 = .ok (.iconst 0, 1) := by decide +kernel
theorem dX5_loadInParts_2 : decode cX5_loadInParts 2 = .ok (.putfield 33, 3) := by decide +kernel
theorem dX5_loadInParts_5 : decode cX5_loadInParts 5 = .ok (.aload_n 0, 1) := by decide +kernel
theorem dX5_loadInParts_6 : decode cX5_loadInParts 6 = .ok (.iconst 0, 1) := by decide +kernel
theorem dX5_loadInParts_7 : decode cX5_loadInParts 7 = .ok (.putfield 37, 3) := by decide +kernel
theorem dX5_loadInParts_10 : decode cX5_loadInParts 10 = .ok (.iconst 0, 1) := by decide +kernel
theorem dX5_loadInParts_11 : decode cX5_loadInParts 11 = .ok (.istore 4, 2) := by decide +kernel
theorem dX5_loadInParts_13 : decode cX5_loadInParts 13 = .ok (.iload 4, 2) := by decide +kernel
theorem dX5_loadInParts_15 : decode cX5_loadInParts 15 = .ok (.aload_n 1, 1) := by decide +kernel
theorem dX5_loadInParts_16 : decode cX5_loadInParts 16 = .ok (.getfield 40, 3) := by decide +kernel
theorem dX5_loadInParts_19 : decode cX5_loadInParts 19 = .ok (.if_icmp .ge 68, 3) := by decide +kernel
theorem dX5_loadInParts_22 : decode cX5_loadInParts 22 = .ok (.aload_n 1, 1) := by decide +kernel
theorem dX5_loadInParts_23 : decode cX5_loadInParts 23 = .ok (.getfield 49, 3) := by decide +kernel
theorem dX5_loadInParts_26 : decode cX5_loadInParts 26 = .ok (.iload 4, 2) := by decide +kernel
theorem dX5_loadInParts_28 : decode cX5_loadInParts 28 = .ok (.aaload, 1) := by decide +kernel
theorem dX5_loadInParts_29 : decode cX5_loadInParts 29 = .ok (.astore 5, 2) := by decide +kernel
theorem dX5_loadInParts_31 : decode cX5_loadInParts 31 = .ok (.aload 5, 2) := by decide +kernel
theorem dX5_loadInParts_33 : decode cX5_loadInParts 33 = .ok (.aload_n 2, 1) := by decide +kernel
theorem dX5_loadInParts_34 : decode cX5_loadInParts 34 = .ok (.if_acmp .ne 13, 3) := by decide +kernel
theorem dX5_loadInParts_37 : decode cX5_loadInParts 37 = .ok (.aload_n 0, 1) := by decide +kernel
theorem dX5_loadInParts_38 : decode cX5_loadInParts 38 = .ok (.aload 5, 2) := by decide +kernel
theorem dX5_loadInParts_40 : decode cX5_loadInParts 40 = .ok (.iload_n 3, 1) := by decide +kernel
theorem dX5_loadInParts_41 : decode cX5_loadInParts 41 = .ok (.invokevirtual 61, 3) := by decide +kernel
theorem dX5_loadInParts_44 : decode cX5_loadInParts 44 = .ok (.goto 37, 3) := by decide +kernel
theorem dX5_loadInParts_47 : decode cX5_loadInParts 47 = .ok (.aload_n 1, 1) := by decide +kernel
theorem dX5_loadInParts_48 : decode cX5_loadInParts 48 = .ok (.iload 4, 2) := by decide +kernel
theorem dX5_loadInParts_50 : decode cX5_loadInParts 50 = .ok (.aload_n 2, 1) := by decide +kernel
theorem dX5_loadInParts_51 : decode cX5_loadInParts 51 = .ok (.getfield 65, 3) := by decide +kernel
theorem dX5_loadInParts_54 : decode cX5_loadInParts 54 = .ok (.aload_n 2, 1) := by decide +kernel
theorem dX5_loadInParts_55 : decode cX5_loadInParts 55 = .ok (.getfield 68, 3) := by decide +kernel
theorem dX5_loadInParts_58 : decode cX5_loadInParts 58 = .ok (.invokevirtual 45, 3) := by decide +kernel
theorem dX5_loadInParts_61 : decode cX5_loadInParts 61 = .ok (.ifCond .eq 20, 3) := by decide +kernel
theorem dX5_loadInParts_64 : decode cX5_loadInParts 64 = .ok (.aload_n 0, 1) := by decide +kernel
theorem dX5_loadInParts_65 : decode cX5_loadInParts 65 = .ok (.aload 5, 2) := by decide +kernel
theorem dX5_loadInParts_67 : decode cX5_loadInParts 67 = .ok (.aload 5, 2) := by decide +kernel
theorem dX5_loadInParts_69 : decode cX5_loadInParts 69 = .ok (.getfield 51, 3) := by decide +kernel
theorem dX5_loadInParts_72 : decode cX5_loadInParts 72 = .ok (.aload_n 1, 1) := by decide +kernel
theorem dX5_loadInParts_73 : decode cX5_loadInParts 73 = .ok (.aload 5, 2) := by decide +kernel
theorem dX5_loadInParts_75 : decode cX5_loadInParts 75 = .ok (.invokevirtual 53, 3) := by decide +kernel
theorem dX5_loadInParts_78 : decode cX5_loadInParts 78 = .ok (.invokevirtual 57, 3) := by decide +kernel
theorem dX5_loadInParts_81 : decode cX5_loadInParts 81 = .ok (.iinc 4 1, 3) := by decide +kernel
theorem dX5_loadInParts_84 : decode cX5_loadInParts 84 = .ok (.goto (-71), 3) := by decide +kernel
theorem dX5_loadInParts_87 : decode cX5_loadInParts 87 = .ok (.return_, 1) := by decide +kernel
set_option maxRecDepth 20000 in
theorem ggX5_putParts_X5_put : GoodIn wsX5_putParts wsX5_put := goodIn_r _ [6, 7, 8, 9, 10, 11, 18, 19, 20, 21, 22, 23, 24, 25] (by decide +kernel) (by decide +kernel)
set_option maxRecDepth 20000 in
theorem gX5_putParts_X5_put : GoodIn wsX5_putParts (wsV RX5 57 RX5 yX5_put wsX5_put) := goodIn_app (goodIn_of _ (by decide +kernel)) ggX5_putParts_X5_put
theorem dX5_putParts_0 : decode cX5_putParts 0 = .ok (.iload_n 2, 1) := by decide +kernel
theorem dX5_putParts_1 : decode cX5_putParts 1 = .ok (.iconst 1, 1) := by decide +kernel
theorem dX5_putParts_2 : decode cX5_putParts 2 = .ok (.if_icmp .ge 4, 3) := by decide +kernel
theorem dX5_putParts_5 : decode cX5_putParts 5 = .ok (.return_, 1) := by decide +kernel
theorem dX5_putParts_6 : decode cX5_putParts 6 = .ok (.aload_n 1, 1) := by decide +kernel
theorem dX5_putParts_7 : decode cX5_putParts 7 = .ok (.getfield 51, 3) := by decide +kernel
theorem dX5_putParts_10 : decode cX5_putParts 10 = .ok (.iload_n 2, 1) := by decide +kernel
theorem dX5_putParts_11 : decode cX5_putParts 11 = .ok (.idiv, 1) := by decide +kernel
theorem dX5_putParts_12 : decode cX5_putParts 12 = .ok (.istore_n 3, 1) := by decide +kernel
theorem dX5_putParts_13 : decode cX5_putParts 13 = .ok (.aload_n 1, 1) := by decide +kernel
theorem dX5_putParts_14 : decode cX5_putParts 14 = .ok (.getfield 51, 3) := by decide +kernel
theorem dX5_putParts_17 : decode cX5_putParts 17 = .ok (.iload_n 2, 1) := by decide +kernel
theorem dX5_putParts_18 : decode cX5_putParts 18 = .ok (.irem, 1) := by decide +kernel
theorem dX5_putParts_19 : decode cX5_putParts 19 = .ok (.istore 4, 2) := by decide +kernel
theorem dX5_putParts_21 : decode cX5_putParts 21 = .ok (.iconst 0, 1) := by decide +kernel
theorem dX5_putParts_22 : decode cX5_putParts 22 = .ok (.istore 5, 2) := by decide +kernel
theorem dX5_putParts_24 : decode cX5_putParts 24 = .ok (.iload 5, 2) := by decide +kernel
theorem dX5_putParts_26 : decode cX5_putParts 26 = .ok (.iload_n 2, 1) := by decide +kernel
theorem dX5_putParts_27 : decode cX5_putParts 27 = .ok (.if_icmp .ge 29, 3) := by decide +kernel
theorem dX5_putParts_30 : decode cX5_putParts 30 = .ok (.aload_n 0, 1) := by decide +kernel
theorem dX5_putParts_31 : decode cX5_putParts 31 = .ok (.aload_n 1, 1) := by decide +kernel
theorem dX5_putParts_32 : decode cX5_putParts 32 = .ok (.iload 5, 2) := by decide +kernel
theorem dX5_putParts_34 : decode cX5_putParts 34 = .ok (.iload 4, 2) := by decide +kernel
theorem dX5_putParts_36 : decode cX5_putParts 36 = .ok (.if_icmp .ge 9, 3) := by decide +kernel
theorem dX5_putParts_39 : decode cX5_putParts 39 = .ok (.iload_n 3, 1) := by decide +kernel
theorem dX5_putParts_40 : decode cX5_putParts 40 = .ok (.iconst 1, 1) := by decide +kernel
theorem dX5_putParts_41 : decode cX5_putParts 41 = .ok (.iadd, 1) := by decide +kernel
theorem dX5_putParts_42 : decode cX5_putParts 42 = .ok (.goto 4, 3) := by decide +kernel
theorem dX5_putParts_45 : decode cX5_putParts 45 = .ok (.iload_n 3, 1) := by decide +kernel
theorem dX5_putParts_46 : decode cX5_putParts 46 = .ok (.iconst 0, 1) := by decide +kernel
theorem dX5_putParts_47 : decode cX5_putParts 47 = .ok (.invokevirtual 57, 3) := by decide +kernel
theorem dX5_putParts_50 : decode cX5_putParts 50 = .ok (.iinc 5 1, 3) := by decide +kernel
theorem dX5_putParts_53 : decode cX5_putParts 53 = .ok (.goto (-29), 3) := by decide +kernel
theorem dX5_putParts_56 : decode cX5_putParts 56 = .ok (.return_, 1) := by decide +kernel
theorem dX5_put_0 : decode cX5_put 0 = .ok (.aload_n 0, 1) := by decide +kernel
theorem dX5_put_1 : decode cX5_put 1 = .ok (.getfield 33, 3) := by decide +kernel
theorem dX5_put_4 : decode cX5_put 4 = .ok (.bipush 68, 2) := by decide +kernel
theorem dX5_put_6 : decode cX5_put 6 = .ok (.if_icmp .lt 4, 3) := by decide +kernel
theorem dX5_put_9 : decode cX5_put 9 = .ok (.return_, 1) := by decide +kernel
theorem dX5_put_10 : decode cX5_put 10 = .ok (.aload_n 0, 1) := by decide +kernel
theorem dX5_put_11 : decode cX5_put 11 = .ok (.getfield 13, 3) := by decide +kernel
theorem dX5_put_14 : decode cX5_put 14 = .ok (.aload_n 0, 1) := by decide +kernel
theorem dX5_put_15 : decode cX5_put 15 = .ok (.getfield 33, 3) := by decide +kernel
theorem dX5_put_18 : decode cX5_put 18 = .ok (.aload_n 1, 1) := by decide +kernel
theorem dX5_put_19 : decode cX5_put 19 = .ok (.aastore, 1) := by decide +kernel
theorem dX5_put_20 : decode cX5_put 20 = .ok (.aload_n 0, 1) := by decide +kernel
theorem dX5_put_21 : decode cX5_put 21 = .ok (.getfield 17, 3) := by decide +kernel
theorem dX5_put_24 : decode cX5_put 24 = .ok (.aload_n 0, 1) := by decide +kernel
theorem dX5_put_25 : decode cX5_put 25 = .ok (.getfield 33, 3) := by decide +kernel
theorem dX5_put_28 : decode cX5_put 28 = .ok (.iload_n 2, 1) := by decide +kernel
theorem dX5_put_29 : decode cX5_put 29 = .ok (.iastore, 1) := by decide +kernel
theorem dX5_put_30 : decode cX5_put 30 = .ok (.aload_n 0, 1) := by decide +kernel
theorem dX5_put_31 : decode cX5_put 31 = .ok (.getfield 21, 3) := by decide +kernel
theorem dX5_put_34 : decode cX5_put 34 = .ok (.aload_n 0, 1) := by decide +kernel
theorem dX5_put_35 : decode cX5_put 35 = .ok (.getfield 33, 3) := by decide +kernel
theorem dX5_put_38 : decode cX5_put 38 = .ok (.iload_n 3, 1) := by decide +kernel
theorem dX5_put_39 : decode cX5_put 39 = .ok (.iastore, 1) := by decide +kernel
theorem dX5_put_40 : decode cX5_put 40 = .ok (.aload_n 0, 1) := by decide +kernel
theorem dX5_put_41 : decode cX5_put 41 = .ok (.dup, 1) := by decide +kernel
theorem dX5_put_42 : decode cX5_put 42 = .ok (.getfield 33, 3) := by decide +kernel
theorem dX5_put_45 : decode cX5_put 45 = .ok (.iconst 1, 1) := by decide +kernel
theorem dX5_put_46 : decode cX5_put 46 = .ok (.iadd, 1) := by decide +kernel
theorem dX5_put_47 : decode cX5_put 47 = .ok (.putfield 33, 3) := by decide +kernel
theorem dX5_put_50 : decode cX5_put 50 = .ok (.aload_n 0, 1) := by decide +kernel
theorem dX5_put_51 : decode cX5_put 51 = .ok (.dup, 1) := by decide +kernel
theorem dX5_put_52 : decode cX5_put 52 = .ok (.getfield 37, 3) := by decide +kernel
theorem dX5_put_55 : decode cX5_put 55 = .ok (.iload_n 2, 1) := by decide +kernel
theorem dX5_put_56 : decode cX5_put 56 = .ok (.iadd, 1) := by decide +kernel
theorem dX5_put_57 : decode cX5_put 57 = .ok (.putfield 37, 3) := by decide +kernel
theorem dX5_put_60 : decode cX5_put 60 = .ok (.return_, 1) := by decide +kernel
set_option maxRecDepth 20000 in
theorem ggX5_deal_X5_portion : GoodIn wsX5_deal wsX5_portion := goodIn_r _ [14] (by decide +kernel) (by decide +kernel)
set_option maxRecDepth 20000 in
theorem gX5_deal_X5_portion : GoodIn wsX5_deal (va_wsS RX5 77 yX5_portion wsX5_portion) := goodIn_app (goodIn_of _ (by decide +kernel)) ggX5_deal_X5_portion
theorem dX5_deal_0 : decode cX5_deal 0 = .ok (.iload_n 1, 1) := by decide +kernel
theorem dX5_deal_1 : decode cX5_deal 1 = .ok (.istore_n 3, 1) := by decide +kernel
theorem dX5_deal_2 : decode cX5_deal 2 = .ok (.iconst 0, 1) := by decide +kernel
theorem dX5_deal_3 : decode cX5_deal 3 = .ok (.istore 4, 2) := by decide +kernel
theorem dX5_deal_5 : decode cX5_deal 5 = .ok (.iconst 0, 1) := by decide +kernel
theorem dX5_deal_6 : decode cX5_deal 6 = .ok (.istore 5, 2) := by decide +kernel
theorem dX5_deal_8 : decode cX5_deal 8 = .ok (.iload 5, 2) := by decide +kernel
theorem dX5_deal_10 : decode cX5_deal 10 = .ok (.aload_n 0, 1) := by decide +kernel
theorem dX5_deal_11 : decode cX5_deal 11 = .ok (.getfield 33, 3) := by decide +kernel
theorem dX5_deal_14 : decode cX5_deal 14 = .ok (.if_icmp .ge 67, 3) := by decide +kernel
theorem dX5_deal_17 : decode cX5_deal 17 = .ok (.aload_n 0, 1) := by decide +kernel
theorem dX5_deal_18 : decode cX5_deal 18 = .ok (.getfield 24, 3) := by decide +kernel
theorem dX5_deal_21 : decode cX5_deal 21 = .ok (.iload 5, 2) := by decide +kernel
theorem dX5_deal_23 : decode cX5_deal 23 = .ok (.iload_n 3, 1) := by decide +kernel
theorem dX5_deal_24 : decode cX5_deal 24 = .ok (.aload_n 0, 1) := by decide +kernel
theorem dX5_deal_25 : decode cX5_deal 25 = .ok (.getfield 17, 3) := by decide +kernel
theorem dX5_deal_28 : decode cX5_deal 28 = .ok (.iload 5, 2) := by decide +kernel
theorem dX5_deal_30 : decode cX5_deal 30 = .ok (.iaload, 1) := by decide +kernel
theorem dX5_deal_31 : decode cX5_deal 31 = .ok (.aload_n 0, 1) := by decide +kernel
theorem dX5_deal_32 : decode cX5_deal 32 = .ok (.getfield 21, 3) := by decide +kernel
theorem dX5_deal_35 : decode cX5_deal 35 = .ok (.iload 5, 2) := by decide +kernel
theorem dX5_deal_37 : decode cX5_deal 37 = .ok (.iaload, 1) := by decide +kernel
theorem dX5_deal_38 : decode cX5_deal 38 = .ok (.invokestatic 71, 3) := by decide +kernel
theorem dX5_deal_41 : decode cX5_deal 41 = .ok (.invokestatic 71, 3) := by decide +kernel
theorem dX5_deal_44 : decode cX5_deal 44 = .ok (.iastore, 1) := by decide +kernel
theorem dX5_deal_45 : decode cX5_deal 45 = .ok (.iload_n 3, 1) := by decide +kernel
theorem dX5_deal_46 : decode cX5_deal 46 = .ok (.aload_n 0, 1) := by decide +kernel
theorem dX5_deal_47 : decode cX5_deal 47 = .ok (.getfield 24, 3) := by decide +kernel
theorem dX5_deal_50 : decode cX5_deal 50 = .ok (.iload 5, 2) := by decide +kernel
theorem dX5_deal_52 : decode cX5_deal 52 = .ok (.iaload, 1) := by decide +kernel
theorem dX5_deal_53 : decode cX5_deal 53 = .ok (.isub, 1) := by decide +kernel
theorem dX5_deal_54 : decode cX5_deal 54 = .ok (.istore_n 3, 1) := by decide +kernel
theorem dX5_deal_55 : decode cX5_deal 55 = .ok (.iload 4, 2) := by decide +kernel
theorem dX5_deal_57 : decode cX5_deal 57 = .ok (.aload_n 0, 1) := by decide +kernel
theorem dX5_deal_58 : decode cX5_deal 58 = .ok (.getfield 17, 3) := by decide +kernel
theorem dX5_deal_61 : decode cX5_deal 61 = .ok (.iload 5, 2) := by decide +kernel
theorem dX5_deal_63 : decode cX5_deal 63 = .ok (.iaload, 1) := by decide +kernel
theorem dX5_deal_64 : decode cX5_deal 64 = .ok (.aload_n 0, 1) := by decide +kernel
theorem dX5_deal_65 : decode cX5_deal 65 = .ok (.getfield 24, 3) := by decide +kernel
theorem dX5_deal_68 : decode cX5_deal 68 = .ok (.iload 5, 2) := by decide +kernel
theorem dX5_deal_70 : decode cX5_deal 70 = .ok (.iaload, 1) := by decide +kernel
theorem dX5_deal_71 : decode cX5_deal 71 = .ok (.isub, 1) := by decide +kernel
theorem dX5_deal_72 : decode cX5_deal 72 = .ok (.iadd, 1) := by decide +kernel
theorem dX5_deal_73 : decode cX5_deal 73 = .ok (.istore 4, 2) := by decide +kernel
theorem dX5_deal_75 : decode cX5_deal 75 = .ok (.iinc 5 1, 3) := by decide +kernel
theorem dX5_deal_78 : decode cX5_deal 78 = .ok (.goto (-70), 3) := by decide +kernel
theorem dX5_deal_81 : decode cX5_deal 81 = .ok (.iload_n 3, 1) := by decide +kernel
theorem dX5_deal_82 : decode cX5_deal 82 = .ok (.istore 5, 2) := by decide +kernel
theorem dX5_deal_84 : decode cX5_deal 84 = .ok (.iconst 0, 1) := by decide +kernel
theorem dX5_deal_85 : decode cX5_deal 85 = .ok (.istore 6, 2) := by decide +kernel
theorem dX5_deal_87 : decode cX5_deal 87 = .ok (.iload 6, 2) := by decide +kernel
theorem dX5_deal_89 : decode cX5_deal 89 = .ok (.aload_n 0, 1) := by decide +kernel
theorem dX5_deal_90 : decode cX5_deal 90 = .ok (.getfield 33, 3) := by decide +kernel
theorem dX5_deal_93 : decode cX5_deal 93 = .ok (.if_icmp .ge 49, 3) := by decide +kernel
theorem dX5_deal_96 : decode cX5_deal 96 = .ok (.aload_n 0, 1) := by decide +kernel
theorem dX5_deal_97 : decode cX5_deal 97 = .ok (.getfield 27, 3) := by decide +kernel
theorem dX5_deal_100 : decode cX5_deal 100 = .ok (.iload 6, 2) := by decide +kernel
theorem dX5_deal_102 : decode cX5_deal 102 = .ok (.iload 5, 2) := by decide +kernel
theorem dX5_deal_104 : decode cX5_deal 104 = .ok (.aload_n 0, 1) := by decide +kernel
theorem dX5_deal_105 : decode cX5_deal 105 = .ok (.getfield 17, 3) := by decide +kernel
theorem dX5_deal_108 : decode cX5_deal 108 = .ok (.iload 6, 2) := by decide +kernel
theorem dX5_deal_110 : decode cX5_deal 110 = .ok (.iaload, 1) := by decide +kernel
theorem dX5_deal_111 : decode cX5_deal 111 = .ok (.aload_n 0, 1) := by decide +kernel
theorem dX5_deal_112 : decode cX5_deal 112 = .ok (.getfield 24, 3) := by decide +kernel
theorem dX5_deal_115 : decode cX5_deal 115 = .ok (.iload 6, 2) := by decide +kernel
theorem dX5_deal_117 : decode cX5_deal 117 = .ok (.iaload, 1) := by decide +kernel
theorem dX5_deal_118 : decode cX5_deal 118 = .ok (.isub, 1) := by decide +kernel
theorem dX5_deal_119 : decode cX5_deal 119 = .ok (.iload 4, 2) := by decide +kernel
theorem dX5_deal_121 : decode cX5_deal 121 = .ok (.iload_n 2, 1) := by decide +kernel
theorem dX5_deal_122 : decode cX5_deal 122 = .ok (.invokestatic 77, 3) := by decide +kernel
theorem dX5_deal_125 : decode cX5_deal 125 = .ok (.iastore, 1) := by decide +kernel
theorem dX5_deal_126 : decode cX5_deal 126 = .ok (.iload_n 3, 1) := by decide +kernel
theorem dX5_deal_127 : decode cX5_deal 127 = .ok (.aload_n 0, 1) := by decide +kernel
theorem dX5_deal_128 : decode cX5_deal 128 = .ok (.getfield 27, 3) := by decide +kernel
theorem dX5_deal_131 : decode cX5_deal 131 = .ok (.iload 6, 2) := by decide +kernel
theorem dX5_deal_133 : decode cX5_deal 133 = .ok (.iaload, 1) := by decide +kernel
theorem dX5_deal_134 : decode cX5_deal 134 = .ok (.isub, 1) := by decide +kernel
theorem dX5_deal_135 : decode cX5_deal 135 = .ok (.istore_n 3, 1) := by decide +kernel
theorem dX5_deal_136 : decode cX5_deal 136 = .ok (.iinc 6 1, 3) := by decide +kernel
theorem dX5_deal_139 : decode cX5_deal 139 = .ok (.goto (-52), 3) := by decide +kernel
theorem dX5_deal_142 : decode cX5_deal 142 = .ok (.iconst 0, 1) := by decide +kernel
theorem dX5_deal_143 : decode cX5_deal 143 = .ok (.istore 6, 2) := by decide +kernel
theorem dX5_deal_145 : decode cX5_deal 145 = .ok (.iload 6, 2) := by decide +kernel
theorem dX5_deal_147 : decode cX5_deal 147 = .ok (.aload_n 0, 1) := by decide +kernel
