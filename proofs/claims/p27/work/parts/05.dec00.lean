set_option maxRecDepth 20000 in
theorem ggX0_init_X4_init : GoodIn wsX0_init wsX4_init := goodIn_r _ [12, 13, 2, 3] (by decide +kernel) (by decide +kernel)
set_option maxRecDepth 20000 in
theorem gX0_init_X4_init_n24 : GoodIn wsX0_init (wsX4_init) := ggX0_init_X4_init
theorem dX0_init_0 : decode cX0_init 0 = .ok (.aload_n 0, 1) := by decide +kernel
theorem dX0_init_1 : decode cX0_init 1 = .ok (.invokespecial 3, 3) := by decide +kernel
theorem dX0_init_4 : decode cX0_init 4 = .ok (.aload_n 0, 1) := by decide +kernel
theorem dX0_init_5 : decode cX0_init 5 = .ok (.bipush 60, 2) := by decide +kernel
theorem dX0_init_7 : decode cX0_init 7 = .ok (.anewarray 9, 3) := by decide +kernel
theorem dX0_init_10 : decode cX0_init 10 = .ok (.putfield 11, 3) := by decide +kernel
theorem dX0_init_13 : decode cX0_init 13 = .ok (.aload_n 0, 1) := by decide +kernel
theorem dX0_init_14 : decode cX0_init 14 = .ok (.iconst 2, 1) := by decide +kernel
theorem dX0_init_15 : decode cX0_init 15 = .ok (.newarray .int, 2) := by decide +kernel
theorem dX0_init_17 : decode cX0_init 17 = .ok (.putfield 17, 3) := by decide +kernel
theorem dX0_init_20 : decode cX0_init 20 = .ok (.aload_n 0, 1) := by decide +kernel
theorem dX0_init_21 : decode cX0_init 21 = .ok (.iconst 2, 1) := by decide +kernel
theorem dX0_init_22 : decode cX0_init 22 = .ok (.newarray .int, 2) := by decide +kernel
theorem dX0_init_24 : decode cX0_init 24 = .ok (.putfield 21, 3) := by decide +kernel
theorem dX0_init_27 : decode cX0_init 27 = .ok (.iconst 0, 1) := by decide +kernel
theorem dX0_init_28 : decode cX0_init 28 = .ok (.istore_n 1, 1) := by decide +kernel
theorem dX0_init_29 : decode cX0_init 29 = .ok (.iload_n 1, 1) := by decide +kernel
theorem dX0_init_30 : decode cX0_init 30 = .ok (.bipush 60, 2) := by decide +kernel
theorem dX0_init_32 : decode cX0_init 32 = .ok (.if_icmp .ge 22, 3) := by decide +kernel
theorem dX0_init_35 : decode cX0_init 35 = .ok (.aload_n 0, 1) := by decide +kernel
theorem dX0_init_36 : decode cX0_init 36 = .ok (.getfield 11, 3) := by decide +kernel
theorem dX0_init_39 : decode cX0_init 39 = .ok (.iload_n 1, 1) := by decide +kernel
theorem dX0_init_40 : decode cX0_init 40 = .ok (.new 9, 3) := by decide +kernel
theorem dX0_init_43 : decode cX0_init 43 = .ok (.dup, 1) := by decide +kernel
theorem dX0_init_44 : decode cX0_init 44 = .ok (.invokespecial 24, 3) := by decide +kernel
theorem dX0_init_47 : decode cX0_init 47 = .ok (.aastore, 1) := by decide +kernel
theorem dX0_init_48 : decode cX0_init 48 = .ok (.iinc 1 1, 3) := by decide +kernel
theorem dX0_init_51 : decode cX0_init 51 = .ok (.goto (-22), 3) := by decide +kernel
theorem dX0_init_54 : decode cX0_init 54 = .ok (.return_, 1) := by decide +kernel
theorem dX0_find_0 : decode cX0_find 0 = .ok (.iconst 0, 1) := by decide +kernel
theorem dX0_find_1 : decode cX0_find 1 = .ok (.istore_n 2, 1) := by decide +kernel
theorem dX0_find_2 : decode cX0_find 2 = .ok (.iload_n 2, 1) := by decide +kernel
theorem dX0_find_3 : decode cX0_find 3 = .ok (.aload_n 0, 1) := by decide +kernel
theorem dX0_find_4 : decode cX0_find 4 = .ok (.getfield 25, 3) := by decide +kernel
theorem dX0_find_7 : decode cX0_find 7 = .ok (.if_icmp .ge 29, 3) := by decide +kernel
theorem dX0_find_10 : decode cX0_find 10 = .ok (.aload_n 0, 1) := by decide +kernel
theorem dX0_find_11 : decode cX0_find 11 = .ok (.getfield 11, 3) := by decide +kernel
theorem dX0_find_14 : decode cX0_find 14 = .ok (.iload_n 2, 1) := by decide +kernel
theorem dX0_find_15 : decode cX0_find 15 = .ok (.aaload, 1) := by decide +kernel
theorem dX0_find_16 : decode cX0_find 16 = .ok (.getfield 33, 3) := by decide +kernel
theorem dX0_find_19 : decode cX0_find 19 = .ok (.iload_n 1, 1) := by decide +kernel
theorem dX0_find_20 : decode cX0_find 20 = .ok (.if_icmp .ne 10, 3) := by decide +kernel
theorem dX0_find_23 : decode cX0_find 23 = .ok (.aload_n 0, 1) := by decide +kernel
theorem dX0_find_24 : decode cX0_find 24 = .ok (.getfield 11, 3) := by decide +kernel
theorem dX0_find_27 : decode cX0_find 27 = .ok (.iload_n 2, 1) := by decide +kernel
theorem dX0_find_28 : decode cX0_find 28 = .ok (.aaload, 1) := by decide +kernel
theorem dX0_find_29 : decode cX0_find 29 = .ok (.areturn, 1) := by decide +kernel
theorem dX0_find_30 : decode cX0_find 30 = .ok (.iinc 2 1, 3) := by decide +kernel
theorem dX0_find_33 : decode cX0_find 33 = .ok (.goto (-31), 3) := by decide +kernel
theorem dX0_find_36 : decode cX0_find 36 = .ok (.aconst_null, 1) := by decide +kernel
theorem dX0_find_37 : decode cX0_find 37 = .ok (.areturn, 1) := by decide +kernel
theorem dX0_isFull_0 : decode cX0_isFull 0 = .ok (.aload_n 0, 1) := by decide +kernel
theorem dX0_isFull_1 : decode cX0_isFull 1 = .ok (.getfield 25, 3) := by decide +kernel
theorem dX0_isFull_4 : decode cX0_isFull 4 = .ok (.bipush 60, 2) := by decide +kernel
theorem dX0_isFull_6 : decode cX0_isFull 6 = .ok (.if_icmp .lt 7, 3) := by decide +kernel
theorem dX0_isFull_9 : decode cX0_isFull 9 = .ok (.iconst 1, 1) := by decide +kernel
theorem dX0_isFull_10 : decode cX0_isFull 10 = .ok (.goto 4, 3) := by decide +kernel
theorem dX0_isFull_13 : decode cX0_isFull 13 = .ok (.iconst 0, 1) := by decide +kernel
theorem dX0_isFull_14 : decode cX0_isFull 14 = .ok (.ireturn, 1) := by decide +kernel
set_option maxRecDepth 20000 in
theorem ggX0_add_X0_isFull : GoodIn wsX0_add wsX0_isFull := goodIn_r _ [7, 2, 23, 24, 25, 26] (by decide +kernel) (by decide +kernel)
set_option maxRecDepth 20000 in
theorem gX0_add_X0_isFull : GoodIn wsX0_add (wsV RX0 36 RX0 yX0_isFull wsX0_isFull) := goodIn_app (goodIn_of _ (by decide +kernel)) ggX0_add_X0_isFull
set_option maxRecDepth 20000 in
theorem ggX0_add_X4_copyFrom : GoodIn wsX0_add wsX4_copyFrom := goodIn_r _ [12, 13, 14, 15, 16, 17, 18, 19, 20, 21, 11, 22, 27, 28, 29, 30, 31, 32] (by decide +kernel) (by decide +kernel)
set_option maxRecDepth 20000 in
theorem gX0_add_X4_copyFrom : GoodIn wsX0_add (wsV RX0 29 RX4 yX4_copyFrom wsX4_copyFrom) := goodIn_app (goodIn_of _ (by decide +kernel)) ggX0_add_X4_copyFrom
theorem dX0_add_0 : decode cX0_add 0 = .ok (.aload_n 0, 1) := by decide +kernel
theorem dX0_add_1 : decode cX0_add 1 = .ok (.invokevirtual 36, 3) := by decide +kernel
theorem dX0_add_4 : decode cX0_add 4 = .ok (.ifCond .ne 26, 3) := by decide +kernel
theorem dX0_add_7 : decode cX0_add 7 = .ok (.aload_n 0, 1) := by decide +kernel
theorem dX0_add_8 : decode cX0_add 8 = .ok (.getfield 11, 3) := by decide +kernel
theorem dX0_add_11 : decode cX0_add 11 = .ok (.aload_n 0, 1) := by decide +kernel
theorem dX0_add_12 : decode cX0_add 12 = .ok (.getfield 25, 3) := by decide +kernel
theorem dX0_add_15 : decode cX0_add 15 = .ok (.aaload, 1) := by decide +kernel
theorem dX0_add_16 : decode cX0_add 16 = .ok (.aload_n 1, 1) := by decide +kernel
theorem dX0_add_17 : decode cX0_add 17 = .ok (.invokevirtual 29, 3) := by decide +kernel
theorem dX0_add_20 : decode cX0_add 20 = .ok (.aload_n 0, 1) := by decide +kernel
theorem dX0_add_21 : decode cX0_add 21 = .ok (.dup, 1) := by decide +kernel
theorem dX0_add_22 : decode cX0_add 22 = .ok (.getfield 25, 3) := by decide +kernel
theorem dX0_add_25 : decode cX0_add 25 = .ok (.iconst 1, 1) := by decide +kernel
theorem dX0_add_26 : decode cX0_add 26 = .ok (.iadd, 1) := by decide +kernel
theorem dX0_add_27 : decode cX0_add 27 = .ok (.putfield 25, 3) := by decide +kernel
theorem dX0_add_30 : decode cX0_add 30 = .ok (.return_, 1) := by decide +kernel
set_option maxRecDepth 20000 in
theorem ggX0_sweep_X0_lapse : GoodIn wsX0_sweep wsX0_lapse := goodIn_r _ [8, 9, 10, 11, 12, 13, 14, 15, 16, 17, 18, 19, 20, 21, 22] (by decide +kernel) (by decide +kernel)
set_option maxRecDepth 20000 in
theorem gX0_sweep_X0_lapse : GoodIn wsX0_sweep (wsV RX0 43 RX0 yX0_lapse wsX0_lapse) := goodIn_app (goodIn_of _ (by decide +kernel)) ggX0_sweep_X0_lapse
theorem dX0_sweep_0 : decode cX0_sweep 0 = .ok (.iconst 0, 1) := by decide +kernel
theorem dX0_sweep_1 : decode cX0_sweep 1 = .ok (.istore_n 1, 1) := by decide +kernel
theorem dX0_sweep_2 : decode cX0_sweep 2 = .ok (.iconst 0, 1) := by decide +kernel
theorem dX0_sweep_3 : decode cX0_sweep 3 = .ok (.istore_n 2, 1) := by decide +kernel
theorem dX0_sweep_4 : decode cX0_sweep 4 = .ok (.iload_n 2, 1) := by decide +kernel
theorem dX0_sweep_5 : decode cX0_sweep 5 = .ok (.aload_n 0, 1) := by decide +kernel
theorem dX0_sweep_6 : decode cX0_sweep 6 = .ok (.getfield 25, 3) := by decide +kernel
theorem dX0_sweep_9 : decode cX0_sweep 9 = .ok (.if_icmp .ge 53, 3) := by decide +kernel
theorem dX0_sweep_12 : decode cX0_sweep 12 = .ok (.aload_n 0, 1) := by decide +kernel
theorem dX0_sweep_13 : decode cX0_sweep 13 = .ok (.getfield 11, 3) := by decide +kernel
theorem dX0_sweep_16 : decode cX0_sweep 16 = .ok (.iload_n 2, 1) := by decide +kernel
theorem dX0_sweep_17 : decode cX0_sweep 17 = .ok (.aaload, 1) := by decide +kernel
theorem dX0_sweep_18 : decode cX0_sweep 18 = .ok (.astore_n 3, 1) := by decide +kernel
theorem dX0_sweep_19 : decode cX0_sweep 19 = .ok (.aload_n 3, 1) := by decide +kernel
theorem dX0_sweep_20 : decode cX0_sweep 20 = .ok (.getfield 40, 3) := by decide +kernel
theorem dX0_sweep_23 : decode cX0_sweep 23 = .ok (.ifCond .le 28, 3) := by decide +kernel
theorem dX0_sweep_26 : decode cX0_sweep 26 = .ok (.aload_n 0, 1) := by decide +kernel
theorem dX0_sweep_27 : decode cX0_sweep 27 = .ok (.getfield 11, 3) := by decide +kernel
theorem dX0_sweep_30 : decode cX0_sweep 30 = .ok (.iload_n 2, 1) := by decide +kernel
theorem dX0_sweep_31 : decode cX0_sweep 31 = .ok (.aload_n 0, 1) := by decide +kernel
theorem dX0_sweep_32 : decode cX0_sweep 32 = .ok (.getfield 11, 3) := by decide +kernel
theorem dX0_sweep_35 : decode cX0_sweep 35 = .ok (.iload_n 1, 1) := by decide +kernel
theorem dX0_sweep_36 : decode cX0_sweep 36 = .ok (.aaload, 1) := by decide +kernel
theorem dX0_sweep_37 : decode cX0_sweep 37 = .ok (.aastore, 1) := by decide +kernel
theorem dX0_sweep_38 : decode cX0_sweep 38 = .ok (.aload_n 0, 1) := by decide +kernel
theorem dX0_sweep_39 : decode cX0_sweep 39 = .ok (.getfield 11, 3) := by decide +kernel
theorem dX0_sweep_42 : decode cX0_sweep 42 = .ok (.iload_n 1, 1) := by decide +kernel
theorem dX0_sweep_43 : decode cX0_sweep 43 = .ok (.aload_n 3, 1) := by decide +kernel
theorem dX0_sweep_44 : decode cX0_sweep 44 = .ok (.aastore, 1) := by decide +kernel
theorem dX0_sweep_45 : decode cX0_sweep 45 = .ok (.iinc 1 1, 3) := by decide +kernel
theorem dX0_sweep_48 : decode cX0_sweep 48 = .ok (.goto 8, 3) := by decide +kernel
theorem dX0_sweep_51 : decode cX0_sweep 51 = .ok (.aload_n 0, 1) := by decide +kernel
theorem dX0_sweep_52 : decode cX0_sweep 52 = .ok (.aload_n 3, 1) := by decide +kernel
theorem dX0_sweep_53 : decode cX0_sweep 53 = .ok (.invokevirtual 43, 3) := by decide +kernel
theorem dX0_sweep_56 : decode cX0_sweep 56 = .ok (.iinc 2 1, 3) := by decide +kernel
theorem dX0_sweep_59 : decode cX0_sweep 59 = .ok (.goto (-55), 3) := by decide +kernel
theorem dX0_sweep_62 : decode cX0_sweep 62 = .ok (.aload_n 0, 1) := by decide +kernel
theorem dX0_sweep_63 : decode cX0_sweep 63 = .ok (.iload_n 1, 1) := by decide +kernel
theorem dX0_sweep_64 : decode cX0_sweep 64 = .ok (.putfield 25, 3) := by decide +kernel
theorem dX0_sweep_67 : decode cX0_sweep 67 = .ok (.return_, 1) := by decide +kernel
theorem dX0_makeTop_0 : decode cX0_makeTop 0 = .ok (.aload_n 0, 1) := by decide +kernel
theorem dX0_makeTop_1 : decode cX0_makeTop 1 = .ok (.getfield 17, 3) := by decide +kernel
theorem dX0_makeTop_4 : decode cX0_makeTop 4 = .ok (.aload_n 1, 1) := by decide +kernel
theorem dX0_makeTop_5 : decode cX0_makeTop 5 = .ok (.getfield 46, 3) := by decide +kernel
theorem dX0_makeTop_8 : decode cX0_makeTop 8 = .ok (.aload_n 1, 1) := by decide +kernel
theorem dX0_makeTop_9 : decode cX0_makeTop 9 = .ok (.getfield 33, 3) := by decide +kernel
theorem dX0_makeTop_12 : decode cX0_makeTop 12 = .ok (.iastore, 1) := by decide +kernel
theorem dX0_makeTop_13 : decode cX0_makeTop 13 = .ok (.aload_n 0, 1) := by decide +kernel
theorem dX0_makeTop_14 : decode cX0_makeTop 14 = .ok (.getfield 21, 3) := by decide +kernel
theorem dX0_makeTop_17 : decode cX0_makeTop 17 = .ok (.aload_n 1, 1) := by decide +kernel
theorem dX0_makeTop_18 : decode cX0_makeTop 18 = .ok (.getfield 46, 3) := by decide +kernel
theorem dX0_makeTop_21 : decode cX0_makeTop 21 = .ok (.iload_n 2, 1) := by decide +kernel
theorem dX0_makeTop_22 : decode cX0_makeTop 22 = .ok (.iastore, 1) := by decide +kernel
theorem dX0_makeTop_23 : decode cX0_makeTop 23 = .ok (.return_, 1) := by decide +kernel
theorem dX0_lapse_0 : decode cX0_lapse 0 = .ok (.aload_n 0, 1) := by decide +kernel
theorem dX0_lapse_1 : decode cX0_lapse 1 = .ok (.getfield 17, 3) := by decide +kernel
theorem dX0_lapse_4 : decode cX0_lapse 4 = .ok (.aload_n 1, 1) := by decide +kernel
theorem dX0_lapse_5 : decode cX0_lapse 5 = .ok (.getfield 46, 3) := by decide +kernel
theorem dX0_lapse_8 : decode cX0_lapse 8 = .ok (.iaload, 1) := by decide +kernel
theorem dX0_lapse_9 : decode cX0_lapse 9 = .ok (.aload_n 1, 1) := by decide +kernel
theorem dX0_lapse_10 : decode cX0_lapse 10 = .ok (.getfield 33, 3) := by decide +kernel
theorem dX0_lapse_13 : decode cX0_lapse 13 = .ok (.if_icmp .ne 23, 3) := by decide +kernel
theorem dX0_lapse_16 : decode cX0_lapse 16 = .ok (.aload_n 0, 1) := by decide +kernel
theorem dX0_lapse_17 : decode cX0_lapse 17 = .ok (.getfield 17, 3) := by decide +kernel
theorem dX0_lapse_20 : decode cX0_lapse 20 = .ok (.aload_n 1, 1) := by decide +kernel
theorem dX0_lapse_21 : decode cX0_lapse 21 = .ok (.getfield 46, 3) := by decide +kernel
theorem dX0_lapse_24 : decode cX0_lapse 24 = .ok (.iconst 0, 1) := by decide +kernel
theorem dX0_lapse_25 : decode cX0_lapse 25 = .ok (.iastore, 1) := by decide +kernel
theorem dX0_lapse_26 : decode cX0_lapse 26 = .ok (.aload_n 0, 1) := by decide +kernel
theorem dX0_lapse_27 : decode cX0_lapse 27 = .ok (.getfield 21, 3) := by decide +kernel
theorem dX0_lapse_30 : decode cX0_lapse 30 = .ok (.aload_n 1, 1) := by decide +kernel
theorem dX0_lapse_31 : decode cX0_lapse 31 = .ok (.getfield 46, 3) := by decide +kernel
theorem dX0_lapse_34 : decode cX0_lapse 34 = .ok (.iconst 0, 1) := by decide +kernel
theorem dX0_lapse_35 : decode cX0_lapse 35 = .ok (.iastore, 1) := by decide +kernel
theorem dX0_lapse_36 : decode cX0_lapse 36 = .ok (.return_, 1) := by decide +kernel
theorem dX0_grantOf_0 : decode cX0_grantOf 0 = .ok (.aload_n 0, 1) := by decide +kernel
theorem dX0_grantOf_1 : decode cX0_grantOf 1 = .ok (.getfield 17, 3) := by decide +kernel
theorem dX0_grantOf_4 : decode cX0_grantOf 4 = .ok (.aload_n 1, 1) := by decide +kernel
theorem dX0_grantOf_5 : decode cX0_grantOf 5 = .ok (.getfield 46, 3) := by decide +kernel
theorem dX0_grantOf_8 : decode cX0_grantOf 8 = .ok (.iaload, 1) := by decide +kernel
theorem dX0_grantOf_9 : decode cX0_grantOf 9 = .ok (.aload_n 1, 1) := by decide +kernel
theorem dX0_grantOf_10 : decode cX0_grantOf 10 = .ok (.getfield 33, 3) := by decide +kernel
theorem dX0_grantOf_13 : decode cX0_grantOf 13 = .ok (.if_icmp .ne 15, 3) := by decide +kernel
theorem dX0_grantOf_16 : decode cX0_grantOf 16 = .ok (.aload_n 0, 1) := by decide +kernel
theorem dX0_grantOf_17 : decode cX0_grantOf 17 = .ok (.getfield 21, 3) := by decide +kernel
theorem dX0_grantOf_20 : decode cX0_grantOf 20 = .ok (.aload_n 1, 1) := by decide +kernel
theorem dX0_grantOf_21 : decode cX0_grantOf 21 = .ok (.getfield 46, 3) := by decide +kernel
theorem dX0_grantOf_24 : decode cX0_grantOf 24 = .ok (.iaload, 1) := by decide +kernel
theorem dX0_grantOf_25 : decode cX0_grantOf 25 = .ok (.goto 4, 3) := by decide +kernel
theorem dX0_grantOf_28 : decode cX0_grantOf 28 = .ok (.iconst 0, 1) := by decide +kernel
theorem dX0_grantOf_29 : decode cX0_grantOf 29 = .ok (.ireturn, 1) := by decide +kernel
theorem dX0_useGrant_0 : decode cX0_useGrant 0 = .ok (.aload_n 0, 1) := by decide +kernel
theorem dX0_useGrant_1 : decode cX0_useGrant 1 = .ok (.getfield 21, 3) := by decide +kernel
theorem dX0_useGrant_4 : decode cX0_useGrant 4 = .ok (.aload_n 1, 1) := by decide +kernel
theorem dX0_useGrant_5 : decode cX0_useGrant 5 = .ok (.getfield 46, 3) := by decide +kernel
theorem dX0_useGrant_8 : decode cX0_useGrant 8 = .ok (.dup2, 1) := by decide +kernel
theorem dX0_useGrant_9 : decode cX0_useGrant 9 = .ok (.iaload, 1) := by decide +kernel
theorem dX0_useGrant_10 : decode cX0_useGrant 10 = .ok (.iload_n 2, 1) := by decide +kernel
theorem dX0_useGrant_11 : decode cX0_useGrant 11 = .ok (.isub, 1) := by decide +kernel
theorem dX0_useGrant_12 : decode cX0_useGrant 12 = .ok (.iastore, 1) := by decide +kernel
theorem dX0_useGrant_13 : decode cX0_useGrant 13 = .ok (.aload_n 0, 1) := by decide +kernel
theorem dX0_useGrant_14 : decode cX0_useGrant 14 = .ok (.getfield 21, 3) := by decide +kernel
theorem dX0_useGrant_17 : decode cX0_useGrant 17 = .ok (.aload_n 1, 1) := by decide +kernel
theorem dX0_useGrant_18 : decode cX0_useGrant 18 = .ok (.getfield 46, 3) := by decide +kernel
theorem dX0_useGrant_21 : decode cX0_useGrant 21 = .ok (.iaload, 1) := by decide +kernel
theorem dX0_useGrant_22 : decode cX0_useGrant 22 = .ok (.ifCond .gt 13, 3) := by decide +kernel
theorem dX0_useGrant_25 : decode cX0_useGrant 25 = .ok (.aload_n 0, 1) := by decide +kernel
theorem dX0_useGrant_26 : decode cX0_useGrant 26 = .ok (.getfield 17, 3) := by decide +kernel
theorem dX0_useGrant_29 : decode cX0_useGrant 29 = .ok (.aload_n 1, 1) := by decide +kernel
theorem dX0_useGrant_30 : decode cX0_useGrant 30 = .ok (.getfield 46, 3) := by decide +kernel
theorem dX0_useGrant_33 : decode cX0_useGrant 33 = .ok (.iconst 0, 1) := by decide +kernel
theorem dX0_useGrant_34 : decode cX0_useGrant 34 = .ok (.iastore, 1) := by decide +kernel
theorem dX0_useGrant_35 : decode cX0_useGrant 35 = .ok (.return_, 1) := by decide +kernel
set_option maxRecDepth 20000 in
theorem ggX0_best_X0_nextPrice : GoodIn wsX0_best wsX0_nextPrice := goodIn_r _ [6, 7, 8, 9, 10, 11, 12, 13, 14, 15, 16, 17, 18, 19, 20, 21, 22, 23] (by decide +kernel) (by decide +kernel)
set_option maxRecDepth 20000 in
theorem gX0_best_X0_nextPrice : GoodIn wsX0_best (wsV RX0 50 RX0 yX0_nextPrice wsX0_nextPrice) := goodIn_app (goodIn_of _ (by decide +kernel)) ggX0_best_X0_nextPrice
theorem dX0_best_0 : decode cX0_best 0 = .ok (.aload_n 0, 1) := by decide +kernel
theorem dX0_best_1 : decode cX0_best 1 = .ok (.iload_n 1, 1) := by decide +kernel
theorem dX0_best_2 : decode cX0_best 2 = .ok (.iload_n 1, 1) := by decide +kernel
theorem dX0_best_3 : decode cX0_best 3 = .ok (.ifCond .ne 8, 3) := by decide +kernel
theorem dX0_best_6 : decode cX0_best 6 = .ok (.ldc 49, 2) := by decide +kernel
theorem dX0_best_8 : decode cX0_best 8 = .ok (.goto 4, 3) := by decide +kernel
theorem dX0_best_11 : decode cX0_best 11 = .ok (.iconst 0, 1) := by decide +kernel
theorem dX0_best_12 : decode cX0_best 12 = .ok (.invokevirtual 50, 3) := by decide +kernel
theorem dX0_best_15 : decode cX0_best 15 = .ok (.ireturn, 1) := by decide +kernel
set_option maxRecDepth 20000 in
theorem ggX0_nextPrice_X7_isBetter : GoodIn wsX0_nextPrice wsX7_isBetter := goodIn_r _ [7] (by decide +kernel) (by decide +kernel)
set_option maxRecDepth 20000 in
theorem gX0_nextPrice_X7_isBetter_n57 : GoodIn wsX0_nextPrice (wsX7_isBetter) := ggX0_nextPrice_X7_isBetter
theorem dX0_nextPrice_0 : decode cX0_nextPrice 0 = .ok (.iconst 0, 1) := by decide +kernel
theorem dX0_nextPrice_1 : decode cX0_nextPrice 1 = .ok (.istore_n 3, 1) := by decide +kernel
theorem dX0_nextPrice_2 : decode cX0_nextPrice 2 = .ok (.iconst 0, 1) := by decide +kernel
theorem dX0_nextPrice_3 : decode cX0_nextPrice 3 = .ok (.istore 4, 2) := by decide +kernel
theorem dX0_nextPrice_5 : decode cX0_nextPrice 5 = .ok (.iload 4, 2) := by decide +kernel
theorem dX0_nextPrice_7 : decode cX0_nextPrice 7 = .ok (.aload_n 0, 1) := by decide +kernel
theorem dX0_nextPrice_8 : decode cX0_nextPrice 8 = .ok (.getfield 25, 3) := by decide +kernel
theorem dX0_nextPrice_11 : decode cX0_nextPrice 11 = .ok (.if_icmp .ge 63, 3) := by decide +kernel
theorem dX0_nextPrice_14 : decode cX0_nextPrice 14 = .ok (.aload_n 0, 1) := by decide +kernel
theorem dX0_nextPrice_15 : decode cX0_nextPrice 15 = .ok (.getfield 11, 3) := by decide +kernel
theorem dX0_nextPrice_18 : decode cX0_nextPrice 18 = .ok (.iload 4, 2) := by decide +kernel
theorem dX0_nextPrice_20 : decode cX0_nextPrice 20 = .ok (.aaload, 1) := by decide +kernel
theorem dX0_nextPrice_21 : decode cX0_nextPrice 21 = .ok (.astore 5, 2) := by decide +kernel
theorem dX0_nextPrice_23 : decode cX0_nextPrice 23 = .ok (.aload 5, 2) := by decide +kernel
theorem dX0_nextPrice_25 : decode cX0_nextPrice 25 = .ok (.getfield 46, 3) := by decide +kernel
theorem dX0_nextPrice_28 : decode cX0_nextPrice 28 = .ok (.iload_n 1, 1) := by decide +kernel
theorem dX0_nextPrice_29 : decode cX0_nextPrice 29 = .ok (.if_icmp .ne 39, 3) := by decide +kernel
theorem dX0_nextPrice_32 : decode cX0_nextPrice 32 = .ok (.iload_n 1, 1) := by decide +kernel
theorem dX0_nextPrice_33 : decode cX0_nextPrice 33 = .ok (.iload_n 2, 1) := by decide +kernel
theorem dX0_nextPrice_34 : decode cX0_nextPrice 34 = .ok (.aload 5, 2) := by decide +kernel
theorem dX0_nextPrice_36 : decode cX0_nextPrice 36 = .ok (.getfield 54, 3) := by decide +kernel
theorem dX0_nextPrice_39 : decode cX0_nextPrice 39 = .ok (.invokestatic 57, 3) := by decide +kernel
theorem dX0_nextPrice_42 : decode cX0_nextPrice 42 = .ok (.ifCond .eq 26, 3) := by decide +kernel
theorem dX0_nextPrice_45 : decode cX0_nextPrice 45 = .ok (.iload_n 3, 1) := by decide +kernel
theorem dX0_nextPrice_46 : decode cX0_nextPrice 46 = .ok (.ifCond .eq 16, 3) := by decide +kernel
theorem dX0_nextPrice_49 : decode cX0_nextPrice 49 = .ok (.iload_n 1, 1) := by decide +kernel
theorem dX0_nextPrice_50 : decode cX0_nextPrice 50 = .ok (.aload 5, 2) := by decide +kernel
theorem dX0_nextPrice_52 : decode cX0_nextPrice 52 = .ok (.getfield 54, 3) := by decide +kernel
theorem dX0_nextPrice_55 : decode cX0_nextPrice 55 = .ok (.iload_n 3, 1) := by decide +kernel
theorem dX0_nextPrice_56 : decode cX0_nextPrice 56 = .ok (.invokestatic 57, 3) := by decide +kernel
theorem dX0_nextPrice_59 : decode cX0_nextPrice 59 = .ok (.ifCond .eq 9, 3) := by decide +kernel
theorem dX0_nextPrice_62 : decode cX0_nextPrice 62 = .ok (.aload 5, 2) := by decide +kernel
theorem dX0_nextPrice_64 : decode cX0_nextPrice 64 = .ok (.getfield 54, 3) := by decide +kernel
theorem dX0_nextPrice_67 : decode cX0_nextPrice 67 = .ok (.istore_n 3, 1) := by decide +kernel
theorem dX0_nextPrice_68 : decode cX0_nextPrice 68 = .ok (.iinc 4 1, 3) := by decide +kernel
theorem dX0_nextPrice_71 : decode cX0_nextPrice 71 = .ok (.goto (-66), 3) := by decide +kernel
theorem dX0_nextPrice_74 : decode cX0_nextPrice 74 = .ok (.iload_n 3, 1) := by decide +kernel
theorem dX0_nextPrice_75 : decode cX0_nextPrice 75 = .ok (.ireturn, 1) := by decide +kernel
theorem dX0_isAt_0 : decode cX0_isAt 0 = .ok (.aload_n 0, 1) := by decide +kernel
theorem dX0_isAt_1 : decode cX0_isAt 1 = .ok (.getfield 11, 3) := by decide +kernel
theorem dX0_isAt_4 : decode cX0_isAt 4 = .ok (.iload_n 1, 1) := by decide +kernel
theorem dX0_isAt_5 : decode cX0_isAt 5 = .ok (.aaload, 1) := by decide +kernel
theorem dX0_isAt_6 : decode cX0_isAt 6 = .ok (.getfield 46, 3) := by decide +kernel
theorem dX0_isAt_9 : decode cX0_isAt 9 = .ok (.iload_n 2, 1) := by decide +kernel
theorem dX0_isAt_10 : decode cX0_isAt 10 = .ok (.if_icmp .ne 20, 3) := by decide +kernel
theorem dX0_isAt_13 : decode cX0_isAt 13 = .ok (.aload_n 0, 1) := by decide +kernel
theorem dX0_isAt_14 : decode cX0_isAt 14 = .ok (.getfield 11, 3) := by decide +kernel
theorem dX0_isAt_17 : decode cX0_isAt 17 = .ok (.iload_n 1, 1) := by decide +kernel
theorem dX0_isAt_18 : decode cX0_isAt 18 = .ok (.aaload, 1) := by decide +kernel
theorem dX0_isAt_19 : decode cX0_isAt 19 = .ok (.getfield 54, 3) := by decide +kernel
theorem dX0_isAt_22 : decode cX0_isAt 22 = .ok (.iload_n 3, 1) := by decide +kernel
theorem dX0_isAt_23 : decode cX0_isAt 23 = .ok (.if_icmp .ne 7, 3) := by decide +kernel
theorem dX0_isAt_26 : decode cX0_isAt 26 = .ok (.iconst 1, 1) := by decide +kernel
theorem dX0_isAt_27 : decode cX0_isAt 27 = .ok (.goto 4, 3) := by decide +kernel
theorem dX0_isAt_30 : decode cX0_isAt 30 = .ok (.iconst 0, 1) := by decide +kernel
theorem dX0_isAt_31 : decode cX0_isAt 31 = .ok (.ireturn, 1) := by decide +kernel
theorem dX1_init_0 : decode cX1_init 0 = .ok (.aload_n 0, 1) := by decide +kernel
theorem dX1_init_1 : decode cX1_init 1 = .ok (.invokespecial 3, 3) := by decide +kernel
theorem dX1_init_4 : decode cX1_init 4 = .ok (.return_, 1) := by decide +kernel
set_option maxRecDepth 20000 in
theorem ggX2_init_X0_init : GoodIn wsX2_init wsX0_init := goodIn_r _ [28, 29, 2, 3, 30, 31, 32, 33, 34, 21, 22, 35, 36, 37, 59, 60, 61, 62, 93, 94, 95, 96, 97, 98] (by decide +kernel) (by decide +kernel)
set_option maxRecDepth 20000 in
theorem gX2_init_X0_init : GoodIn wsX2_init (wsX0_init) := ggX2_init_X0_init
set_option maxRecDepth 20000 in
theorem ggX2_init_X3_init : GoodIn wsX2_init wsX3_init := goodIn_r _ [39, 40, 2, 3, 41, 32, 42, 43, 44, 45, 75, 76, 77, 78, 79, 80, 81] (by decide +kernel) (by decide +kernel)
set_option maxRecDepth 20000 in
theorem gX2_init_X3_init_n20 : GoodIn wsX2_init (wsX3_init) := ggX2_init_X3_init
set_option maxRecDepth 20000 in
theorem ggX2_init_X5_init : GoodIn wsX2_init wsX5_init := goodIn_r _ [47, 48, 2, 3, 49, 50, 32, 51, 52, 53, 54, 55, 82, 83, 84, 85, 86, 87, 88, 89] (by decide +kernel) (by decide +kernel)
set_option maxRecDepth 20000 in
theorem gX2_init_X5_init_n27 : GoodIn wsX2_init (wsX5_init) := ggX2_init_X5_init
set_option maxRecDepth 20000 in
theorem ggX2_init_X1_init : GoodIn wsX2_init wsX1_init := goodIn_r _ [57, 58, 2, 3] (by decide +kernel) (by decide +kernel)
set_option maxRecDepth 20000 in
theorem gX2_init_X1_init_n34 : GoodIn wsX2_init (wsX1_init) := ggX2_init_X1_init
set_option maxRecDepth 20000 in
theorem ggX2_init_X4_init : GoodIn wsX2_init wsX4_init := goodIn_r _ [36, 37, 2, 3] (by decide +kernel) (by decide +kernel)
set_option maxRecDepth 20000 in
theorem gX2_init_X4_init_n41 : GoodIn wsX2_init (wsX4_init) := ggX2_init_X4_init
theorem dX2_init_0 : decode cX2_init 0 = .ok (.aload_n 0, 1) := by decide +kernel
theorem dX2_init_1 : decode cX2_init 1 = .ok (.invokespecial 3, 3) := by decide +kernel
theorem dX2_init_4 : decode cX2_init 4 = .ok (.aload_n 0, 1) := by decide +kernel
theorem dX2_init_5 : decode cX2_init 5 = .ok (.new 9, 3) := by decide +kernel
theorem dX2_init_8 : decode cX2_init 8 = .ok (.dup, 1) := by decide +kernel
theorem dX2_init_9 : decode cX2_init 9 = .ok (.invokespecial 11, 3) := by decide +kernel
theorem dX2_init_12 : decode cX2_init 12 = .ok (.putfield 12, 3) := by decide +kernel
theorem dX2_init_15 : decode cX2_init 15 = .ok (.aload_n 0, 1) := by decide +kernel
theorem dX2_init_16 : decode cX2_init 16 = .ok (.new 18, 3) := by decide +kernel
theorem dX2_init_19 : decode cX2_init 19 = .ok (.dup, 1) := by decide +kernel
theorem dX2_init_20 : decode cX2_init 20 = .ok (.invokespecial 20, 3) := by decide +kernel
theorem dX2_init_23 : decode cX2_init 23 = .ok (.putfield 21, 3) := by decide +kernel
theorem dX2_init_26 : decode cX2_init 26 = .ok (.aload_n 0, 1) := by decide +kernel
theorem dX2_init_27 : decode cX2_init 27 = .ok (.new 25, 3) := by decide +kernel
theorem dX2_init_30 : decode cX2_init 30 = .ok (.dup, 1) := by decide +kernel
theorem dX2_init_31 : decode cX2_init 31 = .ok (.invokespecial 27, 3) := by decide +kernel
theorem dX2_init_34 : decode cX2_init 34 = .ok (.putfield 28, 3) := by decide +kernel
theorem dX2_init_37 : decode cX2_init 37 = .ok (.aload_n 0, 1) := by decide +kernel
theorem dX2_init_38 : decode cX2_init 38 = .ok (.new 32, 3) := by decide +kernel
theorem dX2_init_41 : decode cX2_init 41 = .ok (.dup, 1) := by decide +kernel
theorem dX2_init_42 : decode cX2_init 42 = .ok (.invokespecial 34, 3) := by decide +kernel
theorem dX2_init_45 : decode cX2_init 45 = .ok (.putfield 35, 3) := by decide +kernel
theorem dX2_init_48 : decode cX2_init 48 = .ok (.aload_n 0, 1) := by decide +kernel
theorem dX2_init_49 : decode cX2_init 49 = .ok (.new 39, 3) := by decide +kernel
theorem dX2_init_52 : decode cX2_init 52 = .ok (.dup, 1) := by decide +kernel
theorem dX2_init_53 : decode cX2_init 53 = .ok (.invokespecial 41, 3) := by decide +kernel
theorem dX2_init_56 : decode cX2_init 56 = .ok (.putfield 42, 3) := by decide +kernel
theorem dX2_init_59 : decode cX2_init 59 = .ok (.aload_n 0, 1) := by decide +kernel
theorem dX2_init_60 : decode cX2_init 60 = .ok (.bipush 20, 2) := by decide +kernel
theorem dX2_init_62 : decode cX2_init 62 = .ok (.putfield 46, 3) := by decide +kernel
theorem dX2_init_65 : decode cX2_init 65 = .ok (.aload_n 0, 1) := by decide +kernel
theorem dX2_init_66 : decode cX2_init 66 = .ok (.iconst 2, 1) := by decide +kernel
theorem dX2_init_67 : decode cX2_init 67 = .ok (.putfield 50, 3) := by decide +kernel
theorem dX2_init_70 : decode cX2_init 70 = .ok (.return_, 1) := by decide +kernel
set_option maxRecDepth 20000 in
theorem ggX2_comeIn_X0_isFull : GoodIn wsX2_comeIn wsX0_isFull := goodIn_r _ [10, 11, 189, 190, 191, 192] (by decide +kernel) (by decide +kernel)
set_option maxRecDepth 20000 in
theorem gX2_comeIn_X0_isFull : GoodIn wsX2_comeIn (wsV RX2 76 RX0 yX0_isFull wsX0_isFull) := goodIn_app (goodIn_of _ (by decide +kernel)) ggX2_comeIn_X0_isFull
set_option maxRecDepth 20000 in
theorem ggX2_comeIn_X4_become : GoodIn wsX2_comeIn wsX4_become := goodIn_r _ [16, 17, 18, 19, 20, 21, 22, 183, 184, 185, 186, 187, 188] (by decide +kernel) (by decide +kernel)
set_option maxRecDepth 20000 in
theorem gX2_comeIn_X4_become : GoodIn wsX2_comeIn (wsV RX2 80 RX4 yX4_become wsX4_become) := goodIn_app (goodIn_of _ (by decide +kernel)) ggX2_comeIn_X4_become
set_option maxRecDepth 20000 in
theorem ggX2_comeIn_X2_meet : GoodIn wsX2_comeIn wsX2_meet := goodIn_r _ [27, 4, 28, 5, 2, 29, 30, 31, 32, 9, 33, 34, 35, 36, 37, 38, 11, 39, 40, 41, 42, 43, 44, 45, 46, 47, 26, 48, 49, 50, 51, 52, 53, 54, 55, 56, 57, 58, 59, 60, 61, 62, 63, 64, 65, 66, 67, 68, 69, 70, 71, 72, 73, 74, 75, 76, 77, 78, 79, 80, 81, 82, 83, 84, 85, 86, 87, 88, 89, 90, 91, 92, 93, 94, 95, 96, 97, 98, 99, 100, 101, 102, 103, 104, 105, 106, 107, 108, 109, 110, 111, 112, 113, 114, 115, 116, 117, 118, 119, 120, 121, 122, 123, 124, 125, 126, 127, 128, 129, 130, 131, 132, 133, 134, 135, 136, 137, 138, 139, 140, 141, 142, 143, 144, 145, 146, 147, 148, 149, 150, 171, 172, 173, 174, 175, 176, 177, 178, 179, 180, 181, 182, 183, 184, 185, 186, 187, 188, 189, 190, 191, 192, 193, 194, 195, 196, 197, 198, 199, 200, 201, 202, 203, 204, 205, 206, 207] (by decide +kernel) (by decide +kernel)
set_option maxRecDepth 20000 in
theorem gX2_comeIn_X2_meet : GoodIn wsX2_comeIn (wsV RX2 84 RX2 yX2_meet wsX2_meet) := goodIn_app (goodIn_of _ (by decide +kernel)) ggX2_comeIn_X2_meet
set_option maxRecDepth 20000 in
theorem ggX2_comeIn_X2_restComing : GoodIn wsX2_comeIn wsX2_restComing := goodIn_r _ [154, 2, 4, 28, 29, 1, 5, 155, 156, 30, 31, 32, 9, 33, 34, 35, 36, 37, 38, 11, 39, 40, 41, 42, 43, 44, 157, 158, 159, 160, 161, 7, 8, 10, 162, 163, 164, 15, 165, 17, 18, 19, 20, 21, 22, 166, 13, 14, 16, 167, 168, 169, 170, 76, 77, 78, 171, 172, 173, 174, 175, 176, 177, 178, 179, 180, 181, 182, 183, 184, 185, 186, 187, 188, 189, 190, 191, 192] (by decide +kernel) (by decide +kernel)
set_option maxRecDepth 20000 in
theorem gX2_comeIn_X2_restComing : GoodIn wsX2_comeIn (wsV RX2 91 RX2 yX2_restComing wsX2_restComing) := goodIn_app (goodIn_of _ (by decide +kernel)) ggX2_comeIn_X2_restComing
theorem dX2_comeIn_0 : decode cX2_comeIn 0 = .ok (.aload_n 0, 1) := by decide +kernel
theorem dX2_comeIn_1 : decode cX2_comeIn 1 = .ok (.getfield 60, 3) := by decide +kernel
theorem dX2_comeIn_4 : decode cX2_comeIn 4 = .ok (.ifCond .eq 16, 3) := by decide +kernel
theorem dX2_comeIn_7 : decode cX2_comeIn 7 = .ok (.aload_n 0, 1) := by decide +kernel
theorem dX2_comeIn_8 : decode cX2_comeIn 8 = .ok (.getfield 12, 3) := by decide +kernel
theorem dX2_comeIn_11 : decode cX2_comeIn 11 = .ok (.invokevirtual 76, 3) := by decide +kernel
theorem dX2_comeIn_14 : decode cX2_comeIn 14 = .ok (.ifCond .eq 6, 3) := by decide +kernel
theorem dX2_comeIn_17 : decode cX2_comeIn 17 = .ok (.bipush (-3), 2) := by decide +kernel
theorem dX2_comeIn_19 : decode cX2_comeIn 19 = .ok (.ireturn, 1) := by decide +kernel
theorem dX2_comeIn_20 : decode cX2_comeIn 20 = .ok (.aload_n 0, 1) := by decide +kernel
theorem dX2_comeIn_21 : decode cX2_comeIn 21 = .ok (.dup, 1) := by decide +kernel
theorem dX2_comeIn_22 : decode cX2_comeIn 22 = .ok (.getfield 64, 3) := by decide +kernel
theorem dX2_comeIn_25 : decode cX2_comeIn 25 = .ok (.iconst 1, 1) := by decide +kernel
theorem dX2_comeIn_26 : decode cX2_comeIn 26 = .ok (.iadd, 1) := by decide +kernel
theorem dX2_comeIn_27 : decode cX2_comeIn 27 = .ok (.putfield 64, 3) := by decide +kernel
theorem dX2_comeIn_30 : decode cX2_comeIn 30 = .ok (.aload_n 0, 1) := by decide +kernel
theorem dX2_comeIn_31 : decode cX2_comeIn 31 = .ok (.getfield 42, 3) := by decide +kernel
theorem dX2_comeIn_34 : decode cX2_comeIn 34 = .ok (.aload_n 0, 1) := by decide +kernel
theorem dX2_comeIn_35 : decode cX2_comeIn 35 = .ok (.getfield 64, 3) := by decide +kernel
theorem dX2_comeIn_38 : decode cX2_comeIn 38 = .ok (.iload_n 1, 1) := by decide +kernel
theorem dX2_comeIn_39 : decode cX2_comeIn 39 = .ok (.iload_n 2, 1) := by decide +kernel
theorem dX2_comeIn_40 : decode cX2_comeIn 40 = .ok (.iload_n 3, 1) := by decide +kernel
theorem dX2_comeIn_41 : decode cX2_comeIn 41 = .ok (.iload 4, 2) := by decide +kernel
theorem dX2_comeIn_43 : decode cX2_comeIn 43 = .ok (.invokevirtual 80, 3) := by decide +kernel
theorem dX2_comeIn_46 : decode cX2_comeIn 46 = .ok (.aload_n 0, 1) := by decide +kernel
theorem dX2_comeIn_47 : decode cX2_comeIn 47 = .ok (.getfield 60, 3) := by decide +kernel
theorem dX2_comeIn_50 : decode cX2_comeIn 50 = .ok (.ifCond .ne 9, 3) := by decide +kernel
theorem dX2_comeIn_53 : decode cX2_comeIn 53 = .ok (.aload_n 0, 1) := by decide +kernel
theorem dX2_comeIn_54 : decode cX2_comeIn 54 = .ok (.iload 5, 2) := by decide +kernel
theorem dX2_comeIn_56 : decode cX2_comeIn 56 = .ok (.invokevirtual 84, 3) := by decide +kernel
theorem dX2_comeIn_59 : decode cX2_comeIn 59 = .ok (.aload_n 0, 1) := by decide +kernel
theorem dX2_comeIn_60 : decode cX2_comeIn 60 = .ok (.getfield 12, 3) := by decide +kernel
theorem dX2_comeIn_63 : decode cX2_comeIn 63 = .ok (.invokevirtual 76, 3) := by decide +kernel
theorem dX2_comeIn_66 : decode cX2_comeIn 66 = .ok (.ifCond .eq 11, 3) := by decide +kernel
theorem dX2_comeIn_69 : decode cX2_comeIn 69 = .ok (.aload_n 0, 1) := by decide +kernel
theorem dX2_comeIn_70 : decode cX2_comeIn 70 = .ok (.getfield 42, 3) := by decide +kernel
theorem dX2_comeIn_73 : decode cX2_comeIn 73 = .ok (.iconst 0, 1) := by decide +kernel
theorem dX2_comeIn_74 : decode cX2_comeIn 74 = .ok (.putfield 88, 3) := by decide +kernel
theorem dX2_comeIn_77 : decode cX2_comeIn 77 = .ok (.aload_n 0, 1) := by decide +kernel
theorem dX2_comeIn_78 : decode cX2_comeIn 78 = .ok (.getfield 42, 3) := by decide +kernel
theorem dX2_comeIn_81 : decode cX2_comeIn 81 = .ok (.getfield 88, 3) := by decide +kernel
theorem dX2_comeIn_84 : decode cX2_comeIn 84 = .ok (.ifCond .le 7, 3) := by decide +kernel
theorem dX2_comeIn_87 : decode cX2_comeIn 87 = .ok (.aload_n 0, 1) := by decide +kernel
theorem dX2_comeIn_88 : decode cX2_comeIn 88 = .ok (.invokevirtual 91, 3) := by decide +kernel
theorem dX2_comeIn_91 : decode cX2_comeIn 91 = .ok (.aload_n 0, 1) := by decide +kernel
theorem dX2_comeIn_92 : decode cX2_comeIn 92 = .ok (.getfield 64, 3) := by decide +kernel
theorem dX2_comeIn_95 : decode cX2_comeIn 95 = .ok (.ireturn, 1) := by decide +kernel
set_option maxRecDepth 20000 in
theorem ggX2_restComing_X0_best : GoodIn wsX2_restComing wsX0_best := goodIn_r _ [13, 14, 15, 16, 17, 12, 18, 19, 20, 21, 22, 23, 24, 25, 74, 75, 76, 77, 68, 69, 70, 71, 72, 73] (by decide +kernel) (by decide +kernel)
set_option maxRecDepth 20000 in
theorem gX2_restComing_X0_best : GoodIn wsX2_restComing (wsV RX2 97 RX0 yX0_best wsX0_best) := goodIn_app (goodIn_of _ (by decide +kernel)) ggX2_restComing_X0_best
set_option maxRecDepth 20000 in
theorem ggX2_restComing_X7_isBetter : GoodIn wsX2_restComing wsX7_isBetter := goodIn_r _ [25] (by decide +kernel) (by decide +kernel)
set_option maxRecDepth 20000 in
theorem gX2_restComing_X7_isBetter_n104 : GoodIn wsX2_restComing (wsX7_isBetter) := ggX2_restComing_X7_isBetter
set_option maxRecDepth 20000 in
theorem ggX2_restComing_X0_add : GoodIn wsX2_restComing wsX0_add := goodIn_r _ [29, 20, 19, 30, 31, 32, 12, 33, 34, 35, 36, 37, 38, 39, 40, 41, 42, 43, 44, 45, 46, 47, 48, 74, 75, 76, 77, 68, 69, 70, 71, 72, 73] (by decide +kernel) (by decide +kernel)
set_option maxRecDepth 20000 in
theorem gX2_restComing_X0_add : GoodIn wsX2_restComing (wsV RX2 108 RX0 yX0_add wsX0_add) := goodIn_app (goodIn_of _ (by decide +kernel)) ggX2_restComing_X0_add
set_option maxRecDepth 20000 in
theorem ggX2_restComing_X0_makeTop : GoodIn wsX2_restComing wsX0_makeTop := goodIn_r _ [52, 53, 21, 54, 55, 74, 75, 76, 77, 68, 69, 70, 71, 72, 73] (by decide +kernel) (by decide +kernel)
set_option maxRecDepth 20000 in
theorem gX2_restComing_X0_makeTop : GoodIn wsX2_restComing (wsV RX2 115 RX0 yX0_makeTop wsX0_makeTop) := goodIn_app (goodIn_of _ (by decide +kernel)) ggX2_restComing_X0_makeTop
theorem dX2_restComing_0 : decode cX2_restComing 0 = .ok (.aload_n 0, 1) := by decide +kernel
theorem dX2_restComing_1 : decode cX2_restComing 1 = .ok (.getfield 12, 3) := by decide +kernel
theorem dX2_restComing_4 : decode cX2_restComing 4 = .ok (.aload_n 0, 1) := by decide +kernel
theorem dX2_restComing_5 : decode cX2_restComing 5 = .ok (.getfield 42, 3) := by decide +kernel
theorem dX2_restComing_8 : decode cX2_restComing 8 = .ok (.getfield 94, 3) := by decide +kernel
theorem dX2_restComing_11 : decode cX2_restComing 11 = .ok (.invokevirtual 97, 3) := by decide +kernel
theorem dX2_restComing_14 : decode cX2_restComing 14 = .ok (.istore_n 1, 1) := by decide +kernel
theorem dX2_restComing_15 : decode cX2_restComing 15 = .ok (.iload_n 1, 1) := by decide +kernel
theorem dX2_restComing_16 : decode cX2_restComing 16 = .ok (.ifCond .eq 24, 3) := by decide +kernel
theorem dX2_restComing_19 : decode cX2_restComing 19 = .ok (.aload_n 0, 1) := by decide +kernel
theorem dX2_restComing_20 : decode cX2_restComing 20 = .ok (.getfield 42, 3) := by decide +kernel
theorem dX2_restComing_23 : decode cX2_restComing 23 = .ok (.getfield 94, 3) := by decide +kernel
theorem dX2_restComing_26 : decode cX2_restComing 26 = .ok (.aload_n 0, 1) := by decide +kernel
theorem dX2_restComing_27 : decode cX2_restComing 27 = .ok (.getfield 42, 3) := by decide +kernel
theorem dX2_restComing_30 : decode cX2_restComing 30 = .ok (.getfield 101, 3) := by decide +kernel
theorem dX2_restComing_33 : decode cX2_restComing 33 = .ok (.iload_n 1, 1) := by decide +kernel
theorem dX2_restComing_34 : decode cX2_restComing 34 = .ok (.invokestatic 104, 3) := by decide +kernel
theorem dX2_restComing_37 : decode cX2_restComing 37 = .ok (.ifCond .eq 7, 3) := by decide +kernel
theorem dX2_restComing_40 : decode cX2_restComing 40 = .ok (.iconst 1, 1) := by decide +kernel
theorem dX2_restComing_41 : decode cX2_restComing 41 = .ok (.goto 4, 3) := by decide +kernel
theorem dX2_restComing_44 : decode cX2_restComing 44 = .ok (.iconst 0, 1) := by decide +kernel
theorem dX2_restComing_45 : decode cX2_restComing 45 = .ok (.istore_n 2, 1) := by decide +kernel
theorem dX2_restComing_46 : decode cX2_restComing 46 = .ok (.aload_n 0, 1) := by decide +kernel
theorem dX2_restComing_47 : decode cX2_restComing 47 = .ok (.getfield 12, 3) := by decide +kernel
theorem dX2_restComing_50 : decode cX2_restComing 50 = .ok (.aload_n 0, 1) := by decide +kernel
theorem dX2_restComing_51 : decode cX2_restComing 51 = .ok (.getfield 42, 3) := by decide +kernel
theorem dX2_restComing_54 : decode cX2_restComing 54 = .ok (.invokevirtual 108, 3) := by decide +kernel
theorem dX2_restComing_57 : decode cX2_restComing 57 = .ok (.aload_n 0, 1) := by decide +kernel
theorem dX2_restComing_58 : decode cX2_restComing 58 = .ok (.getfield 60, 3) := by decide +kernel
theorem dX2_restComing_61 : decode cX2_restComing 61 = .ok (.ifCond .ne 46, 3) := by decide +kernel
theorem dX2_restComing_64 : decode cX2_restComing 64 = .ok (.iload_n 2, 1) := by decide +kernel
theorem dX2_restComing_65 : decode cX2_restComing 65 = .ok (.ifCond .eq 42, 3) := by decide +kernel
theorem dX2_restComing_68 : decode cX2_restComing 68 = .ok (.aload_n 0, 1) := by decide +kernel
theorem dX2_restComing_69 : decode cX2_restComing 69 = .ok (.getfield 42, 3) := by decide +kernel
theorem dX2_restComing_72 : decode cX2_restComing 72 = .ok (.getfield 88, 3) := by decide +kernel
theorem dX2_restComing_75 : decode cX2_restComing 75 = .ok (.aload_n 0, 1) := by decide +kernel
theorem dX2_restComing_76 : decode cX2_restComing 76 = .ok (.getfield 42, 3) := by decide +kernel
theorem dX2_restComing_79 : decode cX2_restComing 79 = .ok (.getfield 112, 3) := by decide +kernel
theorem dX2_restComing_82 : decode cX2_restComing 82 = .ok (.if_icmp .ne 25, 3) := by decide +kernel
theorem dX2_restComing_85 : decode cX2_restComing 85 = .ok (.aload_n 0, 1) := by decide +kernel
theorem dX2_restComing_86 : decode cX2_restComing 86 = .ok (.getfield 46, 3) := by decide +kernel
theorem dX2_restComing_89 : decode cX2_restComing 89 = .ok (.ifCond .le 18, 3) := by decide +kernel
theorem dX2_restComing_92 : decode cX2_restComing 92 = .ok (.aload_n 0, 1) := by decide +kernel
theorem dX2_restComing_93 : decode cX2_restComing 93 = .ok (.getfield 12, 3) := by decide +kernel
theorem dX2_restComing_96 : decode cX2_restComing 96 = .ok (.aload_n 0, 1) := by decide +kernel
theorem dX2_restComing_97 : decode cX2_restComing 97 = .ok (.getfield 42, 3) := by decide +kernel
theorem dX2_restComing_100 : decode cX2_restComing 100 = .ok (.aload_n 0, 1) := by decide +kernel
theorem dX2_restComing_101 : decode cX2_restComing 101 = .ok (.getfield 46, 3) := by decide +kernel
theorem dX2_restComing_104 : decode cX2_restComing 104 = .ok (.invokevirtual 115, 3) := by decide +kernel
theorem dX2_restComing_107 : decode cX2_restComing 107 = .ok (.return_, 1) := by decide +kernel
set_option maxRecDepth 20000 in
theorem ggX2_meet_X0_best : GoodIn wsX2_meet wsX0_best := goodIn_r _ [10, 11, 12, 13, 14, 9, 15, 16, 17, 18, 19, 20, 21, 22, 148, 149, 150, 151, 142, 143, 144, 145, 146, 147] (by decide +kernel) (by decide +kernel)
set_option maxRecDepth 20000 in
theorem gX2_meet_X0_best : GoodIn wsX2_meet (wsV RX2 97 RX0 yX0_best wsX0_best) := goodIn_app (goodIn_of _ (by decide +kernel)) ggX2_meet_X0_best
set_option maxRecDepth 20000 in
theorem ggX2_meet_X7_isBetter : GoodIn wsX2_meet wsX7_isBetter := goodIn_r _ [22] (by decide +kernel) (by decide +kernel)
set_option maxRecDepth 20000 in
theorem gX2_meet_X7_isBetter_n104 : GoodIn wsX2_meet (wsX7_isBetter) := ggX2_meet_X7_isBetter
set_option maxRecDepth 20000 in
theorem ggX2_meet_X2_preventSelf : GoodIn wsX2_meet wsX2_preventSelf := goodIn_r _ [27, 4, 28, 29, 30, 1, 3, 31, 32, 33, 9, 34, 17, 18, 19, 35, 36, 37, 26, 38, 39, 40, 41, 42, 43, 44, 45, 46, 47, 48, 49, 16, 50, 51, 52, 53, 54, 55, 56, 57, 130, 131, 132, 133, 134, 135, 136, 137, 138, 139, 140, 141, 148, 149, 150, 151, 142, 143, 144, 145, 146, 147] (by decide +kernel) (by decide +kernel)
set_option maxRecDepth 20000 in
theorem gX2_meet_X2_preventSelf : GoodIn wsX2_meet (wsV RX2 119 RX2 yX2_preventSelf wsX2_preventSelf) := goodIn_app (goodIn_of _ (by decide +kernel)) ggX2_meet_X2_preventSelf
set_option maxRecDepth 20000 in
theorem ggX2_meet_X2_takeAt : GoodIn wsX2_meet wsX2_takeAt := goodIn_r _ [61, 62, 4, 1, 3, 63, 41, 42, 43, 44, 64, 65, 66, 67, 68, 69, 30, 2, 70, 71, 72, 73, 74, 75, 76, 77, 78, 79, 80, 81, 32, 33, 9, 34, 17, 18, 19, 82, 83, 84, 85, 55, 56, 57, 86, 87, 88, 89, 90, 91, 92, 93, 94, 95, 96, 97, 98, 99, 100, 101, 102, 103, 104, 105, 106, 26, 107, 108, 109, 110, 111, 112, 113, 114, 115, 116, 117, 118, 119, 120, 121, 122, 123, 124, 125, 126, 127, 128, 129, 46, 47, 48, 49, 16, 50, 51, 52, 53, 54, 130, 131, 132, 133, 134, 135, 136, 137, 138, 139, 140, 141, 142, 143, 144, 145, 146, 147, 152, 153, 154, 155, 156, 157, 158, 159, 160, 161, 162, 163, 164, 165, 166, 148, 149, 150, 151] (by decide +kernel) (by decide +kernel)
set_option maxRecDepth 20000 in
theorem gX2_meet_X2_takeAt : GoodIn wsX2_meet (wsV RX2 123 RX2 yX2_takeAt wsX2_takeAt) := goodIn_app (goodIn_of _ (by decide +kernel)) ggX2_meet_X2_takeAt
theorem dX2_meet_0 : decode cX2_meet 0 = .ok (.aload_n 0, 1) := by decide +kernel
theorem dX2_meet_1 : decode cX2_meet 1 = .ok (.getfield 42, 3) := by decide +kernel
theorem dX2_meet_4 : decode cX2_meet 4 = .ok (.getfield 94, 3) := by decide +kernel
theorem dX2_meet_7 : decode cX2_meet 7 = .ok (.ifCond .ne 7, 3) := by decide +kernel
theorem dX2_meet_10 : decode cX2_meet 10 = .ok (.iconst 1, 1) := by decide +kernel
theorem dX2_meet_11 : decode cX2_meet 11 = .ok (.goto 4, 3) := by decide +kernel
theorem dX2_meet_14 : decode cX2_meet 14 = .ok (.iconst 0, 1) := by decide +kernel
theorem dX2_meet_15 : decode cX2_meet 15 = .ok (.istore_n 2, 1) := by decide +kernel
theorem dX2_meet_16 : decode cX2_meet 16 = .ok (.iconst 0, 1) := by decide +kernel
theorem dX2_meet_17 : decode cX2_meet 17 = .ok (.istore_n 3, 1) := by decide +kernel
theorem dX2_meet_18 : decode cX2_meet 18 = .ok (.iload_n 3, 1) := by decide +kernel
theorem dX2_meet_19 : decode cX2_meet 19 = .ok (.bipush 60, 2) := by decide +kernel
theorem dX2_meet_21 : decode cX2_meet 21 = .ok (.if_icmp .ge 76, 3) := by decide +kernel
theorem dX2_meet_24 : decode cX2_meet 24 = .ok (.aload_n 0, 1) := by decide +kernel
theorem dX2_meet_25 : decode cX2_meet 25 = .ok (.getfield 42, 3) := by decide +kernel
theorem dX2_meet_28 : decode cX2_meet 28 = .ok (.getfield 88, 3) := by decide +kernel
theorem dX2_meet_31 : decode cX2_meet 31 = .ok (.ifCond .le 66, 3) := by decide +kernel
theorem dX2_meet_34 : decode cX2_meet 34 = .ok (.aload_n 0, 1) := by decide +kernel
theorem dX2_meet_35 : decode cX2_meet 35 = .ok (.getfield 12, 3) := by decide +kernel
theorem dX2_meet_38 : decode cX2_meet 38 = .ok (.iload_n 2, 1) := by decide +kernel
