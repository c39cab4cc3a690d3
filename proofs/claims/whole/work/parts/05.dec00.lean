set_option maxRecDepth 20000 in
theorem ggX0_init_X4_init : GoodIn wsX0_init wsX4_init := goodIn_r _ [12, 13, 2, 3] (by decide +kernel) (by decide +kernel)
set_option maxRecDepth 20000 in
theorem gX0_init_X4_init_n24 : GoodIn wsX0_init (wsX4_init) := ggX0_init_X4_init
theorem dX0_init_0 : decode cX0_init 0 = .ok (.aload_n 0, 1) := by decide +kernel
theorem dX0_init_1 : decode cX0_init 1 = .ok (.invokespecial 3, 3) := by decide +kernel
theorem dX0_init_4 : decode cX0_init 4 = .ok (.aload_n 0, 1) := by decide +kernel
theorem dX0_init_5 : decode cX0_init 5 = .ok (.bipush 60, 2) := by decide +kernel
theorem dX0_init_7 : decode cX0_init 7 = .ok (.anewarray 9, 3) := by decide +kernel
theorem dX0_init_10 : decode cX0_init 10 = .ok (.putfield 11, 3) := by decide +kernel
theorem dX0_init_13 : decode cX0_init 13 = .ok (.aload_n 0, 1) := by decide +kernel
theorem dX0_init_14 : decode cX0_init 14 = .ok (.iconst 2, 1) := by decide +kernel
theorem dX0_init_15 : decode cX0_init 15 = .ok (.newarray .int, 2) := by decide +kernel
theorem dX0_init_17 : decode cX0_init 17 = .ok (.putfield 17, 3) := by decide +kernel
theorem dX0_init_20 : decode cX0_init 20 = .ok (.aload_n 0, 1) := by decide +kernel
theorem dX0_init_21 : decode cX0_init 21 = .ok (.iconst 2, 1) := by decide +kernel
theorem dX0_init_22 : decode cX0_init 22 = .ok (.newarray .int, 2) := by decide +kernel
theorem dX0_init_24 : decode cX0_init 24 = .ok (.putfield 21, 3) := by decide +kernel
theorem dX0_init_27 : decode cX0_init 27 = .ok (.iconst 0, 1) := by decide +kernel
theorem dX0_init_28 : decode cX0_init 28 = .ok (.istore_n 1, 1) := by decide +kernel
theorem dX0_init_29 : decode cX0_init 29 = .ok (.iload_n 1, 1) := by decide +kernel
theorem dX0_init_30 : decode cX0_init 30 = .ok (.bipush 60, 2) := by decide +kernel
theorem dX0_init_32 : decode cX0_init 32 = .ok (.if_icmp .ge 22, 3) := by decide +kernel
theorem dX0_init_35 : decode cX0_init 35 = .ok (.aload_n 0, 1) := by decide +kernel
theorem dX0_init_36 : decode cX0_init 36 = .ok (.getfield 11, 3) := by decide +kernel
theorem dX0_init_39 : decode cX0_init 39 = .ok (.iload_n 1, 1) := by decide +kernel
theorem dX0_init_40 : decode cX0_init 40 = .ok (.new 9, 3) := by decide +kernel
theorem dX0_init_43 : decode cX0_init 43 = .ok (.dup, 1) := by decide +kernel
theorem dX0_init_44 : decode cX0_init 44 = .ok (.invokespecial 24, 3) := by decide +kernel
theorem dX0_init_47 : decode cX0_init 47 = .ok (.aastore, 1) := by decide +kernel
theorem dX0_init_48 : decode cX0_init 48 = .ok (.iinc 1 1, 3) := by decide +kernel
theorem dX0_init_51 : decode cX0_init 51 = .ok (.goto (-22), 3) := by decide +kernel
theorem dX0_init_54 : decode cX0_init 54 = .ok (.return_, 1) := by decide +kernel
set_option maxRecDepth 20000 in
theorem ggX0_copyFrom_X4_copyFrom : GoodIn wsX0_copyFrom wsX4_copyFrom := goodIn_r _ [9, 10, 11, 12, 13, 14, 15, 16, 17, 18, 8, 19, 24, 25, 26, 27, 28, 29] (by decide +kernel) (by decide +kernel)
set_option maxRecDepth 20000 in
theorem gX0_copyFrom_X4_copyFrom : GoodIn wsX0_copyFrom (wsV RX0 29 RX4 yX4_copyFrom wsX4_copyFrom) := goodIn_app (goodIn_of _ (by decide +kernel)) ggX0_copyFrom_X4_copyFrom
theorem dX0_copyFrom_0 : decode cX0_copyFrom 0 = .ok (.aload_n 0, 1) := by decide +kernel
theorem dX0_copyFrom_1 : decode cX0_copyFrom 1 = .ok (.aload_n 1, 1) := by decide +kernel
theorem dX0_copyFrom_2 : decode cX0_copyFrom 2 = .ok (.getfield 25, 3) := by decide +kernel
theorem dX0_copyFrom_5 : decode cX0_copyFrom 5 = .ok (.putfield 25, 3) := by decide +kernel
theorem dX0_copyFrom_8 : decode cX0_copyFrom 8 = .ok (.iconst 0, 1) := by decide +kernel
theorem dX0_copyFrom_9 : decode cX0_copyFrom 9 = .ok (.istore_n 2, 1) := by decide +kernel
theorem dX0_copyFrom_10 : decode cX0_copyFrom 10 = .ok (.iload_n 2, 1) := by decide +kernel
theorem dX0_copyFrom_11 : decode cX0_copyFrom 11 = .ok (.aload_n 0, 1) := by decide +kernel
theorem dX0_copyFrom_12 : decode cX0_copyFrom 12 = .ok (.getfield 25, 3) := by decide +kernel
theorem dX0_copyFrom_15 : decode cX0_copyFrom 15 = .ok (.if_icmp .ge 24, 3) := by decide +kernel
theorem dX0_copyFrom_18 : decode cX0_copyFrom 18 = .ok (.aload_n 0, 1) := by decide +kernel
theorem dX0_copyFrom_19 : decode cX0_copyFrom 19 = .ok (.getfield 11, 3) := by decide +kernel
theorem dX0_copyFrom_22 : decode cX0_copyFrom 22 = .ok (.iload_n 2, 1) := by decide +kernel
theorem dX0_copyFrom_23 : decode cX0_copyFrom 23 = .ok (.aaload, 1) := by decide +kernel
theorem dX0_copyFrom_24 : decode cX0_copyFrom 24 = .ok (.aload_n 1, 1) := by decide +kernel
theorem dX0_copyFrom_25 : decode cX0_copyFrom 25 = .ok (.getfield 11, 3) := by decide +kernel
theorem dX0_copyFrom_28 : decode cX0_copyFrom 28 = .ok (.iload_n 2, 1) := by decide +kernel
theorem dX0_copyFrom_29 : decode cX0_copyFrom 29 = .ok (.aaload, 1) := by decide +kernel
theorem dX0_copyFrom_30 : decode cX0_copyFrom 30 = .ok (.invokevirtual 29, 3) := by decide +kernel
theorem dX0_copyFrom_33 : decode cX0_copyFrom 33 = .ok (.iinc 2 1, 3) := by decide +kernel
theorem dX0_copyFrom_36 : decode cX0_copyFrom 36 = .ok (.goto (-26), 3) := by decide +kernel
theorem dX0_copyFrom_39 : decode cX0_copyFrom 39 = .ok (.iconst 0, 1) := by decide +kernel
theorem dX0_copyFrom_40 : decode cX0_copyFrom 40 = .ok (.istore_n 2, 1) := by decide +kernel
theorem dX0_copyFrom_41 : decode cX0_copyFrom 41 = .ok (.iload_n 2, 1) := by decide +kernel
theorem dX0_copyFrom_42 : decode cX0_copyFrom 42 = .ok (.iconst 2, 1) := by decide +kernel
theorem dX0_copyFrom_43 : decode cX0_copyFrom 43 = .ok (.if_icmp .ge 33, 3) := by decide +kernel
theorem dX0_copyFrom_46 : decode cX0_copyFrom 46 = .ok (.aload_n 0, 1) := by decide +kernel
theorem dX0_copyFrom_47 : decode cX0_copyFrom 47 = .ok (.getfield 17, 3) := by decide +kernel
theorem dX0_copyFrom_50 : decode cX0_copyFrom 50 = .ok (.iload_n 2, 1) := by decide +kernel
theorem dX0_copyFrom_51 : decode cX0_copyFrom 51 = .ok (.aload_n 1, 1) := by decide +kernel
theorem dX0_copyFrom_52 : decode cX0_copyFrom 52 = .ok (.getfield 17, 3) := by decide +kernel
theorem dX0_copyFrom_55 : decode cX0_copyFrom 55 = .ok (.iload_n 2, 1) := by decide +kernel
theorem dX0_copyFrom_56 : decode cX0_copyFrom 56 = .ok (.iaload, 1) := by decide +kernel
theorem dX0_copyFrom_57 : decode cX0_copyFrom 57 = .ok (.iastore, 1) := by decide +kernel
theorem dX0_copyFrom_58 : decode cX0_copyFrom 58 = .ok (.aload_n 0, 1) := by decide +kernel
theorem dX0_copyFrom_59 : decode cX0_copyFrom 59 = .ok (.getfield 21, 3) := by decide +kernel
theorem dX0_copyFrom_62 : decode cX0_copyFrom 62 = .ok (.iload_n 2, 1) := by decide +kernel
theorem dX0_copyFrom_63 : decode cX0_copyFrom 63 = .ok (.aload_n 1, 1) := by decide +kernel
theorem dX0_copyFrom_64 : decode cX0_copyFrom 64 = .ok (.getfield 21, 3) := by decide +kernel
theorem dX0_copyFrom_67 : decode cX0_copyFrom 67 = .ok (.iload_n 2, 1) := by decide +kernel
theorem dX0_copyFrom_68 : decode cX0_copyFrom 68 = .ok (.iaload, 1) := by decide +kernel
theorem dX0_copyFrom_69 : decode cX0_copyFrom 69 = .ok (.iastore, 1) := by decide +kernel
theorem dX0_copyFrom_70 : decode cX0_copyFrom 70 = .ok (.iinc 2 1, 3) := by decide +kernel
theorem dX0_copyFrom_73 : decode cX0_copyFrom 73 = .ok (.goto (-32), 3) := by decide +kernel
theorem dX0_copyFrom_76 : decode cX0_copyFrom 76 = .ok (.return_, 1) := by decide +kernel
theorem dX0_find_0 : decode cX0_find 0 = .ok (.iconst 0, 1) := by decide +kernel
theorem dX0_find_1 : decode cX0_find 1 = .ok (.istore_n 2, 1) := by decide +kernel
theorem dX0_find_2 : decode cX0_find 2 = .ok (.iload_n 2, 1) := by decide +kernel
theorem dX0_find_3 : decode cX0_find 3 = .ok (.aload_n 0, 1) := by decide +kernel
theorem dX0_find_4 : decode cX0_find 4 = .ok (.getfield 25, 3) := by decide +kernel
theorem dX0_find_7 : decode cX0_find 7 = .ok (.if_icmp .ge 29, 3) := by decide +kernel
theorem dX0_find_10 : decode cX0_find 10 = .ok (.aload_n 0, 1) := by decide +kernel
theorem dX0_find_11 : decode cX0_find 11 = .ok (.getfield 11, 3) := by decide +kernel
theorem dX0_find_14 : decode cX0_find 14 = .ok (.iload_n 2, 1) := by decide +kernel
theorem dX0_find_15 : decode cX0_find 15 = .ok (.aaload, 1) := by decide +kernel
theorem dX0_find_16 : decode cX0_find 16 = .ok (.getfield 33, 3) := by decide +kernel
theorem dX0_find_19 : decode cX0_find 19 = .ok (.iload_n 1, 1) := by decide +kernel
theorem dX0_find_20 : decode cX0_find 20 = .ok (.if_icmp .ne 10, 3) := by decide +kernel
theorem dX0_find_23 : decode cX0_find 23 = .ok (.aload_n 0, 1) := by decide +kernel
theorem dX0_find_24 : decode cX0_find 24 = .ok (.getfield 11, 3) := by decide +kernel
theorem dX0_find_27 : decode cX0_find 27 = .ok (.iload_n 2, 1) := by decide +kernel
theorem dX0_find_28 : decode cX0_find 28 = .ok (.aaload, 1) := by decide +kernel
theorem dX0_find_29 : decode cX0_find 29 = .ok (.areturn, 1) := by decide +kernel
theorem dX0_find_30 : decode cX0_find 30 = .ok (.iinc 2 1, 3) := by decide +kernel
theorem dX0_find_33 : decode cX0_find 33 = .ok (.goto (-31), 3) := by decide +kernel
theorem dX0_find_36 : decode cX0_find 36 = .ok (.aconst_null, 1) := by decide +kernel
theorem dX0_find_37 : decode cX0_find 37 = .ok (.areturn, 1) := by decide +kernel
theorem dX0_isFull_0 : decode cX0_isFull 0 = .ok (.aload_n 0, 1) := by decide +kernel
theorem dX0_isFull_1 : decode cX0_isFull 1 = .ok (.getfield 25, 3) := by decide +kernel
theorem dX0_isFull_4 : decode cX0_isFull 4 = .ok (.bipush 60, 2) := by decide +kernel
theorem dX0_isFull_6 : decode cX0_isFull 6 = .ok (.if_icmp .lt 7, 3) := by decide +kernel
theorem dX0_isFull_9 : decode cX0_isFull 9 = .ok (.iconst 1, 1) := by decide +kernel
theorem dX0_isFull_10 : decode cX0_isFull 10 = .ok (.goto 4, 3) := by decide +kernel
theorem dX0_isFull_13 : decode cX0_isFull 13 = .ok (.iconst 0, 1) := by decide +kernel
theorem dX0_isFull_14 : decode cX0_isFull 14 = .ok (.ireturn, 1) := by decide +kernel
set_option maxRecDepth 20000 in
theorem ggX0_add_X0_isFull : GoodIn wsX0_add wsX0_isFull := goodIn_r _ [7, 2, 23, 24, 25, 26] (by decide +kernel) (by decide +kernel)
set_option maxRecDepth 20000 in
theorem gX0_add_X0_isFull : GoodIn wsX0_add (wsV RX0 36 RX0 yX0_isFull wsX0_isFull) := goodIn_app (goodIn_of _ (by decide +kernel)) ggX0_add_X0_isFull
set_option maxRecDepth 20000 in
theorem ggX0_add_X4_copyFrom : GoodIn wsX0_add wsX4_copyFrom := goodIn_r _ [12, 13, 14, 15, 16, 17, 18, 19, 20, 21, 11, 22, 27, 28, 29, 30, 31, 32] (by decide +kernel) (by decide +kernel)
set_option maxRecDepth 20000 in
theorem gX0_add_X4_copyFrom : GoodIn wsX0_add (wsV RX0 29 RX4 yX4_copyFrom wsX4_copyFrom) := goodIn_app (goodIn_of _ (by decide +kernel)) ggX0_add_X4_copyFrom
theorem dX0_add_0 : decode cX0_add 0 = .ok (.aload_n 0, 1) := by decide +kernel
theorem dX0_add_1 : decode cX0_add 1 = .ok (.invokevirtual 36, 3) := by decide +kernel
theorem dX0_add_4 : decode cX0_add 4 = .ok (.ifCond .ne 26, 3) := by decide +kernel
theorem dX0_add_7 : decode cX0_add 7 = .ok (.aload_n 0, 1) := by decide +kernel
theorem dX0_add_8 : decode cX0_add 8 = .ok (.getfield 11, 3) := by decide +kernel
theorem dX0_add_11 : decode cX0_add 11 = .ok (.aload_n 0, 1) := by decide +kernel
theorem dX0_add_12 : decode cX0_add 12 = .ok (.getfield 25, 3) := by decide +kernel
theorem dX0_add_15 : decode cX0_add 15 = .ok (.aaload, 1) := by decide +kernel
theorem dX0_add_16 : decode cX0_add 16 = .ok (.aload_n 1, 1) := by decide +kernel
theorem dX0_add_17 : decode cX0_add 17 = .ok (.invokevirtual 29, 3) := by decide +kernel
theorem dX0_add_20 : decode cX0_add 20 = .ok (.aload_n 0, 1) := by decide +kernel
theorem dX0_add_21 : decode cX0_add 21 = .ok (.dup, 1) := by decide +kernel
theorem dX0_add_22 : decode cX0_add 22 = .ok (.getfield 25, 3) := by decide +kernel
theorem dX0_add_25 : decode cX0_add 25 = .ok (.iconst 1, 1) := by decide +kernel
theorem dX0_add_26 : decode cX0_add 26 = .ok (.iadd, 1) := by decide +kernel
theorem dX0_add_27 : decode cX0_add 27 = .ok (.putfield 25, 3) := by decide +kernel
theorem dX0_add_30 : decode cX0_add 30 = .ok (.return_, 1) := by decide +kernel
set_option maxRecDepth 20000 in
theorem ggX0_sweep_X0_lapse : GoodIn wsX0_sweep wsX0_lapse := goodIn_r _ [8, 9, 10, 11, 12, 13, 14, 15, 16, 17, 18, 19, 20, 21, 22] (by decide +kernel) (by decide +kernel)
set_option maxRecDepth 20000 in
theorem gX0_sweep_X0_lapse : GoodIn wsX0_sweep (wsV RX0 43 RX0 yX0_lapse wsX0_lapse) := goodIn_app (goodIn_of _ (by decide +kernel)) ggX0_sweep_X0_lapse
theorem dX0_sweep_0 : decode cX0_sweep 0 = .ok (.iconst 0, 1) := by decide +kernel
theorem dX0_sweep_1 : decode cX0_sweep 1 = .ok (.istore_n 1, 1) := by decide +kernel
theorem dX0_sweep_2 : decode cX0_sweep 2 = .ok (.iconst 0, 1) := by decide +kernel
theorem dX0_sweep_3 : decode cX0_sweep 3 = .ok (.istore_n 2, 1) := by decide +kernel
theorem dX0_sweep_4 : decode cX0_sweep 4 = .ok (.iload_n 2, 1) := by decide +kernel
theorem dX0_sweep_5 : decode cX0_sweep 5 = .ok (.aload_n 0, 1) := by decide +kernel
theorem dX0_sweep_6 : decode cX0_sweep 6 = .ok (.getfield 25, 3) := by decide +kernel
theorem dX0_sweep_9 : decode cX0_sweep 9 = .ok (.if_icmp .ge 53, 3) := by decide +kernel
theorem dX0_sweep_12 : decode cX0_sweep 12 = .ok (.aload_n 0, 1) := by decide +kernel
theorem dX0_sweep_13 : decode cX0_sweep 13 = .ok (.getfield 11, 3) := by decide +kernel
theorem dX0_sweep_16 : decode cX0_sweep 16 = .ok (.iload_n 2, 1) := by decide +kernel
theorem dX0_sweep_17 : decode cX0_sweep 17 = .ok (.aaload, 1) := by decide +kernel
theorem dX0_sweep_18 : decode cX0_sweep 18 = .ok (.astore_n 3, 1) := by decide +kernel
theorem dX0_sweep_19 : decode cX0_sweep 19 = .ok (.aload_n 3, 1) := by decide +kernel
theorem dX0_sweep_20 : decode cX0_sweep 20 = .ok (.getfield 40, 3) := by decide +kernel
theorem dX0_sweep_23 : decode cX0_sweep 23 = .ok (.ifCond .le 28, 3) := by decide +kernel
theorem dX0_sweep_26 : decode cX0_sweep 26 = .ok (.aload_n 0, 1) := by decide +kernel
theorem dX0_sweep_27 : decode cX0_sweep 27 = .ok (.getfield 11, 3) := by decide +kernel
theorem dX0_sweep_30 : decode cX0_sweep 30 = .ok (.iload_n 2, 1) := by decide +kernel
theorem dX0_sweep_31 : decode cX0_sweep 31 = .ok (.aload_n 0, 1) := by decide +kernel
theorem dX0_sweep_32 : decode cX0_sweep 32 = .ok (.getfield 11, 3) := by decide +kernel
theorem dX0_sweep_35 : decode cX0_sweep 35 = .ok (.iload_n 1, 1) := by decide +kernel
theorem dX0_sweep_36 : decode cX0_sweep 36 = .ok (.aaload, 1) := by decide +kernel
theorem dX0_sweep_37 : decode cX0_sweep 37 = .ok (.aastore, 1) := by decide +kernel
theorem dX0_sweep_38 : decode cX0_sweep 38 = .ok (.aload_n 0, 1) := by decide +kernel
theorem dX0_sweep_39 : decode cX0_sweep 39 = .ok (.getfield 11, 3) := by decide +kernel
theorem dX0_sweep_42 : decode cX0_sweep 42 = .ok (.iload_n 1, 1) := by decide +kernel
theorem dX0_sweep_43 : decode cX0_sweep 43 = .ok (.aload_n 3, 1) := by decide +kernel
theorem dX0_sweep_44 : decode cX0_sweep 44 = .ok (.aastore, 1) := by decide +kernel
theorem dX0_sweep_45 : decode cX0_sweep 45 = .ok (.iinc 1 1, 3) := by decide +kernel
theorem dX0_sweep_48 : decode cX0_sweep 48 = .ok (.goto 8, 3) := by decide +kernel
theorem dX0_sweep_51 : decode cX0_sweep 51 = .ok (.aload_n 0, 1) := by decide +kernel
theorem dX0_sweep_52 : decode cX0_sweep 52 = .ok (.aload_n 3, 1) := by decide +kernel
theorem dX0_sweep_53 : decode cX0_sweep 53 = .ok (.invokevirtual 43, 3) := by decide +kernel
theorem dX0_sweep_56 : decode cX0_sweep 56 = .ok (.iinc 2 1, 3) := by decide +kernel
theorem dX0_sweep_59 : decode cX0_sweep 59 = .ok (.goto (-55), 3) := by decide +kernel
theorem dX0_sweep_62 : decode cX0_sweep 62 = .ok (.aload_n 0, 1) := by decide +kernel
theorem dX0_sweep_63 : decode cX0_sweep 63 = .ok (.iload_n 1, 1) := by decide +kernel
theorem dX0_sweep_64 : decode cX0_sweep 64 = .ok (.putfield 25, 3) := by decide +kernel
theorem dX0_sweep_67 : decode cX0_sweep 67 = .ok (.return_, 1) := by decide +kernel
theorem dX0_makeTop_0 : decode cX0_makeTop 0 = .ok (.aload_n 0, 1) := by decide +kernel
theorem dX0_makeTop_1 : decode cX0_makeTop 1 = .ok (.getfield 17, 3) := by decide +kernel
theorem dX0_makeTop_4 : decode cX0_makeTop 4 = .ok (.aload_n 1, 1) := by decide +kernel
theorem dX0_makeTop_5 : decode cX0_makeTop 5 = .ok (.getfield 46, 3) := by decide +kernel
theorem dX0_makeTop_8 : decode cX0_makeTop 8 = .ok (.aload_n 1, 1) := by decide +kernel
theorem dX0_makeTop_9 : decode cX0_makeTop 9 = .ok (.getfield 33, 3) := by decide +kernel
theorem dX0_makeTop_12 : decode cX0_makeTop 12 = .ok (.iastore, 1) := by decide +kernel
theorem dX0_makeTop_13 : decode cX0_makeTop 13 = .ok (.aload_n 0, 1) := by decide +kernel
theorem dX0_makeTop_14 : decode cX0_makeTop 14 = .ok (.getfield 21, 3) := by decide +kernel
theorem dX0_makeTop_17 : decode cX0_makeTop 17 = .ok (.aload_n 1, 1) := by decide +kernel
theorem dX0_makeTop_18 : decode cX0_makeTop 18 = .ok (.getfield 46, 3) := by decide +kernel
theorem dX0_makeTop_21 : decode cX0_makeTop 21 = .ok (.iload_n 2, 1) := by decide +kernel
theorem dX0_makeTop_22 : decode cX0_makeTop 22 = .ok (.iastore, 1) := by decide +kernel
theorem dX0_makeTop_23 : decode cX0_makeTop 23 = .ok (.return_, 1) := by decide +kernel
theorem dX0_lapse_0 : decode cX0_lapse 0 = .ok (.aload_n 0, 1) := by decide +kernel
theorem dX0_lapse_1 : decode cX0_lapse 1 = .ok (.getfield 17, 3) := by decide +kernel
theorem dX0_lapse_4 : decode cX0_lapse 4 = .ok (.aload_n 1, 1) := by decide +kernel
theorem dX0_lapse_5 : decode cX0_lapse 5 = .ok (.getfield 46, 3) := by decide +kernel
theorem dX0_lapse_8 : decode cX0_lapse 8 = .ok (.iaload, 1) := by decide +kernel
theorem dX0_lapse_9 : decode cX0_lapse 9 = .ok (.aload_n 1, 1) := by decide +kernel
theorem dX0_lapse_10 : decode cX0_lapse 10 = .ok (.getfield 33, 3) := by decide +kernel
theorem dX0_lapse_13 : decode cX0_lapse 13 = .ok (.if_icmp .ne 23, 3) := by decide +kernel
theorem dX0_lapse_16 : decode cX0_lapse 16 = .ok (.aload_n 0, 1) := by decide +kernel
theorem dX0_lapse_17 : decode cX0_lapse 17 = .ok (.getfield 17, 3) := by decide +kernel
theorem dX0_lapse_20 : decode cX0_lapse 20 = .ok (.aload_n 1, 1) := by decide +kernel
theorem dX0_lapse_21 : decode cX0_lapse 21 = .ok (.getfield 46, 3) := by decide +kernel
theorem dX0_lapse_24 : decode cX0_lapse 24 = .ok (.iconst 0, 1) := by decide +kernel
theorem dX0_lapse_25 : decode cX0_lapse 25 = .ok (.iastore, 1) := by decide +kernel
theorem dX0_lapse_26 : decode cX0_lapse 26 = .ok (.aload_n 0, 1) := by decide +kernel
theorem dX0_lapse_27 : decode cX0_lapse 27 = .ok (.getfield 21, 3) := by decide +kernel
theorem dX0_lapse_30 : decode cX0_lapse 30 = .ok (.aload_n 1, 1) := by decide +kernel
theorem dX0_lapse_31 : decode cX0_lapse 31 = .ok (.getfield 46, 3) := by decide +kernel
theorem dX0_lapse_34 : decode cX0_lapse 34 = .ok (.iconst 0, 1) := by decide +kernel
theorem dX0_lapse_35 : decode cX0_lapse 35 = .ok (.iastore, 1) := by decide +kernel
theorem dX0_lapse_36 : decode cX0_lapse 36 = .ok (.return_, 1) := by decide +kernel
theorem dX0_lapseAll_0 : decode cX0_lapseAll 0 = .ok (.iconst 0, 1) := by decide +kernel
theorem dX0_lapseAll_1 : decode cX0_lapseAll 1 = .ok (.istore_n 1, 1) := by decide +kernel
theorem dX0_lapseAll_2 : decode cX0_lapseAll 2 = .ok (.iload_n 1, 1) := by decide +kernel
theorem dX0_lapseAll_3 : decode cX0_lapseAll 3 = .ok (.iconst 2, 1) := by decide +kernel
theorem dX0_lapseAll_4 : decode cX0_lapseAll 4 = .ok (.if_icmp .ge 23, 3) := by decide +kernel
theorem dX0_lapseAll_7 : decode cX0_lapseAll 7 = .ok (.aload_n 0, 1) := by decide +kernel
theorem dX0_lapseAll_8 : decode cX0_lapseAll 8 = .ok (.getfield 17, 3) := by decide +kernel
theorem dX0_lapseAll_11 : decode cX0_lapseAll 11 = .ok (.iload_n 1, 1) := by decide +kernel
theorem dX0_lapseAll_12 : decode cX0_lapseAll 12 = .ok (.iconst 0, 1) := by decide +kernel
theorem dX0_lapseAll_13 : decode cX0_lapseAll 13 = .ok (.iastore, 1) := by decide +kernel
theorem dX0_lapseAll_14 : decode cX0_lapseAll 14 = .ok (.aload_n 0, 1) := by decide +kernel
theorem dX0_lapseAll_15 : decode cX0_lapseAll 15 = .ok (.getfield 21, 3) := by decide +kernel
theorem dX0_lapseAll_18 : decode cX0_lapseAll 18 = .ok (.iload_n 1, 1) := by decide +kernel
theorem dX0_lapseAll_19 : decode cX0_lapseAll 19 = .ok (.iconst 0, 1) := by decide +kernel
theorem dX0_lapseAll_20 : decode cX0_lapseAll 20 = .ok (.iastore, 1) := by decide +kernel
theorem dX0_lapseAll_21 : decode cX0_lapseAll 21 = .ok (.iinc 1 1, 3) := by decide +kernel
theorem dX0_lapseAll_24 : decode cX0_lapseAll 24 = .ok (.goto (-22), 3) := by decide +kernel
theorem dX0_lapseAll_27 : decode cX0_lapseAll 27 = .ok (.return_, 1) := by decide +kernel
theorem dX0_grantOf_0 : decode cX0_grantOf 0 = .ok (.aload_n 0, 1) := by decide +kernel
theorem dX0_grantOf_1 : decode cX0_grantOf 1 = .ok (.getfield 17, 3) := by decide +kernel
theorem dX0_grantOf_4 : decode cX0_grantOf 4 = .ok (.aload_n 1, 1) := by decide +kernel
theorem dX0_grantOf_5 : decode cX0_grantOf 5 = .ok (.getfield 46, 3) := by decide +kernel
theorem dX0_grantOf_8 : decode cX0_grantOf 8 = .ok (.iaload, 1) := by decide +kernel
theorem dX0_grantOf_9 : decode cX0_grantOf 9 = .ok (.aload_n 1, 1) := by decide +kernel
theorem dX0_grantOf_10 : decode cX0_grantOf 10 = .ok (.getfield 33, 3) := by decide +kernel
theorem dX0_grantOf_13 : decode cX0_grantOf 13 = .ok (.if_icmp .ne 15, 3) := by decide +kernel
theorem dX0_grantOf_16 : decode cX0_grantOf 16 = .ok (.aload_n 0, 1) := by decide +kernel
theorem dX0_grantOf_17 : decode cX0_grantOf 17 = .ok (.getfield 21, 3) := by decide +kernel
theorem dX0_grantOf_20 : decode cX0_grantOf 20 = .ok (.aload_n 1, 1) := by decide +kernel
theorem dX0_grantOf_21 : decode cX0_grantOf 21 = .ok (.getfield 46, 3) := by decide +kernel
theorem dX0_grantOf_24 : decode cX0_grantOf 24 = .ok (.iaload, 1) := by decide +kernel
theorem dX0_grantOf_25 : decode cX0_grantOf 25 = .ok (.goto 4, 3) := by decide +kernel
theorem dX0_grantOf_28 : decode cX0_grantOf 28 = .ok (.iconst 0, 1) := by decide +kernel
theorem dX0_grantOf_29 : decode cX0_grantOf 29 = .ok (.ireturn, 1) := by decide +kernel
theorem dX0_useGrant_0 : decode cX0_useGrant 0 = .ok (.aload_n 0, 1) := by decide +kernel
theorem dX0_useGrant_1 : decode cX0_useGrant 1 = .ok (.getfield 21, 3) := by decide +kernel
theorem dX0_useGrant_4 : decode cX0_useGrant 4 = .ok (.aload_n 1, 1) := by decide +kernel
theorem dX0_useGrant_5 : decode cX0_useGrant 5 = .ok (.getfield 46, 3) := by decide +kernel
theorem dX0_useGrant_8 : decode cX0_useGrant 8 = .ok (.dup2, 1) := by decide +kernel
theorem dX0_useGrant_9 : decode cX0_useGrant 9 = .ok (.iaload, 1) := by decide +kernel
theorem dX0_useGrant_10 : decode cX0_useGrant 10 = .ok (.iload_n 2, 1) := by decide +kernel
theorem dX0_useGrant_11 : decode cX0_useGrant 11 = .ok (.isub, 1) := by decide +kernel
theorem dX0_useGrant_12 : decode cX0_useGrant 12 = .ok (.iastore, 1) := by decide +kernel
theorem dX0_useGrant_13 : decode cX0_useGrant 13 = .ok (.aload_n 0, 1) := by decide +kernel
theorem dX0_useGrant_14 : decode cX0_useGrant 14 = .ok (.getfield 21, 3) := by decide +kernel
theorem dX0_useGrant_17 : decode cX0_useGrant 17 = .ok (.aload_n 1, 1) := by decide +kernel
theorem dX0_useGrant_18 : decode cX0_useGrant 18 = .ok (.getfield 46, 3) := by decide +kernel
theorem dX0_useGrant_21 : decode cX0_useGrant 21 = .ok (.iaload, 1) := by decide +kernel
theorem dX0_useGrant_22 : decode cX0_useGrant 22 = .ok (.ifCond .gt 13, 3) := by decide +kernel
theorem dX0_useGrant_25 : decode cX0_useGrant 25 = .ok (.aload_n 0, 1) := by decide +kernel
theorem dX0_useGrant_26 : decode cX0_useGrant 26 = .ok (.getfield 17, 3) := by decide +kernel
theorem dX0_useGrant_29 : decode cX0_useGrant 29 = .ok (.aload_n 1, 1) := by decide +kernel
theorem dX0_useGrant_30 : decode cX0_useGrant 30 = .ok (.getfield 46, 3) := by decide +kernel
theorem dX0_useGrant_33 : decode cX0_useGrant 33 = .ok (.iconst 0, 1) := by decide +kernel
theorem dX0_useGrant_34 : decode cX0_useGrant 34 = .ok (.iastore, 1) := by decide +kernel
theorem dX0_useGrant_35 : decode cX0_useGrant 35 = .ok (.return_, 1) := by decide +kernel
set_option maxRecDepth 20000 in
theorem ggX0_best_X0_nextPrice : GoodIn wsX0_best wsX0_nextPrice := goodIn_r _ [6, 7, 8, 9, 10, 11, 12, 13, 14, 15, 16, 17, 18, 19, 20, 21, 22, 23] (by decide +kernel) (by decide +kernel)
set_option maxRecDepth 20000 in
theorem gX0_best_X0_nextPrice : GoodIn wsX0_best (wsV RX0 50 RX0 yX0_nextPrice wsX0_nextPrice) := goodIn_app (goodIn_of _ (by decide +kernel)) ggX0_best_X0_nextPrice
theorem dX0_best_0 : decode cX0_best 0 = .ok (.aload_n 0, 1) := by decide +kernel
theorem dX0_best_1 : decode cX0_best 1 = .ok (.iload_n 1, 1) := by decide +kernel
theorem dX0_best_2 : decode cX0_best 2 = .ok (.iload_n 1, 1) := by decide +kernel
theorem dX0_best_3 : decode cX0_best 3 = .ok (.ifCond .ne 8, 3) := by decide +kernel
theorem dX0_best_6 : decode cX0_best 6 = .ok (.ldc 49, 2) := by decide +kernel
theorem dX0_best_8 : decode cX0_best 8 = .ok (.goto 4, 3) := by decide +kernel
theorem dX0_best_11 : decode cX0_best 11 = .ok (.iconst 0, 1) := by decide +kernel
theorem dX0_best_12 : decode cX0_best 12 = .ok (.invokevirtual 50, 3) := by decide +kernel
theorem dX0_best_15 : decode cX0_best 15 = .ok (.ireturn, 1) := by decide +kernel
set_option maxRecDepth 20000 in
theorem ggX0_nextPrice_X7_isBetter : GoodIn wsX0_nextPrice wsX7_isBetter := goodIn_r _ [7] (by decide +kernel) (by decide +kernel)
set_option maxRecDepth 20000 in
theorem gX0_nextPrice_X7_isBetter_n57 : GoodIn wsX0_nextPrice (wsX7_isBetter) := ggX0_nextPrice_X7_isBetter
theorem dX0_nextPrice_0 : decode cX0_nextPrice 0 = .ok (.iconst 0, 1) := by decide +kernel
theorem dX0_nextPrice_1 : decode cX0_nextPrice 1 = .ok (.istore_n 3, 1) := by decide +kernel
theorem dX0_nextPrice_2 : decode cX0_nextPrice 2 = .ok (.iconst 0, 1) := by decide +kernel
theorem dX0_nextPrice_3 : decode cX0_nextPrice 3 = .ok (.istore 4, 2) := by decide +kernel
theorem dX0_nextPrice_5 : decode cX0_nextPrice 5 = .ok (.iload 4, 2) := by decide +kernel
theorem dX0_nextPrice_7 : decode cX0_nextPrice 7 = .ok (.aload_n 0, 1) := by decide +kernel
theorem dX0_nextPrice_8 : decode cX0_nextPrice 8 = .ok (.getfield 25, 3) := by decide +kernel
theorem dX0_nextPrice_11 : decode cX0_nextPrice 11 = .ok (.if_icmp .ge 63, 3) := by decide +kernel
theorem dX0_nextPrice_14 : decode cX0_nextPrice 14 = .ok (.aload_n 0, 1) := by decide +kernel
theorem dX0_nextPrice_15 : decode cX0_nextPrice 15 = .ok (.getfield 11, 3) := by decide +kernel
theorem dX0_nextPrice_18 : decode cX0_nextPrice 18 = .ok (.iload 4, 2) := by decide +kernel
theorem dX0_nextPrice_20 : decode cX0_nextPrice 20 = .ok (.aaload, 1) := by decide +kernel
theorem dX0_nextPrice_21 : decode cX0_nextPrice 21 = .ok (.astore 5, 2) := by decide +kernel
theorem dX0_nextPrice_23 : decode cX0_nextPrice 23 = .ok (.aload 5, 2) := by decide +kernel
theorem dX0_nextPrice_25 : decode cX0_nextPrice 25 = .ok (.getfield 46, 3) := by decide +kernel
theorem dX0_nextPrice_28 : decode cX0_nextPrice 28 = .ok (.iload_n 1, 1) := by decide +kernel
theorem dX0_nextPrice_29 : decode cX0_nextPrice 29 = .ok (.if_icmp .ne 39, 3) := by decide +kernel
theorem dX0_nextPrice_32 : decode cX0_nextPrice 32 = .ok (.iload_n 1, 1) := by decide +kernel
theorem dX0_nextPrice_33 : decode cX0_nextPrice 33 = .ok (.iload_n 2, 1) := by decide +kernel
theorem dX0_nextPrice_34 : decode cX0_nextPrice 34 = .ok (.aload 5, 2) := by decide +kernel
theorem dX0_nextPrice_36 : decode cX0_nextPrice 36 = .ok (.getfield 54, 3) := by decide +kernel
theorem dX0_nextPrice_39 : decode cX0_nextPrice 39 = .ok (.invokestatic 57, 3) := by decide +kernel
theorem dX0_nextPrice_42 : decode cX0_nextPrice 42 = .ok (.ifCond .eq 26, 3) := by decide +kernel
theorem dX0_nextPrice_45 : decode cX0_nextPrice 45 = .ok (.iload_n 3, 1) := by decide +kernel
theorem dX0_nextPrice_46 : decode cX0_nextPrice 46 = .ok (.ifCond .eq 16, 3) := by decide +kernel
theorem dX0_nextPrice_49 : decode cX0_nextPrice 49 = .ok (.iload_n 1, 1) := by decide +kernel
theorem dX0_nextPrice_50 : decode cX0_nextPrice 50 = .ok (.aload 5, 2) := by decide +kernel
theorem dX0_nextPrice_52 : decode cX0_nextPrice 52 = .ok (.getfield 54, 3) := by decide +kernel
theorem dX0_nextPrice_55 : decode cX0_nextPrice 55 = .ok (.iload_n 3, 1) := by decide +kernel
theorem dX0_nextPrice_56 : decode cX0_nextPrice 56 = .ok (.invokestatic 57, 3) := by decide +kernel
theorem dX0_nextPrice_59 : decode cX0_nextPrice 59 = .ok (.ifCond .eq 9, 3) := by decide +kernel
theorem dX0_nextPrice_62 : decode cX0_nextPrice 62 = .ok (.aload 5, 2) := by decide +kernel
theorem dX0_nextPrice_64 : decode cX0_nextPrice 64 = .ok (.getfield 54, 3) := by decide +kernel
theorem dX0_nextPrice_67 : decode cX0_nextPrice 67 = .ok (.istore_n 3, 1) := by decide +kernel
theorem dX0_nextPrice_68 : decode cX0_nextPrice 68 = .ok (.iinc 4 1, 3) := by decide +kernel
theorem dX0_nextPrice_71 : decode cX0_nextPrice 71 = .ok (.goto (-66), 3) := by decide +kernel
theorem dX0_nextPrice_74 : decode cX0_nextPrice 74 = .ok (.iload_n 3, 1) := by decide +kernel
theorem dX0_nextPrice_75 : decode cX0_nextPrice 75 = .ok (.ireturn, 1) := by decide +kernel
set_option maxRecDepth 20000 in
theorem ggX0_priceAt_X0_best : GoodIn wsX0_priceAt wsX0_best := goodIn_r _ [5, 6, 7, 8, 9, 4, 10, 11, 12, 13, 14, 15, 16, 17, 18, 19, 20, 21, 22, 23, 24, 25, 26, 27] (by decide +kernel) (by decide +kernel)
set_option maxRecDepth 20000 in
theorem gX0_priceAt_X0_best : GoodIn wsX0_priceAt (wsV RX0 61 RX0 yX0_best wsX0_best) := goodIn_app (goodIn_of _ (by decide +kernel)) ggX0_priceAt_X0_best
set_option maxRecDepth 20000 in
theorem ggX0_priceAt_X0_nextPrice : GoodIn wsX0_priceAt wsX0_nextPrice := goodIn_r _ [10, 11, 12, 13, 14, 15, 16, 17, 18, 19, 20, 21, 22, 23, 24, 25, 26, 27] (by decide +kernel) (by decide +kernel)
set_option maxRecDepth 20000 in
theorem gX0_priceAt_X0_nextPrice : GoodIn wsX0_priceAt (wsV RX0 50 RX0 yX0_nextPrice wsX0_nextPrice) := goodIn_app (goodIn_of _ (by decide +kernel)) ggX0_priceAt_X0_nextPrice
theorem dX0_priceAt_0 : decode cX0_priceAt 0 = .ok (.iload_n 2, 1) := by decide +kernel
theorem dX0_priceAt_1 : decode cX0_priceAt 1 = .ok (.ifCond .lt 9, 3) := by decide +kernel
theorem dX0_priceAt_4 : decode cX0_priceAt 4 = .ok (.iload_n 2, 1) := by decide +kernel
theorem dX0_priceAt_5 : decode cX0_priceAt 5 = .ok (.bipush 60, 2) := by decide +kernel
theorem dX0_priceAt_7 : decode cX0_priceAt 7 = .ok (.if_icmp .lt 5, 3) := by decide +kernel
theorem dX0_priceAt_10 : decode cX0_priceAt 10 = .ok (.iconst 0, 1) := by decide +kernel
theorem dX0_priceAt_11 : decode cX0_priceAt 11 = .ok (.ireturn, 1) := by decide +kernel
theorem dX0_priceAt_12 : decode cX0_priceAt 12 = .ok (.aload_n 0, 1) := by decide +kernel
theorem dX0_priceAt_13 : decode cX0_priceAt 13 = .ok (.iload_n 1, 1) := by decide +kernel
theorem dX0_priceAt_14 : decode cX0_priceAt 14 = .ok (.invokevirtual 61, 3) := by decide +kernel
theorem dX0_priceAt_17 : decode cX0_priceAt 17 = .ok (.istore_n 3, 1) := by decide +kernel
theorem dX0_priceAt_18 : decode cX0_priceAt 18 = .ok (.iconst 0, 1) := by decide +kernel
theorem dX0_priceAt_19 : decode cX0_priceAt 19 = .ok (.istore 4, 2) := by decide +kernel
theorem dX0_priceAt_21 : decode cX0_priceAt 21 = .ok (.iload 4, 2) := by decide +kernel
theorem dX0_priceAt_23 : decode cX0_priceAt 23 = .ok (.iload_n 2, 1) := by decide +kernel
theorem dX0_priceAt_24 : decode cX0_priceAt 24 = .ok (.if_icmp .ge 20, 3) := by decide +kernel
theorem dX0_priceAt_27 : decode cX0_priceAt 27 = .ok (.iload_n 3, 1) := by decide +kernel
theorem dX0_priceAt_28 : decode cX0_priceAt 28 = .ok (.ifCond .le 16, 3) := by decide +kernel
theorem dX0_priceAt_31 : decode cX0_priceAt 31 = .ok (.aload_n 0, 1) := by decide +kernel
theorem dX0_priceAt_32 : decode cX0_priceAt 32 = .ok (.iload_n 1, 1) := by decide +kernel
theorem dX0_priceAt_33 : decode cX0_priceAt 33 = .ok (.iload_n 3, 1) := by decide +kernel
theorem dX0_priceAt_34 : decode cX0_priceAt 34 = .ok (.invokevirtual 50, 3) := by decide +kernel
theorem dX0_priceAt_37 : decode cX0_priceAt 37 = .ok (.istore_n 3, 1) := by decide +kernel
theorem dX0_priceAt_38 : decode cX0_priceAt 38 = .ok (.iinc 4 1, 3) := by decide +kernel
theorem dX0_priceAt_41 : decode cX0_priceAt 41 = .ok (.goto (-20), 3) := by decide +kernel
theorem dX0_priceAt_44 : decode cX0_priceAt 44 = .ok (.iload_n 3, 1) := by decide +kernel
theorem dX0_priceAt_45 : decode cX0_priceAt 45 = .ok (.ireturn, 1) := by decide +kernel
set_option maxRecDepth 20000 in
theorem ggX0_prices_X0_best : GoodIn wsX0_prices wsX0_best := goodIn_r _ [5, 6, 7, 8, 9, 4, 10, 11, 12, 13, 14, 15, 16, 17, 18, 19, 20, 21, 22, 23, 24, 25, 26, 27] (by decide +kernel) (by decide +kernel)
set_option maxRecDepth 20000 in
theorem gX0_prices_X0_best : GoodIn wsX0_prices (wsV RX0 61 RX0 yX0_best wsX0_best) := goodIn_app (goodIn_of _ (by decide +kernel)) ggX0_prices_X0_best
set_option maxRecDepth 20000 in
theorem ggX0_prices_X0_nextPrice : GoodIn wsX0_prices wsX0_nextPrice := goodIn_r _ [10, 11, 12, 13, 14, 15, 16, 17, 18, 19, 20, 21, 22, 23, 24, 25, 26, 27] (by decide +kernel) (by decide +kernel)
set_option maxRecDepth 20000 in
theorem gX0_prices_X0_nextPrice : GoodIn wsX0_prices (wsV RX0 50 RX0 yX0_nextPrice wsX0_nextPrice) := goodIn_app (goodIn_of _ (by decide +kernel)) ggX0_prices_X0_nextPrice
theorem dX0_prices_0 : decode cX0_prices 0 = .ok (.aload_n 0, 1) := by decide +kernel
theorem dX0_prices_1 : decode cX0_prices 1 = .ok (.iload_n 1, 1) := by decide +kernel
theorem dX0_prices_2 : decode cX0_prices 2 = .ok (.invokevirtual 61, 3) := by decide +kernel
theorem dX0_prices_5 : decode cX0_prices 5 = .ok (.istore_n 2, 1) := by decide +kernel
theorem dX0_prices_6 : decode cX0_prices 6 = .ok (.iconst 0, 1) := by decide +kernel
theorem dX0_prices_7 : decode cX0_prices 7 = .ok (.istore_n 3, 1) := by decide +kernel
theorem dX0_prices_8 : decode cX0_prices 8 = .ok (.iconst 0, 1) := by decide +kernel
theorem dX0_prices_9 : decode cX0_prices 9 = .ok (.istore 4, 2) := by decide +kernel
theorem dX0_prices_11 : decode cX0_prices 11 = .ok (.iload 4, 2) := by decide +kernel
theorem dX0_prices_13 : decode cX0_prices 13 = .ok (.bipush 60, 2) := by decide +kernel
theorem dX0_prices_15 : decode cX0_prices 15 = .ok (.if_icmp .ge 23, 3) := by decide +kernel
theorem dX0_prices_18 : decode cX0_prices 18 = .ok (.iload_n 2, 1) := by decide +kernel
theorem dX0_prices_19 : decode cX0_prices 19 = .ok (.ifCond .le 19, 3) := by decide +kernel
theorem dX0_prices_22 : decode cX0_prices 22 = .ok (.iinc 3 1, 3) := by decide +kernel
theorem dX0_prices_25 : decode cX0_prices 25 = .ok (.aload_n 0, 1) := by decide +kernel
theorem dX0_prices_26 : decode cX0_prices 26 = .ok (.iload_n 1, 1) := by decide +kernel
theorem dX0_prices_27 : decode cX0_prices 27 = .ok (.iload_n 2, 1) := by decide +kernel
theorem dX0_prices_28 : decode cX0_prices 28 = .ok (.invokevirtual 50, 3) := by decide +kernel
theorem dX0_prices_31 : decode cX0_prices 31 = .ok (.istore_n 2, 1) := by decide +kernel
theorem dX0_prices_32 : decode cX0_prices 32 = .ok (.iinc 4 1, 3) := by decide +kernel
theorem dX0_prices_35 : decode cX0_prices 35 = .ok (.goto (-24), 3) := by decide +kernel
theorem dX0_prices_38 : decode cX0_prices 38 = .ok (.iload_n 3, 1) := by decide +kernel
theorem dX0_prices_39 : decode cX0_prices 39 = .ok (.ireturn, 1) := by decide +kernel
theorem dX0_isAt_0 : decode cX0_isAt 0 = .ok (.aload_n 0, 1) := by decide +kernel
theorem dX0_isAt_1 : decode cX0_isAt 1 = .ok (.getfield 11, 3) := by decide +kernel
theorem dX0_isAt_4 : decode cX0_isAt 4 = .ok (.iload_n 1, 1) := by decide +kernel
theorem dX0_isAt_5 : decode cX0_isAt 5 = .ok (.aaload, 1) := by decide +kernel
theorem dX0_isAt_6 : decode cX0_isAt 6 = .ok (.getfield 46, 3) := by decide +kernel
theorem dX0_isAt_9 : decode cX0_isAt 9 = .ok (.iload_n 2, 1) := by decide +kernel
theorem dX0_isAt_10 : decode cX0_isAt 10 = .ok (.if_icmp .ne 20, 3) := by decide +kernel
theorem dX0_isAt_13 : decode cX0_isAt 13 = .ok (.aload_n 0, 1) := by decide +kernel
theorem dX0_isAt_14 : decode cX0_isAt 14 = .ok (.getfield 11, 3) := by decide +kernel
theorem dX0_isAt_17 : decode cX0_isAt 17 = .ok (.iload_n 1, 1) := by decide +kernel
theorem dX0_isAt_18 : decode cX0_isAt 18 = .ok (.aaload, 1) := by decide +kernel
theorem dX0_isAt_19 : decode cX0_isAt 19 = .ok (.getfield 54, 3) := by decide +kernel
theorem dX0_isAt_22 : decode cX0_isAt 22 = .ok (.iload_n 3, 1) := by decide +kernel
theorem dX0_isAt_23 : decode cX0_isAt 23 = .ok (.if_icmp .ne 7, 3) := by decide +kernel
theorem dX0_isAt_26 : decode cX0_isAt 26 = .ok (.iconst 1, 1) := by decide +kernel
theorem dX0_isAt_27 : decode cX0_isAt 27 = .ok (.goto 4, 3) := by decide +kernel
theorem dX0_isAt_30 : decode cX0_isAt 30 = .ok (.iconst 0, 1) := by decide +kernel
theorem dX0_isAt_31 : decode cX0_isAt 31 = .ok (.ireturn, 1) := by decide +kernel
set_option maxRecDepth 20000 in
theorem ggX0_sizesAt_X0_isAt : GoodIn wsX0_sizesAt wsX0_isAt := goodIn_r _ [8, 2, 9, 10, 11, 12, 13, 14, 15, 16, 17, 18, 19, 20] (by decide +kernel) (by decide +kernel)
set_option maxRecDepth 20000 in
theorem gX0_sizesAt_X0_isAt : GoodIn wsX0_sizesAt (wsV RX0 65 RX0 yX0_isAt wsX0_isAt) := goodIn_app (goodIn_of _ (by decide +kernel)) ggX0_sizesAt_X0_isAt
theorem dX0_sizesAt_0 : decode cX0_sizesAt 0 = .ok (.iconst 0, 1) := by decide +kernel
theorem dX0_sizesAt_1 : decode cX0_sizesAt 1 = .ok (.istore_n 3, 1) := by decide +kernel
theorem dX0_sizesAt_2 : decode cX0_sizesAt 2 = .ok (.iconst 0, 1) := by decide +kernel
theorem dX0_sizesAt_3 : decode cX0_sizesAt 3 = .ok (.istore 4, 2) := by decide +kernel
theorem dX0_sizesAt_5 : decode cX0_sizesAt 5 = .ok (.iload 4, 2) := by decide +kernel
theorem dX0_sizesAt_7 : decode cX0_sizesAt 7 = .ok (.aload_n 0, 1) := by decide +kernel
theorem dX0_sizesAt_8 : decode cX0_sizesAt 8 = .ok (.getfield 25, 3) := by decide +kernel
theorem dX0_sizesAt_11 : decode cX0_sizesAt 11 = .ok (.if_icmp .ge 37, 3) := by decide +kernel
theorem dX0_sizesAt_14 : decode cX0_sizesAt 14 = .ok (.iload_n 3, 1) := by decide +kernel
theorem dX0_sizesAt_15 : decode cX0_sizesAt 15 = .ok (.aload_n 0, 1) := by decide +kernel
theorem dX0_sizesAt_16 : decode cX0_sizesAt 16 = .ok (.iload 4, 2) := by decide +kernel
theorem dX0_sizesAt_18 : decode cX0_sizesAt 18 = .ok (.iload_n 1, 1) := by decide +kernel
theorem dX0_sizesAt_19 : decode cX0_sizesAt 19 = .ok (.iload_n 2, 1) := by decide +kernel
theorem dX0_sizesAt_20 : decode cX0_sizesAt 20 = .ok (.invokevirtual 65, 3) := by decide +kernel
theorem dX0_sizesAt_23 : decode cX0_sizesAt 23 = .ok (.ifCond .eq 16, 3) := by decide +kernel
theorem dX0_sizesAt_26 : decode cX0_sizesAt 26 = .ok (.aload_n 0, 1) := by decide +kernel
theorem dX0_sizesAt_27 : decode cX0_sizesAt 27 = .ok (.getfield 11, 3) := by decide +kernel
theorem dX0_sizesAt_30 : decode cX0_sizesAt 30 = .ok (.iload 4, 2) := by decide +kernel
theorem dX0_sizesAt_32 : decode cX0_sizesAt 32 = .ok (.aaload, 1) := by decide +kernel
theorem dX0_sizesAt_33 : decode cX0_sizesAt 33 = .ok (.getfield 40, 3) := by decide +kernel
theorem dX0_sizesAt_36 : decode cX0_sizesAt 36 = .ok (.goto 4, 3) := by decide +kernel
theorem dX0_sizesAt_39 : decode cX0_sizesAt 39 = .ok (.iconst 0, 1) := by decide +kernel
theorem dX0_sizesAt_40 : decode cX0_sizesAt 40 = .ok (.iadd, 1) := by decide +kernel
theorem dX0_sizesAt_41 : decode cX0_sizesAt 41 = .ok (.istore_n 3, 1) := by decide +kernel
theorem dX0_sizesAt_42 : decode cX0_sizesAt 42 = .ok (.iinc 4 1, 3) := by decide +kernel
theorem dX0_sizesAt_45 : decode cX0_sizesAt 45 = .ok (.goto (-40), 3) := by decide +kernel
theorem dX0_sizesAt_48 : decode cX0_sizesAt 48 = .ok (.iload_n 3, 1) := by decide +kernel
theorem dX0_sizesAt_49 : decode cX0_sizesAt 49 = .ok (.ireturn, 1) := by decide +kernel
set_option maxRecDepth 20000 in
theorem ggX0_ordersAt_X0_isAt : GoodIn wsX0_ordersAt wsX0_isAt := goodIn_r _ [6, 7, 8, 9, 10, 11, 12, 13, 14, 15, 16, 17, 18, 19] (by decide +kernel) (by decide +kernel)
set_option maxRecDepth 20000 in
theorem gX0_ordersAt_X0_isAt : GoodIn wsX0_ordersAt (wsV RX0 65 RX0 yX0_isAt wsX0_isAt) := goodIn_app (goodIn_of _ (by decide +kernel)) ggX0_ordersAt_X0_isAt
theorem dX0_ordersAt_0 : decode cX0_ordersAt 0 = .ok (.iconst 0, 1) := by decide +kernel
theorem dX0_ordersAt_1 : decode cX0_ordersAt 1 = .ok (.istore_n 3, 1) := by decide +kernel
theorem dX0_ordersAt_2 : decode cX0_ordersAt 2 = .ok (.iconst 0, 1) := by decide +kernel
theorem dX0_ordersAt_3 : decode cX0_ordersAt 3 = .ok (.istore 4, 2) := by decide +kernel
theorem dX0_ordersAt_5 : decode cX0_ordersAt 5 = .ok (.iload 4, 2) := by decide +kernel
theorem dX0_ordersAt_7 : decode cX0_ordersAt 7 = .ok (.aload_n 0, 1) := by decide +kernel
theorem dX0_ordersAt_8 : decode cX0_ordersAt 8 = .ok (.getfield 25, 3) := by decide +kernel
theorem dX0_ordersAt_11 : decode cX0_ordersAt 11 = .ok (.if_icmp .ge 28, 3) := by decide +kernel
theorem dX0_ordersAt_14 : decode cX0_ordersAt 14 = .ok (.iload_n 3, 1) := by decide +kernel
theorem dX0_ordersAt_15 : decode cX0_ordersAt 15 = .ok (.aload_n 0, 1) := by decide +kernel
theorem dX0_ordersAt_16 : decode cX0_ordersAt 16 = .ok (.iload 4, 2) := by decide +kernel
theorem dX0_ordersAt_18 : decode cX0_ordersAt 18 = .ok (.iload_n 1, 1) := by decide +kernel
theorem dX0_ordersAt_19 : decode cX0_ordersAt 19 = .ok (.iload_n 2, 1) := by decide +kernel
theorem dX0_ordersAt_20 : decode cX0_ordersAt 20 = .ok (.invokevirtual 65, 3) := by decide +kernel
theorem dX0_ordersAt_23 : decode cX0_ordersAt 23 = .ok (.ifCond .eq 7, 3) := by decide +kernel
theorem dX0_ordersAt_26 : decode cX0_ordersAt 26 = .ok (.iconst 1, 1) := by decide +kernel
theorem dX0_ordersAt_27 : decode cX0_ordersAt 27 = .ok (.goto 4, 3) := by decide +kernel
theorem dX0_ordersAt_30 : decode cX0_ordersAt 30 = .ok (.iconst 0, 1) := by decide +kernel
theorem dX0_ordersAt_31 : decode cX0_ordersAt 31 = .ok (.iadd, 1) := by decide +kernel
theorem dX0_ordersAt_32 : decode cX0_ordersAt 32 = .ok (.istore_n 3, 1) := by decide +kernel
theorem dX0_ordersAt_33 : decode cX0_ordersAt 33 = .ok (.iinc 4 1, 3) := by decide +kernel
theorem dX0_ordersAt_36 : decode cX0_ordersAt 36 = .ok (.goto (-31), 3) := by decide +kernel
theorem dX0_ordersAt_39 : decode cX0_ordersAt 39 = .ok (.iload_n 3, 1) := by decide +kernel
theorem dX0_ordersAt_40 : decode cX0_ordersAt 40 = .ok (.ireturn, 1) := by decide +kernel
set_option maxRecDepth 20000 in
theorem ggX0_numberAt_X0_isAt : GoodIn wsX0_numberAt wsX0_isAt := goodIn_r _ [8, 2, 9, 10, 11, 12, 13, 14, 15, 16, 17, 18, 19, 20] (by decide +kernel) (by decide +kernel)
set_option maxRecDepth 20000 in
theorem gX0_numberAt_X0_isAt : GoodIn wsX0_numberAt (wsV RX0 65 RX0 yX0_isAt wsX0_isAt) := goodIn_app (goodIn_of _ (by decide +kernel)) ggX0_numberAt_X0_isAt
theorem dX0_numberAt_0 : decode cX0_numberAt 0 = .ok (.iconst 0, 1) := by decide +kernel
theorem dX0_numberAt_1 : decode cX0_numberAt 1 = .ok (.istore 4, 2) := by decide +kernel
theorem dX0_numberAt_3 : decode cX0_numberAt 3 = .ok (.iconst 0, 1) := by decide +kernel
theorem dX0_numberAt_4 : decode cX0_numberAt 4 = .ok (.istore 5, 2) := by decide +kernel
theorem dX0_numberAt_6 : decode cX0_numberAt 6 = .ok (.iload 5, 2) := by decide +kernel
theorem dX0_numberAt_8 : decode cX0_numberAt 8 = .ok (.aload_n 0, 1) := by decide +kernel
theorem dX0_numberAt_9 : decode cX0_numberAt 9 = .ok (.getfield 25, 3) := by decide +kernel
theorem dX0_numberAt_12 : decode cX0_numberAt 12 = .ok (.if_icmp .ge 40, 3) := by decide +kernel
theorem dX0_numberAt_15 : decode cX0_numberAt 15 = .ok (.aload_n 0, 1) := by decide +kernel
theorem dX0_numberAt_16 : decode cX0_numberAt 16 = .ok (.iload 5, 2) := by decide +kernel
theorem dX0_numberAt_18 : decode cX0_numberAt 18 = .ok (.iload_n 1, 1) := by decide +kernel
theorem dX0_numberAt_19 : decode cX0_numberAt 19 = .ok (.iload_n 2, 1) := by decide +kernel
theorem dX0_numberAt_20 : decode cX0_numberAt 20 = .ok (.invokevirtual 65, 3) := by decide +kernel
theorem dX0_numberAt_23 : decode cX0_numberAt 23 = .ok (.ifCond .eq 23, 3) := by decide +kernel
theorem dX0_numberAt_26 : decode cX0_numberAt 26 = .ok (.iload 4, 2) := by decide +kernel
theorem dX0_numberAt_28 : decode cX0_numberAt 28 = .ok (.iload_n 3, 1) := by decide +kernel
theorem dX0_numberAt_29 : decode cX0_numberAt 29 = .ok (.if_icmp .ne 14, 3) := by decide +kernel
theorem dX0_numberAt_32 : decode cX0_numberAt 32 = .ok (.aload_n 0, 1) := by decide +kernel
theorem dX0_numberAt_33 : decode cX0_numberAt 33 = .ok (.getfield 11, 3) := by decide +kernel
theorem dX0_numberAt_36 : decode cX0_numberAt 36 = .ok (.iload 5, 2) := by decide +kernel
theorem dX0_numberAt_38 : decode cX0_numberAt 38 = .ok (.aaload, 1) := by decide +kernel
theorem dX0_numberAt_39 : decode cX0_numberAt 39 = .ok (.getfield 33, 3) := by decide +kernel
theorem dX0_numberAt_42 : decode cX0_numberAt 42 = .ok (.ireturn, 1) := by decide +kernel
theorem dX0_numberAt_43 : decode cX0_numberAt 43 = .ok (.iinc 4 1, 3) := by decide +kernel
theorem dX0_numberAt_46 : decode cX0_numberAt 46 = .ok (.iinc 5 1, 3) := by decide +kernel
