theorem dX4_makeHostile_29 : decode cX4_makeHostile 29 = .ok (.getfield 34, 3) := by decide +kernel
theorem dX4_makeHostile_32 : decode cX4_makeHostile 32 = .ok (.iload_n 2, 1) := by decide +kernel
theorem dX4_makeHostile_33 : decode cX4_makeHostile 33 = .ok (.dup2, 1) := by decide +kernel
theorem dX4_makeHostile_34 : decode cX4_makeHostile 34 = .ok (.iaload, 1) := by decide +kernel
theorem dX4_makeHostile_35 : decode cX4_makeHostile 35 = .ok (.iconst 1, 1) := by decide +kernel
theorem dX4_makeHostile_36 : decode cX4_makeHostile 36 = .ok (.iload_n 1, 1) := by decide +kernel
theorem dX4_makeHostile_37 : decode cX4_makeHostile 37 = .ok (.ishl, 1) := by decide +kernel
theorem dX4_makeHostile_38 : decode cX4_makeHostile 38 = .ok (.ior, 1) := by decide +kernel
theorem dX4_makeHostile_39 : decode cX4_makeHostile 39 = .ok (.iastore, 1) := by decide +kernel
theorem dX4_makeHostile_40 : decode cX4_makeHostile 40 = .ok (.return_, 1) := by decide +kernel
set_option maxRecDepth 20000 in
theorem ggX4_areHostile_X4_has : GoodIn wsX4_areHostile wsX4_has := goodIn_r _ [6, 7, 8, 9, 10, 11, 12, 13, 14, 15] (by decide +kernel) (by decide +kernel)
set_option maxRecDepth 20000 in
theorem gX4_areHostile_X4_has : GoodIn wsX4_areHostile (wsV RX4 43 RX4 yX4_has wsX4_has) := goodIn_app (goodIn_of _ (by decide +kernel)) ggX4_areHostile_X4_has
theorem dX4_areHostile_0 : decode cX4_areHostile 0 = .ok (.aload_n 0, 1) := by decide +kernel
theorem dX4_areHostile_1 : decode cX4_areHostile 1 = .ok (.iload_n 1, 1) := by decide +kernel
theorem dX4_areHostile_2 : decode cX4_areHostile 2 = .ok (.invokevirtual 43, 3) := by decide +kernel
theorem dX4_areHostile_5 : decode cX4_areHostile 5 = .ok (.ifCond .eq 20, 3) := by decide +kernel
theorem dX4_areHostile_8 : decode cX4_areHostile 8 = .ok (.aload_n 0, 1) := by decide +kernel
theorem dX4_areHostile_9 : decode cX4_areHostile 9 = .ok (.getfield 34, 3) := by decide +kernel
theorem dX4_areHostile_12 : decode cX4_areHostile 12 = .ok (.iload_n 1, 1) := by decide +kernel
theorem dX4_areHostile_13 : decode cX4_areHostile 13 = .ok (.iaload, 1) := by decide +kernel
theorem dX4_areHostile_14 : decode cX4_areHostile 14 = .ok (.iload_n 2, 1) := by decide +kernel
theorem dX4_areHostile_15 : decode cX4_areHostile 15 = .ok (.ishr, 1) := by decide +kernel
theorem dX4_areHostile_16 : decode cX4_areHostile 16 = .ok (.iconst 1, 1) := by decide +kernel
theorem dX4_areHostile_17 : decode cX4_areHostile 17 = .ok (.iand, 1) := by decide +kernel
theorem dX4_areHostile_18 : decode cX4_areHostile 18 = .ok (.ifCond .eq 7, 3) := by decide +kernel
theorem dX4_areHostile_21 : decode cX4_areHostile 21 = .ok (.iconst 1, 1) := by decide +kernel
theorem dX4_areHostile_22 : decode cX4_areHostile 22 = .ok (.goto 4, 3) := by decide +kernel
theorem dX4_areHostile_25 : decode cX4_areHostile 25 = .ok (.iconst 0, 1) := by decide +kernel
theorem dX4_areHostile_26 : decode cX4_areHostile 26 = .ok (.ireturn, 1) := by decide +kernel
set_option maxRecDepth 20000 in
theorem ggX4_notYetHostile_X4_has : GoodIn wsX4_notYetHostile wsX4_has := goodIn_r _ [6, 7, 12, 13, 14, 15, 16, 17, 18, 19] (by decide +kernel) (by decide +kernel)
set_option maxRecDepth 20000 in
theorem gX4_notYetHostile_X4_has : GoodIn wsX4_notYetHostile (wsV RX4 43 RX4 yX4_has wsX4_has) := goodIn_app (goodIn_of _ (by decide +kernel)) ggX4_notYetHostile_X4_has
set_option maxRecDepth 20000 in
theorem ggX4_notYetHostile_X4_allBits : GoodIn wsX4_notYetHostile wsX4_allBits := goodIn_r _ [11, 7, 12, 13, 14, 15, 16, 17, 18, 19] (by decide +kernel) (by decide +kernel)
set_option maxRecDepth 20000 in
theorem gX4_notYetHostile_X4_allBits : GoodIn wsX4_notYetHostile (wsV RX4 47 RX4 yX4_allBits wsX4_allBits) := goodIn_app (goodIn_of _ (by decide +kernel)) ggX4_notYetHostile_X4_allBits
theorem dX4_notYetHostile_0 : decode cX4_notYetHostile 0 = .ok (.aload_n 0, 1) := by decide +kernel
theorem dX4_notYetHostile_1 : decode cX4_notYetHostile 1 = .ok (.iload_n 1, 1) := by decide +kernel
theorem dX4_notYetHostile_2 : decode cX4_notYetHostile 2 = .ok (.invokevirtual 43, 3) := by decide +kernel
theorem dX4_notYetHostile_5 : decode cX4_notYetHostile 5 = .ok (.ifCond .eq 25, 3) := by decide +kernel
theorem dX4_notYetHostile_8 : decode cX4_notYetHostile 8 = .ok (.aload_n 0, 1) := by decide +kernel
theorem dX4_notYetHostile_9 : decode cX4_notYetHostile 9 = .ok (.invokevirtual 47, 3) := by decide +kernel
theorem dX4_notYetHostile_12 : decode cX4_notYetHostile 12 = .ok (.iconst 1, 1) := by decide +kernel
theorem dX4_notYetHostile_13 : decode cX4_notYetHostile 13 = .ok (.iload_n 1, 1) := by decide +kernel
theorem dX4_notYetHostile_14 : decode cX4_notYetHostile 14 = .ok (.ishl, 1) := by decide +kernel
theorem dX4_notYetHostile_15 : decode cX4_notYetHostile 15 = .ok (.iconst (-1), 1) := by decide +kernel
theorem dX4_notYetHostile_16 : decode cX4_notYetHostile 16 = .ok (.ixor, 1) := by decide +kernel
theorem dX4_notYetHostile_17 : decode cX4_notYetHostile 17 = .ok (.iand, 1) := by decide +kernel
theorem dX4_notYetHostile_18 : decode cX4_notYetHostile 18 = .ok (.aload_n 0, 1) := by decide +kernel
theorem dX4_notYetHostile_19 : decode cX4_notYetHostile 19 = .ok (.getfield 34, 3) := by decide +kernel
theorem dX4_notYetHostile_22 : decode cX4_notYetHostile 22 = .ok (.iload_n 1, 1) := by decide +kernel
theorem dX4_notYetHostile_23 : decode cX4_notYetHostile 23 = .ok (.iaload, 1) := by decide +kernel
theorem dX4_notYetHostile_24 : decode cX4_notYetHostile 24 = .ok (.iconst (-1), 1) := by decide +kernel
theorem dX4_notYetHostile_25 : decode cX4_notYetHostile 25 = .ok (.ixor, 1) := by decide +kernel
theorem dX4_notYetHostile_26 : decode cX4_notYetHostile 26 = .ok (.iand, 1) := by decide +kernel
theorem dX4_notYetHostile_27 : decode cX4_notYetHostile 27 = .ok (.goto 4, 3) := by decide +kernel
theorem dX4_notYetHostile_30 : decode cX4_notYetHostile 30 = .ok (.iconst 0, 1) := by decide +kernel
theorem dX4_notYetHostile_31 : decode cX4_notYetHostile 31 = .ok (.ireturn, 1) := by decide +kernel
set_option maxRecDepth 20000 in
theorem ggX4_anyNotYetHostile_X4_notYetHostile : GoodIn wsX4_anyNotYetHostile wsX4_notYetHostile := goodIn_r _ [6, 7, 8, 9, 10, 5, 11, 1, 12, 13, 14, 15, 16, 17, 18, 19, 20, 21, 22, 23] (by decide +kernel) (by decide +kernel)
set_option maxRecDepth 20000 in
theorem gX4_anyNotYetHostile_X4_notYetHostile : GoodIn wsX4_anyNotYetHostile (wsV RX4 51 RX4 yX4_notYetHostile wsX4_notYetHostile) := goodIn_app (goodIn_of _ (by decide +kernel)) ggX4_anyNotYetHostile_X4_notYetHostile
theorem dX4_anyNotYetHostile_0 : decode cX4_anyNotYetHostile 0 = .ok (.iconst 0, 1) := by decide +kernel
theorem dX4_anyNotYetHostile_1 : decode cX4_anyNotYetHostile 1 = .ok (.istore_n 1, 1) := by decide +kernel
theorem dX4_anyNotYetHostile_2 : decode cX4_anyNotYetHostile 2 = .ok (.iload_n 1, 1) := by decide +kernel
theorem dX4_anyNotYetHostile_3 : decode cX4_anyNotYetHostile 3 = .ok (.aload_n 0, 1) := by decide +kernel
theorem dX4_anyNotYetHostile_4 : decode cX4_anyNotYetHostile 4 = .ok (.getfield 21, 3) := by decide +kernel
theorem dX4_anyNotYetHostile_7 : decode cX4_anyNotYetHostile 7 = .ok (.if_icmp .ge 19, 3) := by decide +kernel
theorem dX4_anyNotYetHostile_10 : decode cX4_anyNotYetHostile 10 = .ok (.aload_n 0, 1) := by decide +kernel
theorem dX4_anyNotYetHostile_11 : decode cX4_anyNotYetHostile 11 = .ok (.iload_n 1, 1) := by decide +kernel
theorem dX4_anyNotYetHostile_12 : decode cX4_anyNotYetHostile 12 = .ok (.invokevirtual 51, 3) := by decide +kernel
theorem dX4_anyNotYetHostile_15 : decode cX4_anyNotYetHostile 15 = .ok (.ifCond .eq 5, 3) := by decide +kernel
theorem dX4_anyNotYetHostile_18 : decode cX4_anyNotYetHostile 18 = .ok (.iconst 1, 1) := by decide +kernel
theorem dX4_anyNotYetHostile_19 : decode cX4_anyNotYetHostile 19 = .ok (.ireturn, 1) := by decide +kernel
theorem dX4_anyNotYetHostile_20 : decode cX4_anyNotYetHostile 20 = .ok (.iinc 1 1, 3) := by decide +kernel
theorem dX4_anyNotYetHostile_23 : decode cX4_anyNotYetHostile 23 = .ok (.goto (-21), 3) := by decide +kernel
theorem dX4_anyNotYetHostile_26 : decode cX4_anyNotYetHostile 26 = .ok (.iconst 0, 1) := by decide +kernel
theorem dX4_anyNotYetHostile_27 : decode cX4_anyNotYetHostile 27 = .ok (.ireturn, 1) := by decide +kernel
set_option maxRecDepth 20000 in
theorem ggX4_hostilePairs_J6_bitCount_0f7a4 : GoodIn wsX4_hostilePairs wsJ6_bitCount_0f7a4 := goodIn_r _ [6, 7, 8, 9] (by decide +kernel) (by decide +kernel)
set_option maxRecDepth 20000 in
theorem gX4_hostilePairs_J6_bitCount_0f7a4 : GoodIn wsX4_hostilePairs (va_wsS RX4 55 yJ6_bitCount_0f7a4 wsJ6_bitCount_0f7a4) := goodIn_app (goodIn_of _ (by decide +kernel)) ggX4_hostilePairs_J6_bitCount_0f7a4
theorem dX4_hostilePairs_0 : decode cX4_hostilePairs 0 = .ok (.iconst 0, 1) := by decide +kernel
theorem dX4_hostilePairs_1 : decode cX4_hostilePairs 1 = .ok (.istore_n 2, 1) := by decide +kernel
theorem dX4_hostilePairs_2 : decode cX4_hostilePairs 2 = .ok (.iconst 0, 1) := by decide +kernel
theorem dX4_hostilePairs_3 : decode cX4_hostilePairs 3 = .ok (.istore_n 3, 1) := by decide +kernel
theorem dX4_hostilePairs_4 : decode cX4_hostilePairs 4 = .ok (.iload_n 3, 1) := by decide +kernel
theorem dX4_hostilePairs_5 : decode cX4_hostilePairs 5 = .ok (.aload_n 0, 1) := by decide +kernel
theorem dX4_hostilePairs_6 : decode cX4_hostilePairs 6 = .ok (.getfield 21, 3) := by decide +kernel
theorem dX4_hostilePairs_9 : decode cX4_hostilePairs 9 = .ok (.if_icmp .ge 31, 3) := by decide +kernel
theorem dX4_hostilePairs_12 : decode cX4_hostilePairs 12 = .ok (.iload_n 1, 1) := by decide +kernel
theorem dX4_hostilePairs_13 : decode cX4_hostilePairs 13 = .ok (.iload_n 3, 1) := by decide +kernel
theorem dX4_hostilePairs_14 : decode cX4_hostilePairs 14 = .ok (.ishr, 1) := by decide +kernel
theorem dX4_hostilePairs_15 : decode cX4_hostilePairs 15 = .ok (.iconst 1, 1) := by decide +kernel
theorem dX4_hostilePairs_16 : decode cX4_hostilePairs 16 = .ok (.iand, 1) := by decide +kernel
theorem dX4_hostilePairs_17 : decode cX4_hostilePairs 17 = .ok (.ifCond .eq 17, 3) := by decide +kernel
theorem dX4_hostilePairs_20 : decode cX4_hostilePairs 20 = .ok (.iload_n 2, 1) := by decide +kernel
theorem dX4_hostilePairs_21 : decode cX4_hostilePairs 21 = .ok (.aload_n 0, 1) := by decide +kernel
theorem dX4_hostilePairs_22 : decode cX4_hostilePairs 22 = .ok (.getfield 34, 3) := by decide +kernel
theorem dX4_hostilePairs_25 : decode cX4_hostilePairs 25 = .ok (.iload_n 3, 1) := by decide +kernel
theorem dX4_hostilePairs_26 : decode cX4_hostilePairs 26 = .ok (.iaload, 1) := by decide +kernel
theorem dX4_hostilePairs_27 : decode cX4_hostilePairs 27 = .ok (.iload_n 1, 1) := by decide +kernel
theorem dX4_hostilePairs_28 : decode cX4_hostilePairs 28 = .ok (.iand, 1) := by decide +kernel
theorem dX4_hostilePairs_29 : decode cX4_hostilePairs 29 = .ok (.invokestatic 55, 3) := by decide +kernel
theorem dX4_hostilePairs_32 : decode cX4_hostilePairs 32 = .ok (.iadd, 1) := by decide +kernel
theorem dX4_hostilePairs_33 : decode cX4_hostilePairs 33 = .ok (.istore_n 2, 1) := by decide +kernel
theorem dX4_hostilePairs_34 : decode cX4_hostilePairs 34 = .ok (.iinc 3 1, 3) := by decide +kernel
theorem dX4_hostilePairs_37 : decode cX4_hostilePairs 37 = .ok (.goto (-33), 3) := by decide +kernel
theorem dX4_hostilePairs_40 : decode cX4_hostilePairs 40 = .ok (.iload_n 2, 1) := by decide +kernel
theorem dX4_hostilePairs_41 : decode cX4_hostilePairs 41 = .ok (.iconst 2, 1) := by decide +kernel
theorem dX4_hostilePairs_42 : decode cX4_hostilePairs 42 = .ok (.idiv, 1) := by decide +kernel
theorem dX4_hostilePairs_43 : decode cX4_hostilePairs 43 = .ok (.ireturn, 1) := by decide +kernel
set_option maxRecDepth 20000 in
theorem ggX5_init_X4_init : GoodIn wsX5_init wsX4_init := goodIn_r _ [13, 14, 2, 3, 15, 16, 17, 18, 19, 20, 21, 22, 23, 24, 25, 26, 27, 28, 29, 30, 31] (by decide +kernel) (by decide +kernel)
set_option maxRecDepth 20000 in
theorem gX5_init_X4_init_n11 : GoodIn wsX5_init (wsX4_init) := ggX5_init_X4_init
theorem dX5_init_0 : decode cX5_init 0 = .ok (.aload_n 0, 1) := by decide +kernel
theorem dX5_init_1 : decode cX5_init 1 = .ok (.invokespecial 3, 3) := by decide +kernel
theorem dX5_init_4 : decode cX5_init 4 = .ok (.aload_n 0, 1) := by decide +kernel
theorem dX5_init_5 : decode cX5_init 5 = .ok (.new 9, 3) := by decide +kernel
theorem dX5_init_8 : decode cX5_init 8 = .ok (.dup, 1) := by decide +kernel
theorem dX5_init_9 : decode cX5_init 9 = .ok (.invokespecial 11, 3) := by decide +kernel
theorem dX5_init_12 : decode cX5_init 12 = .ok (.putfield 12, 3) := by decide +kernel
theorem dX5_init_15 : decode cX5_init 15 = .ok (.aload_n 0, 1) := by decide +kernel
theorem dX5_init_16 : decode cX5_init 16 = .ok (.iconst 0, 1) := by decide +kernel
theorem dX5_init_17 : decode cX5_init 17 = .ok (.putfield 18, 3) := by decide +kernel
theorem dX5_init_20 : decode cX5_init 20 = .ok (.aload_n 0, 1) := by decide +kernel
theorem dX5_init_21 : decode cX5_init 21 = .ok (.iconst 0, 1) := by decide +kernel
theorem dX5_init_22 : decode cX5_init 22 = .ok (.putfield 22, 3) := by decide +kernel
theorem dX5_init_25 : decode cX5_init 25 = .ok (.aload_n 0, 1) := by decide +kernel
theorem dX5_init_26 : decode cX5_init 26 = .ok (.iconst 0, 1) := by decide +kernel
theorem dX5_init_27 : decode cX5_init 27 = .ok (.putfield 25, 3) := by decide +kernel
theorem dX5_init_30 : decode cX5_init 30 = .ok (.aload_n 0, 1) := by decide +kernel
theorem dX5_init_31 : decode cX5_init 31 = .ok (.iconst 0, 1) := by decide +kernel
theorem dX5_init_32 : decode cX5_init 32 = .ok (.putfield 28, 3) := by decide +kernel
theorem dX5_init_35 : decode cX5_init 35 = .ok (.return_, 1) := by decide +kernel
set_option maxRecDepth 20000 in
theorem ggX5_firstFault_X5_takes : GoodIn wsX5_firstFault wsX5_takes := goodIn_r _ [8, 3, 9, 10, 11, 7, 12, 1, 2, 13, 14, 15, 16, 17, 18, 19, 20, 21, 22, 23, 24, 25, 26, 27, 28, 29, 30, 31, 32, 33, 34, 35, 36, 37, 38, 39, 40, 41, 42, 43, 44, 45, 46, 47, 48, 49, 50, 51, 52, 53, 54, 55, 56, 57, 58, 59, 60, 61, 62, 63, 64, 65, 66, 67, 68, 69, 70, 71, 72, 73, 74, 75, 76, 77, 78, 79, 80, 81, 82] (by decide +kernel) (by decide +kernel)
set_option maxRecDepth 20000 in
theorem gX5_firstFault_X5_takes : GoodIn wsX5_firstFault (wsV RX5 34 RX5 yX5_takes wsX5_takes) := goodIn_app (goodIn_of _ (by decide +kernel)) ggX5_firstFault_X5_takes
theorem dX5_firstFault_0 : decode cX5_firstFault 0 = .ok (.aload_n 0, 1) := by decide +kernel
theorem dX5_firstFault_1 : decode cX5_firstFault 1 = .ok (.getfield 12, 3) := by decide +kernel
theorem dX5_firstFault_4 : decode cX5_firstFault 4 = .ok (.iconst 0, 1) := by decide +kernel
theorem dX5_firstFault_5 : decode cX5_firstFault 5 = .ok (.putfield 31, 3) := by decide +kernel
theorem dX5_firstFault_8 : decode cX5_firstFault 8 = .ok (.aload_n 0, 1) := by decide +kernel
theorem dX5_firstFault_9 : decode cX5_firstFault 9 = .ok (.iconst 0, 1) := by decide +kernel
theorem dX5_firstFault_10 : decode cX5_firstFault 10 = .ok (.putfield 18, 3) := by decide +kernel
theorem dX5_firstFault_13 : decode cX5_firstFault 13 = .ok (.iconst 0, 1) := by decide +kernel
theorem dX5_firstFault_14 : decode cX5_firstFault 14 = .ok (.istore_n 3, 1) := by decide +kernel
theorem dX5_firstFault_15 : decode cX5_firstFault 15 = .ok (.iload_n 3, 1) := by decide +kernel
theorem dX5_firstFault_16 : decode cX5_firstFault 16 = .ok (.iload_n 2, 1) := by decide +kernel
theorem dX5_firstFault_17 : decode cX5_firstFault 17 = .ok (.if_icmp .ge 27, 3) := by decide +kernel
theorem dX5_firstFault_20 : decode cX5_firstFault 20 = .ok (.iload_n 3, 1) := by decide +kernel
theorem dX5_firstFault_21 : decode cX5_firstFault 21 = .ok (.aload_n 1, 1) := by decide +kernel
theorem dX5_firstFault_22 : decode cX5_firstFault 22 = .ok (.arraylength, 1) := by decide +kernel
theorem dX5_firstFault_23 : decode cX5_firstFault 23 = .ok (.if_icmp .ge 21, 3) := by decide +kernel
theorem dX5_firstFault_26 : decode cX5_firstFault 26 = .ok (.aload_n 0, 1) := by decide +kernel
theorem dX5_firstFault_27 : decode cX5_firstFault 27 = .ok (.aload_n 1, 1) := by decide +kernel
theorem dX5_firstFault_28 : decode cX5_firstFault 28 = .ok (.iload_n 3, 1) := by decide +kernel
theorem dX5_firstFault_29 : decode cX5_firstFault 29 = .ok (.iaload, 1) := by decide +kernel
theorem dX5_firstFault_30 : decode cX5_firstFault 30 = .ok (.invokevirtual 34, 3) := by decide +kernel
theorem dX5_firstFault_33 : decode cX5_firstFault 33 = .ok (.ifCond .ne 5, 3) := by decide +kernel
theorem dX5_firstFault_36 : decode cX5_firstFault 36 = .ok (.iload_n 3, 1) := by decide +kernel
theorem dX5_firstFault_37 : decode cX5_firstFault 37 = .ok (.ireturn, 1) := by decide +kernel
theorem dX5_firstFault_38 : decode cX5_firstFault 38 = .ok (.iinc 3 1, 3) := by decide +kernel
theorem dX5_firstFault_41 : decode cX5_firstFault 41 = .ok (.goto (-26), 3) := by decide +kernel
theorem dX5_firstFault_44 : decode cX5_firstFault 44 = .ok (.aload_n 0, 1) := by decide +kernel
theorem dX5_firstFault_45 : decode cX5_firstFault 45 = .ok (.getfield 18, 3) := by decide +kernel
theorem dX5_firstFault_48 : decode cX5_firstFault 48 = .ok (.iconst 4, 1) := by decide +kernel
theorem dX5_firstFault_49 : decode cX5_firstFault 49 = .ok (.if_icmp .ne 8, 3) := by decide +kernel
theorem dX5_firstFault_52 : decode cX5_firstFault 52 = .ok (.bipush (-9), 2) := by decide +kernel
theorem dX5_firstFault_54 : decode cX5_firstFault 54 = .ok (.goto 4, 3) := by decide +kernel
theorem dX5_firstFault_57 : decode cX5_firstFault 57 = .ok (.iload_n 2, 1) := by decide +kernel
theorem dX5_firstFault_58 : decode cX5_firstFault 58 = .ok (.ireturn, 1) := by decide +kernel
set_option maxRecDepth 20000 in
theorem ggX5_takes_X5_takesPart : GoodIn wsX5_takes wsX5_takesPart := goodIn_r _ [6, 7, 8, 9, 10, 11, 5, 12, 1, 13, 14, 15, 16, 17, 18, 19, 20, 21, 22, 23, 24, 25, 26, 27, 28, 29, 30, 31, 66, 67, 68, 69, 70, 71, 72, 73, 74, 75, 76, 77, 78] (by decide +kernel) (by decide +kernel)
set_option maxRecDepth 20000 in
theorem gX5_takes_X5_takesPart : GoodIn wsX5_takes (wsV RX5 38 RX5 yX5_takesPart wsX5_takesPart) := goodIn_app (goodIn_of _ (by decide +kernel)) ggX5_takes_X5_takesPart
set_option maxRecDepth 20000 in
theorem ggX5_takes_X5_takesOfFlag : GoodIn wsX5_takes wsX5_takesOfFlag := goodIn_r _ [35, 1, 36, 37, 7, 38, 39, 40, 9, 10, 11, 5, 12, 41, 42, 43, 16, 44, 18, 45, 46, 47, 23, 66, 67, 68, 69, 70, 71, 72, 73, 74, 75, 76, 77, 78] (by decide +kernel) (by decide +kernel)
set_option maxRecDepth 20000 in
theorem gX5_takes_X5_takesOfFlag : GoodIn wsX5_takes (wsV RX5 41 RX5 yX5_takesOfFlag wsX5_takesOfFlag) := goodIn_app (goodIn_of _ (by decide +kernel)) ggX5_takes_X5_takesOfFlag
set_option maxRecDepth 20000 in
theorem ggX5_takes_X5_takesOfHostile : GoodIn wsX5_takes wsX5_takesOfHostile := goodIn_r _ [51, 1, 52, 7, 53, 20, 21, 16, 22, 23, 24, 25, 26, 27, 18, 28, 29, 30, 31, 9, 10, 11, 5, 12, 54, 55, 56, 57, 58, 66, 67, 68, 69, 70, 71, 72, 73, 74, 75, 76, 77, 78] (by decide +kernel) (by decide +kernel)
set_option maxRecDepth 20000 in
theorem gX5_takes_X5_takesOfHostile : GoodIn wsX5_takes (wsV RX5 44 RX5 yX5_takesOfHostile wsX5_takesOfHostile) := goodIn_app (goodIn_of _ (by decide +kernel)) ggX5_takes_X5_takesOfHostile
set_option maxRecDepth 20000 in
theorem ggX5_takes_X5_takesOfHead : GoodIn wsX5_takes wsX5_takesOfHead := goodIn_r _ [62, 1, 7, 63, 64, 65, 9, 10, 11, 5, 12, 66, 67, 68, 69, 70, 71, 72, 73, 74, 75, 76, 77, 78] (by decide +kernel) (by decide +kernel)
set_option maxRecDepth 20000 in
theorem gX5_takes_X5_takesOfHead : GoodIn wsX5_takes (wsV RX5 47 RX5 yX5_takesOfHead wsX5_takesOfHead) := goodIn_app (goodIn_of _ (by decide +kernel)) ggX5_takes_X5_takesOfHead
theorem dX5_takes_0 : decode cX5_takes 0 = .ok (.aload_n 0, 1) := by decide +kernel
theorem dX5_takes_1 : decode cX5_takes 1 = .ok (.getfield 18, 3) := by decide +kernel
theorem dX5_takes_4 : decode cX5_takes 4 = .ok (.tableswitch 61 4 9 #[40, 46, 46, 46, 52, 52], 40) := by decide +kernel
theorem dX5_takes_44 : decode cX5_takes 44 = .ok (.aload_n 0, 1) := by decide +kernel
theorem dX5_takes_45 : decode cX5_takes 45 = .ok (.iload_n 1, 1) := by decide +kernel
theorem dX5_takes_46 : decode cX5_takes 46 = .ok (.invokevirtual 38, 3) := by decide +kernel
theorem dX5_takes_49 : decode cX5_takes 49 = .ok (.ireturn, 1) := by decide +kernel
theorem dX5_takes_50 : decode cX5_takes 50 = .ok (.aload_n 0, 1) := by decide +kernel
theorem dX5_takes_51 : decode cX5_takes 51 = .ok (.iload_n 1, 1) := by decide +kernel
theorem dX5_takes_52 : decode cX5_takes 52 = .ok (.invokevirtual 41, 3) := by decide +kernel
theorem dX5_takes_55 : decode cX5_takes 55 = .ok (.ireturn, 1) := by decide +kernel
theorem dX5_takes_56 : decode cX5_takes 56 = .ok (.aload_n 0, 1) := by decide +kernel
theorem dX5_takes_57 : decode cX5_takes 57 = .ok (.iload_n 1, 1) := by decide +kernel
theorem dX5_takes_58 : decode cX5_takes 58 = .ok (.bipush 48, 2) := by decide +kernel
theorem dX5_takes_60 : decode cX5_takes 60 = .ok (.isub, 1) := by decide +kernel
theorem dX5_takes_61 : decode cX5_takes 61 = .ok (.invokevirtual 44, 3) := by decide +kernel
theorem dX5_takes_64 : decode cX5_takes 64 = .ok (.ireturn, 1) := by decide +kernel
theorem dX5_takes_65 : decode cX5_takes 65 = .ok (.aload_n 0, 1) := by decide +kernel
theorem dX5_takes_66 : decode cX5_takes 66 = .ok (.iload_n 1, 1) := by decide +kernel
theorem dX5_takes_67 : decode cX5_takes 67 = .ok (.invokevirtual 47, 3) := by decide +kernel
theorem dX5_takes_70 : decode cX5_takes 70 = .ok (.ireturn, 1) := by decide +kernel
set_option maxRecDepth 20000 in
theorem ggX5_takesOfHead_X5_goOn : GoodIn wsX5_takesOfHead wsX5_goOn := goodIn_r _ [10, 1, 11, 12, 13, 14, 15] (by decide +kernel) (by decide +kernel)
set_option maxRecDepth 20000 in
theorem gX5_takesOfHead_X5_goOn : GoodIn wsX5_takesOfHead (wsV RX5 50 RX5 yX5_goOn wsX5_goOn) := goodIn_app (goodIn_of _ (by decide +kernel)) ggX5_takesOfHead_X5_goOn
theorem dX5_takesOfHead_0 : decode cX5_takesOfHead 0 = .ok (.iload_n 1, 1) := by decide +kernel
theorem dX5_takesOfHead_1 : decode cX5_takesOfHead 1 = .ok (.bipush 48, 2) := by decide +kernel
theorem dX5_takesOfHead_3 : decode cX5_takesOfHead 3 = .ok (.isub, 1) := by decide +kernel
theorem dX5_takesOfHead_4 : decode cX5_takesOfHead 4 = .ok (.istore_n 2, 1) := by decide +kernel
theorem dX5_takesOfHead_5 : decode cX5_takesOfHead 5 = .ok (.aload_n 0, 1) := by decide +kernel
theorem dX5_takesOfHead_6 : decode cX5_takesOfHead 6 = .ok (.getfield 18, 3) := by decide +kernel
theorem dX5_takesOfHead_9 : decode cX5_takesOfHead 9 = .ok (.ifCond .ne 20, 3) := by decide +kernel
theorem dX5_takesOfHead_12 : decode cX5_takesOfHead 12 = .ok (.aload_n 0, 1) := by decide +kernel
theorem dX5_takesOfHead_13 : decode cX5_takesOfHead 13 = .ok (.iload_n 1, 1) := by decide +kernel
theorem dX5_takesOfHead_14 : decode cX5_takesOfHead 14 = .ok (.bipush 85, 2) := by decide +kernel
theorem dX5_takesOfHead_16 : decode cX5_takesOfHead 16 = .ok (.if_icmp .ne 7, 3) := by decide +kernel
theorem dX5_takesOfHead_19 : decode cX5_takesOfHead 19 = .ok (.iconst 1, 1) := by decide +kernel
theorem dX5_takesOfHead_20 : decode cX5_takesOfHead 20 = .ok (.goto 4, 3) := by decide +kernel
theorem dX5_takesOfHead_23 : decode cX5_takesOfHead 23 = .ok (.iconst 0, 1) := by decide +kernel
theorem dX5_takesOfHead_24 : decode cX5_takesOfHead 24 = .ok (.iconst 1, 1) := by decide +kernel
theorem dX5_takesOfHead_25 : decode cX5_takesOfHead 25 = .ok (.invokevirtual 50, 3) := by decide +kernel
theorem dX5_takesOfHead_28 : decode cX5_takesOfHead 28 = .ok (.ireturn, 1) := by decide +kernel
theorem dX5_takesOfHead_29 : decode cX5_takesOfHead 29 = .ok (.aload_n 0, 1) := by decide +kernel
theorem dX5_takesOfHead_30 : decode cX5_takesOfHead 30 = .ok (.getfield 18, 3) := by decide +kernel
theorem dX5_takesOfHead_33 : decode cX5_takesOfHead 33 = .ok (.iconst 1, 1) := by decide +kernel
theorem dX5_takesOfHead_34 : decode cX5_takesOfHead 34 = .ok (.if_icmp .ne 32, 3) := by decide +kernel
theorem dX5_takesOfHead_37 : decode cX5_takesOfHead 37 = .ok (.aload_n 0, 1) := by decide +kernel
theorem dX5_takesOfHead_38 : decode cX5_takesOfHead 38 = .ok (.getfield 12, 3) := by decide +kernel
theorem dX5_takesOfHead_41 : decode cX5_takesOfHead 41 = .ok (.iload_n 2, 1) := by decide +kernel
theorem dX5_takesOfHead_42 : decode cX5_takesOfHead 42 = .ok (.putfield 54, 3) := by decide +kernel
theorem dX5_takesOfHead_45 : decode cX5_takesOfHead 45 = .ok (.aload_n 0, 1) := by decide +kernel
theorem dX5_takesOfHead_46 : decode cX5_takesOfHead 46 = .ok (.iload_n 2, 1) := by decide +kernel
theorem dX5_takesOfHead_47 : decode cX5_takesOfHead 47 = .ok (.iconst 1, 1) := by decide +kernel
theorem dX5_takesOfHead_48 : decode cX5_takesOfHead 48 = .ok (.if_icmp .lt 12, 3) := by decide +kernel
theorem dX5_takesOfHead_51 : decode cX5_takesOfHead 51 = .ok (.iload_n 2, 1) := by decide +kernel
theorem dX5_takesOfHead_52 : decode cX5_takesOfHead 52 = .ok (.iconst 3, 1) := by decide +kernel
theorem dX5_takesOfHead_53 : decode cX5_takesOfHead 53 = .ok (.if_icmp .gt 7, 3) := by decide +kernel
theorem dX5_takesOfHead_56 : decode cX5_takesOfHead 56 = .ok (.iconst 1, 1) := by decide +kernel
theorem dX5_takesOfHead_57 : decode cX5_takesOfHead 57 = .ok (.goto 4, 3) := by decide +kernel
theorem dX5_takesOfHead_60 : decode cX5_takesOfHead 60 = .ok (.iconst 0, 1) := by decide +kernel
theorem dX5_takesOfHead_61 : decode cX5_takesOfHead 61 = .ok (.iconst 2, 1) := by decide +kernel
theorem dX5_takesOfHead_62 : decode cX5_takesOfHead 62 = .ok (.invokevirtual 50, 3) := by decide +kernel
theorem dX5_takesOfHead_65 : decode cX5_takesOfHead 65 = .ok (.ireturn, 1) := by decide +kernel
theorem dX5_takesOfHead_66 : decode cX5_takesOfHead 66 = .ok (.aload_n 0, 1) := by decide +kernel
theorem dX5_takesOfHead_67 : decode cX5_takesOfHead 67 = .ok (.getfield 18, 3) := by decide +kernel
theorem dX5_takesOfHead_70 : decode cX5_takesOfHead 70 = .ok (.iconst 2, 1) := by decide +kernel
theorem dX5_takesOfHead_71 : decode cX5_takesOfHead 71 = .ok (.if_icmp .ne 32, 3) := by decide +kernel
theorem dX5_takesOfHead_74 : decode cX5_takesOfHead 74 = .ok (.aload_n 0, 1) := by decide +kernel
theorem dX5_takesOfHead_75 : decode cX5_takesOfHead 75 = .ok (.getfield 12, 3) := by decide +kernel
theorem dX5_takesOfHead_78 : decode cX5_takesOfHead 78 = .ok (.iload_n 2, 1) := by decide +kernel
theorem dX5_takesOfHead_79 : decode cX5_takesOfHead 79 = .ok (.putfield 57, 3) := by decide +kernel
theorem dX5_takesOfHead_82 : decode cX5_takesOfHead 82 = .ok (.aload_n 0, 1) := by decide +kernel
theorem dX5_takesOfHead_83 : decode cX5_takesOfHead 83 = .ok (.iload_n 2, 1) := by decide +kernel
theorem dX5_takesOfHead_84 : decode cX5_takesOfHead 84 = .ok (.iconst 1, 1) := by decide +kernel
theorem dX5_takesOfHead_85 : decode cX5_takesOfHead 85 = .ok (.if_icmp .lt 12, 3) := by decide +kernel
theorem dX5_takesOfHead_88 : decode cX5_takesOfHead 88 = .ok (.iload_n 2, 1) := by decide +kernel
theorem dX5_takesOfHead_89 : decode cX5_takesOfHead 89 = .ok (.iconst 4, 1) := by decide +kernel
theorem dX5_takesOfHead_90 : decode cX5_takesOfHead 90 = .ok (.if_icmp .gt 7, 3) := by decide +kernel
theorem dX5_takesOfHead_93 : decode cX5_takesOfHead 93 = .ok (.iconst 1, 1) := by decide +kernel
theorem dX5_takesOfHead_94 : decode cX5_takesOfHead 94 = .ok (.goto 4, 3) := by decide +kernel
theorem dX5_takesOfHead_97 : decode cX5_takesOfHead 97 = .ok (.iconst 0, 1) := by decide +kernel
theorem dX5_takesOfHead_98 : decode cX5_takesOfHead 98 = .ok (.iconst 3, 1) := by decide +kernel
theorem dX5_takesOfHead_99 : decode cX5_takesOfHead 99 = .ok (.invokevirtual 50, 3) := by decide +kernel
theorem dX5_takesOfHead_102 : decode cX5_takesOfHead 102 = .ok (.ireturn, 1) := by decide +kernel
theorem dX5_takesOfHead_103 : decode cX5_takesOfHead 103 = .ok (.aload_n 0, 1) := by decide +kernel
theorem dX5_takesOfHead_104 : decode cX5_takesOfHead 104 = .ok (.getfield 12, 3) := by decide +kernel
theorem dX5_takesOfHead_107 : decode cX5_takesOfHead 107 = .ok (.iload_n 2, 1) := by decide +kernel
theorem dX5_takesOfHead_108 : decode cX5_takesOfHead 108 = .ok (.putfield 60, 3) := by decide +kernel
theorem dX5_takesOfHead_111 : decode cX5_takesOfHead 111 = .ok (.aload_n 0, 1) := by decide +kernel
theorem dX5_takesOfHead_112 : decode cX5_takesOfHead 112 = .ok (.iload_n 2, 1) := by decide +kernel
theorem dX5_takesOfHead_113 : decode cX5_takesOfHead 113 = .ok (.ifCond .lt 12, 3) := by decide +kernel
theorem dX5_takesOfHead_116 : decode cX5_takesOfHead 116 = .ok (.iload_n 2, 1) := by decide +kernel
theorem dX5_takesOfHead_117 : decode cX5_takesOfHead 117 = .ok (.iconst 2, 1) := by decide +kernel
theorem dX5_takesOfHead_118 : decode cX5_takesOfHead 118 = .ok (.if_icmp .gt 7, 3) := by decide +kernel
theorem dX5_takesOfHead_121 : decode cX5_takesOfHead 121 = .ok (.iconst 1, 1) := by decide +kernel
theorem dX5_takesOfHead_122 : decode cX5_takesOfHead 122 = .ok (.goto 4, 3) := by decide +kernel
theorem dX5_takesOfHead_125 : decode cX5_takesOfHead 125 = .ok (.iconst 0, 1) := by decide +kernel
theorem dX5_takesOfHead_126 : decode cX5_takesOfHead 126 = .ok (.iconst 4, 1) := by decide +kernel
theorem dX5_takesOfHead_127 : decode cX5_takesOfHead 127 = .ok (.invokevirtual 50, 3) := by decide +kernel
theorem dX5_takesOfHead_130 : decode cX5_takesOfHead 130 = .ok (.ireturn, 1) := by decide +kernel
set_option maxRecDepth 20000 in
theorem ggX5_takesPart_X5_goOn : GoodIn wsX5_takesPart wsX5_goOn := goodIn_r _ [7, 8, 28, 29, 30, 31, 32] (by decide +kernel) (by decide +kernel)
set_option maxRecDepth 20000 in
theorem gX5_takesPart_X5_goOn : GoodIn wsX5_takesPart (wsV RX5 50 RX5 yX5_goOn wsX5_goOn) := goodIn_app (goodIn_of _ (by decide +kernel)) ggX5_takesPart_X5_goOn
set_option maxRecDepth 20000 in
theorem ggX5_takesPart_X4_anyNotYetHostile : GoodIn wsX5_takesPart wsX4_anyNotYetHostile := goodIn_r _ [13, 14, 15, 16, 17, 12, 18, 19, 20, 21, 22, 23, 24, 25, 26, 27, 33, 34, 35, 36, 37, 38, 39, 40] (by decide +kernel) (by decide +kernel)
set_option maxRecDepth 20000 in
theorem gX5_takesPart_X4_anyNotYetHostile : GoodIn wsX5_takesPart (wsV RX5 63 RX4 yX4_anyNotYetHostile wsX4_anyNotYetHostile) := goodIn_app (goodIn_of _ (by decide +kernel)) ggX5_takesPart_X4_anyNotYetHostile
theorem dX5_takesPart_0 : decode cX5_takesPart 0 = .ok (.iload_n 1, 1) := by decide +kernel
theorem dX5_takesPart_1 : decode cX5_takesPart 1 = .ok (.bipush 70, 2) := by decide +kernel
theorem dX5_takesPart_3 : decode cX5_takesPart 3 = .ok (.if_icmp .ne 25, 3) := by decide +kernel
theorem dX5_takesPart_6 : decode cX5_takesPart 6 = .ok (.aload_n 0, 1) := by decide +kernel
theorem dX5_takesPart_7 : decode cX5_takesPart 7 = .ok (.aload_n 0, 1) := by decide +kernel
theorem dX5_takesPart_8 : decode cX5_takesPart 8 = .ok (.getfield 12, 3) := by decide +kernel
theorem dX5_takesPart_11 : decode cX5_takesPart 11 = .ok (.getfield 31, 3) := by decide +kernel
theorem dX5_takesPart_14 : decode cX5_takesPart 14 = .ok (.iconst 5, 1) := by decide +kernel
theorem dX5_takesPart_15 : decode cX5_takesPart 15 = .ok (.if_icmp .ge 7, 3) := by decide +kernel
theorem dX5_takesPart_18 : decode cX5_takesPart 18 = .ok (.iconst 1, 1) := by decide +kernel
theorem dX5_takesPart_19 : decode cX5_takesPart 19 = .ok (.goto 4, 3) := by decide +kernel
theorem dX5_takesPart_22 : decode cX5_takesPart 22 = .ok (.iconst 0, 1) := by decide +kernel
theorem dX5_takesPart_23 : decode cX5_takesPart 23 = .ok (.iconst 5, 1) := by decide +kernel
theorem dX5_takesPart_24 : decode cX5_takesPart 24 = .ok (.invokevirtual 50, 3) := by decide +kernel
theorem dX5_takesPart_27 : decode cX5_takesPart 27 = .ok (.ireturn, 1) := by decide +kernel
theorem dX5_takesPart_28 : decode cX5_takesPart 28 = .ok (.aload_n 0, 1) := by decide +kernel
theorem dX5_takesPart_29 : decode cX5_takesPart 29 = .ok (.iload_n 1, 1) := by decide +kernel
theorem dX5_takesPart_30 : decode cX5_takesPart 30 = .ok (.bipush 72, 2) := by decide +kernel
theorem dX5_takesPart_32 : decode cX5_takesPart 32 = .ok (.if_icmp .ne 17, 3) := by decide +kernel
theorem dX5_takesPart_35 : decode cX5_takesPart 35 = .ok (.aload_n 0, 1) := by decide +kernel
theorem dX5_takesPart_36 : decode cX5_takesPart 36 = .ok (.getfield 12, 3) := by decide +kernel
theorem dX5_takesPart_39 : decode cX5_takesPart 39 = .ok (.invokevirtual 63, 3) := by decide +kernel
theorem dX5_takesPart_42 : decode cX5_takesPart 42 = .ok (.ifCond .eq 7, 3) := by decide +kernel
theorem dX5_takesPart_45 : decode cX5_takesPart 45 = .ok (.iconst 1, 1) := by decide +kernel
theorem dX5_takesPart_46 : decode cX5_takesPart 46 = .ok (.goto 4, 3) := by decide +kernel
theorem dX5_takesPart_49 : decode cX5_takesPart 49 = .ok (.iconst 0, 1) := by decide +kernel
theorem dX5_takesPart_50 : decode cX5_takesPart 50 = .ok (.bipush 8, 2) := by decide +kernel
theorem dX5_takesPart_52 : decode cX5_takesPart 52 = .ok (.invokevirtual 50, 3) := by decide +kernel
theorem dX5_takesPart_55 : decode cX5_takesPart 55 = .ok (.ireturn, 1) := by decide +kernel
set_option maxRecDepth 20000 in
theorem ggX5_takesOfFlag_X9_areColours : GoodIn wsX5_takesOfFlag wsX9_areColours := goodIn_r _ [7] (by decide +kernel) (by decide +kernel)
set_option maxRecDepth 20000 in
theorem gX5_takesOfFlag_X9_areColours_n67 : GoodIn wsX5_takesOfFlag (wsX9_areColours) := ggX5_takesOfFlag_X9_areColours
set_option maxRecDepth 20000 in
theorem ggX5_takesOfFlag_X5_goOn : GoodIn wsX5_takesOfFlag wsX5_goOn := goodIn_r _ [12, 1, 23, 24, 25, 26, 27] (by decide +kernel) (by decide +kernel)
set_option maxRecDepth 20000 in
theorem gX5_takesOfFlag_X5_goOn : GoodIn wsX5_takesOfFlag (wsV RX5 50 RX5 yX5_goOn wsX5_goOn) := goodIn_app (goodIn_of _ (by decide +kernel)) ggX5_takesOfFlag_X5_goOn
set_option maxRecDepth 20000 in
theorem ggX5_takesOfFlag_X4_addFlag : GoodIn wsX5_takesOfFlag wsX4_addFlag := goodIn_r _ [17, 18, 19, 20, 21, 22, 28, 29, 30, 31, 32, 33, 34, 35] (by decide +kernel) (by decide +kernel)
set_option maxRecDepth 20000 in
theorem gX5_takesOfFlag_X4_addFlag : GoodIn wsX5_takesOfFlag (wsV RX5 70 RX4 yX4_addFlag wsX4_addFlag) := goodIn_app (goodIn_of _ (by decide +kernel)) ggX5_takesOfFlag_X4_addFlag
theorem dX5_takesOfFlag_0 : decode cX5_takesOfFlag 0 = .ok (.iload_n 1, 1) := by decide +kernel
theorem dX5_takesOfFlag_1 : decode cX5_takesOfFlag 1 = .ok (.bipush 48, 2) := by decide +kernel
theorem dX5_takesOfFlag_3 : decode cX5_takesOfFlag 3 = .ok (.isub, 1) := by decide +kernel
theorem dX5_takesOfFlag_4 : decode cX5_takesOfFlag 4 = .ok (.istore_n 2, 1) := by decide +kernel
theorem dX5_takesOfFlag_5 : decode cX5_takesOfFlag 5 = .ok (.aload_n 0, 1) := by decide +kernel
theorem dX5_takesOfFlag_6 : decode cX5_takesOfFlag 6 = .ok (.getfield 18, 3) := by decide +kernel
theorem dX5_takesOfFlag_9 : decode cX5_takesOfFlag 9 = .ok (.iconst 5, 1) := by decide +kernel
theorem dX5_takesOfFlag_10 : decode cX5_takesOfFlag 10 = .ok (.if_icmp .ne 25, 3) := by decide +kernel
theorem dX5_takesOfFlag_13 : decode cX5_takesOfFlag 13 = .ok (.aload_n 0, 1) := by decide +kernel
theorem dX5_takesOfFlag_14 : decode cX5_takesOfFlag 14 = .ok (.iload_n 1, 1) := by decide +kernel
theorem dX5_takesOfFlag_15 : decode cX5_takesOfFlag 15 = .ok (.bipush 97, 2) := by decide +kernel
theorem dX5_takesOfFlag_17 : decode cX5_takesOfFlag 17 = .ok (.isub, 1) := by decide +kernel
theorem dX5_takesOfFlag_18 : decode cX5_takesOfFlag 18 = .ok (.putfield 22, 3) := by decide +kernel
theorem dX5_takesOfFlag_21 : decode cX5_takesOfFlag 21 = .ok (.aload_n 0, 1) := by decide +kernel
theorem dX5_takesOfFlag_22 : decode cX5_takesOfFlag 22 = .ok (.aload_n 0, 1) := by decide +kernel
theorem dX5_takesOfFlag_23 : decode cX5_takesOfFlag 23 = .ok (.getfield 22, 3) := by decide +kernel
theorem dX5_takesOfFlag_26 : decode cX5_takesOfFlag 26 = .ok (.invokestatic 67, 3) := by decide +kernel
theorem dX5_takesOfFlag_29 : decode cX5_takesOfFlag 29 = .ok (.bipush 6, 2) := by decide +kernel
theorem dX5_takesOfFlag_31 : decode cX5_takesOfFlag 31 = .ok (.invokevirtual 50, 3) := by decide +kernel
theorem dX5_takesOfFlag_34 : decode cX5_takesOfFlag 34 = .ok (.ireturn, 1) := by decide +kernel
theorem dX5_takesOfFlag_35 : decode cX5_takesOfFlag 35 = .ok (.aload_n 0, 1) := by decide +kernel
theorem dX5_takesOfFlag_36 : decode cX5_takesOfFlag 36 = .ok (.getfield 18, 3) := by decide +kernel
theorem dX5_takesOfFlag_39 : decode cX5_takesOfFlag 39 = .ok (.bipush 6, 2) := by decide +kernel
theorem dX5_takesOfFlag_41 : decode cX5_takesOfFlag 41 = .ok (.if_icmp .ne 29, 3) := by decide +kernel
theorem dX5_takesOfFlag_44 : decode cX5_takesOfFlag 44 = .ok (.aload_n 0, 1) := by decide +kernel
theorem dX5_takesOfFlag_45 : decode cX5_takesOfFlag 45 = .ok (.iload_n 2, 1) := by decide +kernel
theorem dX5_takesOfFlag_46 : decode cX5_takesOfFlag 46 = .ok (.putfield 25, 3) := by decide +kernel
theorem dX5_takesOfFlag_49 : decode cX5_takesOfFlag 49 = .ok (.aload_n 0, 1) := by decide +kernel
theorem dX5_takesOfFlag_50 : decode cX5_takesOfFlag 50 = .ok (.iload_n 2, 1) := by decide +kernel
theorem dX5_takesOfFlag_51 : decode cX5_takesOfFlag 51 = .ok (.ifCond .lt 12, 3) := by decide +kernel
theorem dX5_takesOfFlag_54 : decode cX5_takesOfFlag 54 = .ok (.iload_n 2, 1) := by decide +kernel
theorem dX5_takesOfFlag_55 : decode cX5_takesOfFlag 55 = .ok (.iconst 3, 1) := by decide +kernel
theorem dX5_takesOfFlag_56 : decode cX5_takesOfFlag 56 = .ok (.if_icmp .gt 7, 3) := by decide +kernel
theorem dX5_takesOfFlag_59 : decode cX5_takesOfFlag 59 = .ok (.iconst 1, 1) := by decide +kernel
theorem dX5_takesOfFlag_60 : decode cX5_takesOfFlag 60 = .ok (.goto 4, 3) := by decide +kernel
theorem dX5_takesOfFlag_63 : decode cX5_takesOfFlag 63 = .ok (.iconst 0, 1) := by decide +kernel
theorem dX5_takesOfFlag_64 : decode cX5_takesOfFlag 64 = .ok (.bipush 7, 2) := by decide +kernel
theorem dX5_takesOfFlag_66 : decode cX5_takesOfFlag 66 = .ok (.invokevirtual 50, 3) := by decide +kernel
theorem dX5_takesOfFlag_69 : decode cX5_takesOfFlag 69 = .ok (.ireturn, 1) := by decide +kernel
theorem dX5_takesOfFlag_70 : decode cX5_takesOfFlag 70 = .ok (.iload_n 2, 1) := by decide +kernel
theorem dX5_takesOfFlag_71 : decode cX5_takesOfFlag 71 = .ok (.iconst 1, 1) := by decide +kernel
theorem dX5_takesOfFlag_72 : decode cX5_takesOfFlag 72 = .ok (.if_icmp .lt 8, 3) := by decide +kernel
theorem dX5_takesOfFlag_75 : decode cX5_takesOfFlag 75 = .ok (.iload_n 2, 1) := by decide +kernel
theorem dX5_takesOfFlag_76 : decode cX5_takesOfFlag 76 = .ok (.iconst 4, 1) := by decide +kernel
theorem dX5_takesOfFlag_77 : decode cX5_takesOfFlag 77 = .ok (.if_icmp .le 5, 3) := by decide +kernel
theorem dX5_takesOfFlag_80 : decode cX5_takesOfFlag 80 = .ok (.iconst 0, 1) := by decide +kernel
theorem dX5_takesOfFlag_81 : decode cX5_takesOfFlag 81 = .ok (.ireturn, 1) := by decide +kernel
theorem dX5_takesOfFlag_82 : decode cX5_takesOfFlag 82 = .ok (.aload_n 0, 1) := by decide +kernel
theorem dX5_takesOfFlag_83 : decode cX5_takesOfFlag 83 = .ok (.getfield 12, 3) := by decide +kernel
theorem dX5_takesOfFlag_86 : decode cX5_takesOfFlag 86 = .ok (.aload_n 0, 1) := by decide +kernel
theorem dX5_takesOfFlag_87 : decode cX5_takesOfFlag 87 = .ok (.getfield 22, 3) := by decide +kernel
theorem dX5_takesOfFlag_90 : decode cX5_takesOfFlag 90 = .ok (.aload_n 0, 1) := by decide +kernel
theorem dX5_takesOfFlag_91 : decode cX5_takesOfFlag 91 = .ok (.getfield 25, 3) := by decide +kernel
theorem dX5_takesOfFlag_94 : decode cX5_takesOfFlag 94 = .ok (.iload_n 2, 1) := by decide +kernel
theorem dX5_takesOfFlag_95 : decode cX5_takesOfFlag 95 = .ok (.invokevirtual 70, 3) := by decide +kernel
theorem dX5_takesOfFlag_98 : decode cX5_takesOfFlag 98 = .ok (.aload_n 0, 1) := by decide +kernel
theorem dX5_takesOfFlag_99 : decode cX5_takesOfFlag 99 = .ok (.iconst 1, 1) := by decide +kernel
theorem dX5_takesOfFlag_100 : decode cX5_takesOfFlag 100 = .ok (.iconst 4, 1) := by decide +kernel
theorem dX5_takesOfFlag_101 : decode cX5_takesOfFlag 101 = .ok (.invokevirtual 50, 3) := by decide +kernel
theorem dX5_takesOfFlag_104 : decode cX5_takesOfFlag 104 = .ok (.ireturn, 1) := by decide +kernel
set_option maxRecDepth 20000 in
theorem ggX5_takesOfHostile_X4_notYetHostile : GoodIn wsX5_takesOfHostile wsX4_notYetHostile := goodIn_r _ [8, 9, 10, 11, 12, 7, 13, 14, 15, 16, 17, 18, 34, 35, 36, 37, 38, 39, 40, 41] (by decide +kernel) (by decide +kernel)
set_option maxRecDepth 20000 in
theorem gX5_takesOfHostile_X4_notYetHostile : GoodIn wsX5_takesOfHostile (wsV RX5 74 RX4 yX4_notYetHostile wsX4_notYetHostile) := goodIn_app (goodIn_of _ (by decide +kernel)) ggX5_takesOfHostile_X4_notYetHostile
set_option maxRecDepth 20000 in
theorem ggX5_takesOfHostile_X5_goOn : GoodIn wsX5_takesOfHostile wsX5_goOn := goodIn_r _ [23, 1, 29, 30, 31, 32, 33] (by decide +kernel) (by decide +kernel)
set_option maxRecDepth 20000 in
theorem gX5_takesOfHostile_X5_goOn : GoodIn wsX5_takesOfHostile (wsV RX5 50 RX5 yX5_goOn wsX5_goOn) := goodIn_app (goodIn_of _ (by decide +kernel)) ggX5_takesOfHostile_X5_goOn
set_option maxRecDepth 20000 in
theorem ggX5_takesOfHostile_X4_has : GoodIn wsX5_takesOfHostile wsX4_has := goodIn_r _ [13, 14, 34, 35, 36, 37, 38, 39, 40, 41] (by decide +kernel) (by decide +kernel)
set_option maxRecDepth 20000 in
theorem gX5_takesOfHostile_X4_has : GoodIn wsX5_takesOfHostile (wsV RX5 78 RX4 yX4_has wsX4_has) := goodIn_app (goodIn_of _ (by decide +kernel)) ggX5_takesOfHostile_X4_has
set_option maxRecDepth 20000 in
theorem ggX5_takesOfHostile_X4_makeHostile : GoodIn wsX5_takesOfHostile wsX4_makeHostile := goodIn_r _ [28, 9, 10, 11, 12, 7, 13, 14, 34, 35, 36, 37, 38, 39, 40, 41] (by decide +kernel) (by decide +kernel)
set_option maxRecDepth 20000 in
theorem gX5_takesOfHostile_X4_makeHostile : GoodIn wsX5_takesOfHostile (wsV RX5 81 RX4 yX4_makeHostile wsX4_makeHostile) := goodIn_app (goodIn_of _ (by decide +kernel)) ggX5_takesOfHostile_X4_makeHostile
theorem dX5_takesOfHostile_0 : decode cX5_takesOfHostile 0 = .ok (.aload_n 0, 1) := by decide +kernel
theorem dX5_takesOfHostile_1 : decode cX5_takesOfHostile 1 = .ok (.getfield 18, 3) := by decide +kernel
theorem dX5_takesOfHostile_4 : decode cX5_takesOfHostile 4 = .ok (.bipush 8, 2) := by decide +kernel
theorem dX5_takesOfHostile_6 : decode cX5_takesOfHostile 6 = .ok (.if_icmp .ne 31, 3) := by decide +kernel
theorem dX5_takesOfHostile_9 : decode cX5_takesOfHostile 9 = .ok (.aload_n 0, 1) := by decide +kernel
theorem dX5_takesOfHostile_10 : decode cX5_takesOfHostile 10 = .ok (.iload_n 1, 1) := by decide +kernel
theorem dX5_takesOfHostile_11 : decode cX5_takesOfHostile 11 = .ok (.putfield 28, 3) := by decide +kernel
theorem dX5_takesOfHostile_14 : decode cX5_takesOfHostile 14 = .ok (.aload_n 0, 1) := by decide +kernel
theorem dX5_takesOfHostile_15 : decode cX5_takesOfHostile 15 = .ok (.aload_n 0, 1) := by decide +kernel
theorem dX5_takesOfHostile_16 : decode cX5_takesOfHostile 16 = .ok (.getfield 12, 3) := by decide +kernel
theorem dX5_takesOfHostile_19 : decode cX5_takesOfHostile 19 = .ok (.iload_n 1, 1) := by decide +kernel
theorem dX5_takesOfHostile_20 : decode cX5_takesOfHostile 20 = .ok (.invokevirtual 74, 3) := by decide +kernel
theorem dX5_takesOfHostile_23 : decode cX5_takesOfHostile 23 = .ok (.ifCond .eq 7, 3) := by decide +kernel
theorem dX5_takesOfHostile_26 : decode cX5_takesOfHostile 26 = .ok (.iconst 1, 1) := by decide +kernel
theorem dX5_takesOfHostile_27 : decode cX5_takesOfHostile 27 = .ok (.goto 4, 3) := by decide +kernel
theorem dX5_takesOfHostile_30 : decode cX5_takesOfHostile 30 = .ok (.iconst 0, 1) := by decide +kernel
theorem dX5_takesOfHostile_31 : decode cX5_takesOfHostile 31 = .ok (.bipush 9, 2) := by decide +kernel
theorem dX5_takesOfHostile_33 : decode cX5_takesOfHostile 33 = .ok (.invokevirtual 50, 3) := by decide +kernel
theorem dX5_takesOfHostile_36 : decode cX5_takesOfHostile 36 = .ok (.ireturn, 1) := by decide +kernel
theorem dX5_takesOfHostile_37 : decode cX5_takesOfHostile 37 = .ok (.aload_n 0, 1) := by decide +kernel
theorem dX5_takesOfHostile_38 : decode cX5_takesOfHostile 38 = .ok (.getfield 12, 3) := by decide +kernel
theorem dX5_takesOfHostile_41 : decode cX5_takesOfHostile 41 = .ok (.iload_n 1, 1) := by decide +kernel
theorem dX5_takesOfHostile_42 : decode cX5_takesOfHostile 42 = .ok (.invokevirtual 78, 3) := by decide +kernel
theorem dX5_takesOfHostile_45 : decode cX5_takesOfHostile 45 = .ok (.ifCond .eq 21, 3) := by decide +kernel
theorem dX5_takesOfHostile_48 : decode cX5_takesOfHostile 48 = .ok (.aload_n 0, 1) := by decide +kernel
theorem dX5_takesOfHostile_49 : decode cX5_takesOfHostile 49 = .ok (.getfield 12, 3) := by decide +kernel
theorem dX5_takesOfHostile_52 : decode cX5_takesOfHostile 52 = .ok (.aload_n 0, 1) := by decide +kernel
theorem dX5_takesOfHostile_53 : decode cX5_takesOfHostile 53 = .ok (.getfield 28, 3) := by decide +kernel
theorem dX5_takesOfHostile_56 : decode cX5_takesOfHostile 56 = .ok (.invokevirtual 74, 3) := by decide +kernel
theorem dX5_takesOfHostile_59 : decode cX5_takesOfHostile 59 = .ok (.iload_n 1, 1) := by decide +kernel
theorem dX5_takesOfHostile_60 : decode cX5_takesOfHostile 60 = .ok (.ishr, 1) := by decide +kernel
theorem dX5_takesOfHostile_61 : decode cX5_takesOfHostile 61 = .ok (.iconst 1, 1) := by decide +kernel
theorem dX5_takesOfHostile_62 : decode cX5_takesOfHostile 62 = .ok (.iand, 1) := by decide +kernel
theorem dX5_takesOfHostile_63 : decode cX5_takesOfHostile 63 = .ok (.ifCond .ne 5, 3) := by decide +kernel
theorem dX5_takesOfHostile_66 : decode cX5_takesOfHostile 66 = .ok (.iconst 0, 1) := by decide +kernel
theorem dX5_takesOfHostile_67 : decode cX5_takesOfHostile 67 = .ok (.ireturn, 1) := by decide +kernel
theorem dX5_takesOfHostile_68 : decode cX5_takesOfHostile 68 = .ok (.aload_n 0, 1) := by decide +kernel
theorem dX5_takesOfHostile_69 : decode cX5_takesOfHostile 69 = .ok (.getfield 12, 3) := by decide +kernel
theorem dX5_takesOfHostile_72 : decode cX5_takesOfHostile 72 = .ok (.aload_n 0, 1) := by decide +kernel
theorem dX5_takesOfHostile_73 : decode cX5_takesOfHostile 73 = .ok (.getfield 28, 3) := by decide +kernel
theorem dX5_takesOfHostile_76 : decode cX5_takesOfHostile 76 = .ok (.iload_n 1, 1) := by decide +kernel
theorem dX5_takesOfHostile_77 : decode cX5_takesOfHostile 77 = .ok (.invokevirtual 81, 3) := by decide +kernel
theorem dX5_takesOfHostile_80 : decode cX5_takesOfHostile 80 = .ok (.aload_n 0, 1) := by decide +kernel
theorem dX5_takesOfHostile_81 : decode cX5_takesOfHostile 81 = .ok (.iconst 1, 1) := by decide +kernel
theorem dX5_takesOfHostile_82 : decode cX5_takesOfHostile 82 = .ok (.iconst 4, 1) := by decide +kernel
theorem dX5_takesOfHostile_83 : decode cX5_takesOfHostile 83 = .ok (.invokevirtual 50, 3) := by decide +kernel
theorem dX5_takesOfHostile_86 : decode cX5_takesOfHostile 86 = .ok (.ireturn, 1) := by decide +kernel
theorem dX5_goOn_0 : decode cX5_goOn 0 = .ok (.iload_n 1, 1) := by decide +kernel
theorem dX5_goOn_1 : decode cX5_goOn 1 = .ok (.ifCond .eq 8, 3) := by decide +kernel
theorem dX5_goOn_4 : decode cX5_goOn 4 = .ok (.aload_n 0, 1) := by decide +kernel
theorem dX5_goOn_5 : decode cX5_goOn 5 = .ok (.iload_n 2, 1) := by decide +kernel
theorem dX5_goOn_6 : decode cX5_goOn 6 = .ok (.putfield 18, 3) := by decide +kernel
theorem dX5_goOn_9 : decode cX5_goOn 9 = .ok (.iload_n 1, 1) := by decide +kernel
theorem dX5_goOn_10 : decode cX5_goOn 10 = .ok (.ireturn, 1) := by decide +kernel
theorem dX6_orders_0 : decode cX6_orders 0 = .ok (.iload_n 0, 1) := by decide +kernel
theorem dX6_orders_1 : decode cX6_orders 1 = .ok (.ifCond .lt 19, 3) := by decide +kernel
theorem dX6_orders_4 : decode cX6_orders 4 = .ok (.iload_n 0, 1) := by decide +kernel
theorem dX6_orders_5 : decode cX6_orders 5 = .ok (.getstatic 9, 3) := by decide +kernel
theorem dX6_orders_8 : decode cX6_orders 8 = .ok (.arraylength, 1) := by decide +kernel
theorem dX6_orders_9 : decode cX6_orders 9 = .ok (.if_icmp .ge 11, 3) := by decide +kernel
theorem dX6_orders_12 : decode cX6_orders 12 = .ok (.getstatic 9, 3) := by decide +kernel
theorem dX6_orders_15 : decode cX6_orders 15 = .ok (.iload_n 0, 1) := by decide +kernel
theorem dX6_orders_16 : decode cX6_orders 16 = .ok (.iaload, 1) := by decide +kernel
theorem dX6_orders_17 : decode cX6_orders 17 = .ok (.goto 4, 3) := by decide +kernel
theorem dX6_orders_20 : decode cX6_orders 20 = .ok (.iconst 1, 1) := by decide +kernel
theorem dX6_orders_21 : decode cX6_orders 21 = .ok (.ireturn, 1) := by decide +kernel
set_option maxRecDepth 20000 in
theorem ggX6_gainInAllOrders_X4_allBits : GoodIn wsX6_gainInAllOrders wsX4_allBits := goodIn_r _ [6, 7, 27, 28, 29, 30, 31, 32, 33, 34] (by decide +kernel) (by decide +kernel)
set_option maxRecDepth 20000 in
theorem gX6_gainInAllOrders_X4_allBits : GoodIn wsX6_gainInAllOrders (wsV RX6 15 RX4 yX4_allBits wsX4_allBits) := goodIn_app (goodIn_of _ (by decide +kernel)) ggX6_gainInAllOrders_X4_allBits
set_option maxRecDepth 20000 in
theorem ggX6_gainInAllOrders_X9_isWithin : GoodIn wsX6_gainInAllOrders wsX9_isWithin := goodIn_r _ [10] (by decide +kernel) (by decide +kernel)
set_option maxRecDepth 20000 in
theorem gX6_gainInAllOrders_X9_isWithin_n21 : GoodIn wsX6_gainInAllOrders (wsX9_isWithin) := ggX6_gainInAllOrders_X9_isWithin
set_option maxRecDepth 20000 in
theorem ggX6_gainInAllOrders_J6_bitCount_0f7a4 : GoodIn wsX6_gainInAllOrders wsJ6_bitCount_0f7a4 := goodIn_r _ [14, 15, 16, 17] (by decide +kernel) (by decide +kernel)
set_option maxRecDepth 20000 in
theorem gX6_gainInAllOrders_J6_bitCount_0f7a4 : GoodIn wsX6_gainInAllOrders (va_wsS RX6 25 yJ6_bitCount_0f7a4 wsJ6_bitCount_0f7a4) := goodIn_app (goodIn_of _ (by decide +kernel)) ggX6_gainInAllOrders_J6_bitCount_0f7a4
set_option maxRecDepth 20000 in
theorem ggX6_gainInAllOrders_X6_inPeace : GoodIn wsX6_gainInAllOrders wsX6_inPeace := goodIn_r _ [21, 1, 22, 8, 9, 10, 27, 28, 29, 30, 31, 32, 33, 34] (by decide +kernel) (by decide +kernel)
set_option maxRecDepth 20000 in
theorem gX6_gainInAllOrders_X6_inPeace : GoodIn wsX6_gainInAllOrders (va_wsS RX6 31 yX6_inPeace wsX6_inPeace) := goodIn_app (goodIn_of _ (by decide +kernel)) ggX6_gainInAllOrders_X6_inPeace
set_option maxRecDepth 20000 in
theorem ggX6_gainInAllOrders_X6_orders : GoodIn wsX6_gainInAllOrders wsX6_orders := goodIn_r _ [25, 26] (by decide +kernel) (by decide +kernel)
set_option maxRecDepth 20000 in
theorem gX6_gainInAllOrders_X6_orders : GoodIn wsX6_gainInAllOrders (va_wsS RX6 35 yX6_orders wsX6_orders) := goodIn_app (goodIn_of _ (by decide +kernel)) ggX6_gainInAllOrders_X6_orders
theorem dX6_gainInAllOrders_0 : decode cX6_gainInAllOrders 0 = .ok (.iconst 0, 1) := by decide +kernel
theorem dX6_gainInAllOrders_1 : decode cX6_gainInAllOrders 1 = .ok (.istore_n 2, 1) := by decide +kernel
theorem dX6_gainInAllOrders_2 : decode cX6_gainInAllOrders 2 = .ok (.iconst 0, 1) := by decide +kernel
theorem dX6_gainInAllOrders_3 : decode cX6_gainInAllOrders 3 = .ok (.istore_n 3, 1) := by decide +kernel
theorem dX6_gainInAllOrders_4 : decode cX6_gainInAllOrders 4 = .ok (.iload_n 3, 1) := by decide +kernel
theorem dX6_gainInAllOrders_5 : decode cX6_gainInAllOrders 5 = .ok (.bipush 31, 2) := by decide +kernel
theorem dX6_gainInAllOrders_7 : decode cX6_gainInAllOrders 7 = .ok (.if_icmp .gt 73, 3) := by decide +kernel
theorem dX6_gainInAllOrders_10 : decode cX6_gainInAllOrders 10 = .ok (.iload_n 3, 1) := by decide +kernel
theorem dX6_gainInAllOrders_11 : decode cX6_gainInAllOrders 11 = .ok (.aload_n 0, 1) := by decide +kernel
theorem dX6_gainInAllOrders_12 : decode cX6_gainInAllOrders 12 = .ok (.invokevirtual 15, 3) := by decide +kernel
theorem dX6_gainInAllOrders_15 : decode cX6_gainInAllOrders 15 = .ok (.iconst 1, 1) := by decide +kernel
theorem dX6_gainInAllOrders_16 : decode cX6_gainInAllOrders 16 = .ok (.iload_n 1, 1) := by decide +kernel
theorem dX6_gainInAllOrders_17 : decode cX6_gainInAllOrders 17 = .ok (.ishl, 1) := by decide +kernel
theorem dX6_gainInAllOrders_18 : decode cX6_gainInAllOrders 18 = .ok (.iconst (-1), 1) := by decide +kernel
theorem dX6_gainInAllOrders_19 : decode cX6_gainInAllOrders 19 = .ok (.ixor, 1) := by decide +kernel
theorem dX6_gainInAllOrders_20 : decode cX6_gainInAllOrders 20 = .ok (.iand, 1) := by decide +kernel
theorem dX6_gainInAllOrders_21 : decode cX6_gainInAllOrders 21 = .ok (.invokestatic 21, 3) := by decide +kernel
theorem dX6_gainInAllOrders_24 : decode cX6_gainInAllOrders 24 = .ok (.ifCond .eq 50, 3) := by decide +kernel
theorem dX6_gainInAllOrders_27 : decode cX6_gainInAllOrders 27 = .ok (.iload_n 3, 1) := by decide +kernel
theorem dX6_gainInAllOrders_28 : decode cX6_gainInAllOrders 28 = .ok (.invokestatic 25, 3) := by decide +kernel
theorem dX6_gainInAllOrders_31 : decode cX6_gainInAllOrders 31 = .ok (.istore 4, 2) := by decide +kernel
theorem dX6_gainInAllOrders_33 : decode cX6_gainInAllOrders 33 = .ok (.aload_n 0, 1) := by decide +kernel
theorem dX6_gainInAllOrders_34 : decode cX6_gainInAllOrders 34 = .ok (.iload_n 3, 1) := by decide +kernel
theorem dX6_gainInAllOrders_35 : decode cX6_gainInAllOrders 35 = .ok (.iconst 1, 1) := by decide +kernel
theorem dX6_gainInAllOrders_36 : decode cX6_gainInAllOrders 36 = .ok (.iload_n 1, 1) := by decide +kernel
theorem dX6_gainInAllOrders_37 : decode cX6_gainInAllOrders 37 = .ok (.ishl, 1) := by decide +kernel
theorem dX6_gainInAllOrders_38 : decode cX6_gainInAllOrders 38 = .ok (.ior, 1) := by decide +kernel
theorem dX6_gainInAllOrders_39 : decode cX6_gainInAllOrders 39 = .ok (.invokestatic 31, 3) := by decide +kernel
theorem dX6_gainInAllOrders_42 : decode cX6_gainInAllOrders 42 = .ok (.aload_n 0, 1) := by decide +kernel
theorem dX6_gainInAllOrders_43 : decode cX6_gainInAllOrders 43 = .ok (.iload_n 3, 1) := by decide +kernel
theorem dX6_gainInAllOrders_44 : decode cX6_gainInAllOrders 44 = .ok (.invokestatic 31, 3) := by decide +kernel
theorem dX6_gainInAllOrders_47 : decode cX6_gainInAllOrders 47 = .ok (.isub, 1) := by decide +kernel
theorem dX6_gainInAllOrders_48 : decode cX6_gainInAllOrders 48 = .ok (.istore 5, 2) := by decide +kernel
theorem dX6_gainInAllOrders_50 : decode cX6_gainInAllOrders 50 = .ok (.iload_n 2, 1) := by decide +kernel
theorem dX6_gainInAllOrders_51 : decode cX6_gainInAllOrders 51 = .ok (.iload 5, 2) := by decide +kernel
theorem dX6_gainInAllOrders_53 : decode cX6_gainInAllOrders 53 = .ok (.iload 4, 2) := by decide +kernel
theorem dX6_gainInAllOrders_55 : decode cX6_gainInAllOrders 55 = .ok (.invokestatic 35, 3) := by decide +kernel
theorem dX6_gainInAllOrders_58 : decode cX6_gainInAllOrders 58 = .ok (.imul, 1) := by decide +kernel
theorem dX6_gainInAllOrders_59 : decode cX6_gainInAllOrders 59 = .ok (.aload_n 0, 1) := by decide +kernel
theorem dX6_gainInAllOrders_60 : decode cX6_gainInAllOrders 60 = .ok (.getfield 38, 3) := by decide +kernel
theorem dX6_gainInAllOrders_63 : decode cX6_gainInAllOrders 63 = .ok (.iconst 1, 1) := by decide +kernel
theorem dX6_gainInAllOrders_64 : decode cX6_gainInAllOrders 64 = .ok (.isub, 1) := by decide +kernel
theorem dX6_gainInAllOrders_65 : decode cX6_gainInAllOrders 65 = .ok (.iload 4, 2) := by decide +kernel
theorem dX6_gainInAllOrders_67 : decode cX6_gainInAllOrders 67 = .ok (.isub, 1) := by decide +kernel
theorem dX6_gainInAllOrders_68 : decode cX6_gainInAllOrders 68 = .ok (.invokestatic 35, 3) := by decide +kernel
theorem dX6_gainInAllOrders_71 : decode cX6_gainInAllOrders 71 = .ok (.imul, 1) := by decide +kernel
theorem dX6_gainInAllOrders_72 : decode cX6_gainInAllOrders 72 = .ok (.iadd, 1) := by decide +kernel
theorem dX6_gainInAllOrders_73 : decode cX6_gainInAllOrders 73 = .ok (.istore_n 2, 1) := by decide +kernel
theorem dX6_gainInAllOrders_74 : decode cX6_gainInAllOrders 74 = .ok (.iinc 3 1, 3) := by decide +kernel
theorem dX6_gainInAllOrders_77 : decode cX6_gainInAllOrders 77 = .ok (.goto (-73), 3) := by decide +kernel
theorem dX6_gainInAllOrders_80 : decode cX6_gainInAllOrders 80 = .ok (.iload_n 2, 1) := by decide +kernel
theorem dX6_gainInAllOrders_81 : decode cX6_gainInAllOrders 81 = .ok (.ireturn, 1) := by decide +kernel
set_option maxRecDepth 20000 in
theorem ggX6_inPeace_X9_isWithin : GoodIn wsX6_inPeace wsX9_isWithin := goodIn_r _ [5] (by decide +kernel) (by decide +kernel)
set_option maxRecDepth 20000 in
theorem gX6_inPeace_X9_isWithin_n21 : GoodIn wsX6_inPeace (wsX9_isWithin) := ggX6_inPeace_X9_isWithin
theorem dX6_inPeace_0 : decode cX6_inPeace 0 = .ok (.iconst 0, 1) := by decide +kernel
theorem dX6_inPeace_1 : decode cX6_inPeace 1 = .ok (.istore_n 2, 1) := by decide +kernel
theorem dX6_inPeace_2 : decode cX6_inPeace 2 = .ok (.iconst 0, 1) := by decide +kernel
theorem dX6_inPeace_3 : decode cX6_inPeace 3 = .ok (.istore_n 3, 1) := by decide +kernel
theorem dX6_inPeace_4 : decode cX6_inPeace 4 = .ok (.iload_n 3, 1) := by decide +kernel
theorem dX6_inPeace_5 : decode cX6_inPeace 5 = .ok (.aload_n 0, 1) := by decide +kernel
theorem dX6_inPeace_6 : decode cX6_inPeace 6 = .ok (.getfield 38, 3) := by decide +kernel
theorem dX6_inPeace_9 : decode cX6_inPeace 9 = .ok (.if_icmp .ge 45, 3) := by decide +kernel
theorem dX6_inPeace_12 : decode cX6_inPeace 12 = .ok (.iload_n 1, 1) := by decide +kernel
theorem dX6_inPeace_13 : decode cX6_inPeace 13 = .ok (.iload_n 3, 1) := by decide +kernel
theorem dX6_inPeace_14 : decode cX6_inPeace 14 = .ok (.ishr, 1) := by decide +kernel
theorem dX6_inPeace_15 : decode cX6_inPeace 15 = .ok (.iconst 1, 1) := by decide +kernel
theorem dX6_inPeace_16 : decode cX6_inPeace 16 = .ok (.iand, 1) := by decide +kernel
theorem dX6_inPeace_17 : decode cX6_inPeace 17 = .ok (.ifCond .eq 7, 3) := by decide +kernel
theorem dX6_inPeace_20 : decode cX6_inPeace 20 = .ok (.iconst 1, 1) := by decide +kernel
theorem dX6_inPeace_21 : decode cX6_inPeace 21 = .ok (.goto 4, 3) := by decide +kernel
theorem dX6_inPeace_24 : decode cX6_inPeace 24 = .ok (.iconst 0, 1) := by decide +kernel
theorem dX6_inPeace_25 : decode cX6_inPeace 25 = .ok (.istore 4, 2) := by decide +kernel
theorem dX6_inPeace_27 : decode cX6_inPeace 27 = .ok (.iload 4, 2) := by decide +kernel
theorem dX6_inPeace_29 : decode cX6_inPeace 29 = .ok (.ifCond .ne 16, 3) := by decide +kernel
theorem dX6_inPeace_32 : decode cX6_inPeace 32 = .ok (.aload_n 0, 1) := by decide +kernel
theorem dX6_inPeace_33 : decode cX6_inPeace 33 = .ok (.getfield 42, 3) := by decide +kernel
theorem dX6_inPeace_36 : decode cX6_inPeace 36 = .ok (.iload_n 3, 1) := by decide +kernel
theorem dX6_inPeace_37 : decode cX6_inPeace 37 = .ok (.iaload, 1) := by decide +kernel
theorem dX6_inPeace_38 : decode cX6_inPeace 38 = .ok (.iload_n 1, 1) := by decide +kernel
theorem dX6_inPeace_39 : decode cX6_inPeace 39 = .ok (.invokestatic 21, 3) := by decide +kernel
theorem dX6_inPeace_42 : decode cX6_inPeace 42 = .ok (.ifCond .eq 6, 3) := by decide +kernel
theorem dX6_inPeace_45 : decode cX6_inPeace 45 = .ok (.iinc 2 1, 3) := by decide +kernel
theorem dX6_inPeace_48 : decode cX6_inPeace 48 = .ok (.iinc 3 1, 3) := by decide +kernel
theorem dX6_inPeace_51 : decode cX6_inPeace 51 = .ok (.goto (-47), 3) := by decide +kernel
theorem dX6_inPeace_54 : decode cX6_inPeace 54 = .ok (.iload_n 2, 1) := by decide +kernel
theorem dX6_inPeace_55 : decode cX6_inPeace 55 = .ok (.ireturn, 1) := by decide +kernel
theorem dX7_init_0 : decode cX7_init 0 = .ok (.aload_n 0, 1) := by decide +kernel
theorem dX7_init_1 : decode cX7_init 1 = .ok (.invokespecial 3, 3) := by decide +kernel
theorem dX7_init_4 : decode cX7_init 4 = .ok (.aload_n 0, 1) := by decide +kernel
theorem dX7_init_5 : decode cX7_init 5 = .ok (.bipush 6, 2) := by decide +kernel
theorem dX7_init_7 : decode cX7_init 7 = .ok (.newarray .int, 2) := by decide +kernel
theorem dX7_init_9 : decode cX7_init 9 = .ok (.putfield 9, 3) := by decide +kernel
theorem dX7_init_12 : decode cX7_init 12 = .ok (.aload_n 0, 1) := by decide +kernel
theorem dX7_init_13 : decode cX7_init 13 = .ok (.bipush 6, 2) := by decide +kernel
theorem dX7_init_15 : decode cX7_init 15 = .ok (.newarray .int, 2) := by decide +kernel
theorem dX7_init_17 : decode cX7_init 17 = .ok (.putfield 15, 3) := by decide +kernel
theorem dX7_init_20 : decode cX7_init 20 = .ok (.aload_n 0, 1) := by decide +kernel
theorem dX7_init_21 : decode cX7_init 21 = .ok (.bipush 6, 2) := by decide +kernel
theorem dX7_init_23 : decode cX7_init 23 = .ok (.newarray .int, 2) := by decide +kernel
theorem dX7_init_25 : decode cX7_init 25 = .ok (.putfield 18, 3) := by decide +kernel
theorem dX7_init_28 : decode cX7_init 28 = .ok (.aload_n 0, 1) := by decide +kernel
theorem dX7_init_29 : decode cX7_init 29 = .ok (.iconst 0, 1) := by decide +kernel
theorem dX7_init_30 : decode cX7_init 30 = .ok (.putfield 21, 3) := by decide +kernel
theorem dX7_init_33 : decode cX7_init 33 = .ok (.return_, 1) := by decide +kernel
theorem dX7_forgetAll_0 : decode cX7_forgetAll 0 = .ok (.aload_n 0, 1) := by decide +kernel
theorem dX7_forgetAll_1 : decode cX7_forgetAll 1 = .ok (.iconst 0, 1) := by decide +kernel
theorem dX7_forgetAll_2 : decode cX7_forgetAll 2 = .ok (.putfield 21, 3) := by decide +kernel
theorem dX7_forgetAll_5 : decode cX7_forgetAll 5 = .ok (.return_, 1) := by decide +kernel
theorem dX7_add_0 : decode cX7_add 0 = .ok (.aload_n 0, 1) := by decide +kernel
theorem dX7_add_1 : decode cX7_add 1 = .ok (.getfield 21, 3) := by decide +kernel
theorem dX7_add_4 : decode cX7_add 4 = .ok (.bipush 6, 2) := by decide +kernel
theorem dX7_add_6 : decode cX7_add 6 = .ok (.if_icmp .lt 5, 3) := by decide +kernel
theorem dX7_add_9 : decode cX7_add 9 = .ok (.iconst 0, 1) := by decide +kernel
theorem dX7_add_10 : decode cX7_add 10 = .ok (.ireturn, 1) := by decide +kernel
theorem dX7_add_11 : decode cX7_add 11 = .ok (.aload_n 0, 1) := by decide +kernel
theorem dX7_add_12 : decode cX7_add 12 = .ok (.getfield 9, 3) := by decide +kernel
theorem dX7_add_15 : decode cX7_add 15 = .ok (.aload_n 0, 1) := by decide +kernel
theorem dX7_add_16 : decode cX7_add 16 = .ok (.getfield 21, 3) := by decide +kernel
theorem dX7_add_19 : decode cX7_add 19 = .ok (.iload_n 1, 1) := by decide +kernel
theorem dX7_add_20 : decode cX7_add 20 = .ok (.iastore, 1) := by decide +kernel
theorem dX7_add_21 : decode cX7_add 21 = .ok (.aload_n 0, 1) := by decide +kernel
theorem dX7_add_22 : decode cX7_add 22 = .ok (.getfield 15, 3) := by decide +kernel
theorem dX7_add_25 : decode cX7_add 25 = .ok (.aload_n 0, 1) := by decide +kernel
theorem dX7_add_26 : decode cX7_add 26 = .ok (.getfield 21, 3) := by decide +kernel
theorem dX7_add_29 : decode cX7_add 29 = .ok (.iload_n 2, 1) := by decide +kernel
theorem dX7_add_30 : decode cX7_add 30 = .ok (.iastore, 1) := by decide +kernel
theorem dX7_add_31 : decode cX7_add 31 = .ok (.aload_n 0, 1) := by decide +kernel
theorem dX7_add_32 : decode cX7_add 32 = .ok (.getfield 18, 3) := by decide +kernel
theorem dX7_add_35 : decode cX7_add 35 = .ok (.aload_n 0, 1) := by decide +kernel
theorem dX7_add_36 : decode cX7_add 36 = .ok (.getfield 21, 3) := by decide +kernel
theorem dX7_add_39 : decode cX7_add 39 = .ok (.iload_n 3, 1) := by decide +kernel
theorem dX7_add_40 : decode cX7_add 40 = .ok (.iastore, 1) := by decide +kernel
theorem dX7_add_41 : decode cX7_add 41 = .ok (.aload_n 0, 1) := by decide +kernel
theorem dX7_add_42 : decode cX7_add 42 = .ok (.dup, 1) := by decide +kernel
theorem dX7_add_43 : decode cX7_add 43 = .ok (.getfield 21, 3) := by decide +kernel
theorem dX7_add_46 : decode cX7_add 46 = .ok (.iconst 1, 1) := by decide +kernel
theorem dX7_add_47 : decode cX7_add 47 = .ok (.iadd, 1) := by decide +kernel
theorem dX7_add_48 : decode cX7_add 48 = .ok (.putfield 21, 3) := by decide +kernel
theorem dX7_add_51 : decode cX7_add 51 = .ok (.iconst 1, 1) := by decide +kernel
theorem dX7_add_52 : decode cX7_add 52 = .ok (.ireturn, 1) := by decide +kernel
set_option maxRecDepth 20000 in
theorem ggX7_howManySets_X7_fitsAll : GoodIn wsX7_howManySets wsX7_fitsAll := goodIn_r _ [5, 6, 7, 8, 9, 10, 11, 12, 13, 14, 15, 16, 17, 18, 19, 20, 21, 22, 23, 24, 25, 26, 27, 28, 29, 30, 31, 32, 33, 34, 35, 36, 37, 38, 39, 40, 41, 42, 43, 44, 45] (by decide +kernel) (by decide +kernel)
set_option maxRecDepth 20000 in
theorem gX7_howManySets_X7_fitsAll : GoodIn wsX7_howManySets (wsV RX7 25 RX7 yX7_fitsAll wsX7_fitsAll) := goodIn_app (goodIn_of _ (by decide +kernel)) ggX7_howManySets_X7_fitsAll
theorem dX7_howManySets_0 : decode cX7_howManySets 0 = .ok (.iconst 0, 1) := by decide +kernel
theorem dX7_howManySets_1 : decode cX7_howManySets 1 = .ok (.istore_n 3, 1) := by decide +kernel
theorem dX7_howManySets_2 : decode cX7_howManySets 2 = .ok (.iconst 0, 1) := by decide +kernel
theorem dX7_howManySets_3 : decode cX7_howManySets 3 = .ok (.istore 4, 2) := by decide +kernel
theorem dX7_howManySets_5 : decode cX7_howManySets 5 = .ok (.iload 4, 2) := by decide +kernel
theorem dX7_howManySets_7 : decode cX7_howManySets 7 = .ok (.bipush 15, 2) := by decide +kernel
theorem dX7_howManySets_9 : decode cX7_howManySets 9 = .ok (.if_icmp .gt 23, 3) := by decide +kernel
theorem dX7_howManySets_12 : decode cX7_howManySets 12 = .ok (.aload_n 0, 1) := by decide +kernel
theorem dX7_howManySets_13 : decode cX7_howManySets 13 = .ok (.iload_n 1, 1) := by decide +kernel
theorem dX7_howManySets_14 : decode cX7_howManySets 14 = .ok (.iload 4, 2) := by decide +kernel
theorem dX7_howManySets_16 : decode cX7_howManySets 16 = .ok (.aload_n 2, 1) := by decide +kernel
theorem dX7_howManySets_17 : decode cX7_howManySets 17 = .ok (.invokevirtual 25, 3) := by decide +kernel
theorem dX7_howManySets_20 : decode cX7_howManySets 20 = .ok (.ifCond .eq 6, 3) := by decide +kernel
theorem dX7_howManySets_23 : decode cX7_howManySets 23 = .ok (.iinc 3 1, 3) := by decide +kernel
theorem dX7_howManySets_26 : decode cX7_howManySets 26 = .ok (.iinc 4 1, 3) := by decide +kernel
theorem dX7_howManySets_29 : decode cX7_howManySets 29 = .ok (.goto (-24), 3) := by decide +kernel
theorem dX7_howManySets_32 : decode cX7_howManySets 32 = .ok (.iload_n 3, 1) := by decide +kernel
theorem dX7_howManySets_33 : decode cX7_howManySets 33 = .ok (.ireturn, 1) := by decide +kernel
set_option maxRecDepth 20000 in
theorem ggX7_coloursInAll_X7_fitsAll : GoodIn wsX7_coloursInAll wsX7_fitsAll := goodIn_r _ [5, 6, 7, 8, 9, 10, 11, 12, 13, 14, 15, 16, 17, 18, 19, 20, 21, 22, 23, 24, 25, 26, 27, 28, 29, 30, 31, 32, 33, 34, 35, 36, 37, 38, 39, 40, 41, 42, 43, 44, 45] (by decide +kernel) (by decide +kernel)
set_option maxRecDepth 20000 in
theorem gX7_coloursInAll_X7_fitsAll : GoodIn wsX7_coloursInAll (wsV RX7 25 RX7 yX7_fitsAll wsX7_fitsAll) := goodIn_app (goodIn_of _ (by decide +kernel)) ggX7_coloursInAll_X7_fitsAll
theorem dX7_coloursInAll_0 : decode cX7_coloursInAll 0 = .ok (.bipush (-9), 2) := by decide +kernel
theorem dX7_coloursInAll_2 : decode cX7_coloursInAll 2 = .ok (.istore_n 3, 1) := by decide +kernel
theorem dX7_coloursInAll_3 : decode cX7_coloursInAll 3 = .ok (.iconst 0, 1) := by decide +kernel
theorem dX7_coloursInAll_4 : decode cX7_coloursInAll 4 = .ok (.istore 4, 2) := by decide +kernel
theorem dX7_coloursInAll_6 : decode cX7_coloursInAll 6 = .ok (.iload 4, 2) := by decide +kernel
theorem dX7_coloursInAll_8 : decode cX7_coloursInAll 8 = .ok (.bipush 15, 2) := by decide +kernel
theorem dX7_coloursInAll_10 : decode cX7_coloursInAll 10 = .ok (.if_icmp .gt 36, 3) := by decide +kernel
theorem dX7_coloursInAll_13 : decode cX7_coloursInAll 13 = .ok (.aload_n 0, 1) := by decide +kernel
theorem dX7_coloursInAll_14 : decode cX7_coloursInAll 14 = .ok (.iload_n 1, 1) := by decide +kernel
theorem dX7_coloursInAll_15 : decode cX7_coloursInAll 15 = .ok (.iload 4, 2) := by decide +kernel
theorem dX7_coloursInAll_17 : decode cX7_coloursInAll 17 = .ok (.aload_n 2, 1) := by decide +kernel
theorem dX7_coloursInAll_18 : decode cX7_coloursInAll 18 = .ok (.invokevirtual 25, 3) := by decide +kernel
theorem dX7_coloursInAll_21 : decode cX7_coloursInAll 21 = .ok (.ifCond .eq 19, 3) := by decide +kernel
theorem dX7_coloursInAll_24 : decode cX7_coloursInAll 24 = .ok (.iload_n 3, 1) := by decide +kernel
theorem dX7_coloursInAll_25 : decode cX7_coloursInAll 25 = .ok (.bipush (-9), 2) := by decide +kernel
theorem dX7_coloursInAll_27 : decode cX7_coloursInAll 27 = .ok (.if_icmp .ne 8, 3) := by decide +kernel
theorem dX7_coloursInAll_30 : decode cX7_coloursInAll 30 = .ok (.iload 4, 2) := by decide +kernel
theorem dX7_coloursInAll_32 : decode cX7_coloursInAll 32 = .ok (.goto 7, 3) := by decide +kernel
theorem dX7_coloursInAll_35 : decode cX7_coloursInAll 35 = .ok (.iload_n 3, 1) := by decide +kernel
theorem dX7_coloursInAll_36 : decode cX7_coloursInAll 36 = .ok (.iload 4, 2) := by decide +kernel
theorem dX7_coloursInAll_38 : decode cX7_coloursInAll 38 = .ok (.iand, 1) := by decide +kernel
theorem dX7_coloursInAll_39 : decode cX7_coloursInAll 39 = .ok (.istore_n 3, 1) := by decide +kernel
theorem dX7_coloursInAll_40 : decode cX7_coloursInAll 40 = .ok (.iinc 4 1, 3) := by decide +kernel
theorem dX7_coloursInAll_43 : decode cX7_coloursInAll 43 = .ok (.goto (-37), 3) := by decide +kernel
theorem dX7_coloursInAll_46 : decode cX7_coloursInAll 46 = .ok (.iload_n 3, 1) := by decide +kernel
theorem dX7_coloursInAll_47 : decode cX7_coloursInAll 47 = .ok (.ireturn, 1) := by decide +kernel
set_option maxRecDepth 20000 in
theorem ggX7_coloursInNone_X7_fitsAll : GoodIn wsX7_coloursInNone wsX7_fitsAll := goodIn_r _ [5, 6, 7, 8, 9, 10, 11, 12, 13, 14, 15, 16, 17, 18, 19, 20, 21, 22, 23, 24, 25, 26, 27, 28, 29, 30, 31, 32, 33, 34, 35, 36, 37, 38, 39, 40, 41, 42, 43, 44, 45] (by decide +kernel) (by decide +kernel)
set_option maxRecDepth 20000 in
theorem gX7_coloursInNone_X7_fitsAll : GoodIn wsX7_coloursInNone (wsV RX7 25 RX7 yX7_fitsAll wsX7_fitsAll) := goodIn_app (goodIn_of _ (by decide +kernel)) ggX7_coloursInNone_X7_fitsAll
theorem dX7_coloursInNone_0 : decode cX7_coloursInNone 0 = .ok (.bipush (-9), 2) := by decide +kernel
theorem dX7_coloursInNone_2 : decode cX7_coloursInNone 2 = .ok (.istore_n 3, 1) := by decide +kernel
theorem dX7_coloursInNone_3 : decode cX7_coloursInNone 3 = .ok (.iconst 0, 1) := by decide +kernel
theorem dX7_coloursInNone_4 : decode cX7_coloursInNone 4 = .ok (.istore 4, 2) := by decide +kernel
theorem dX7_coloursInNone_6 : decode cX7_coloursInNone 6 = .ok (.iload 4, 2) := by decide +kernel
theorem dX7_coloursInNone_8 : decode cX7_coloursInNone 8 = .ok (.bipush 15, 2) := by decide +kernel
theorem dX7_coloursInNone_10 : decode cX7_coloursInNone 10 = .ok (.if_icmp .gt 38, 3) := by decide +kernel
theorem dX7_coloursInNone_13 : decode cX7_coloursInNone 13 = .ok (.aload_n 0, 1) := by decide +kernel
theorem dX7_coloursInNone_14 : decode cX7_coloursInNone 14 = .ok (.iload_n 1, 1) := by decide +kernel
theorem dX7_coloursInNone_15 : decode cX7_coloursInNone 15 = .ok (.iload 4, 2) := by decide +kernel
theorem dX7_coloursInNone_17 : decode cX7_coloursInNone 17 = .ok (.aload_n 2, 1) := by decide +kernel
theorem dX7_coloursInNone_18 : decode cX7_coloursInNone 18 = .ok (.invokevirtual 25, 3) := by decide +kernel
theorem dX7_coloursInNone_21 : decode cX7_coloursInNone 21 = .ok (.ifCond .eq 21, 3) := by decide +kernel
theorem dX7_coloursInNone_24 : decode cX7_coloursInNone 24 = .ok (.iload_n 3, 1) := by decide +kernel
theorem dX7_coloursInNone_25 : decode cX7_coloursInNone 25 = .ok (.bipush (-9), 2) := by decide +kernel
theorem dX7_coloursInNone_27 : decode cX7_coloursInNone 27 = .ok (.if_icmp .ne 8, 3) := by decide +kernel
theorem dX7_coloursInNone_30 : decode cX7_coloursInNone 30 = .ok (.bipush 15, 2) := by decide +kernel
theorem dX7_coloursInNone_32 : decode cX7_coloursInNone 32 = .ok (.goto 4, 3) := by decide +kernel
theorem dX7_coloursInNone_35 : decode cX7_coloursInNone 35 = .ok (.iload_n 3, 1) := by decide +kernel
theorem dX7_coloursInNone_36 : decode cX7_coloursInNone 36 = .ok (.iload 4, 2) := by decide +kernel
theorem dX7_coloursInNone_38 : decode cX7_coloursInNone 38 = .ok (.iconst (-1), 1) := by decide +kernel
theorem dX7_coloursInNone_39 : decode cX7_coloursInNone 39 = .ok (.ixor, 1) := by decide +kernel
theorem dX7_coloursInNone_40 : decode cX7_coloursInNone 40 = .ok (.iand, 1) := by decide +kernel
theorem dX7_coloursInNone_41 : decode cX7_coloursInNone 41 = .ok (.istore_n 3, 1) := by decide +kernel
theorem dX7_coloursInNone_42 : decode cX7_coloursInNone 42 = .ok (.iinc 4 1, 3) := by decide +kernel
theorem dX7_coloursInNone_45 : decode cX7_coloursInNone 45 = .ok (.goto (-39), 3) := by decide +kernel
theorem dX7_coloursInNone_48 : decode cX7_coloursInNone 48 = .ok (.iload_n 3, 1) := by decide +kernel
theorem dX7_coloursInNone_49 : decode cX7_coloursInNone 49 = .ok (.ireturn, 1) := by decide +kernel
set_option maxRecDepth 20000 in
theorem ggX7_fitsAll_X4_allBits : GoodIn wsX7_fitsAll wsX4_allBits := goodIn_r _ [10, 11, 33, 34, 35, 36, 37, 38, 39, 40] (by decide +kernel) (by decide +kernel)
set_option maxRecDepth 20000 in
theorem gX7_fitsAll_X4_allBits : GoodIn wsX7_fitsAll (wsV RX7 35 RX4 yX4_allBits wsX4_allBits) := goodIn_app (goodIn_of _ (by decide +kernel)) ggX7_fitsAll_X4_allBits
set_option maxRecDepth 20000 in
theorem ggX7_fitsAll_X9_isWithin : GoodIn wsX7_fitsAll wsX9_isWithin := goodIn_r _ [14] (by decide +kernel) (by decide +kernel)
set_option maxRecDepth 20000 in
theorem gX7_fitsAll_X9_isWithin_n41 : GoodIn wsX7_fitsAll (wsX9_isWithin) := ggX7_fitsAll_X9_isWithin
set_option maxRecDepth 20000 in
theorem ggX7_fitsAll_X8_coloursOf : GoodIn wsX7_fitsAll wsX8_coloursOf := goodIn_r _ [19, 20, 21, 22, 27, 28, 29, 30, 31, 32, 33, 34, 35, 36, 37, 38, 39, 40] (by decide +kernel) (by decide +kernel)
set_option maxRecDepth 20000 in
theorem gX7_fitsAll_X8_coloursOf : GoodIn wsX7_fitsAll (wsV RX7 45 RX8 yX8_coloursOf wsX8_coloursOf) := goodIn_app (goodIn_of _ (by decide +kernel)) ggX7_fitsAll_X8_coloursOf
theorem dX7_fitsAll_0 : decode cX7_fitsAll 0 = .ok (.iconst 0, 1) := by decide +kernel
theorem dX7_fitsAll_1 : decode cX7_fitsAll 1 = .ok (.istore 4, 2) := by decide +kernel
theorem dX7_fitsAll_3 : decode cX7_fitsAll 3 = .ok (.iload 4, 2) := by decide +kernel
theorem dX7_fitsAll_5 : decode cX7_fitsAll 5 = .ok (.aload_n 0, 1) := by decide +kernel
theorem dX7_fitsAll_6 : decode cX7_fitsAll 6 = .ok (.getfield 21, 3) := by decide +kernel
theorem dX7_fitsAll_9 : decode cX7_fitsAll 9 = .ok (.if_icmp .ge 84, 3) := by decide +kernel
theorem dX7_fitsAll_12 : decode cX7_fitsAll 12 = .ok (.iload 4, 2) := by decide +kernel
theorem dX7_fitsAll_14 : decode cX7_fitsAll 14 = .ok (.bipush 6, 2) := by decide +kernel
theorem dX7_fitsAll_16 : decode cX7_fitsAll 16 = .ok (.if_icmp .ge 77, 3) := by decide +kernel
theorem dX7_fitsAll_19 : decode cX7_fitsAll 19 = .ok (.aload_n 0, 1) := by decide +kernel
theorem dX7_fitsAll_20 : decode cX7_fitsAll 20 = .ok (.getfield 9, 3) := by decide +kernel
theorem dX7_fitsAll_23 : decode cX7_fitsAll 23 = .ok (.iload 4, 2) := by decide +kernel
theorem dX7_fitsAll_25 : decode cX7_fitsAll 25 = .ok (.iaload, 1) := by decide +kernel
theorem dX7_fitsAll_26 : decode cX7_fitsAll 26 = .ok (.iload_n 1, 1) := by decide +kernel
theorem dX7_fitsAll_27 : decode cX7_fitsAll 27 = .ok (.if_icmp .ne 27, 3) := by decide +kernel
theorem dX7_fitsAll_30 : decode cX7_fitsAll 30 = .ok (.aload_n 0, 1) := by decide +kernel
theorem dX7_fitsAll_31 : decode cX7_fitsAll 31 = .ok (.getfield 18, 3) := by decide +kernel
theorem dX7_fitsAll_34 : decode cX7_fitsAll 34 = .ok (.iload 4, 2) := by decide +kernel
theorem dX7_fitsAll_36 : decode cX7_fitsAll 36 = .ok (.iaload, 1) := by decide +kernel
theorem dX7_fitsAll_37 : decode cX7_fitsAll 37 = .ok (.aload_n 3, 1) := by decide +kernel
theorem dX7_fitsAll_38 : decode cX7_fitsAll 38 = .ok (.getfield 29, 3) := by decide +kernel
theorem dX7_fitsAll_41 : decode cX7_fitsAll 41 = .ok (.invokevirtual 35, 3) := by decide +kernel
theorem dX7_fitsAll_44 : decode cX7_fitsAll 44 = .ok (.invokestatic 41, 3) := by decide +kernel
theorem dX7_fitsAll_47 : decode cX7_fitsAll 47 = .ok (.ifCond .eq 7, 3) := by decide +kernel
theorem dX7_fitsAll_50 : decode cX7_fitsAll 50 = .ok (.iconst 1, 1) := by decide +kernel
theorem dX7_fitsAll_51 : decode cX7_fitsAll 51 = .ok (.goto 4, 3) := by decide +kernel
theorem dX7_fitsAll_54 : decode cX7_fitsAll 54 = .ok (.iconst 0, 1) := by decide +kernel
theorem dX7_fitsAll_55 : decode cX7_fitsAll 55 = .ok (.istore 5, 2) := by decide +kernel
theorem dX7_fitsAll_57 : decode cX7_fitsAll 57 = .ok (.iload 5, 2) := by decide +kernel
theorem dX7_fitsAll_59 : decode cX7_fitsAll 59 = .ok (.ifCond .eq 28, 3) := by decide +kernel
theorem dX7_fitsAll_62 : decode cX7_fitsAll 62 = .ok (.iload_n 2, 1) := by decide +kernel
theorem dX7_fitsAll_63 : decode cX7_fitsAll 63 = .ok (.aload_n 3, 1) := by decide +kernel
theorem dX7_fitsAll_64 : decode cX7_fitsAll 64 = .ok (.aload_n 0, 1) := by decide +kernel
theorem dX7_fitsAll_65 : decode cX7_fitsAll 65 = .ok (.getfield 18, 3) := by decide +kernel
theorem dX7_fitsAll_68 : decode cX7_fitsAll 68 = .ok (.iload 4, 2) := by decide +kernel
theorem dX7_fitsAll_70 : decode cX7_fitsAll 70 = .ok (.iaload, 1) := by decide +kernel
theorem dX7_fitsAll_71 : decode cX7_fitsAll 71 = .ok (.invokevirtual 45, 3) := by decide +kernel
theorem dX7_fitsAll_74 : decode cX7_fitsAll 74 = .ok (.ior, 1) := by decide +kernel
theorem dX7_fitsAll_75 : decode cX7_fitsAll 75 = .ok (.aload_n 0, 1) := by decide +kernel
theorem dX7_fitsAll_76 : decode cX7_fitsAll 76 = .ok (.getfield 15, 3) := by decide +kernel
theorem dX7_fitsAll_79 : decode cX7_fitsAll 79 = .ok (.iload 4, 2) := by decide +kernel
theorem dX7_fitsAll_81 : decode cX7_fitsAll 81 = .ok (.iaload, 1) := by decide +kernel
theorem dX7_fitsAll_82 : decode cX7_fitsAll 82 = .ok (.if_icmp .eq 5, 3) := by decide +kernel
theorem dX7_fitsAll_85 : decode cX7_fitsAll 85 = .ok (.iconst 0, 1) := by decide +kernel
theorem dX7_fitsAll_86 : decode cX7_fitsAll 86 = .ok (.ireturn, 1) := by decide +kernel
theorem dX7_fitsAll_87 : decode cX7_fitsAll 87 = .ok (.iinc 4 1, 3) := by decide +kernel
theorem dX7_fitsAll_90 : decode cX7_fitsAll 90 = .ok (.goto (-87), 3) := by decide +kernel
theorem dX7_fitsAll_93 : decode cX7_fitsAll 93 = .ok (.iconst 1, 1) := by decide +kernel
theorem dX7_fitsAll_94 : decode cX7_fitsAll 94 = .ok (.ireturn, 1) := by decide +kernel
theorem dX8_init_0 : decode cX8_init 0 = .ok (.aload_n 0, 1) := by decide +kernel
theorem dX8_init_1 : decode cX8_init 1 = .ok (.invokespecial 3, 3) := by decide +kernel
theorem dX8_init_4 : decode cX8_init 4 = .ok (.aload_n 0, 1) := by decide +kernel
theorem dX8_init_5 : decode cX8_init 5 = .ok (.iconst 5, 1) := by decide +kernel
theorem dX8_init_6 : decode cX8_init 6 = .ok (.newarray .int, 2) := by decide +kernel
theorem dX8_init_8 : decode cX8_init 8 = .ok (.putfield 9, 3) := by decide +kernel
theorem dX8_init_11 : decode cX8_init 11 = .ok (.aload_n 0, 1) := by decide +kernel
theorem dX8_init_12 : decode cX8_init 12 = .ok (.iconst 5, 1) := by decide +kernel
theorem dX8_init_13 : decode cX8_init 13 = .ok (.newarray .int, 2) := by decide +kernel
theorem dX8_init_15 : decode cX8_init 15 = .ok (.putfield 15, 3) := by decide +kernel
theorem dX8_init_18 : decode cX8_init 18 = .ok (.aload_n 0, 1) := by decide +kernel
theorem dX8_init_19 : decode cX8_init 19 = .ok (.iconst 5, 1) := by decide +kernel
theorem dX8_init_20 : decode cX8_init 20 = .ok (.newarray .int, 2) := by decide +kernel
theorem dX8_init_22 : decode cX8_init 22 = .ok (.putfield 18, 3) := by decide +kernel
theorem dX8_init_25 : decode cX8_init 25 = .ok (.aload_n 0, 1) := by decide +kernel
theorem dX8_init_26 : decode cX8_init 26 = .ok (.iconst 0, 1) := by decide +kernel
theorem dX8_init_27 : decode cX8_init 27 = .ok (.putfield 21, 3) := by decide +kernel
theorem dX8_init_30 : decode cX8_init 30 = .ok (.aload_n 0, 1) := by decide +kernel
theorem dX8_init_31 : decode cX8_init 31 = .ok (.iconst 0, 1) := by decide +kernel
theorem dX8_init_32 : decode cX8_init 32 = .ok (.putfield 25, 3) := by decide +kernel
theorem dX8_init_35 : decode cX8_init 35 = .ok (.aload_n 0, 1) := by decide +kernel
theorem dX8_init_36 : decode cX8_init 36 = .ok (.aload_n 1, 1) := by decide +kernel
theorem dX8_init_37 : decode cX8_init 37 = .ok (.putfield 28, 3) := by decide +kernel
theorem dX8_init_40 : decode cX8_init 40 = .ok (.return_, 1) := by decide +kernel
theorem dX8_startAnew_0 : decode cX8_startAnew 0 = .ok (.iconst 0, 1) := by decide +kernel
theorem dX8_startAnew_1 : decode cX8_startAnew 1 = .ok (.istore_n 1, 1) := by decide +kernel
theorem dX8_startAnew_2 : decode cX8_startAnew 2 = .ok (.iload_n 1, 1) := by decide +kernel
theorem dX8_startAnew_3 : decode cX8_startAnew 3 = .ok (.iconst 5, 1) := by decide +kernel
theorem dX8_startAnew_4 : decode cX8_startAnew 4 = .ok (.if_icmp .ge 38, 3) := by decide +kernel
theorem dX8_startAnew_7 : decode cX8_startAnew 7 = .ok (.aload_n 0, 1) := by decide +kernel
theorem dX8_startAnew_8 : decode cX8_startAnew 8 = .ok (.getfield 9, 3) := by decide +kernel
theorem dX8_startAnew_11 : decode cX8_startAnew 11 = .ok (.iload_n 1, 1) := by decide +kernel
theorem dX8_startAnew_12 : decode cX8_startAnew 12 = .ok (.iconst 0, 1) := by decide +kernel
theorem dX8_startAnew_13 : decode cX8_startAnew 13 = .ok (.iastore, 1) := by decide +kernel
theorem dX8_startAnew_14 : decode cX8_startAnew 14 = .ok (.aload_n 0, 1) := by decide +kernel
theorem dX8_startAnew_15 : decode cX8_startAnew 15 = .ok (.getfield 15, 3) := by decide +kernel
theorem dX8_startAnew_18 : decode cX8_startAnew 18 = .ok (.iload_n 1, 1) := by decide +kernel
theorem dX8_startAnew_19 : decode cX8_startAnew 19 = .ok (.iconst 0, 1) := by decide +kernel
theorem dX8_startAnew_20 : decode cX8_startAnew 20 = .ok (.iastore, 1) := by decide +kernel
theorem dX8_startAnew_21 : decode cX8_startAnew 21 = .ok (.aload_n 0, 1) := by decide +kernel
theorem dX8_startAnew_22 : decode cX8_startAnew 22 = .ok (.getfield 18, 3) := by decide +kernel
theorem dX8_startAnew_25 : decode cX8_startAnew 25 = .ok (.iload_n 1, 1) := by decide +kernel
theorem dX8_startAnew_26 : decode cX8_startAnew 26 = .ok (.aload_n 0, 1) := by decide +kernel
theorem dX8_startAnew_27 : decode cX8_startAnew 27 = .ok (.getfield 28, 3) := by decide +kernel
theorem dX8_startAnew_30 : decode cX8_startAnew 30 = .ok (.getfield 32, 3) := by decide +kernel
theorem dX8_startAnew_33 : decode cX8_startAnew 33 = .ok (.iload_n 1, 1) := by decide +kernel
theorem dX8_startAnew_34 : decode cX8_startAnew 34 = .ok (.iaload, 1) := by decide +kernel
theorem dX8_startAnew_35 : decode cX8_startAnew 35 = .ok (.iastore, 1) := by decide +kernel
theorem dX8_startAnew_36 : decode cX8_startAnew 36 = .ok (.iinc 1 1, 3) := by decide +kernel
theorem dX8_startAnew_39 : decode cX8_startAnew 39 = .ok (.goto (-37), 3) := by decide +kernel
theorem dX8_startAnew_42 : decode cX8_startAnew 42 = .ok (.aload_n 0, 1) := by decide +kernel
theorem dX8_startAnew_43 : decode cX8_startAnew 43 = .ok (.aload_n 0, 1) := by decide +kernel
theorem dX8_startAnew_44 : decode cX8_startAnew 44 = .ok (.getfield 28, 3) := by decide +kernel
theorem dX8_startAnew_47 : decode cX8_startAnew 47 = .ok (.getfield 35, 3) := by decide +kernel
theorem dX8_startAnew_50 : decode cX8_startAnew 50 = .ok (.putfield 21, 3) := by decide +kernel
theorem dX8_startAnew_53 : decode cX8_startAnew 53 = .ok (.aload_n 0, 1) := by decide +kernel
theorem dX8_startAnew_54 : decode cX8_startAnew 54 = .ok (.iconst 0, 1) := by decide +kernel
theorem dX8_startAnew_55 : decode cX8_startAnew 55 = .ok (.putfield 25, 3) := by decide +kernel
theorem dX8_startAnew_58 : decode cX8_startAnew 58 = .ok (.return_, 1) := by decide +kernel
theorem dX8_copyFrom_0 : decode cX8_copyFrom 0 = .ok (.aload_n 1, 1) := by decide +kernel
theorem dX8_copyFrom_1 : decode cX8_copyFrom 1 = .ok (.getfield 9, 3) := by decide +kernel
theorem dX8_copyFrom_4 : decode cX8_copyFrom 4 = .ok (.iconst 0, 1) := by decide +kernel
theorem dX8_copyFrom_5 : decode cX8_copyFrom 5 = .ok (.aload_n 0, 1) := by decide +kernel
theorem dX8_copyFrom_6 : decode cX8_copyFrom 6 = .ok (.getfield 9, 3) := by decide +kernel
theorem dX8_copyFrom_9 : decode cX8_copyFrom 9 = .ok (.iconst 0, 1) := by decide +kernel
theorem dX8_copyFrom_10 : decode cX8_copyFrom 10 = .ok (.iconst 5, 1) := by decide +kernel
theorem dX8_copyFrom_11 : decode cX8_copyFrom 11 = .ok (.invokestatic 36, 3) := by decide +kernel
theorem dX8_copyFrom_14 : decode cX8_copyFrom 14 = .ok (.aload_n 1, 1) := by decide +kernel
theorem dX8_copyFrom_15 : decode cX8_copyFrom 15 = .ok (.getfield 15, 3) := by decide +kernel
theorem dX8_copyFrom_18 : decode cX8_copyFrom 18 = .ok (.iconst 0, 1) := by decide +kernel
theorem dX8_copyFrom_19 : decode cX8_copyFrom 19 = .ok (.aload_n 0, 1) := by decide +kernel
theorem dX8_copyFrom_20 : decode cX8_copyFrom 20 = .ok (.getfield 15, 3) := by decide +kernel
theorem dX8_copyFrom_23 : decode cX8_copyFrom 23 = .ok (.iconst 0, 1) := by decide +kernel
theorem dX8_copyFrom_24 : decode cX8_copyFrom 24 = .ok (.iconst 5, 1) := by decide +kernel
theorem dX8_copyFrom_25 : decode cX8_copyFrom 25 = .ok (.invokestatic 36, 3) := by decide +kernel
theorem dX8_copyFrom_28 : decode cX8_copyFrom 28 = .ok (.aload_n 1, 1) := by decide +kernel
theorem dX8_copyFrom_29 : decode cX8_copyFrom 29 = .ok (.getfield 18, 3) := by decide +kernel
theorem dX8_copyFrom_32 : decode cX8_copyFrom 32 = .ok (.iconst 0, 1) := by decide +kernel
theorem dX8_copyFrom_33 : decode cX8_copyFrom 33 = .ok (.aload_n 0, 1) := by decide +kernel
theorem dX8_copyFrom_34 : decode cX8_copyFrom 34 = .ok (.getfield 18, 3) := by decide +kernel
theorem dX8_copyFrom_37 : decode cX8_copyFrom 37 = .ok (.iconst 0, 1) := by decide +kernel
theorem dX8_copyFrom_38 : decode cX8_copyFrom 38 = .ok (.iconst 5, 1) := by decide +kernel
theorem dX8_copyFrom_39 : decode cX8_copyFrom 39 = .ok (.invokestatic 36, 3) := by decide +kernel
theorem dX8_copyFrom_42 : decode cX8_copyFrom 42 = .ok (.aload_n 0, 1) := by decide +kernel
theorem dX8_copyFrom_43 : decode cX8_copyFrom 43 = .ok (.aload_n 1, 1) := by decide +kernel
theorem dX8_copyFrom_44 : decode cX8_copyFrom 44 = .ok (.getfield 21, 3) := by decide +kernel
theorem dX8_copyFrom_47 : decode cX8_copyFrom 47 = .ok (.putfield 21, 3) := by decide +kernel
theorem dX8_copyFrom_50 : decode cX8_copyFrom 50 = .ok (.aload_n 0, 1) := by decide +kernel
theorem dX8_copyFrom_51 : decode cX8_copyFrom 51 = .ok (.aload_n 1, 1) := by decide +kernel
theorem dX8_copyFrom_52 : decode cX8_copyFrom 52 = .ok (.getfield 25, 3) := by decide +kernel
theorem dX8_copyFrom_55 : decode cX8_copyFrom 55 = .ok (.putfield 25, 3) := by decide +kernel
theorem dX8_copyFrom_58 : decode cX8_copyFrom 58 = .ok (.return_, 1) := by decide +kernel
theorem dX8_bitsAt_0 : decode cX8_bitsAt 0 = .ok (.iconst 0, 1) := by decide +kernel
theorem dX8_bitsAt_1 : decode cX8_bitsAt 1 = .ok (.istore_n 2, 1) := by decide +kernel
theorem dX8_bitsAt_2 : decode cX8_bitsAt 2 = .ok (.iconst 0, 1) := by decide +kernel
theorem dX8_bitsAt_3 : decode cX8_bitsAt 3 = .ok (.istore_n 3, 1) := by decide +kernel
theorem dX8_bitsAt_4 : decode cX8_bitsAt 4 = .ok (.iload_n 3, 1) := by decide +kernel
theorem dX8_bitsAt_5 : decode cX8_bitsAt 5 = .ok (.aload_n 0, 1) := by decide +kernel
theorem dX8_bitsAt_6 : decode cX8_bitsAt 6 = .ok (.getfield 28, 3) := by decide +kernel
theorem dX8_bitsAt_9 : decode cX8_bitsAt 9 = .ok (.getfield 42, 3) := by decide +kernel
theorem dX8_bitsAt_12 : decode cX8_bitsAt 12 = .ok (.if_icmp .ge 25, 3) := by decide +kernel
theorem dX8_bitsAt_15 : decode cX8_bitsAt 15 = .ok (.aload_n 0, 1) := by decide +kernel
theorem dX8_bitsAt_16 : decode cX8_bitsAt 16 = .ok (.getfield 9, 3) := by decide +kernel
theorem dX8_bitsAt_19 : decode cX8_bitsAt 19 = .ok (.iload_n 3, 1) := by decide +kernel
theorem dX8_bitsAt_20 : decode cX8_bitsAt 20 = .ok (.iaload, 1) := by decide +kernel
theorem dX8_bitsAt_21 : decode cX8_bitsAt 21 = .ok (.iload_n 1, 1) := by decide +kernel
theorem dX8_bitsAt_22 : decode cX8_bitsAt 22 = .ok (.if_icmp .ne 9, 3) := by decide +kernel
theorem dX8_bitsAt_25 : decode cX8_bitsAt 25 = .ok (.iload_n 2, 1) := by decide +kernel
theorem dX8_bitsAt_26 : decode cX8_bitsAt 26 = .ok (.iconst 1, 1) := by decide +kernel
theorem dX8_bitsAt_27 : decode cX8_bitsAt 27 = .ok (.iload_n 3, 1) := by decide +kernel
theorem dX8_bitsAt_28 : decode cX8_bitsAt 28 = .ok (.ishl, 1) := by decide +kernel
theorem dX8_bitsAt_29 : decode cX8_bitsAt 29 = .ok (.ior, 1) := by decide +kernel
theorem dX8_bitsAt_30 : decode cX8_bitsAt 30 = .ok (.istore_n 2, 1) := by decide +kernel
theorem dX8_bitsAt_31 : decode cX8_bitsAt 31 = .ok (.iinc 3 1, 3) := by decide +kernel
theorem dX8_bitsAt_34 : decode cX8_bitsAt 34 = .ok (.goto (-30), 3) := by decide +kernel
theorem dX8_bitsAt_37 : decode cX8_bitsAt 37 = .ok (.iload_n 2, 1) := by decide +kernel
theorem dX8_bitsAt_38 : decode cX8_bitsAt 38 = .ok (.ireturn, 1) := by decide +kernel
set_option maxRecDepth 20000 in
theorem ggX8_homeBits_X8_bitsAt : GoodIn wsX8_homeBits wsX8_bitsAt := goodIn_r _ [5, 6, 7, 8, 9, 10, 11, 12, 13, 14, 15, 16, 17, 18, 19, 20, 21, 22] (by decide +kernel) (by decide +kernel)
set_option maxRecDepth 20000 in
theorem gX8_homeBits_X8_bitsAt : GoodIn wsX8_homeBits (wsV RX8 45 RX8 yX8_bitsAt wsX8_bitsAt) := goodIn_app (goodIn_of _ (by decide +kernel)) ggX8_homeBits_X8_bitsAt
theorem dX8_homeBits_0 : decode cX8_homeBits 0 = .ok (.aload_n 0, 1) := by decide +kernel
theorem dX8_homeBits_1 : decode cX8_homeBits 1 = .ok (.iconst 0, 1) := by decide +kernel
theorem dX8_homeBits_2 : decode cX8_homeBits 2 = .ok (.invokevirtual 45, 3) := by decide +kernel
theorem dX8_homeBits_5 : decode cX8_homeBits 5 = .ok (.ireturn, 1) := by decide +kernel
set_option maxRecDepth 20000 in
theorem ggX8_freeTubs_X8_bitsAt : GoodIn wsX8_freeTubs wsX8_bitsAt := goodIn_r _ [7, 1, 8, 9, 17, 18, 19, 20, 21, 22, 23, 24, 25, 26, 27, 28, 29, 30] (by decide +kernel) (by decide +kernel)
set_option maxRecDepth 20000 in
theorem gX8_freeTubs_X8_bitsAt : GoodIn wsX8_freeTubs (wsV RX8 45 RX8 yX8_bitsAt wsX8_bitsAt) := goodIn_app (goodIn_of _ (by decide +kernel)) ggX8_freeTubs_X8_bitsAt
set_option maxRecDepth 20000 in
theorem ggX8_freeTubs_J6_bitCount_0f7a4 : GoodIn wsX8_freeTubs wsJ6_bitCount_0f7a4 := goodIn_r _ [13, 14, 15, 16] (by decide +kernel) (by decide +kernel)
set_option maxRecDepth 20000 in
theorem gX8_freeTubs_J6_bitCount_0f7a4 : GoodIn wsX8_freeTubs (va_wsS RX8 52 yJ6_bitCount_0f7a4 wsJ6_bitCount_0f7a4) := goodIn_app (goodIn_of _ (by decide +kernel)) ggX8_freeTubs_J6_bitCount_0f7a4
theorem dX8_freeTubs_0 : decode cX8_freeTubs 0 = .ok (.aload_n 0, 1) := by decide +kernel
theorem dX8_freeTubs_1 : decode cX8_freeTubs 1 = .ok (.getfield 28, 3) := by decide +kernel
theorem dX8_freeTubs_4 : decode cX8_freeTubs 4 = .ok (.getfield 49, 3) := by decide +kernel
theorem dX8_freeTubs_7 : decode cX8_freeTubs 7 = .ok (.aload_n 0, 1) := by decide +kernel
theorem dX8_freeTubs_8 : decode cX8_freeTubs 8 = .ok (.iconst 1, 1) := by decide +kernel
theorem dX8_freeTubs_9 : decode cX8_freeTubs 9 = .ok (.invokevirtual 45, 3) := by decide +kernel
theorem dX8_freeTubs_12 : decode cX8_freeTubs 12 = .ok (.invokestatic 52, 3) := by decide +kernel
theorem dX8_freeTubs_15 : decode cX8_freeTubs 15 = .ok (.isub, 1) := by decide +kernel
theorem dX8_freeTubs_16 : decode cX8_freeTubs 16 = .ok (.ireturn, 1) := by decide +kernel
set_option maxRecDepth 20000 in
theorem ggX8_freePegs_X8_bitsAt : GoodIn wsX8_freePegs wsX8_bitsAt := goodIn_r _ [7, 1, 8, 9, 17, 18, 19, 20, 21, 22, 23, 24, 25, 26, 27, 28, 29, 30] (by decide +kernel) (by decide +kernel)
set_option maxRecDepth 20000 in
theorem gX8_freePegs_X8_bitsAt : GoodIn wsX8_freePegs (wsV RX8 45 RX8 yX8_bitsAt wsX8_bitsAt) := goodIn_app (goodIn_of _ (by decide +kernel)) ggX8_freePegs_X8_bitsAt
set_option maxRecDepth 20000 in
theorem ggX8_freePegs_J6_bitCount_0f7a4 : GoodIn wsX8_freePegs wsJ6_bitCount_0f7a4 := goodIn_r _ [13, 14, 15, 16] (by decide +kernel) (by decide +kernel)
set_option maxRecDepth 20000 in
theorem gX8_freePegs_J6_bitCount_0f7a4 : GoodIn wsX8_freePegs (va_wsS RX8 52 yJ6_bitCount_0f7a4 wsJ6_bitCount_0f7a4) := goodIn_app (goodIn_of _ (by decide +kernel)) ggX8_freePegs_J6_bitCount_0f7a4
theorem dX8_freePegs_0 : decode cX8_freePegs 0 = .ok (.aload_n 0, 1) := by decide +kernel
theorem dX8_freePegs_1 : decode cX8_freePegs 1 = .ok (.getfield 28, 3) := by decide +kernel
theorem dX8_freePegs_4 : decode cX8_freePegs 4 = .ok (.getfield 57, 3) := by decide +kernel
theorem dX8_freePegs_7 : decode cX8_freePegs 7 = .ok (.aload_n 0, 1) := by decide +kernel
theorem dX8_freePegs_8 : decode cX8_freePegs 8 = .ok (.iconst 2, 1) := by decide +kernel
theorem dX8_freePegs_9 : decode cX8_freePegs 9 = .ok (.invokevirtual 45, 3) := by decide +kernel
theorem dX8_freePegs_12 : decode cX8_freePegs 12 = .ok (.invokestatic 52, 3) := by decide +kernel
theorem dX8_freePegs_15 : decode cX8_freePegs 15 = .ok (.isub, 1) := by decide +kernel
theorem dX8_freePegs_16 : decode cX8_freePegs 16 = .ok (.ireturn, 1) := by decide +kernel
theorem dX8_coloursOf_0 : decode cX8_coloursOf 0 = .ok (.iconst 0, 1) := by decide +kernel
theorem dX8_coloursOf_1 : decode cX8_coloursOf 1 = .ok (.istore_n 2, 1) := by decide +kernel
theorem dX8_coloursOf_2 : decode cX8_coloursOf 2 = .ok (.iconst 0, 1) := by decide +kernel
theorem dX8_coloursOf_3 : decode cX8_coloursOf 3 = .ok (.istore_n 3, 1) := by decide +kernel
theorem dX8_coloursOf_4 : decode cX8_coloursOf 4 = .ok (.iload_n 3, 1) := by decide +kernel
theorem dX8_coloursOf_5 : decode cX8_coloursOf 5 = .ok (.aload_n 0, 1) := by decide +kernel
theorem dX8_coloursOf_6 : decode cX8_coloursOf 6 = .ok (.getfield 28, 3) := by decide +kernel
theorem dX8_coloursOf_9 : decode cX8_coloursOf 9 = .ok (.getfield 42, 3) := by decide +kernel
theorem dX8_coloursOf_12 : decode cX8_coloursOf 12 = .ok (.if_icmp .ge 26, 3) := by decide +kernel
theorem dX8_coloursOf_15 : decode cX8_coloursOf 15 = .ok (.iload_n 1, 1) := by decide +kernel
theorem dX8_coloursOf_16 : decode cX8_coloursOf 16 = .ok (.iload_n 3, 1) := by decide +kernel
theorem dX8_coloursOf_17 : decode cX8_coloursOf 17 = .ok (.ishr, 1) := by decide +kernel
theorem dX8_coloursOf_18 : decode cX8_coloursOf 18 = .ok (.iconst 1, 1) := by decide +kernel
theorem dX8_coloursOf_19 : decode cX8_coloursOf 19 = .ok (.iand, 1) := by decide +kernel
theorem dX8_coloursOf_20 : decode cX8_coloursOf 20 = .ok (.ifCond .eq 12, 3) := by decide +kernel
theorem dX8_coloursOf_23 : decode cX8_coloursOf 23 = .ok (.iload_n 2, 1) := by decide +kernel
theorem dX8_coloursOf_24 : decode cX8_coloursOf 24 = .ok (.aload_n 0, 1) := by decide +kernel
theorem dX8_coloursOf_25 : decode cX8_coloursOf 25 = .ok (.getfield 18, 3) := by decide +kernel
theorem dX8_coloursOf_28 : decode cX8_coloursOf 28 = .ok (.iload_n 3, 1) := by decide +kernel
theorem dX8_coloursOf_29 : decode cX8_coloursOf 29 = .ok (.iaload, 1) := by decide +kernel
theorem dX8_coloursOf_30 : decode cX8_coloursOf 30 = .ok (.ior, 1) := by decide +kernel
theorem dX8_coloursOf_31 : decode cX8_coloursOf 31 = .ok (.istore_n 2, 1) := by decide +kernel
theorem dX8_coloursOf_32 : decode cX8_coloursOf 32 = .ok (.iinc 3 1, 3) := by decide +kernel
theorem dX8_coloursOf_35 : decode cX8_coloursOf 35 = .ok (.goto (-31), 3) := by decide +kernel
theorem dX8_coloursOf_38 : decode cX8_coloursOf 38 = .ok (.iload_n 2, 1) := by decide +kernel
theorem dX8_coloursOf_39 : decode cX8_coloursOf 39 = .ok (.ireturn, 1) := by decide +kernel
set_option maxRecDepth 20000 in
theorem ggX8_pairsThatMayFight_X8_homeBits : GoodIn wsX8_pairsThatMayFight wsX8_homeBits := goodIn_r _ [6, 7, 8, 9, 5, 10, 1, 11, 12, 27, 28, 29, 30, 31, 32, 33, 34, 35, 36, 37, 38, 39, 40] (by decide +kernel) (by decide +kernel)
set_option maxRecDepth 20000 in
theorem gX8_pairsThatMayFight_X8_homeBits : GoodIn wsX8_pairsThatMayFight (wsV RX8 60 RX8 yX8_homeBits wsX8_homeBits) := goodIn_app (goodIn_of _ (by decide +kernel)) ggX8_pairsThatMayFight_X8_homeBits
set_option maxRecDepth 20000 in
theorem ggX8_pairsThatMayFight_X4_hostilePairs : GoodIn wsX8_pairsThatMayFight wsX4_hostilePairs := goodIn_r _ [17, 18, 19, 20, 21, 22, 23, 24, 25, 26, 33, 34, 35, 36, 37, 38, 39, 40] (by decide +kernel) (by decide +kernel)
set_option maxRecDepth 20000 in
theorem gX8_pairsThatMayFight_X4_hostilePairs : GoodIn wsX8_pairsThatMayFight (wsV RX8 64 RX4 yX4_hostilePairs wsX4_hostilePairs) := goodIn_app (goodIn_of _ (by decide +kernel)) ggX8_pairsThatMayFight_X4_hostilePairs
theorem dX8_pairsThatMayFight_0 : decode cX8_pairsThatMayFight 0 = .ok (.aload_n 0, 1) := by decide +kernel
theorem dX8_pairsThatMayFight_1 : decode cX8_pairsThatMayFight 1 = .ok (.getfield 28, 3) := by decide +kernel
theorem dX8_pairsThatMayFight_4 : decode cX8_pairsThatMayFight 4 = .ok (.aload_n 0, 1) := by decide +kernel
theorem dX8_pairsThatMayFight_5 : decode cX8_pairsThatMayFight 5 = .ok (.invokevirtual 60, 3) := by decide +kernel
theorem dX8_pairsThatMayFight_8 : decode cX8_pairsThatMayFight 8 = .ok (.invokevirtual 64, 3) := by decide +kernel
theorem dX8_pairsThatMayFight_11 : decode cX8_pairsThatMayFight 11 = .ok (.ireturn, 1) := by decide +kernel
set_option maxRecDepth 20000 in
theorem ggX8_canBeSent_X4_has : GoodIn wsX8_canBeSent wsX4_has := goodIn_r _ [7, 8, 33, 34, 35, 36, 37, 38, 39, 40] (by decide +kernel) (by decide +kernel)
set_option maxRecDepth 20000 in
theorem gX8_canBeSent_X4_has : GoodIn wsX8_canBeSent (wsV RX8 67 RX4 yX4_has wsX4_has) := goodIn_app (goodIn_of _ (by decide +kernel)) ggX8_canBeSent_X4_has
set_option maxRecDepth 20000 in
theorem ggX8_canBeSent_X8_freeTubs : GoodIn wsX8_canBeSent wsX8_freeTubs := goodIn_r _ [13, 1, 14, 15, 16, 17, 12, 18, 19, 2, 20, 21, 22, 23, 24, 25, 26, 27, 28, 29, 30, 31, 32, 33, 34, 35, 36, 37, 38, 39, 40] (by decide +kernel) (by decide +kernel)
set_option maxRecDepth 20000 in
theorem gX8_canBeSent_X8_freeTubs : GoodIn wsX8_canBeSent (wsV RX8 71 RX8 yX8_freeTubs wsX8_freeTubs) := goodIn_app (goodIn_of _ (by decide +kernel)) ggX8_canBeSent_X8_freeTubs
theorem dX8_canBeSent_0 : decode cX8_canBeSent 0 = .ok (.aload_n 0, 1) := by decide +kernel
theorem dX8_canBeSent_1 : decode cX8_canBeSent 1 = .ok (.getfield 28, 3) := by decide +kernel
theorem dX8_canBeSent_4 : decode cX8_canBeSent 4 = .ok (.iload_n 1, 1) := by decide +kernel
theorem dX8_canBeSent_5 : decode cX8_canBeSent 5 = .ok (.invokevirtual 67, 3) := by decide +kernel
theorem dX8_canBeSent_8 : decode cX8_canBeSent 8 = .ok (.ifCond .eq 23, 3) := by decide +kernel
theorem dX8_canBeSent_11 : decode cX8_canBeSent 11 = .ok (.aload_n 0, 1) := by decide +kernel
theorem dX8_canBeSent_12 : decode cX8_canBeSent 12 = .ok (.getfield 9, 3) := by decide +kernel
theorem dX8_canBeSent_15 : decode cX8_canBeSent 15 = .ok (.iload_n 1, 1) := by decide +kernel
theorem dX8_canBeSent_16 : decode cX8_canBeSent 16 = .ok (.iaload, 1) := by decide +kernel
theorem dX8_canBeSent_17 : decode cX8_canBeSent 17 = .ok (.ifCond .ne 14, 3) := by decide +kernel
theorem dX8_canBeSent_20 : decode cX8_canBeSent 20 = .ok (.aload_n 0, 1) := by decide +kernel
theorem dX8_canBeSent_21 : decode cX8_canBeSent 21 = .ok (.invokevirtual 71, 3) := by decide +kernel
theorem dX8_canBeSent_24 : decode cX8_canBeSent 24 = .ok (.ifCond .le 7, 3) := by decide +kernel
theorem dX8_canBeSent_27 : decode cX8_canBeSent 27 = .ok (.iconst 1, 1) := by decide +kernel
theorem dX8_canBeSent_28 : decode cX8_canBeSent 28 = .ok (.goto 4, 3) := by decide +kernel
theorem dX8_canBeSent_31 : decode cX8_canBeSent 31 = .ok (.iconst 0, 1) := by decide +kernel
theorem dX8_canBeSent_32 : decode cX8_canBeSent 32 = .ok (.ireturn, 1) := by decide +kernel
set_option maxRecDepth 20000 in
theorem ggX8_putInTub_X4_has : GoodIn wsX8_putInTub wsX4_has := goodIn_r _ [9, 10, 17, 18, 19, 20, 21, 22, 23, 24] (by decide +kernel) (by decide +kernel)
set_option maxRecDepth 20000 in
theorem gX8_putInTub_X4_has : GoodIn wsX8_putInTub (wsV RX8 67 RX4 yX4_has wsX4_has) := goodIn_app (goodIn_of _ (by decide +kernel)) ggX8_putInTub_X4_has
theorem dX8_putInTub_0 : decode cX8_putInTub 0 = .ok (.aload_n 0, 1) := by decide +kernel
theorem dX8_putInTub_1 : decode cX8_putInTub 1 = .ok (.getfield 28, 3) := by decide +kernel
theorem dX8_putInTub_4 : decode cX8_putInTub 4 = .ok (.iload_n 1, 1) := by decide +kernel
theorem dX8_putInTub_5 : decode cX8_putInTub 5 = .ok (.invokevirtual 67, 3) := by decide +kernel
theorem dX8_putInTub_8 : decode cX8_putInTub 8 = .ok (.ifCond .eq 25, 3) := by decide +kernel
theorem dX8_putInTub_11 : decode cX8_putInTub 11 = .ok (.aload_n 0, 1) := by decide +kernel
theorem dX8_putInTub_12 : decode cX8_putInTub 12 = .ok (.getfield 9, 3) := by decide +kernel
theorem dX8_putInTub_15 : decode cX8_putInTub 15 = .ok (.iload_n 1, 1) := by decide +kernel
theorem dX8_putInTub_16 : decode cX8_putInTub 16 = .ok (.iconst 1, 1) := by decide +kernel
theorem dX8_putInTub_17 : decode cX8_putInTub 17 = .ok (.iastore, 1) := by decide +kernel
theorem dX8_putInTub_18 : decode cX8_putInTub 18 = .ok (.aload_n 0, 1) := by decide +kernel
theorem dX8_putInTub_19 : decode cX8_putInTub 19 = .ok (.getfield 15, 3) := by decide +kernel
theorem dX8_putInTub_22 : decode cX8_putInTub 22 = .ok (.iload_n 1, 1) := by decide +kernel
theorem dX8_putInTub_23 : decode cX8_putInTub 23 = .ok (.aload_n 0, 1) := by decide +kernel
theorem dX8_putInTub_24 : decode cX8_putInTub 24 = .ok (.getfield 28, 3) := by decide +kernel
theorem dX8_putInTub_27 : decode cX8_putInTub 27 = .ok (.getfield 74, 3) := by decide +kernel
theorem dX8_putInTub_30 : decode cX8_putInTub 30 = .ok (.iload_n 1, 1) := by decide +kernel
theorem dX8_putInTub_31 : decode cX8_putInTub 31 = .ok (.iaload, 1) := by decide +kernel
theorem dX8_putInTub_32 : decode cX8_putInTub 32 = .ok (.iastore, 1) := by decide +kernel
theorem dX8_putInTub_33 : decode cX8_putInTub 33 = .ok (.return_, 1) := by decide +kernel
set_option maxRecDepth 20000 in
theorem ggX8_canBePulled_X4_has : GoodIn wsX8_canBePulled wsX4_has := goodIn_r _ [7, 8, 15, 16, 17, 18, 19, 20, 21, 22] (by decide +kernel) (by decide +kernel)
set_option maxRecDepth 20000 in
theorem gX8_canBePulled_X4_has : GoodIn wsX8_canBePulled (wsV RX8 67 RX4 yX4_has wsX4_has) := goodIn_app (goodIn_of _ (by decide +kernel)) ggX8_canBePulled_X4_has
theorem dX8_canBePulled_0 : decode cX8_canBePulled 0 = .ok (.aload_n 0, 1) := by decide +kernel
theorem dX8_canBePulled_1 : decode cX8_canBePulled 1 = .ok (.getfield 28, 3) := by decide +kernel
theorem dX8_canBePulled_4 : decode cX8_canBePulled 4 = .ok (.iload_n 1, 1) := by decide +kernel
theorem dX8_canBePulled_5 : decode cX8_canBePulled 5 = .ok (.invokevirtual 67, 3) := by decide +kernel
theorem dX8_canBePulled_8 : decode cX8_canBePulled 8 = .ok (.ifCond .eq 16, 3) := by decide +kernel
theorem dX8_canBePulled_11 : decode cX8_canBePulled 11 = .ok (.aload_n 0, 1) := by decide +kernel
theorem dX8_canBePulled_12 : decode cX8_canBePulled 12 = .ok (.getfield 9, 3) := by decide +kernel
theorem dX8_canBePulled_15 : decode cX8_canBePulled 15 = .ok (.iload_n 1, 1) := by decide +kernel
theorem dX8_canBePulled_16 : decode cX8_canBePulled 16 = .ok (.iaload, 1) := by decide +kernel
theorem dX8_canBePulled_17 : decode cX8_canBePulled 17 = .ok (.ifCond .eq 7, 3) := by decide +kernel
theorem dX8_canBePulled_20 : decode cX8_canBePulled 20 = .ok (.iconst 1, 1) := by decide +kernel
theorem dX8_canBePulled_21 : decode cX8_canBePulled 21 = .ok (.goto 4, 3) := by decide +kernel
theorem dX8_canBePulled_24 : decode cX8_canBePulled 24 = .ok (.iconst 0, 1) := by decide +kernel
theorem dX8_canBePulled_25 : decode cX8_canBePulled 25 = .ok (.ireturn, 1) := by decide +kernel
set_option maxRecDepth 20000 in
theorem ggX8_bringHome_X4_has : GoodIn wsX8_bringHome wsX4_has := goodIn_r _ [8, 9, 16, 17, 18, 19, 20, 21, 22, 23] (by decide +kernel) (by decide +kernel)
set_option maxRecDepth 20000 in
theorem gX8_bringHome_X4_has : GoodIn wsX8_bringHome (wsV RX8 67 RX4 yX4_has wsX4_has) := goodIn_app (goodIn_of _ (by decide +kernel)) ggX8_bringHome_X4_has
theorem dX8_bringHome_0 : decode cX8_bringHome 0 = .ok (.aload_n 0, 1) := by decide +kernel
theorem dX8_bringHome_1 : decode cX8_bringHome 1 = .ok (.getfield 28, 3) := by decide +kernel
theorem dX8_bringHome_4 : decode cX8_bringHome 4 = .ok (.iload_n 1, 1) := by decide +kernel
theorem dX8_bringHome_5 : decode cX8_bringHome 5 = .ok (.invokevirtual 67, 3) := by decide +kernel
theorem dX8_bringHome_8 : decode cX8_bringHome 8 = .ok (.ifCond .eq 17, 3) := by decide +kernel
theorem dX8_bringHome_11 : decode cX8_bringHome 11 = .ok (.aload_n 0, 1) := by decide +kernel
theorem dX8_bringHome_12 : decode cX8_bringHome 12 = .ok (.getfield 9, 3) := by decide +kernel
theorem dX8_bringHome_15 : decode cX8_bringHome 15 = .ok (.iload_n 1, 1) := by decide +kernel
theorem dX8_bringHome_16 : decode cX8_bringHome 16 = .ok (.iconst 0, 1) := by decide +kernel
theorem dX8_bringHome_17 : decode cX8_bringHome 17 = .ok (.iastore, 1) := by decide +kernel
theorem dX8_bringHome_18 : decode cX8_bringHome 18 = .ok (.aload_n 0, 1) := by decide +kernel
theorem dX8_bringHome_19 : decode cX8_bringHome 19 = .ok (.getfield 15, 3) := by decide +kernel
theorem dX8_bringHome_22 : decode cX8_bringHome 22 = .ok (.iload_n 1, 1) := by decide +kernel
theorem dX8_bringHome_23 : decode cX8_bringHome 23 = .ok (.iconst 0, 1) := by decide +kernel
theorem dX8_bringHome_24 : decode cX8_bringHome 24 = .ok (.iastore, 1) := by decide +kernel
theorem dX8_bringHome_25 : decode cX8_bringHome 25 = .ok (.return_, 1) := by decide +kernel
set_option maxRecDepth 20000 in
theorem ggX8_passHour_X8_dryOnLine : GoodIn wsX8_passHour wsX8_dryOnLine := goodIn_r _ [6, 7, 8, 9, 10, 11, 12, 13, 14, 5, 15, 16, 17, 18, 19, 20, 21, 56, 57, 58, 59, 60, 61, 62, 63, 64, 65, 66, 67, 68, 69] (by decide +kernel) (by decide +kernel)
set_option maxRecDepth 20000 in
theorem gX8_passHour_X8_dryOnLine : GoodIn wsX8_passHour (wsV RX8 77 RX8 yX8_dryOnLine wsX8_dryOnLine) := goodIn_app (goodIn_of _ (by decide +kernel)) ggX8_passHour_X8_dryOnLine
set_option maxRecDepth 20000 in
theorem ggX8_passHour_X8_runInTubs : GoodIn wsX8_passHour wsX8_runInTubs := goodIn_r _ [25, 7, 8, 9, 26, 27, 56, 57, 58, 59, 60, 61, 62, 63, 64, 65, 66, 67, 68, 69] (by decide +kernel) (by decide +kernel)
set_option maxRecDepth 20000 in
theorem gX8_passHour_X8_runInTubs : GoodIn wsX8_passHour (wsV RX8 80 RX8 yX8_runInTubs wsX8_runInTubs) := goodIn_app (goodIn_of _ (by decide +kernel)) ggX8_passHour_X8_runInTubs
set_option maxRecDepth 20000 in
theorem ggX8_passHour_X8_washInTubs : GoodIn wsX8_passHour wsX8_washInTubs := goodIn_r _ [31, 7, 8, 9, 10, 56, 57, 58, 59, 60, 61, 62, 63, 64, 65, 66, 67, 68, 69] (by decide +kernel) (by decide +kernel)
set_option maxRecDepth 20000 in
theorem gX8_passHour_X8_washInTubs : GoodIn wsX8_passHour (wsV RX8 83 RX8 yX8_washInTubs wsX8_washInTubs) := goodIn_app (goodIn_of _ (by decide +kernel)) ggX8_passHour_X8_washInTubs
set_option maxRecDepth 20000 in
theorem ggX8_passHour_X8_hangUp : GoodIn wsX8_passHour wsX8_hangUp := goodIn_r _ [35, 7, 8, 9, 10, 26, 36, 37, 38, 5, 39, 40, 41, 42, 43, 44, 45, 46, 47, 48, 49, 50, 51, 52, 53, 54, 55, 56, 57, 58, 59, 60, 61, 62, 63, 64, 65, 66, 67, 68, 69] (by decide +kernel) (by decide +kernel)
set_option maxRecDepth 20000 in
theorem gX8_passHour_X8_hangUp : GoodIn wsX8_passHour (wsV RX8 86 RX8 yX8_hangUp wsX8_hangUp) := goodIn_app (goodIn_of _ (by decide +kernel)) ggX8_passHour_X8_hangUp
theorem dX8_passHour_0 : decode cX8_passHour 0 = .ok (.aload_n 0, 1) := by decide +kernel
theorem dX8_passHour_1 : decode cX8_passHour 1 = .ok (.invokevirtual 77, 3) := by decide +kernel
theorem dX8_passHour_4 : decode cX8_passHour 4 = .ok (.istore_n 1, 1) := by decide +kernel
theorem dX8_passHour_5 : decode cX8_passHour 5 = .ok (.aload_n 0, 1) := by decide +kernel
theorem dX8_passHour_6 : decode cX8_passHour 6 = .ok (.invokevirtual 80, 3) := by decide +kernel
theorem dX8_passHour_9 : decode cX8_passHour 9 = .ok (.aload_n 0, 1) := by decide +kernel
theorem dX8_passHour_10 : decode cX8_passHour 10 = .ok (.invokevirtual 83, 3) := by decide +kernel
theorem dX8_passHour_13 : decode cX8_passHour 13 = .ok (.aload_n 0, 1) := by decide +kernel
theorem dX8_passHour_14 : decode cX8_passHour 14 = .ok (.invokevirtual 86, 3) := by decide +kernel
theorem dX8_passHour_17 : decode cX8_passHour 17 = .ok (.aload_n 0, 1) := by decide +kernel
theorem dX8_passHour_18 : decode cX8_passHour 18 = .ok (.dup, 1) := by decide +kernel
theorem dX8_passHour_19 : decode cX8_passHour 19 = .ok (.getfield 25, 3) := by decide +kernel
theorem dX8_passHour_22 : decode cX8_passHour 22 = .ok (.iconst 1, 1) := by decide +kernel
theorem dX8_passHour_23 : decode cX8_passHour 23 = .ok (.iadd, 1) := by decide +kernel
theorem dX8_passHour_24 : decode cX8_passHour 24 = .ok (.putfield 25, 3) := by decide +kernel
theorem dX8_passHour_27 : decode cX8_passHour 27 = .ok (.iload_n 1, 1) := by decide +kernel
theorem dX8_passHour_28 : decode cX8_passHour 28 = .ok (.ireturn, 1) := by decide +kernel
set_option maxRecDepth 20000 in
theorem ggX8_dryOnLine_X8_bringHome : GoodIn wsX8_dryOnLine wsX8_bringHome := goodIn_r _ [10, 1, 3, 4, 11, 12, 13, 14, 15, 16, 17, 18, 19, 20, 21, 22, 23, 24, 25, 26, 27, 28, 29, 30] (by decide +kernel) (by decide +kernel)
set_option maxRecDepth 20000 in
theorem gX8_dryOnLine_X8_bringHome : GoodIn wsX8_dryOnLine (wsV RX8 89 RX8 yX8_bringHome wsX8_bringHome) := goodIn_app (goodIn_of _ (by decide +kernel)) ggX8_dryOnLine_X8_bringHome
theorem dX8_dryOnLine_0 : decode cX8_dryOnLine 0 = .ok (.iconst 0, 1) := by decide +kernel
theorem dX8_dryOnLine_1 : decode cX8_dryOnLine 1 = .ok (.istore_n 1, 1) := by decide +kernel
theorem dX8_dryOnLine_2 : decode cX8_dryOnLine 2 = .ok (.iconst 0, 1) := by decide +kernel
theorem dX8_dryOnLine_3 : decode cX8_dryOnLine 3 = .ok (.istore_n 2, 1) := by decide +kernel
theorem dX8_dryOnLine_4 : decode cX8_dryOnLine 4 = .ok (.iload_n 2, 1) := by decide +kernel
theorem dX8_dryOnLine_5 : decode cX8_dryOnLine 5 = .ok (.aload_n 0, 1) := by decide +kernel
theorem dX8_dryOnLine_6 : decode cX8_dryOnLine 6 = .ok (.getfield 28, 3) := by decide +kernel
theorem dX8_dryOnLine_9 : decode cX8_dryOnLine 9 = .ok (.getfield 42, 3) := by decide +kernel
theorem dX8_dryOnLine_12 : decode cX8_dryOnLine 12 = .ok (.if_icmp .ge 54, 3) := by decide +kernel
theorem dX8_dryOnLine_15 : decode cX8_dryOnLine 15 = .ok (.aload_n 0, 1) := by decide +kernel
theorem dX8_dryOnLine_16 : decode cX8_dryOnLine 16 = .ok (.getfield 9, 3) := by decide +kernel
theorem dX8_dryOnLine_19 : decode cX8_dryOnLine 19 = .ok (.iload_n 2, 1) := by decide +kernel
theorem dX8_dryOnLine_20 : decode cX8_dryOnLine 20 = .ok (.iaload, 1) := by decide +kernel
theorem dX8_dryOnLine_21 : decode cX8_dryOnLine 21 = .ok (.iconst 2, 1) := by decide +kernel
theorem dX8_dryOnLine_22 : decode cX8_dryOnLine 22 = .ok (.if_icmp .ne 38, 3) := by decide +kernel
theorem dX8_dryOnLine_25 : decode cX8_dryOnLine 25 = .ok (.aload_n 0, 1) := by decide +kernel
theorem dX8_dryOnLine_26 : decode cX8_dryOnLine 26 = .ok (.getfield 15, 3) := by decide +kernel
theorem dX8_dryOnLine_29 : decode cX8_dryOnLine 29 = .ok (.iload_n 2, 1) := by decide +kernel
theorem dX8_dryOnLine_30 : decode cX8_dryOnLine 30 = .ok (.dup2, 1) := by decide +kernel
theorem dX8_dryOnLine_31 : decode cX8_dryOnLine 31 = .ok (.iaload, 1) := by decide +kernel
theorem dX8_dryOnLine_32 : decode cX8_dryOnLine 32 = .ok (.iconst 1, 1) := by decide +kernel
theorem dX8_dryOnLine_33 : decode cX8_dryOnLine 33 = .ok (.aload_n 0, 1) := by decide +kernel
theorem dX8_dryOnLine_34 : decode cX8_dryOnLine 34 = .ok (.getfield 21, 3) := by decide +kernel
theorem dX8_dryOnLine_37 : decode cX8_dryOnLine 37 = .ok (.iadd, 1) := by decide +kernel
theorem dX8_dryOnLine_38 : decode cX8_dryOnLine 38 = .ok (.isub, 1) := by decide +kernel
theorem dX8_dryOnLine_39 : decode cX8_dryOnLine 39 = .ok (.iastore, 1) := by decide +kernel
theorem dX8_dryOnLine_40 : decode cX8_dryOnLine 40 = .ok (.aload_n 0, 1) := by decide +kernel
theorem dX8_dryOnLine_41 : decode cX8_dryOnLine 41 = .ok (.getfield 15, 3) := by decide +kernel
theorem dX8_dryOnLine_44 : decode cX8_dryOnLine 44 = .ok (.iload_n 2, 1) := by decide +kernel
theorem dX8_dryOnLine_45 : decode cX8_dryOnLine 45 = .ok (.iaload, 1) := by decide +kernel
theorem dX8_dryOnLine_46 : decode cX8_dryOnLine 46 = .ok (.ifCond .gt 14, 3) := by decide +kernel
theorem dX8_dryOnLine_49 : decode cX8_dryOnLine 49 = .ok (.aload_n 0, 1) := by decide +kernel
theorem dX8_dryOnLine_50 : decode cX8_dryOnLine 50 = .ok (.iload_n 2, 1) := by decide +kernel
theorem dX8_dryOnLine_51 : decode cX8_dryOnLine 51 = .ok (.invokevirtual 89, 3) := by decide +kernel
theorem dX8_dryOnLine_54 : decode cX8_dryOnLine 54 = .ok (.iload_n 1, 1) := by decide +kernel
theorem dX8_dryOnLine_55 : decode cX8_dryOnLine 55 = .ok (.iconst 1, 1) := by decide +kernel
theorem dX8_dryOnLine_56 : decode cX8_dryOnLine 56 = .ok (.iload_n 2, 1) := by decide +kernel
theorem dX8_dryOnLine_57 : decode cX8_dryOnLine 57 = .ok (.ishl, 1) := by decide +kernel
theorem dX8_dryOnLine_58 : decode cX8_dryOnLine 58 = .ok (.ior, 1) := by decide +kernel
theorem dX8_dryOnLine_59 : decode cX8_dryOnLine 59 = .ok (.istore_n 1, 1) := by decide +kernel
theorem dX8_dryOnLine_60 : decode cX8_dryOnLine 60 = .ok (.iinc 2 1, 3) := by decide +kernel
theorem dX8_dryOnLine_63 : decode cX8_dryOnLine 63 = .ok (.goto (-59), 3) := by decide +kernel
theorem dX8_dryOnLine_66 : decode cX8_dryOnLine 66 = .ok (.iload_n 1, 1) := by decide +kernel
theorem dX8_dryOnLine_67 : decode cX8_dryOnLine 67 = .ok (.ireturn, 1) := by decide +kernel
theorem dX8_runInTubs_0 : decode cX8_runInTubs 0 = .ok (.iconst 0, 1) := by decide +kernel
theorem dX8_runInTubs_1 : decode cX8_runInTubs 1 = .ok (.istore_n 1, 1) := by decide +kernel
theorem dX8_runInTubs_2 : decode cX8_runInTubs 2 = .ok (.iconst 0, 1) := by decide +kernel
theorem dX8_runInTubs_3 : decode cX8_runInTubs 3 = .ok (.istore_n 2, 1) := by decide +kernel
theorem dX8_runInTubs_4 : decode cX8_runInTubs 4 = .ok (.iload_n 2, 1) := by decide +kernel
theorem dX8_runInTubs_5 : decode cX8_runInTubs 5 = .ok (.aload_n 0, 1) := by decide +kernel
theorem dX8_runInTubs_6 : decode cX8_runInTubs 6 = .ok (.getfield 28, 3) := by decide +kernel
theorem dX8_runInTubs_9 : decode cX8_runInTubs 9 = .ok (.getfield 42, 3) := by decide +kernel
theorem dX8_runInTubs_12 : decode cX8_runInTubs 12 = .ok (.if_icmp .ge 41, 3) := by decide +kernel
theorem dX8_runInTubs_15 : decode cX8_runInTubs 15 = .ok (.aload_n 0, 1) := by decide +kernel
theorem dX8_runInTubs_16 : decode cX8_runInTubs 16 = .ok (.getfield 9, 3) := by decide +kernel
theorem dX8_runInTubs_19 : decode cX8_runInTubs 19 = .ok (.iload_n 2, 1) := by decide +kernel
theorem dX8_runInTubs_20 : decode cX8_runInTubs 20 = .ok (.iaload, 1) := by decide +kernel
theorem dX8_runInTubs_21 : decode cX8_runInTubs 21 = .ok (.iconst 1, 1) := by decide +kernel
theorem dX8_runInTubs_22 : decode cX8_runInTubs 22 = .ok (.if_icmp .ne 25, 3) := by decide +kernel
theorem dX8_runInTubs_25 : decode cX8_runInTubs 25 = .ok (.aload_n 0, 1) := by decide +kernel
theorem dX8_runInTubs_26 : decode cX8_runInTubs 26 = .ok (.getfield 28, 3) := by decide +kernel
theorem dX8_runInTubs_29 : decode cX8_runInTubs 29 = .ok (.getfield 93, 3) := by decide +kernel
theorem dX8_runInTubs_32 : decode cX8_runInTubs 32 = .ok (.iload_n 2, 1) := by decide +kernel
theorem dX8_runInTubs_33 : decode cX8_runInTubs 33 = .ok (.iaload, 1) := by decide +kernel
theorem dX8_runInTubs_34 : decode cX8_runInTubs 34 = .ok (.iconst 3, 1) := by decide +kernel
theorem dX8_runInTubs_35 : decode cX8_runInTubs 35 = .ok (.if_icmp .ne 12, 3) := by decide +kernel
theorem dX8_runInTubs_38 : decode cX8_runInTubs 38 = .ok (.iload_n 1, 1) := by decide +kernel
theorem dX8_runInTubs_39 : decode cX8_runInTubs 39 = .ok (.aload_n 0, 1) := by decide +kernel
theorem dX8_runInTubs_40 : decode cX8_runInTubs 40 = .ok (.getfield 18, 3) := by decide +kernel
theorem dX8_runInTubs_43 : decode cX8_runInTubs 43 = .ok (.iload_n 2, 1) := by decide +kernel
theorem dX8_runInTubs_44 : decode cX8_runInTubs 44 = .ok (.iaload, 1) := by decide +kernel
theorem dX8_runInTubs_45 : decode cX8_runInTubs 45 = .ok (.ior, 1) := by decide +kernel
theorem dX8_runInTubs_46 : decode cX8_runInTubs 46 = .ok (.istore_n 1, 1) := by decide +kernel
theorem dX8_runInTubs_47 : decode cX8_runInTubs 47 = .ok (.iinc 2 1, 3) := by decide +kernel
theorem dX8_runInTubs_50 : decode cX8_runInTubs 50 = .ok (.goto (-46), 3) := by decide +kernel
theorem dX8_runInTubs_53 : decode cX8_runInTubs 53 = .ok (.iconst 0, 1) := by decide +kernel
theorem dX8_runInTubs_54 : decode cX8_runInTubs 54 = .ok (.istore_n 2, 1) := by decide +kernel
theorem dX8_runInTubs_55 : decode cX8_runInTubs 55 = .ok (.iload_n 2, 1) := by decide +kernel
theorem dX8_runInTubs_56 : decode cX8_runInTubs 56 = .ok (.aload_n 0, 1) := by decide +kernel
theorem dX8_runInTubs_57 : decode cX8_runInTubs 57 = .ok (.getfield 28, 3) := by decide +kernel
theorem dX8_runInTubs_60 : decode cX8_runInTubs 60 = .ok (.getfield 42, 3) := by decide +kernel
theorem dX8_runInTubs_63 : decode cX8_runInTubs 63 = .ok (.if_icmp .ge 29, 3) := by decide +kernel
theorem dX8_runInTubs_66 : decode cX8_runInTubs 66 = .ok (.aload_n 0, 1) := by decide +kernel
theorem dX8_runInTubs_67 : decode cX8_runInTubs 67 = .ok (.getfield 9, 3) := by decide +kernel
theorem dX8_runInTubs_70 : decode cX8_runInTubs 70 = .ok (.iload_n 2, 1) := by decide +kernel
theorem dX8_runInTubs_71 : decode cX8_runInTubs 71 = .ok (.iaload, 1) := by decide +kernel
theorem dX8_runInTubs_72 : decode cX8_runInTubs 72 = .ok (.iconst 1, 1) := by decide +kernel
theorem dX8_runInTubs_73 : decode cX8_runInTubs 73 = .ok (.if_icmp .ne 13, 3) := by decide +kernel
theorem dX8_runInTubs_76 : decode cX8_runInTubs 76 = .ok (.aload_n 0, 1) := by decide +kernel
theorem dX8_runInTubs_77 : decode cX8_runInTubs 77 = .ok (.getfield 18, 3) := by decide +kernel
theorem dX8_runInTubs_80 : decode cX8_runInTubs 80 = .ok (.iload_n 2, 1) := by decide +kernel
theorem dX8_runInTubs_81 : decode cX8_runInTubs 81 = .ok (.dup2, 1) := by decide +kernel
theorem dX8_runInTubs_82 : decode cX8_runInTubs 82 = .ok (.iaload, 1) := by decide +kernel
theorem dX8_runInTubs_83 : decode cX8_runInTubs 83 = .ok (.iload_n 1, 1) := by decide +kernel
theorem dX8_runInTubs_84 : decode cX8_runInTubs 84 = .ok (.ior, 1) := by decide +kernel
theorem dX8_runInTubs_85 : decode cX8_runInTubs 85 = .ok (.iastore, 1) := by decide +kernel
theorem dX8_runInTubs_86 : decode cX8_runInTubs 86 = .ok (.iinc 2 1, 3) := by decide +kernel
theorem dX8_runInTubs_89 : decode cX8_runInTubs 89 = .ok (.goto (-34), 3) := by decide +kernel
theorem dX8_runInTubs_92 : decode cX8_runInTubs 92 = .ok (.return_, 1) := by decide +kernel
theorem dX8_washInTubs_0 : decode cX8_washInTubs 0 = .ok (.iconst 0, 1) := by decide +kernel
theorem dX8_washInTubs_1 : decode cX8_washInTubs 1 = .ok (.istore_n 1, 1) := by decide +kernel
theorem dX8_washInTubs_2 : decode cX8_washInTubs 2 = .ok (.iload_n 1, 1) := by decide +kernel
theorem dX8_washInTubs_3 : decode cX8_washInTubs 3 = .ok (.aload_n 0, 1) := by decide +kernel
theorem dX8_washInTubs_4 : decode cX8_washInTubs 4 = .ok (.getfield 28, 3) := by decide +kernel
theorem dX8_washInTubs_7 : decode cX8_washInTubs 7 = .ok (.getfield 42, 3) := by decide +kernel
theorem dX8_washInTubs_10 : decode cX8_washInTubs 10 = .ok (.if_icmp .ge 38, 3) := by decide +kernel
theorem dX8_washInTubs_13 : decode cX8_washInTubs 13 = .ok (.aload_n 0, 1) := by decide +kernel
theorem dX8_washInTubs_14 : decode cX8_washInTubs 14 = .ok (.getfield 9, 3) := by decide +kernel
theorem dX8_washInTubs_17 : decode cX8_washInTubs 17 = .ok (.iload_n 1, 1) := by decide +kernel
theorem dX8_washInTubs_18 : decode cX8_washInTubs 18 = .ok (.iaload, 1) := by decide +kernel
theorem dX8_washInTubs_19 : decode cX8_washInTubs 19 = .ok (.iconst 1, 1) := by decide +kernel
theorem dX8_washInTubs_20 : decode cX8_washInTubs 20 = .ok (.if_icmp .ne 22, 3) := by decide +kernel
theorem dX8_washInTubs_23 : decode cX8_washInTubs 23 = .ok (.aload_n 0, 1) := by decide +kernel
theorem dX8_washInTubs_24 : decode cX8_washInTubs 24 = .ok (.getfield 15, 3) := by decide +kernel
theorem dX8_washInTubs_27 : decode cX8_washInTubs 27 = .ok (.iload_n 1, 1) := by decide +kernel
theorem dX8_washInTubs_28 : decode cX8_washInTubs 28 = .ok (.iaload, 1) := by decide +kernel
theorem dX8_washInTubs_29 : decode cX8_washInTubs 29 = .ok (.ifCond .le 13, 3) := by decide +kernel
theorem dX8_washInTubs_32 : decode cX8_washInTubs 32 = .ok (.aload_n 0, 1) := by decide +kernel
theorem dX8_washInTubs_33 : decode cX8_washInTubs 33 = .ok (.getfield 15, 3) := by decide +kernel
theorem dX8_washInTubs_36 : decode cX8_washInTubs 36 = .ok (.iload_n 1, 1) := by decide +kernel
theorem dX8_washInTubs_37 : decode cX8_washInTubs 37 = .ok (.dup2, 1) := by decide +kernel
theorem dX8_washInTubs_38 : decode cX8_washInTubs 38 = .ok (.iaload, 1) := by decide +kernel
theorem dX8_washInTubs_39 : decode cX8_washInTubs 39 = .ok (.iconst 1, 1) := by decide +kernel
theorem dX8_washInTubs_40 : decode cX8_washInTubs 40 = .ok (.isub, 1) := by decide +kernel
theorem dX8_washInTubs_41 : decode cX8_washInTubs 41 = .ok (.iastore, 1) := by decide +kernel
theorem dX8_washInTubs_42 : decode cX8_washInTubs 42 = .ok (.iinc 1 1, 3) := by decide +kernel
theorem dX8_washInTubs_45 : decode cX8_washInTubs 45 = .ok (.goto (-43), 3) := by decide +kernel
theorem dX8_washInTubs_48 : decode cX8_washInTubs 48 = .ok (.return_, 1) := by decide +kernel
set_option maxRecDepth 20000 in
theorem ggX8_hangUp_X8_freePegs : GoodIn wsX8_hangUp wsX8_freePegs := goodIn_r _ [10, 1, 11, 12, 13, 14, 9, 15, 2, 3, 16, 17, 18, 19, 20, 21, 22, 27, 28, 29, 30, 31, 32, 33, 34, 35, 36, 37, 38, 39, 40] (by decide +kernel) (by decide +kernel)
set_option maxRecDepth 20000 in
theorem gX8_hangUp_X8_freePegs : GoodIn wsX8_hangUp (wsV RX8 96 RX8 yX8_freePegs wsX8_freePegs) := goodIn_app (goodIn_of _ (by decide +kernel)) ggX8_hangUp_X8_freePegs
set_option maxRecDepth 20000 in
theorem ggX8_hangUp_X8_wetOf : GoodIn wsX8_hangUp wsX8_wetOf := goodIn_r _ [25, 26] (by decide +kernel) (by decide +kernel)
set_option maxRecDepth 20000 in
theorem gX8_hangUp_X8_wetOf : GoodIn wsX8_hangUp (va_wsS RX8 99 yX8_wetOf wsX8_wetOf) := goodIn_app (goodIn_of _ (by decide +kernel)) ggX8_hangUp_X8_wetOf
theorem dX8_hangUp_0 : decode cX8_hangUp 0 = .ok (.iconst 0, 1) := by decide +kernel
theorem dX8_hangUp_1 : decode cX8_hangUp 1 = .ok (.istore_n 1, 1) := by decide +kernel
theorem dX8_hangUp_2 : decode cX8_hangUp 2 = .ok (.iload_n 1, 1) := by decide +kernel
theorem dX8_hangUp_3 : decode cX8_hangUp 3 = .ok (.aload_n 0, 1) := by decide +kernel
theorem dX8_hangUp_4 : decode cX8_hangUp 4 = .ok (.getfield 28, 3) := by decide +kernel
theorem dX8_hangUp_7 : decode cX8_hangUp 7 = .ok (.getfield 42, 3) := by decide +kernel
theorem dX8_hangUp_10 : decode cX8_hangUp 10 = .ok (.if_icmp .ge 60, 3) := by decide +kernel
theorem dX8_hangUp_13 : decode cX8_hangUp 13 = .ok (.aload_n 0, 1) := by decide +kernel
theorem dX8_hangUp_14 : decode cX8_hangUp 14 = .ok (.getfield 9, 3) := by decide +kernel
theorem dX8_hangUp_17 : decode cX8_hangUp 17 = .ok (.iload_n 1, 1) := by decide +kernel
theorem dX8_hangUp_18 : decode cX8_hangUp 18 = .ok (.iaload, 1) := by decide +kernel
theorem dX8_hangUp_19 : decode cX8_hangUp 19 = .ok (.iconst 1, 1) := by decide +kernel
theorem dX8_hangUp_20 : decode cX8_hangUp 20 = .ok (.if_icmp .ne 44, 3) := by decide +kernel
theorem dX8_hangUp_23 : decode cX8_hangUp 23 = .ok (.aload_n 0, 1) := by decide +kernel
theorem dX8_hangUp_24 : decode cX8_hangUp 24 = .ok (.getfield 15, 3) := by decide +kernel
theorem dX8_hangUp_27 : decode cX8_hangUp 27 = .ok (.iload_n 1, 1) := by decide +kernel
theorem dX8_hangUp_28 : decode cX8_hangUp 28 = .ok (.iaload, 1) := by decide +kernel
theorem dX8_hangUp_29 : decode cX8_hangUp 29 = .ok (.ifCond .ne 35, 3) := by decide +kernel
theorem dX8_hangUp_32 : decode cX8_hangUp 32 = .ok (.aload_n 0, 1) := by decide +kernel
theorem dX8_hangUp_33 : decode cX8_hangUp 33 = .ok (.invokevirtual 96, 3) := by decide +kernel
theorem dX8_hangUp_36 : decode cX8_hangUp 36 = .ok (.ifCond .le 28, 3) := by decide +kernel
theorem dX8_hangUp_39 : decode cX8_hangUp 39 = .ok (.aload_n 0, 1) := by decide +kernel
theorem dX8_hangUp_40 : decode cX8_hangUp 40 = .ok (.getfield 9, 3) := by decide +kernel
theorem dX8_hangUp_43 : decode cX8_hangUp 43 = .ok (.iload_n 1, 1) := by decide +kernel
theorem dX8_hangUp_44 : decode cX8_hangUp 44 = .ok (.iconst 2, 1) := by decide +kernel
theorem dX8_hangUp_45 : decode cX8_hangUp 45 = .ok (.iastore, 1) := by decide +kernel
theorem dX8_hangUp_46 : decode cX8_hangUp 46 = .ok (.aload_n 0, 1) := by decide +kernel
theorem dX8_hangUp_47 : decode cX8_hangUp 47 = .ok (.getfield 15, 3) := by decide +kernel
theorem dX8_hangUp_50 : decode cX8_hangUp 50 = .ok (.iload_n 1, 1) := by decide +kernel
theorem dX8_hangUp_51 : decode cX8_hangUp 51 = .ok (.aload_n 0, 1) := by decide +kernel
theorem dX8_hangUp_52 : decode cX8_hangUp 52 = .ok (.getfield 28, 3) := by decide +kernel
theorem dX8_hangUp_55 : decode cX8_hangUp 55 = .ok (.getfield 93, 3) := by decide +kernel
theorem dX8_hangUp_58 : decode cX8_hangUp 58 = .ok (.iload_n 1, 1) := by decide +kernel
theorem dX8_hangUp_59 : decode cX8_hangUp 59 = .ok (.iaload, 1) := by decide +kernel
theorem dX8_hangUp_60 : decode cX8_hangUp 60 = .ok (.invokestatic 99, 3) := by decide +kernel
theorem dX8_hangUp_63 : decode cX8_hangUp 63 = .ok (.iastore, 1) := by decide +kernel
theorem dX8_hangUp_64 : decode cX8_hangUp 64 = .ok (.iinc 1 1, 3) := by decide +kernel
theorem dX8_hangUp_67 : decode cX8_hangUp 67 = .ok (.goto (-65), 3) := by decide +kernel
theorem dX8_hangUp_70 : decode cX8_hangUp 70 = .ok (.return_, 1) := by decide +kernel
theorem dX8_wetOf_0 : decode cX8_wetOf 0 = .ok (.iload_n 0, 1) := by decide +kernel
theorem dX8_wetOf_1 : decode cX8_wetOf 1 = .ok (.ifCond .lt 19, 3) := by decide +kernel
theorem dX8_wetOf_4 : decode cX8_wetOf 4 = .ok (.iload_n 0, 1) := by decide +kernel
theorem dX8_wetOf_5 : decode cX8_wetOf 5 = .ok (.getstatic 102, 3) := by decide +kernel
theorem dX8_wetOf_8 : decode cX8_wetOf 8 = .ok (.arraylength, 1) := by decide +kernel
theorem dX8_wetOf_9 : decode cX8_wetOf 9 = .ok (.if_icmp .ge 11, 3) := by decide +kernel
theorem dX8_wetOf_12 : decode cX8_wetOf 12 = .ok (.getstatic 102, 3) := by decide +kernel
theorem dX8_wetOf_15 : decode cX8_wetOf 15 = .ok (.iload_n 0, 1) := by decide +kernel
theorem dX8_wetOf_16 : decode cX8_wetOf 16 = .ok (.iaload, 1) := by decide +kernel
theorem dX8_wetOf_17 : decode cX8_wetOf 17 = .ok (.goto 4, 3) := by decide +kernel
theorem dX8_wetOf_20 : decode cX8_wetOf 20 = .ok (.iconst 0, 1) := by decide +kernel
theorem dX8_wetOf_21 : decode cX8_wetOf 21 = .ok (.ireturn, 1) := by decide +kernel
set_option maxRecDepth 20000 in
theorem ggX8_doFigure_X8_passHour : GoodIn wsX8_doFigure wsX8_passHour := goodIn_r _ [5, 6, 7, 8, 9, 4, 10, 11, 12, 13, 14, 15, 16, 17, 18, 19, 20, 21, 22, 23, 24, 25, 26, 27, 28, 29, 30, 31, 32, 33, 34, 35, 36, 37, 38, 39, 40, 41, 42, 43, 44, 45, 46, 47, 48, 49, 50, 51, 52, 53, 54, 55, 56, 57, 58, 59, 82, 83, 84, 85, 86, 87, 88, 89, 90, 91, 92, 93, 94, 95] (by decide +kernel) (by decide +kernel)
set_option maxRecDepth 20000 in
theorem gX8_doFigure_X8_passHour : GoodIn wsX8_doFigure (wsV RX8 105 RX8 yX8_passHour wsX8_passHour) := goodIn_app (goodIn_of _ (by decide +kernel)) ggX8_doFigure_X8_passHour
set_option maxRecDepth 20000 in
theorem ggX8_doFigure_X8_sendIfItCan : GoodIn wsX8_doFigure wsX8_sendIfItCan := goodIn_r _ [63, 64, 65, 66, 4, 67, 11, 13, 20, 21, 22, 23, 24, 25, 68, 69, 70, 71, 72, 45, 46, 47, 48, 12, 49, 50, 51, 52, 53, 54, 55, 73, 74, 75, 76, 14, 77, 82, 83, 84, 85, 86, 87, 88, 89, 90, 91, 92, 93, 94, 95] (by decide +kernel) (by decide +kernel)
set_option maxRecDepth 20000 in
theorem gX8_doFigure_X8_sendIfItCan : GoodIn wsX8_doFigure (wsV RX8 108 RX8 yX8_sendIfItCan wsX8_sendIfItCan) := goodIn_app (goodIn_of _ (by decide +kernel)) ggX8_doFigure_X8_sendIfItCan
set_option maxRecDepth 20000 in
theorem ggX8_doFigure_X8_canBePulled : GoodIn wsX8_doFigure wsX8_canBePulled := goodIn_r _ [81, 11, 13, 20, 21, 22, 23, 24, 25, 82, 83, 84, 85, 86, 87, 88, 89, 90, 91, 92, 93, 94, 95] (by decide +kernel) (by decide +kernel)
set_option maxRecDepth 20000 in
theorem gX8_doFigure_X8_canBePulled : GoodIn wsX8_doFigure (wsV RX8 111 RX8 yX8_canBePulled wsX8_canBePulled) := goodIn_app (goodIn_of _ (by decide +kernel)) ggX8_doFigure_X8_canBePulled
set_option maxRecDepth 20000 in
theorem ggX8_doFigure_X8_bringHome : GoodIn wsX8_doFigure wsX8_bringHome := goodIn_r _ [19, 11, 13, 14, 20, 21, 22, 23, 24, 25, 82, 83, 84, 85, 86, 87, 88, 89, 90, 91, 92, 93, 94, 95] (by decide +kernel) (by decide +kernel)
set_option maxRecDepth 20000 in
theorem gX8_doFigure_X8_bringHome : GoodIn wsX8_doFigure (wsV RX8 89 RX8 yX8_bringHome wsX8_bringHome) := goodIn_app (goodIn_of _ (by decide +kernel)) ggX8_doFigure_X8_bringHome
theorem dX8_doFigure_0 : decode cX8_doFigure 0 = .ok (.iload_n 1, 1) := by decide +kernel
theorem dX8_doFigure_1 : decode cX8_doFigure 1 = .ok (.ifCond .ne 10, 3) := by decide +kernel
theorem dX8_doFigure_4 : decode cX8_doFigure 4 = .ok (.aload_n 0, 1) := by decide +kernel
theorem dX8_doFigure_5 : decode cX8_doFigure 5 = .ok (.invokevirtual 105, 3) := by decide +kernel
theorem dX8_doFigure_8 : decode cX8_doFigure 8 = .ok (.pop, 1) := by decide +kernel
theorem dX8_doFigure_9 : decode cX8_doFigure 9 = .ok (.iconst 1, 1) := by decide +kernel
theorem dX8_doFigure_10 : decode cX8_doFigure 10 = .ok (.ireturn, 1) := by decide +kernel
theorem dX8_doFigure_11 : decode cX8_doFigure 11 = .ok (.iload_n 1, 1) := by decide +kernel
theorem dX8_doFigure_12 : decode cX8_doFigure 12 = .ok (.iconst 5, 1) := by decide +kernel
theorem dX8_doFigure_13 : decode cX8_doFigure 13 = .ok (.if_icmp .gt 11, 3) := by decide +kernel
theorem dX8_doFigure_16 : decode cX8_doFigure 16 = .ok (.aload_n 0, 1) := by decide +kernel
theorem dX8_doFigure_17 : decode cX8_doFigure 17 = .ok (.iload_n 1, 1) := by decide +kernel
theorem dX8_doFigure_18 : decode cX8_doFigure 18 = .ok (.iconst 1, 1) := by decide +kernel
theorem dX8_doFigure_19 : decode cX8_doFigure 19 = .ok (.isub, 1) := by decide +kernel
theorem dX8_doFigure_20 : decode cX8_doFigure 20 = .ok (.invokevirtual 108, 3) := by decide +kernel
theorem dX8_doFigure_23 : decode cX8_doFigure 23 = .ok (.ireturn, 1) := by decide +kernel
theorem dX8_doFigure_24 : decode cX8_doFigure 24 = .ok (.aload_n 0, 1) := by decide +kernel
theorem dX8_doFigure_25 : decode cX8_doFigure 25 = .ok (.iload_n 1, 1) := by decide +kernel
theorem dX8_doFigure_26 : decode cX8_doFigure 26 = .ok (.bipush 6, 2) := by decide +kernel
theorem dX8_doFigure_28 : decode cX8_doFigure 28 = .ok (.isub, 1) := by decide +kernel
theorem dX8_doFigure_29 : decode cX8_doFigure 29 = .ok (.invokevirtual 111, 3) := by decide +kernel
theorem dX8_doFigure_32 : decode cX8_doFigure 32 = .ok (.istore_n 2, 1) := by decide +kernel
theorem dX8_doFigure_33 : decode cX8_doFigure 33 = .ok (.iload_n 2, 1) := by decide +kernel
theorem dX8_doFigure_34 : decode cX8_doFigure 34 = .ok (.ifCond .eq 11, 3) := by decide +kernel
theorem dX8_doFigure_37 : decode cX8_doFigure 37 = .ok (.aload_n 0, 1) := by decide +kernel
theorem dX8_doFigure_38 : decode cX8_doFigure 38 = .ok (.iload_n 1, 1) := by decide +kernel
theorem dX8_doFigure_39 : decode cX8_doFigure 39 = .ok (.bipush 6, 2) := by decide +kernel
theorem dX8_doFigure_41 : decode cX8_doFigure 41 = .ok (.isub, 1) := by decide +kernel
theorem dX8_doFigure_42 : decode cX8_doFigure 42 = .ok (.invokevirtual 89, 3) := by decide +kernel
theorem dX8_doFigure_45 : decode cX8_doFigure 45 = .ok (.iload_n 2, 1) := by decide +kernel
theorem dX8_doFigure_46 : decode cX8_doFigure 46 = .ok (.ireturn, 1) := by decide +kernel
set_option maxRecDepth 20000 in
theorem ggX8_doByChance_X8_sendIfItCan : GoodIn wsX8_doByChance wsX8_sendIfItCan := goodIn_r _ [6, 7, 8, 9, 5, 10, 11, 12, 13, 14, 15, 16, 17, 18, 19, 20, 21, 22, 23, 24, 25, 26, 27, 28, 29, 30, 31, 32, 33, 34, 35, 36, 37, 38, 39, 40, 41, 78, 79, 80, 81, 82, 83, 84, 85, 86, 87, 88, 89, 90, 91] (by decide +kernel) (by decide +kernel)
set_option maxRecDepth 20000 in
theorem gX8_doByChance_X8_sendIfItCan : GoodIn wsX8_doByChance (wsV RX8 108 RX8 yX8_sendIfItCan wsX8_sendIfItCan) := goodIn_app (goodIn_of _ (by decide +kernel)) ggX8_doByChance_X8_sendIfItCan
set_option maxRecDepth 20000 in
theorem ggX8_doByChance_X8_passHour : GoodIn wsX8_doByChance wsX8_passHour := goodIn_r _ [45, 46, 47, 48, 49, 5, 50, 11, 28, 12, 40, 1, 51, 52, 53, 54, 13, 14, 15, 16, 17, 18, 55, 56, 57, 58, 59, 60, 61, 62, 63, 64, 65, 66, 67, 68, 69, 70, 71, 72, 73, 24, 25, 26, 27, 29, 30, 31, 32, 33, 34, 35, 74, 75, 76, 77, 78, 79, 80, 81, 82, 83, 84, 85, 86, 87, 88, 89, 90, 91] (by decide +kernel) (by decide +kernel)
set_option maxRecDepth 20000 in
theorem gX8_doByChance_X8_passHour : GoodIn wsX8_doByChance (wsV RX8 105 RX8 yX8_passHour wsX8_passHour) := goodIn_app (goodIn_of _ (by decide +kernel)) ggX8_doByChance_X8_passHour
theorem dX8_doByChance_0 : decode cX8_doByChance 0 = .ok (.iload_n 1, 1) := by decide +kernel
theorem dX8_doByChance_1 : decode cX8_doByChance 1 = .ok (.iconst 5, 1) := by decide +kernel
theorem dX8_doByChance_2 : decode cX8_doByChance 2 = .ok (.if_icmp .ge 12, 3) := by decide +kernel
theorem dX8_doByChance_5 : decode cX8_doByChance 5 = .ok (.aload_n 0, 1) := by decide +kernel
theorem dX8_doByChance_6 : decode cX8_doByChance 6 = .ok (.iload_n 1, 1) := by decide +kernel
theorem dX8_doByChance_7 : decode cX8_doByChance 7 = .ok (.invokevirtual 108, 3) := by decide +kernel
theorem dX8_doByChance_10 : decode cX8_doByChance 10 = .ok (.pop, 1) := by decide +kernel
theorem dX8_doByChance_11 : decode cX8_doByChance 11 = .ok (.goto 15, 3) := by decide +kernel
theorem dX8_doByChance_14 : decode cX8_doByChance 14 = .ok (.aload_n 0, 1) := by decide +kernel
theorem dX8_doByChance_15 : decode cX8_doByChance 15 = .ok (.iload_n 1, 1) := by decide +kernel
theorem dX8_doByChance_16 : decode cX8_doByChance 16 = .ok (.iconst 3, 1) := by decide +kernel
theorem dX8_doByChance_17 : decode cX8_doByChance 17 = .ok (.irem, 1) := by decide +kernel
theorem dX8_doByChance_18 : decode cX8_doByChance 18 = .ok (.putfield 21, 3) := by decide +kernel
theorem dX8_doByChance_21 : decode cX8_doByChance 21 = .ok (.aload_n 0, 1) := by decide +kernel
theorem dX8_doByChance_22 : decode cX8_doByChance 22 = .ok (.invokevirtual 105, 3) := by decide +kernel
theorem dX8_doByChance_25 : decode cX8_doByChance 25 = .ok (.pop, 1) := by decide +kernel
theorem dX8_doByChance_26 : decode cX8_doByChance 26 = .ok (.return_, 1) := by decide +kernel
set_option maxRecDepth 20000 in
theorem ggX8_sendIfItCan_X8_canBeSent : GoodIn wsX8_sendIfItCan wsX8_canBeSent := goodIn_r _ [5, 6, 7, 8, 9, 10, 11, 12, 13, 14, 15, 16, 4, 17, 18, 19, 20, 21, 22, 23, 24, 25, 26, 27, 28, 29, 30, 37, 38, 39, 40, 41, 42, 43, 44, 45, 46, 47, 48, 49, 50] (by decide +kernel) (by decide +kernel)
set_option maxRecDepth 20000 in
theorem gX8_sendIfItCan_X8_canBeSent : GoodIn wsX8_sendIfItCan (wsV RX8 114 RX8 yX8_canBeSent wsX8_canBeSent) := goodIn_app (goodIn_of _ (by decide +kernel)) ggX8_sendIfItCan_X8_canBeSent
set_option maxRecDepth 20000 in
theorem ggX8_sendIfItCan_X8_putInTub : GoodIn wsX8_sendIfItCan wsX8_putInTub := goodIn_r _ [34, 6, 7, 35, 36, 8, 9, 10, 11, 12, 13, 37, 38, 39, 40, 41, 42, 43, 44, 45, 46, 47, 48, 49, 50] (by decide +kernel) (by decide +kernel)
set_option maxRecDepth 20000 in
theorem gX8_sendIfItCan_X8_putInTub : GoodIn wsX8_sendIfItCan (wsV RX8 117 RX8 yX8_putInTub wsX8_putInTub) := goodIn_app (goodIn_of _ (by decide +kernel)) ggX8_sendIfItCan_X8_putInTub
theorem dX8_sendIfItCan_0 : decode cX8_sendIfItCan 0 = .ok (.aload_n 0, 1) := by decide +kernel
theorem dX8_sendIfItCan_1 : decode cX8_sendIfItCan 1 = .ok (.iload_n 1, 1) := by decide +kernel
theorem dX8_sendIfItCan_2 : decode cX8_sendIfItCan 2 = .ok (.invokevirtual 114, 3) := by decide +kernel
theorem dX8_sendIfItCan_5 : decode cX8_sendIfItCan 5 = .ok (.istore_n 2, 1) := by decide +kernel
theorem dX8_sendIfItCan_6 : decode cX8_sendIfItCan 6 = .ok (.iload_n 2, 1) := by decide +kernel
theorem dX8_sendIfItCan_7 : decode cX8_sendIfItCan 7 = .ok (.ifCond .eq 8, 3) := by decide +kernel
theorem dX8_sendIfItCan_10 : decode cX8_sendIfItCan 10 = .ok (.aload_n 0, 1) := by decide +kernel
theorem dX8_sendIfItCan_11 : decode cX8_sendIfItCan 11 = .ok (.iload_n 1, 1) := by decide +kernel
theorem dX8_sendIfItCan_12 : decode cX8_sendIfItCan 12 = .ok (.invokevirtual 117, 3) := by decide +kernel
theorem dX8_sendIfItCan_15 : decode cX8_sendIfItCan 15 = .ok (.iload_n 2, 1) := by decide +kernel
theorem dX8_sendIfItCan_16 : decode cX8_sendIfItCan 16 = .ok (.ireturn, 1) := by decide +kernel
set_option maxRecDepth 20000 in
theorem ggX9_init_X5_init : GoodIn wsX9_init wsX5_init := goodIn_r _ [37, 38, 2, 3, 39, 12, 13, 40, 41, 42, 43, 44, 45, 46, 47, 48, 49, 50, 51, 4, 52, 53, 54, 55, 104, 105, 106, 107, 108, 109, 110, 111, 99, 100, 101, 102, 103] (by decide +kernel) (by decide +kernel)
set_option maxRecDepth 20000 in
theorem gX9_init_X5_init_n19 : GoodIn wsX9_init (wsX5_init) := ggX9_init_X5_init
set_option maxRecDepth 20000 in
theorem ggX9_init_X4_init : GoodIn wsX9_init wsX4_init := goodIn_r _ [46, 47, 2, 3, 48, 49, 50, 51, 4, 52, 53, 54, 55, 104, 105, 106, 107, 108, 109, 110, 111] (by decide +kernel) (by decide +kernel)
set_option maxRecDepth 20000 in
theorem gX9_init_X4_init_n26 : GoodIn wsX9_init (wsX4_init) := ggX9_init_X4_init
set_option maxRecDepth 20000 in
theorem ggX9_init_X8_init : GoodIn wsX9_init wsX8_init := goodIn_r _ [58, 59, 2, 3, 4, 60, 61, 62, 63, 64, 65, 112, 113, 114, 115, 116, 117] (by decide +kernel) (by decide +kernel)
set_option maxRecDepth 20000 in
theorem gX9_init_X8_init : GoodIn wsX9_init (wsX8_init) := ggX9_init_X8_init
set_option maxRecDepth 20000 in
theorem ggX9_init_X2_init : GoodIn wsX9_init wsX2_init := goodIn_r _ [68, 69, 2, 3, 70, 118] (by decide +kernel) (by decide +kernel)
set_option maxRecDepth 20000 in
theorem gX9_init_X2_init : GoodIn wsX9_init (wsX2_init) := ggX9_init_X2_init
set_option maxRecDepth 20000 in
theorem ggX9_init_X0_init : GoodIn wsX9_init wsX0_init := goodIn_r _ [73, 74, 2, 3, 75, 76, 77, 78, 16, 17, 79, 57, 58, 59, 4, 60, 61, 62, 63, 64, 65, 119, 120, 121, 112, 113, 114, 115, 116, 117] (by decide +kernel) (by decide +kernel)
set_option maxRecDepth 20000 in
theorem gX9_init_X0_init : GoodIn wsX9_init (wsX0_init) := ggX9_init_X0_init
set_option maxRecDepth 20000 in
theorem ggX9_init_X7_init : GoodIn wsX9_init wsX7_init := goodIn_r _ [81, 82, 2, 3, 4, 83, 84, 85, 86, 122, 123, 124, 125] (by decide +kernel) (by decide +kernel)
set_option maxRecDepth 20000 in
theorem gX9_init_X7_init_n61 : GoodIn wsX9_init (wsX7_init) := ggX9_init_X7_init
theorem dX9_init_0 : decode cX9_init 0 = .ok (.aload_n 0, 1) := by decide +kernel
theorem dX9_init_1 : decode cX9_init 1 = .ok (.invokespecial 1, 3) := by decide +kernel
theorem dX9_init_4 : decode cX9_init 4 = .ok (.aload_n 0, 1) := by decide +kernel
theorem dX9_init_5 : decode cX9_init 5 = .ok (.bipush 48, 2) := by decide +kernel
theorem dX9_init_7 : decode cX9_init 7 = .ok (.newarray .int, 2) := by decide +kernel
theorem dX9_init_9 : decode cX9_init 9 = .ok (.putfield 9, 3) := by decide +kernel
theorem dX9_init_12 : decode cX9_init 12 = .ok (.aload_n 0, 1) := by decide +kernel
theorem dX9_init_13 : decode cX9_init 13 = .ok (.iconst 0, 1) := by decide +kernel
theorem dX9_init_14 : decode cX9_init 14 = .ok (.putfield 13, 3) := by decide +kernel
theorem dX9_init_17 : decode cX9_init 17 = .ok (.aload_n 0, 1) := by decide +kernel
theorem dX9_init_18 : decode cX9_init 18 = .ok (.new 17, 3) := by decide +kernel
theorem dX9_init_21 : decode cX9_init 21 = .ok (.dup, 1) := by decide +kernel
theorem dX9_init_22 : decode cX9_init 22 = .ok (.invokespecial 19, 3) := by decide +kernel
theorem dX9_init_25 : decode cX9_init 25 = .ok (.putfield 20, 3) := by decide +kernel
theorem dX9_init_28 : decode cX9_init 28 = .ok (.aload_n 0, 1) := by decide +kernel
theorem dX9_init_29 : decode cX9_init 29 = .ok (.new 24, 3) := by decide +kernel
theorem dX9_init_32 : decode cX9_init 32 = .ok (.dup, 1) := by decide +kernel
theorem dX9_init_33 : decode cX9_init 33 = .ok (.invokespecial 26, 3) := by decide +kernel
theorem dX9_init_36 : decode cX9_init 36 = .ok (.putfield 27, 3) := by decide +kernel
theorem dX9_init_39 : decode cX9_init 39 = .ok (.aload_n 0, 1) := by decide +kernel
theorem dX9_init_40 : decode cX9_init 40 = .ok (.new 31, 3) := by decide +kernel
theorem dX9_init_43 : decode cX9_init 43 = .ok (.dup, 1) := by decide +kernel
theorem dX9_init_44 : decode cX9_init 44 = .ok (.aload_n 0, 1) := by decide +kernel
theorem dX9_init_45 : decode cX9_init 45 = .ok (.getfield 27, 3) := by decide +kernel
theorem dX9_init_48 : decode cX9_init 48 = .ok (.invokespecial 33, 3) := by decide +kernel
theorem dX9_init_51 : decode cX9_init 51 = .ok (.putfield 36, 3) := by decide +kernel
theorem dX9_init_54 : decode cX9_init 54 = .ok (.aload_n 0, 1) := by decide +kernel
theorem dX9_init_55 : decode cX9_init 55 = .ok (.new 31, 3) := by decide +kernel
theorem dX9_init_58 : decode cX9_init 58 = .ok (.dup, 1) := by decide +kernel
theorem dX9_init_59 : decode cX9_init 59 = .ok (.aload_n 0, 1) := by decide +kernel
theorem dX9_init_60 : decode cX9_init 60 = .ok (.getfield 27, 3) := by decide +kernel
theorem dX9_init_63 : decode cX9_init 63 = .ok (.invokespecial 33, 3) := by decide +kernel
theorem dX9_init_66 : decode cX9_init 66 = .ok (.putfield 40, 3) := by decide +kernel
theorem dX9_init_69 : decode cX9_init 69 = .ok (.aload_n 0, 1) := by decide +kernel
theorem dX9_init_70 : decode cX9_init 70 = .ok (.new 43, 3) := by decide +kernel
theorem dX9_init_73 : decode cX9_init 73 = .ok (.dup, 1) := by decide +kernel
theorem dX9_init_74 : decode cX9_init 74 = .ok (.aload_n 0, 1) := by decide +kernel
theorem dX9_init_75 : decode cX9_init 75 = .ok (.getfield 40, 3) := by decide +kernel
theorem dX9_init_78 : decode cX9_init 78 = .ok (.invokespecial 45, 3) := by decide +kernel
theorem dX9_init_81 : decode cX9_init 81 = .ok (.putfield 48, 3) := by decide +kernel
theorem dX9_init_84 : decode cX9_init 84 = .ok (.aload_n 0, 1) := by decide +kernel
theorem dX9_init_85 : decode cX9_init 85 = .ok (.new 52, 3) := by decide +kernel
theorem dX9_init_88 : decode cX9_init 88 = .ok (.dup, 1) := by decide +kernel
theorem dX9_init_89 : decode cX9_init 89 = .ok (.aload_n 0, 1) := by decide +kernel
theorem dX9_init_90 : decode cX9_init 90 = .ok (.getfield 27, 3) := by decide +kernel
theorem dX9_init_93 : decode cX9_init 93 = .ok (.invokespecial 54, 3) := by decide +kernel
theorem dX9_init_96 : decode cX9_init 96 = .ok (.putfield 55, 3) := by decide +kernel
theorem dX9_init_99 : decode cX9_init 99 = .ok (.aload_n 0, 1) := by decide +kernel
theorem dX9_init_100 : decode cX9_init 100 = .ok (.new 59, 3) := by decide +kernel
theorem dX9_init_103 : decode cX9_init 103 = .ok (.dup, 1) := by decide +kernel
theorem dX9_init_104 : decode cX9_init 104 = .ok (.invokespecial 61, 3) := by decide +kernel
theorem dX9_init_107 : decode cX9_init 107 = .ok (.putfield 62, 3) := by decide +kernel
theorem dX9_init_110 : decode cX9_init 110 = .ok (.aload_n 0, 1) := by decide +kernel
theorem dX9_init_111 : decode cX9_init 111 = .ok (.iconst 2, 1) := by decide +kernel
theorem dX9_init_112 : decode cX9_init 112 = .ok (.anewarray 31, 3) := by decide +kernel
theorem dX9_init_115 : decode cX9_init 115 = .ok (.putfield 66, 3) := by decide +kernel
theorem dX9_init_118 : decode cX9_init 118 = .ok (.aload_n 0, 1) := by decide +kernel
theorem dX9_init_119 : decode cX9_init 119 = .ok (.iconst 2, 1) := by decide +kernel
theorem dX9_init_120 : decode cX9_init 120 = .ok (.newarray .boolean, 2) := by decide +kernel
theorem dX9_init_122 : decode cX9_init 122 = .ok (.putfield 70, 3) := by decide +kernel
theorem dX9_init_125 : decode cX9_init 125 = .ok (.aload_n 0, 1) := by decide +kernel
theorem dX9_init_126 : decode cX9_init 126 = .ok (.lconst 0, 1) := by decide +kernel
theorem dX9_init_127 : decode cX9_init 127 = .ok (.putfield 74, 3) := by decide +kernel
theorem dX9_init_130 : decode cX9_init 130 = .ok (.iconst 0, 1) := by decide +kernel
theorem dX9_init_131 : decode cX9_init 131 = .ok (.istore_n 1, 1) := by decide +kernel
theorem dX9_init_132 : decode cX9_init 132 = .ok (.iload_n 1, 1) := by decide +kernel
theorem dX9_init_133 : decode cX9_init 133 = .ok (.iconst 2, 1) := by decide +kernel
theorem dX9_init_134 : decode cX9_init 134 = .ok (.if_icmp .ge 26, 3) := by decide +kernel
theorem dX9_init_137 : decode cX9_init 137 = .ok (.aload_n 0, 1) := by decide +kernel
theorem dX9_init_138 : decode cX9_init 138 = .ok (.getfield 66, 3) := by decide +kernel
theorem dX9_init_141 : decode cX9_init 141 = .ok (.iload_n 1, 1) := by decide +kernel
theorem dX9_init_142 : decode cX9_init 142 = .ok (.new 31, 3) := by decide +kernel
theorem dX9_init_145 : decode cX9_init 145 = .ok (.dup, 1) := by decide +kernel
theorem dX9_init_146 : decode cX9_init 146 = .ok (.aload_n 0, 1) := by decide +kernel
theorem dX9_init_147 : decode cX9_init 147 = .ok (.getfield 27, 3) := by decide +kernel
theorem dX9_init_150 : decode cX9_init 150 = .ok (.invokespecial 33, 3) := by decide +kernel
theorem dX9_init_153 : decode cX9_init 153 = .ok (.aastore, 1) := by decide +kernel
theorem dX9_init_154 : decode cX9_init 154 = .ok (.iinc 1 1, 3) := by decide +kernel
theorem dX9_init_157 : decode cX9_init 157 = .ok (.goto (-25), 3) := by decide +kernel
theorem dX9_init_160 : decode cX9_init 160 = .ok (.return_, 1) := by decide +kernel
theorem dX9_write_0 : decode cX9_write 0 = .ok (.iload_n 1, 1) := by decide +kernel
theorem dX9_write_1 : decode cX9_write 1 = .ok (.ifCond .lt 10, 3) := by decide +kernel
theorem dX9_write_4 : decode cX9_write 4 = .ok (.iload_n 1, 1) := by decide +kernel
theorem dX9_write_5 : decode cX9_write 5 = .ok (.sipush 255, 3) := by decide +kernel
theorem dX9_write_8 : decode cX9_write 8 = .ok (.if_icmp .le 6, 3) := by decide +kernel
theorem dX9_write_11 : decode cX9_write 11 = .ok (.bipush (-2), 2) := by decide +kernel
theorem dX9_write_13 : decode cX9_write 13 = .ok (.ireturn, 1) := by decide +kernel
theorem dX9_write_14 : decode cX9_write 14 = .ok (.aload_n 0, 1) := by decide +kernel
theorem dX9_write_15 : decode cX9_write 15 = .ok (.getfield 13, 3) := by decide +kernel
theorem dX9_write_18 : decode cX9_write 18 = .ok (.bipush 48, 2) := by decide +kernel
theorem dX9_write_20 : decode cX9_write 20 = .ok (.if_icmp .lt 6, 3) := by decide +kernel
theorem dX9_write_23 : decode cX9_write 23 = .ok (.bipush (-4), 2) := by decide +kernel
theorem dX9_write_25 : decode cX9_write 25 = .ok (.ireturn, 1) := by decide +kernel
theorem dX9_write_26 : decode cX9_write 26 = .ok (.aload_n 0, 1) := by decide +kernel
theorem dX9_write_27 : decode cX9_write 27 = .ok (.getfield 9, 3) := by decide +kernel
theorem dX9_write_30 : decode cX9_write 30 = .ok (.aload_n 0, 1) := by decide +kernel
theorem dX9_write_31 : decode cX9_write 31 = .ok (.getfield 13, 3) := by decide +kernel
theorem dX9_write_34 : decode cX9_write 34 = .ok (.iload_n 1, 1) := by decide +kernel
theorem dX9_write_35 : decode cX9_write 35 = .ok (.iastore, 1) := by decide +kernel
theorem dX9_write_36 : decode cX9_write 36 = .ok (.aload_n 0, 1) := by decide +kernel
theorem dX9_write_37 : decode cX9_write 37 = .ok (.dup, 1) := by decide +kernel
theorem dX9_write_38 : decode cX9_write 38 = .ok (.getfield 13, 3) := by decide +kernel
theorem dX9_write_41 : decode cX9_write 41 = .ok (.iconst 1, 1) := by decide +kernel
theorem dX9_write_42 : decode cX9_write 42 = .ok (.iadd, 1) := by decide +kernel
theorem dX9_write_43 : decode cX9_write 43 = .ok (.putfield 13, 3) := by decide +kernel
theorem dX9_write_46 : decode cX9_write 46 = .ok (.aload_n 0, 1) := by decide +kernel
theorem dX9_write_47 : decode cX9_write 47 = .ok (.getfield 13, 3) := by decide +kernel
theorem dX9_write_50 : decode cX9_write 50 = .ok (.ireturn, 1) := by decide +kernel
theorem dX9_wipe_0 : decode cX9_wipe 0 = .ok (.aload_n 0, 1) := by decide +kernel
theorem dX9_wipe_1 : decode cX9_wipe 1 = .ok (.getfield 13, 3) := by decide +kernel
theorem dX9_wipe_4 : decode cX9_wipe 4 = .ok (.istore_n 1, 1) := by decide +kernel
theorem dX9_wipe_5 : decode cX9_wipe 5 = .ok (.aload_n 0, 1) := by decide +kernel
theorem dX9_wipe_6 : decode cX9_wipe 6 = .ok (.iconst 0, 1) := by decide +kernel
theorem dX9_wipe_7 : decode cX9_wipe 7 = .ok (.putfield 13, 3) := by decide +kernel
theorem dX9_wipe_10 : decode cX9_wipe 10 = .ok (.iload_n 1, 1) := by decide +kernel
theorem dX9_wipe_11 : decode cX9_wipe 11 = .ok (.ireturn, 1) := by decide +kernel
set_option maxRecDepth 20000 in
theorem ggX9_fault_X5_firstFault : GoodIn wsX9_fault wsX5_firstFault := goodIn_r _ [8, 9, 10, 11, 12, 13, 14, 7, 15, 16, 17, 18, 19, 20, 21, 22, 23, 24, 25, 26, 27, 28, 29, 30, 31, 32, 33, 34, 35, 36, 37, 38, 39, 40, 41, 42, 43, 44, 45, 46, 47, 48, 49, 50, 51, 52, 53, 54, 55, 56, 57, 58, 59, 60, 61, 62, 63, 64, 65, 66, 67, 68, 69, 70, 71, 72, 73, 74, 75, 76, 89, 90, 91, 92, 93, 94, 95, 96, 97, 98, 99, 100, 101] (by decide +kernel) (by decide +kernel)
set_option maxRecDepth 20000 in
theorem gX9_fault_X5_firstFault : GoodIn wsX9_fault (wsV RX9 78 RX5 yX5_firstFault wsX5_firstFault) := goodIn_app (goodIn_of _ (by decide +kernel)) ggX9_fault_X5_firstFault
theorem dX9_fault_0 : decode cX9_fault 0 = .ok (.aload_n 0, 1) := by decide +kernel
theorem dX9_fault_1 : decode cX9_fault 1 = .ok (.getfield 20, 3) := by decide +kernel
theorem dX9_fault_4 : decode cX9_fault 4 = .ok (.aload_n 0, 1) := by decide +kernel
theorem dX9_fault_5 : decode cX9_fault 5 = .ok (.getfield 9, 3) := by decide +kernel
theorem dX9_fault_8 : decode cX9_fault 8 = .ok (.aload_n 0, 1) := by decide +kernel
theorem dX9_fault_9 : decode cX9_fault 9 = .ok (.getfield 13, 3) := by decide +kernel
theorem dX9_fault_12 : decode cX9_fault 12 = .ok (.invokevirtual 78, 3) := by decide +kernel
theorem dX9_fault_15 : decode cX9_fault 15 = .ok (.ireturn, 1) := by decide +kernel
set_option maxRecDepth 20000 in
theorem ggX9_laundry_X5_firstFault : GoodIn wsX9_laundry wsX5_firstFault := goodIn_r _ [14, 15, 16, 17, 18, 19, 20, 13, 21, 22, 23, 24, 25, 26, 27, 28, 29, 30, 31, 32, 33, 34, 35, 36, 37, 38, 39, 40, 41, 42, 43, 44, 45, 46, 47, 48, 49, 50, 51, 52, 53, 54, 55, 56, 57, 58, 59, 60, 61, 62, 63, 64, 65, 66, 67, 68, 69, 70, 71, 72, 73, 74, 75, 76, 77, 78, 79, 80, 81, 82, 126, 127, 128, 129, 130, 131, 132, 133, 134, 135, 136, 137, 138] (by decide +kernel) (by decide +kernel)
set_option maxRecDepth 20000 in
theorem gX9_laundry_X5_firstFault : GoodIn wsX9_laundry (wsV RX9 78 RX5 yX5_firstFault wsX5_firstFault) := goodIn_app (goodIn_of _ (by decide +kernel)) ggX9_laundry_X5_firstFault
set_option maxRecDepth 20000 in
theorem ggX9_laundry_X4_copyFrom : GoodIn wsX9_laundry wsX4_copyFrom := goodIn_r _ [86, 87, 88, 89, 35, 62, 90, 91, 92, 93, 63, 64, 40, 131, 132, 133, 134, 135, 136, 137, 138] (by decide +kernel) (by decide +kernel)
set_option maxRecDepth 20000 in
theorem gX9_laundry_X4_copyFrom : GoodIn wsX9_laundry (wsV RX9 83 RX4 yX4_copyFrom wsX4_copyFrom) := goodIn_app (goodIn_of _ (by decide +kernel)) ggX9_laundry_X4_copyFrom
set_option maxRecDepth 20000 in
theorem ggX9_laundry_X8_startAnew : GoodIn wsX9_laundry wsX8_startAnew := goodIn_r _ [98, 99, 100, 101, 102, 103, 104, 105, 106, 139, 140, 141, 142, 143, 144, 131, 132, 133, 134, 135, 136, 137, 138] (by decide +kernel) (by decide +kernel)
set_option maxRecDepth 20000 in
theorem gX9_laundry_X8_startAnew : GoodIn wsX9_laundry (wsV RX9 86 RX8 yX8_startAnew wsX8_startAnew) := goodIn_app (goodIn_of _ (by decide +kernel)) ggX9_laundry_X8_startAnew
set_option maxRecDepth 20000 in
theorem ggX9_laundry_X0_forgetAll : GoodIn wsX9_laundry wsX0_forgetAll := goodIn_r _ [111, 112, 113, 145, 146, 147] (by decide +kernel) (by decide +kernel)
set_option maxRecDepth 20000 in
theorem gX9_laundry_X0_forgetAll : GoodIn wsX9_laundry (wsV RX9 89 RX0 yX0_forgetAll wsX0_forgetAll) := goodIn_app (goodIn_of _ (by decide +kernel)) ggX9_laundry_X0_forgetAll
