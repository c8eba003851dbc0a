theorem dX9_laundry_0 : decode cX9_laundry 0 = .ok (.aload_n 0, 1) := by decide +kernel
theorem dX9_laundry_1 : decode cX9_laundry 1 = .ok (.getfield 20, 3) := by decide +kernel
theorem dX9_laundry_4 : decode cX9_laundry 4 = .ok (.aload_n 0, 1) := by decide +kernel
theorem dX9_laundry_5 : decode cX9_laundry 5 = .ok (.getfield 9, 3) := by decide +kernel
theorem dX9_laundry_8 : decode cX9_laundry 8 = .ok (.aload_n 0, 1) := by decide +kernel
theorem dX9_laundry_9 : decode cX9_laundry 9 = .ok (.getfield 13, 3) := by decide +kernel
theorem dX9_laundry_12 : decode cX9_laundry 12 = .ok (.invokevirtual 78, 3) := by decide +kernel
theorem dX9_laundry_15 : decode cX9_laundry 15 = .ok (.bipush (-9), 2) := by decide +kernel
theorem dX9_laundry_17 : decode cX9_laundry 17 = .ok (.if_icmp .eq 6, 3) := by decide +kernel
theorem dX9_laundry_20 : decode cX9_laundry 20 = .ok (.bipush (-3), 2) := by decide +kernel
theorem dX9_laundry_22 : decode cX9_laundry 22 = .ok (.ireturn, 1) := by decide +kernel
theorem dX9_laundry_23 : decode cX9_laundry 23 = .ok (.aload_n 0, 1) := by decide +kernel
theorem dX9_laundry_24 : decode cX9_laundry 24 = .ok (.getfield 27, 3) := by decide +kernel
theorem dX9_laundry_27 : decode cX9_laundry 27 = .ok (.aload_n 0, 1) := by decide +kernel
theorem dX9_laundry_28 : decode cX9_laundry 28 = .ok (.getfield 20, 3) := by decide +kernel
theorem dX9_laundry_31 : decode cX9_laundry 31 = .ok (.getfield 82, 3) := by decide +kernel
theorem dX9_laundry_34 : decode cX9_laundry 34 = .ok (.invokevirtual 83, 3) := by decide +kernel
theorem dX9_laundry_37 : decode cX9_laundry 37 = .ok (.aload_n 0, 1) := by decide +kernel
theorem dX9_laundry_38 : decode cX9_laundry 38 = .ok (.getfield 36, 3) := by decide +kernel
theorem dX9_laundry_41 : decode cX9_laundry 41 = .ok (.invokevirtual 86, 3) := by decide +kernel
theorem dX9_laundry_44 : decode cX9_laundry 44 = .ok (.aload_n 0, 1) := by decide +kernel
theorem dX9_laundry_45 : decode cX9_laundry 45 = .ok (.getfield 55, 3) := by decide +kernel
theorem dX9_laundry_48 : decode cX9_laundry 48 = .ok (.invokevirtual 89, 3) := by decide +kernel
theorem dX9_laundry_51 : decode cX9_laundry 51 = .ok (.iconst 0, 1) := by decide +kernel
theorem dX9_laundry_52 : decode cX9_laundry 52 = .ok (.istore_n 1, 1) := by decide +kernel
theorem dX9_laundry_53 : decode cX9_laundry 53 = .ok (.iload_n 1, 1) := by decide +kernel
theorem dX9_laundry_54 : decode cX9_laundry 54 = .ok (.iconst 2, 1) := by decide +kernel
theorem dX9_laundry_55 : decode cX9_laundry 55 = .ok (.if_icmp .ge 16, 3) := by decide +kernel
theorem dX9_laundry_58 : decode cX9_laundry 58 = .ok (.aload_n 0, 1) := by decide +kernel
theorem dX9_laundry_59 : decode cX9_laundry 59 = .ok (.getfield 70, 3) := by decide +kernel
theorem dX9_laundry_62 : decode cX9_laundry 62 = .ok (.iload_n 1, 1) := by decide +kernel
theorem dX9_laundry_63 : decode cX9_laundry 63 = .ok (.iconst 0, 1) := by decide +kernel
theorem dX9_laundry_64 : decode cX9_laundry 64 = .ok (.bastore, 1) := by decide +kernel
theorem dX9_laundry_65 : decode cX9_laundry 65 = .ok (.iinc 1 1, 3) := by decide +kernel
theorem dX9_laundry_68 : decode cX9_laundry 68 = .ok (.goto (-15), 3) := by decide +kernel
theorem dX9_laundry_71 : decode cX9_laundry 71 = .ok (.aload_n 0, 1) := by decide +kernel
theorem dX9_laundry_72 : decode cX9_laundry 72 = .ok (.getfield 27, 3) := by decide +kernel
theorem dX9_laundry_75 : decode cX9_laundry 75 = .ok (.getfield 92, 3) := by decide +kernel
theorem dX9_laundry_78 : decode cX9_laundry 78 = .ok (.ireturn, 1) := by decide +kernel
set_option maxRecDepth 20000 in
theorem ggX9_flag_X4_has : GoodIn wsX9_flag wsX4_has := goodIn_r _ [13, 14, 33, 34, 35, 36, 37, 38, 39, 40] (by decide +kernel) (by decide +kernel)
set_option maxRecDepth 20000 in
theorem gX9_flag_X4_has : GoodIn wsX9_flag (wsV RX9 95 RX4 yX4_has wsX4_has) := goodIn_app (goodIn_of _ (by decide +kernel)) ggX9_flag_X4_has
theorem dX9_flag_0 : decode cX9_flag 0 = .ok (.aload_n 0, 1) := by decide +kernel
theorem dX9_flag_1 : decode cX9_flag 1 = .ok (.getfield 27, 3) := by decide +kernel
theorem dX9_flag_4 : decode cX9_flag 4 = .ok (.iload_n 1, 1) := by decide +kernel
theorem dX9_flag_5 : decode cX9_flag 5 = .ok (.invokevirtual 95, 3) := by decide +kernel
theorem dX9_flag_8 : decode cX9_flag 8 = .ok (.ifCond .ne 5, 3) := by decide +kernel
theorem dX9_flag_11 : decode cX9_flag 11 = .ok (.iconst (-1), 1) := by decide +kernel
theorem dX9_flag_12 : decode cX9_flag 12 = .ok (.ireturn, 1) := by decide +kernel
theorem dX9_flag_13 : decode cX9_flag 13 = .ok (.iload_n 2, 1) := by decide +kernel
theorem dX9_flag_14 : decode cX9_flag 14 = .ok (.tableswitch 98 0 5 #[38, 48, 58, 68, 78, 88], 38) := by decide +kernel
theorem dX9_flag_52 : decode cX9_flag 52 = .ok (.aload_n 0, 1) := by decide +kernel
theorem dX9_flag_53 : decode cX9_flag 53 = .ok (.getfield 36, 3) := by decide +kernel
theorem dX9_flag_56 : decode cX9_flag 56 = .ok (.getfield 99, 3) := by decide +kernel
theorem dX9_flag_59 : decode cX9_flag 59 = .ok (.iload_n 1, 1) := by decide +kernel
theorem dX9_flag_60 : decode cX9_flag 60 = .ok (.iaload, 1) := by decide +kernel
theorem dX9_flag_61 : decode cX9_flag 61 = .ok (.ireturn, 1) := by decide +kernel
theorem dX9_flag_62 : decode cX9_flag 62 = .ok (.aload_n 0, 1) := by decide +kernel
theorem dX9_flag_63 : decode cX9_flag 63 = .ok (.getfield 27, 3) := by decide +kernel
theorem dX9_flag_66 : decode cX9_flag 66 = .ok (.getfield 102, 3) := by decide +kernel
theorem dX9_flag_69 : decode cX9_flag 69 = .ok (.iload_n 1, 1) := by decide +kernel
theorem dX9_flag_70 : decode cX9_flag 70 = .ok (.iaload, 1) := by decide +kernel
theorem dX9_flag_71 : decode cX9_flag 71 = .ok (.ireturn, 1) := by decide +kernel
theorem dX9_flag_72 : decode cX9_flag 72 = .ok (.aload_n 0, 1) := by decide +kernel
theorem dX9_flag_73 : decode cX9_flag 73 = .ok (.getfield 27, 3) := by decide +kernel
theorem dX9_flag_76 : decode cX9_flag 76 = .ok (.getfield 105, 3) := by decide +kernel
theorem dX9_flag_79 : decode cX9_flag 79 = .ok (.iload_n 1, 1) := by decide +kernel
theorem dX9_flag_80 : decode cX9_flag 80 = .ok (.iaload, 1) := by decide +kernel
theorem dX9_flag_81 : decode cX9_flag 81 = .ok (.ireturn, 1) := by decide +kernel
theorem dX9_flag_82 : decode cX9_flag 82 = .ok (.aload_n 0, 1) := by decide +kernel
theorem dX9_flag_83 : decode cX9_flag 83 = .ok (.getfield 36, 3) := by decide +kernel
theorem dX9_flag_86 : decode cX9_flag 86 = .ok (.getfield 108, 3) := by decide +kernel
theorem dX9_flag_89 : decode cX9_flag 89 = .ok (.iload_n 1, 1) := by decide +kernel
theorem dX9_flag_90 : decode cX9_flag 90 = .ok (.iaload, 1) := by decide +kernel
theorem dX9_flag_91 : decode cX9_flag 91 = .ok (.ireturn, 1) := by decide +kernel
theorem dX9_flag_92 : decode cX9_flag 92 = .ok (.aload_n 0, 1) := by decide +kernel
theorem dX9_flag_93 : decode cX9_flag 93 = .ok (.getfield 36, 3) := by decide +kernel
theorem dX9_flag_96 : decode cX9_flag 96 = .ok (.getfield 111, 3) := by decide +kernel
theorem dX9_flag_99 : decode cX9_flag 99 = .ok (.iload_n 1, 1) := by decide +kernel
theorem dX9_flag_100 : decode cX9_flag 100 = .ok (.iaload, 1) := by decide +kernel
theorem dX9_flag_101 : decode cX9_flag 101 = .ok (.ireturn, 1) := by decide +kernel
theorem dX9_flag_102 : decode cX9_flag 102 = .ok (.aload_n 0, 1) := by decide +kernel
theorem dX9_flag_103 : decode cX9_flag 103 = .ok (.getfield 27, 3) := by decide +kernel
theorem dX9_flag_106 : decode cX9_flag 106 = .ok (.getfield 114, 3) := by decide +kernel
theorem dX9_flag_109 : decode cX9_flag 109 = .ok (.iload_n 1, 1) := by decide +kernel
theorem dX9_flag_110 : decode cX9_flag 110 = .ok (.iaload, 1) := by decide +kernel
theorem dX9_flag_111 : decode cX9_flag 111 = .ok (.ireturn, 1) := by decide +kernel
theorem dX9_flag_112 : decode cX9_flag 112 = .ok (.bipush (-2), 2) := by decide +kernel
theorem dX9_flag_114 : decode cX9_flag 114 = .ok (.ireturn, 1) := by decide +kernel
set_option maxRecDepth 20000 in
theorem ggX9_send_X4_has : GoodIn wsX9_send wsX4_has := goodIn_r _ [8, 9, 73, 74, 75, 76, 77, 78, 79, 80] (by decide +kernel) (by decide +kernel)
set_option maxRecDepth 20000 in
theorem gX9_send_X4_has : GoodIn wsX9_send (wsV RX9 95 RX4 yX4_has wsX4_has) := goodIn_app (goodIn_of _ (by decide +kernel)) ggX9_send_X4_has
set_option maxRecDepth 20000 in
theorem ggX9_send_X8_canBeSent : GoodIn wsX9_send wsX8_canBeSent := goodIn_r _ [14, 15, 16, 17, 5, 6, 7, 8, 9, 18, 19, 20, 13, 21, 22, 23, 24, 25, 26, 27, 28, 29, 30, 31, 32, 33, 34, 81, 82, 83, 84, 85, 86, 73, 74, 75, 76, 77, 78, 79, 80] (by decide +kernel) (by decide +kernel)
set_option maxRecDepth 20000 in
theorem gX9_send_X8_canBeSent : GoodIn wsX9_send (wsV RX9 117 RX8 yX8_canBeSent wsX8_canBeSent) := goodIn_app (goodIn_of _ (by decide +kernel)) ggX9_send_X8_canBeSent
set_option maxRecDepth 20000 in
theorem ggX9_send_X0_remember : GoodIn wsX9_send wsX0_remember := goodIn_r _ [39, 40, 41, 42, 43, 44, 45, 13, 46, 16, 47, 48, 49, 50, 51, 52, 53, 54, 87, 88, 89, 81, 82, 83, 84, 85, 86] (by decide +kernel) (by decide +kernel)
set_option maxRecDepth 20000 in
theorem gX9_send_X0_remember : GoodIn wsX9_send (wsV RX9 120 RX0 yX0_remember wsX0_remember) := goodIn_app (goodIn_of _ (by decide +kernel)) ggX9_send_X0_remember
set_option maxRecDepth 20000 in
theorem ggX9_send_X8_putInTub : GoodIn wsX9_send wsX8_putInTub := goodIn_r _ [58, 15, 16, 51, 59, 17, 5, 6, 7, 8, 9, 81, 82, 83, 84, 85, 86, 73, 74, 75, 76, 77, 78, 79, 80] (by decide +kernel) (by decide +kernel)
set_option maxRecDepth 20000 in
theorem gX9_send_X8_putInTub : GoodIn wsX9_send (wsV RX9 123 RX8 yX8_putInTub wsX8_putInTub) := goodIn_app (goodIn_of _ (by decide +kernel)) ggX9_send_X8_putInTub
set_option maxRecDepth 20000 in
theorem ggX9_send_X8_freeTubs : GoodIn wsX9_send wsX8_freeTubs := goodIn_r _ [21, 15, 22, 23, 24, 25, 13, 26, 27, 16, 28, 29, 30, 31, 32, 33, 34, 81, 82, 83, 84, 85, 86, 73, 74, 75, 76, 77, 78, 79, 80] (by decide +kernel) (by decide +kernel)
set_option maxRecDepth 20000 in
theorem gX9_send_X8_freeTubs : GoodIn wsX9_send (wsV RX9 127 RX8 yX8_freeTubs wsX8_freeTubs) := goodIn_app (goodIn_of _ (by decide +kernel)) ggX9_send_X8_freeTubs
theorem dX9_send_0 : decode cX9_send 0 = .ok (.aload_n 0, 1) := by decide +kernel
theorem dX9_send_1 : decode cX9_send 1 = .ok (.getfield 27, 3) := by decide +kernel
theorem dX9_send_4 : decode cX9_send 4 = .ok (.iload_n 1, 1) := by decide +kernel
theorem dX9_send_5 : decode cX9_send 5 = .ok (.invokevirtual 95, 3) := by decide +kernel
theorem dX9_send_8 : decode cX9_send 8 = .ok (.ifCond .ne 5, 3) := by decide +kernel
theorem dX9_send_11 : decode cX9_send 11 = .ok (.iconst (-1), 1) := by decide +kernel
theorem dX9_send_12 : decode cX9_send 12 = .ok (.ireturn, 1) := by decide +kernel
theorem dX9_send_13 : decode cX9_send 13 = .ok (.aload_n 0, 1) := by decide +kernel
theorem dX9_send_14 : decode cX9_send 14 = .ok (.getfield 36, 3) := by decide +kernel
theorem dX9_send_17 : decode cX9_send 17 = .ok (.iload_n 1, 1) := by decide +kernel
theorem dX9_send_18 : decode cX9_send 18 = .ok (.invokevirtual 117, 3) := by decide +kernel
theorem dX9_send_21 : decode cX9_send 21 = .ok (.ifCond .ne 6, 3) := by decide +kernel
theorem dX9_send_24 : decode cX9_send 24 = .ok (.bipush (-3), 2) := by decide +kernel
theorem dX9_send_26 : decode cX9_send 26 = .ok (.ireturn, 1) := by decide +kernel
theorem dX9_send_27 : decode cX9_send 27 = .ok (.aload_n 0, 1) := by decide +kernel
theorem dX9_send_28 : decode cX9_send 28 = .ok (.getfield 55, 3) := by decide +kernel
theorem dX9_send_31 : decode cX9_send 31 = .ok (.aload_n 0, 1) := by decide +kernel
theorem dX9_send_32 : decode cX9_send 32 = .ok (.getfield 36, 3) := by decide +kernel
theorem dX9_send_35 : decode cX9_send 35 = .ok (.invokevirtual 120, 3) := by decide +kernel
theorem dX9_send_38 : decode cX9_send 38 = .ok (.aload_n 0, 1) := by decide +kernel
theorem dX9_send_39 : decode cX9_send 39 = .ok (.getfield 36, 3) := by decide +kernel
theorem dX9_send_42 : decode cX9_send 42 = .ok (.iload_n 1, 1) := by decide +kernel
theorem dX9_send_43 : decode cX9_send 43 = .ok (.invokevirtual 123, 3) := by decide +kernel
theorem dX9_send_46 : decode cX9_send 46 = .ok (.aload_n 0, 1) := by decide +kernel
theorem dX9_send_47 : decode cX9_send 47 = .ok (.getfield 36, 3) := by decide +kernel
theorem dX9_send_50 : decode cX9_send 50 = .ok (.invokevirtual 127, 3) := by decide +kernel
theorem dX9_send_53 : decode cX9_send 53 = .ok (.ireturn, 1) := by decide +kernel
set_option maxRecDepth 20000 in
theorem ggX9_pull_X4_has : GoodIn wsX9_pull wsX4_has := goodIn_r _ [9, 10, 61, 62, 63, 64, 65, 66, 67, 68] (by decide +kernel) (by decide +kernel)
set_option maxRecDepth 20000 in
theorem gX9_pull_X4_has : GoodIn wsX9_pull (wsV RX9 95 RX4 yX4_has wsX4_has) := goodIn_app (goodIn_of _ (by decide +kernel)) ggX9_pull_X4_has
set_option maxRecDepth 20000 in
theorem ggX9_pull_X8_canBePulled : GoodIn wsX9_pull wsX8_canBePulled := goodIn_r _ [15, 16, 17, 18, 6, 7, 8, 9, 10, 55, 56, 57, 58, 59, 60, 61, 62, 63, 64, 65, 66, 67, 68] (by decide +kernel) (by decide +kernel)
set_option maxRecDepth 20000 in
theorem gX9_pull_X8_canBePulled : GoodIn wsX9_pull (wsV RX9 131 RX8 yX8_canBePulled wsX8_canBePulled) := goodIn_app (goodIn_of _ (by decide +kernel)) ggX9_pull_X8_canBePulled
set_option maxRecDepth 20000 in
theorem ggX9_pull_X0_remember : GoodIn wsX9_pull wsX0_remember := goodIn_r _ [23, 24, 25, 26, 27, 28, 29, 14, 30, 17, 31, 32, 33, 34, 35, 36, 37, 38, 69, 70, 71, 55, 56, 57, 58, 59, 60] (by decide +kernel) (by decide +kernel)
set_option maxRecDepth 20000 in
theorem gX9_pull_X0_remember : GoodIn wsX9_pull (wsV RX9 120 RX0 yX0_remember wsX0_remember) := goodIn_app (goodIn_of _ (by decide +kernel)) ggX9_pull_X0_remember
set_option maxRecDepth 20000 in
theorem ggX9_pull_X8_bringHome : GoodIn wsX9_pull wsX8_bringHome := goodIn_r _ [42, 16, 17, 35, 18, 6, 7, 8, 9, 10, 55, 56, 57, 58, 59, 60, 61, 62, 63, 64, 65, 66, 67, 68] (by decide +kernel) (by decide +kernel)
set_option maxRecDepth 20000 in
theorem gX9_pull_X8_bringHome : GoodIn wsX9_pull (wsV RX9 134 RX8 yX8_bringHome wsX8_bringHome) := goodIn_app (goodIn_of _ (by decide +kernel)) ggX9_pull_X8_bringHome
theorem dX9_pull_0 : decode cX9_pull 0 = .ok (.aload_n 0, 1) := by decide +kernel
theorem dX9_pull_1 : decode cX9_pull 1 = .ok (.getfield 27, 3) := by decide +kernel
theorem dX9_pull_4 : decode cX9_pull 4 = .ok (.iload_n 1, 1) := by decide +kernel
theorem dX9_pull_5 : decode cX9_pull 5 = .ok (.invokevirtual 95, 3) := by decide +kernel
theorem dX9_pull_8 : decode cX9_pull 8 = .ok (.ifCond .ne 5, 3) := by decide +kernel
theorem dX9_pull_11 : decode cX9_pull 11 = .ok (.iconst (-1), 1) := by decide +kernel
theorem dX9_pull_12 : decode cX9_pull 12 = .ok (.ireturn, 1) := by decide +kernel
theorem dX9_pull_13 : decode cX9_pull 13 = .ok (.aload_n 0, 1) := by decide +kernel
theorem dX9_pull_14 : decode cX9_pull 14 = .ok (.getfield 36, 3) := by decide +kernel
theorem dX9_pull_17 : decode cX9_pull 17 = .ok (.iload_n 1, 1) := by decide +kernel
theorem dX9_pull_18 : decode cX9_pull 18 = .ok (.invokevirtual 131, 3) := by decide +kernel
theorem dX9_pull_21 : decode cX9_pull 21 = .ok (.ifCond .ne 6, 3) := by decide +kernel
theorem dX9_pull_24 : decode cX9_pull 24 = .ok (.bipush (-3), 2) := by decide +kernel
theorem dX9_pull_26 : decode cX9_pull 26 = .ok (.ireturn, 1) := by decide +kernel
theorem dX9_pull_27 : decode cX9_pull 27 = .ok (.aload_n 0, 1) := by decide +kernel
theorem dX9_pull_28 : decode cX9_pull 28 = .ok (.getfield 55, 3) := by decide +kernel
theorem dX9_pull_31 : decode cX9_pull 31 = .ok (.aload_n 0, 1) := by decide +kernel
theorem dX9_pull_32 : decode cX9_pull 32 = .ok (.getfield 36, 3) := by decide +kernel
theorem dX9_pull_35 : decode cX9_pull 35 = .ok (.invokevirtual 120, 3) := by decide +kernel
theorem dX9_pull_38 : decode cX9_pull 38 = .ok (.aload_n 0, 1) := by decide +kernel
theorem dX9_pull_39 : decode cX9_pull 39 = .ok (.getfield 36, 3) := by decide +kernel
theorem dX9_pull_42 : decode cX9_pull 42 = .ok (.getfield 108, 3) := by decide +kernel
theorem dX9_pull_45 : decode cX9_pull 45 = .ok (.iload_n 1, 1) := by decide +kernel
theorem dX9_pull_46 : decode cX9_pull 46 = .ok (.iaload, 1) := by decide +kernel
theorem dX9_pull_47 : decode cX9_pull 47 = .ok (.istore_n 2, 1) := by decide +kernel
theorem dX9_pull_48 : decode cX9_pull 48 = .ok (.aload_n 0, 1) := by decide +kernel
theorem dX9_pull_49 : decode cX9_pull 49 = .ok (.getfield 36, 3) := by decide +kernel
theorem dX9_pull_52 : decode cX9_pull 52 = .ok (.iload_n 1, 1) := by decide +kernel
theorem dX9_pull_53 : decode cX9_pull 53 = .ok (.invokevirtual 134, 3) := by decide +kernel
theorem dX9_pull_56 : decode cX9_pull 56 = .ok (.iload_n 2, 1) := by decide +kernel
theorem dX9_pull_57 : decode cX9_pull 57 = .ok (.ireturn, 1) := by decide +kernel
set_option maxRecDepth 20000 in
theorem ggX9_hour_X0_remember : GoodIn wsX9_hour wsX0_remember := goodIn_r _ [7, 8, 9, 10, 11, 12, 13, 14, 15, 16, 17, 18, 19, 20, 21, 22, 23, 24, 90, 91, 92, 93, 94, 95, 96, 97, 98] (by decide +kernel) (by decide +kernel)
set_option maxRecDepth 20000 in
theorem gX9_hour_X0_remember : GoodIn wsX9_hour (wsV RX9 120 RX0 yX0_remember wsX0_remember) := goodIn_app (goodIn_of _ (by decide +kernel)) ggX9_hour_X0_remember
set_option maxRecDepth 20000 in
theorem ggX9_hour_X8_passHour : GoodIn wsX9_hour wsX8_passHour := goodIn_r _ [28, 24, 29, 30, 31, 14, 32, 33, 34, 16, 21, 23, 35, 36, 37, 38, 39, 40, 41, 42, 43, 44, 45, 46, 47, 48, 49, 22, 50, 51, 52, 53, 54, 55, 56, 57, 58, 59, 60, 61, 62, 63, 64, 65, 66, 67, 68, 69, 70, 71, 72, 73, 74, 75, 76, 77, 93, 94, 95, 96, 97, 98, 99, 100, 101, 102, 103, 104, 105, 106] (by decide +kernel) (by decide +kernel)
set_option maxRecDepth 20000 in
theorem gX9_hour_X8_passHour : GoodIn wsX9_hour (wsV RX9 137 RX8 yX8_passHour wsX8_passHour) := goodIn_app (goodIn_of _ (by decide +kernel)) ggX9_hour_X8_passHour
theorem dX9_hour_0 : decode cX9_hour 0 = .ok (.aload_n 0, 1) := by decide +kernel
theorem dX9_hour_1 : decode cX9_hour 1 = .ok (.getfield 55, 3) := by decide +kernel
theorem dX9_hour_4 : decode cX9_hour 4 = .ok (.aload_n 0, 1) := by decide +kernel
theorem dX9_hour_5 : decode cX9_hour 5 = .ok (.getfield 36, 3) := by decide +kernel
theorem dX9_hour_8 : decode cX9_hour 8 = .ok (.invokevirtual 120, 3) := by decide +kernel
theorem dX9_hour_11 : decode cX9_hour 11 = .ok (.aload_n 0, 1) := by decide +kernel
theorem dX9_hour_12 : decode cX9_hour 12 = .ok (.getfield 36, 3) := by decide +kernel
theorem dX9_hour_15 : decode cX9_hour 15 = .ok (.invokevirtual 137, 3) := by decide +kernel
theorem dX9_hour_18 : decode cX9_hour 18 = .ok (.ireturn, 1) := by decide +kernel
set_option maxRecDepth 20000 in
theorem ggX9_wind_X0_remember : GoodIn wsX9_wind wsX0_remember := goodIn_r _ [8, 9, 10, 11, 12, 13, 14, 15, 16, 17, 18, 19, 20, 21, 22, 23, 24, 25, 44, 45, 46, 38, 39, 40, 41, 42, 43] (by decide +kernel) (by decide +kernel)
set_option maxRecDepth 20000 in
theorem gX9_wind_X0_remember : GoodIn wsX9_wind (wsV RX9 120 RX0 yX0_remember wsX0_remember) := goodIn_app (goodIn_of _ (by decide +kernel)) ggX9_wind_X0_remember
theorem dX9_wind_0 : decode cX9_wind 0 = .ok (.iload_n 1, 1) := by decide +kernel
theorem dX9_wind_1 : decode cX9_wind 1 = .ok (.ifCond .lt 8, 3) := by decide +kernel
theorem dX9_wind_4 : decode cX9_wind 4 = .ok (.iload_n 1, 1) := by decide +kernel
theorem dX9_wind_5 : decode cX9_wind 5 = .ok (.iconst 2, 1) := by decide +kernel
theorem dX9_wind_6 : decode cX9_wind 6 = .ok (.if_icmp .le 6, 3) := by decide +kernel
theorem dX9_wind_9 : decode cX9_wind 9 = .ok (.bipush (-2), 2) := by decide +kernel
theorem dX9_wind_11 : decode cX9_wind 11 = .ok (.ireturn, 1) := by decide +kernel
theorem dX9_wind_12 : decode cX9_wind 12 = .ok (.iload_n 1, 1) := by decide +kernel
theorem dX9_wind_13 : decode cX9_wind 13 = .ok (.aload_n 0, 1) := by decide +kernel
theorem dX9_wind_14 : decode cX9_wind 14 = .ok (.getfield 36, 3) := by decide +kernel
theorem dX9_wind_17 : decode cX9_wind 17 = .ok (.getfield 140, 3) := by decide +kernel
theorem dX9_wind_20 : decode cX9_wind 20 = .ok (.if_icmp .ne 6, 3) := by decide +kernel
theorem dX9_wind_23 : decode cX9_wind 23 = .ok (.bipush (-3), 2) := by decide +kernel
theorem dX9_wind_25 : decode cX9_wind 25 = .ok (.ireturn, 1) := by decide +kernel
theorem dX9_wind_26 : decode cX9_wind 26 = .ok (.aload_n 0, 1) := by decide +kernel
theorem dX9_wind_27 : decode cX9_wind 27 = .ok (.getfield 55, 3) := by decide +kernel
theorem dX9_wind_30 : decode cX9_wind 30 = .ok (.aload_n 0, 1) := by decide +kernel
theorem dX9_wind_31 : decode cX9_wind 31 = .ok (.getfield 36, 3) := by decide +kernel
theorem dX9_wind_34 : decode cX9_wind 34 = .ok (.invokevirtual 120, 3) := by decide +kernel
theorem dX9_wind_37 : decode cX9_wind 37 = .ok (.aload_n 0, 1) := by decide +kernel
theorem dX9_wind_38 : decode cX9_wind 38 = .ok (.getfield 36, 3) := by decide +kernel
theorem dX9_wind_41 : decode cX9_wind 41 = .ok (.getfield 140, 3) := by decide +kernel
theorem dX9_wind_44 : decode cX9_wind 44 = .ok (.istore_n 2, 1) := by decide +kernel
theorem dX9_wind_45 : decode cX9_wind 45 = .ok (.aload_n 0, 1) := by decide +kernel
theorem dX9_wind_46 : decode cX9_wind 46 = .ok (.getfield 36, 3) := by decide +kernel
theorem dX9_wind_49 : decode cX9_wind 49 = .ok (.iload_n 1, 1) := by decide +kernel
theorem dX9_wind_50 : decode cX9_wind 50 = .ok (.putfield 140, 3) := by decide +kernel
theorem dX9_wind_53 : decode cX9_wind 53 = .ok (.iload_n 2, 1) := by decide +kernel
theorem dX9_wind_54 : decode cX9_wind 54 = .ok (.ireturn, 1) := by decide +kernel
set_option maxRecDepth 20000 in
theorem ggX9_undo_X0_takeBack : GoodIn wsX9_undo wsX0_takeBack := goodIn_r _ [8, 9, 10, 11, 12, 13, 14, 15, 16, 17, 18, 19, 20, 21, 22, 23, 24, 25, 38, 39, 40, 41, 42, 43, 44, 45, 46] (by decide +kernel) (by decide +kernel)
set_option maxRecDepth 20000 in
theorem gX9_undo_X0_takeBack : GoodIn wsX9_undo (wsV RX9 143 RX0 yX0_takeBack wsX0_takeBack) := goodIn_app (goodIn_of _ (by decide +kernel)) ggX9_undo_X0_takeBack
theorem dX9_undo_0 : decode cX9_undo 0 = .ok (.aload_n 0, 1) := by decide +kernel
theorem dX9_undo_1 : decode cX9_undo 1 = .ok (.getfield 55, 3) := by decide +kernel
theorem dX9_undo_4 : decode cX9_undo 4 = .ok (.aload_n 0, 1) := by decide +kernel
theorem dX9_undo_5 : decode cX9_undo 5 = .ok (.getfield 36, 3) := by decide +kernel
theorem dX9_undo_8 : decode cX9_undo 8 = .ok (.invokevirtual 143, 3) := by decide +kernel
theorem dX9_undo_11 : decode cX9_undo 11 = .ok (.ifCond .eq 13, 3) := by decide +kernel
theorem dX9_undo_14 : decode cX9_undo 14 = .ok (.aload_n 0, 1) := by decide +kernel
theorem dX9_undo_15 : decode cX9_undo 15 = .ok (.getfield 55, 3) := by decide +kernel
theorem dX9_undo_18 : decode cX9_undo 18 = .ok (.getfield 147, 3) := by decide +kernel
theorem dX9_undo_21 : decode cX9_undo 21 = .ok (.goto 5, 3) := by decide +kernel
theorem dX9_undo_24 : decode cX9_undo 24 = .ok (.bipush (-3), 2) := by decide +kernel
theorem dX9_undo_26 : decode cX9_undo 26 = .ok (.ireturn, 1) := by decide +kernel
set_option maxRecDepth 20000 in
theorem ggX9_peace_X4_has : GoodIn wsX9_peace wsX4_has := goodIn_r _ [8, 9, 106, 107, 108, 109, 110, 111, 112, 113] (by decide +kernel) (by decide +kernel)
set_option maxRecDepth 20000 in
theorem gX9_peace_X4_has : GoodIn wsX9_peace (wsV RX9 95 RX4 yX4_has wsX4_has) := goodIn_app (goodIn_of _ (by decide +kernel)) ggX9_peace_X4_has
set_option maxRecDepth 20000 in
theorem ggX9_peace_X2_hoursToFight : GoodIn wsX9_peace wsX2_hoursToFight := goodIn_r _ [14, 15, 16, 17, 18, 19, 7, 20, 9, 21, 22, 23, 24, 25, 26, 27, 28, 29, 30, 31, 32, 33, 34, 35, 36, 37, 38, 39, 40, 41, 42, 43, 44, 45, 46, 47, 48, 49, 5, 6, 8, 50, 51, 52, 53, 54, 55, 56, 57, 58, 59, 60, 61, 62, 63, 64, 65, 66, 67, 68, 69, 70, 71, 72, 73, 74, 75, 76, 77, 78, 79, 80, 81, 82, 83, 84, 85, 86, 87, 88, 89, 90, 91, 92, 93, 114, 115, 116, 117, 118, 119, 120, 106, 107, 108, 109, 110, 111, 112, 113] (by decide +kernel) (by decide +kernel)
set_option maxRecDepth 20000 in
theorem gX9_peace_X2_hoursToFight : GoodIn wsX9_peace (wsV RX9 150 RX2 yX2_hoursToFight wsX2_hoursToFight) := goodIn_app (goodIn_of _ (by decide +kernel)) ggX9_peace_X2_hoursToFight
theorem dX9_peace_0 : decode cX9_peace 0 = .ok (.aload_n 0, 1) := by decide +kernel
theorem dX9_peace_1 : decode cX9_peace 1 = .ok (.getfield 27, 3) := by decide +kernel
theorem dX9_peace_4 : decode cX9_peace 4 = .ok (.iload_n 1, 1) := by decide +kernel
theorem dX9_peace_5 : decode cX9_peace 5 = .ok (.invokevirtual 95, 3) := by decide +kernel
theorem dX9_peace_8 : decode cX9_peace 8 = .ok (.ifCond .eq 14, 3) := by decide +kernel
theorem dX9_peace_11 : decode cX9_peace 11 = .ok (.aload_n 0, 1) := by decide +kernel
theorem dX9_peace_12 : decode cX9_peace 12 = .ok (.getfield 27, 3) := by decide +kernel
theorem dX9_peace_15 : decode cX9_peace 15 = .ok (.iload_n 2, 1) := by decide +kernel
theorem dX9_peace_16 : decode cX9_peace 16 = .ok (.invokevirtual 95, 3) := by decide +kernel
theorem dX9_peace_19 : decode cX9_peace 19 = .ok (.ifCond .ne 5, 3) := by decide +kernel
theorem dX9_peace_22 : decode cX9_peace 22 = .ok (.iconst (-1), 1) := by decide +kernel
theorem dX9_peace_23 : decode cX9_peace 23 = .ok (.ireturn, 1) := by decide +kernel
theorem dX9_peace_24 : decode cX9_peace 24 = .ok (.iload_n 1, 1) := by decide +kernel
theorem dX9_peace_25 : decode cX9_peace 25 = .ok (.iload_n 2, 1) := by decide +kernel
theorem dX9_peace_26 : decode cX9_peace 26 = .ok (.if_icmp .ne 6, 3) := by decide +kernel
theorem dX9_peace_29 : decode cX9_peace 29 = .ok (.bipush (-2), 2) := by decide +kernel
theorem dX9_peace_31 : decode cX9_peace 31 = .ok (.ireturn, 1) := by decide +kernel
theorem dX9_peace_32 : decode cX9_peace 32 = .ok (.aload_n 0, 1) := by decide +kernel
theorem dX9_peace_33 : decode cX9_peace 33 = .ok (.getfield 48, 3) := by decide +kernel
theorem dX9_peace_36 : decode cX9_peace 36 = .ok (.aload_n 0, 1) := by decide +kernel
theorem dX9_peace_37 : decode cX9_peace 37 = .ok (.getfield 36, 3) := by decide +kernel
theorem dX9_peace_40 : decode cX9_peace 40 = .ok (.iconst 0, 1) := by decide +kernel
theorem dX9_peace_41 : decode cX9_peace 41 = .ok (.iconst 1, 1) := by decide +kernel
theorem dX9_peace_42 : decode cX9_peace 42 = .ok (.iload_n 1, 1) := by decide +kernel
theorem dX9_peace_43 : decode cX9_peace 43 = .ok (.ishl, 1) := by decide +kernel
theorem dX9_peace_44 : decode cX9_peace 44 = .ok (.iconst 1, 1) := by decide +kernel
theorem dX9_peace_45 : decode cX9_peace 45 = .ok (.iload_n 2, 1) := by decide +kernel
theorem dX9_peace_46 : decode cX9_peace 46 = .ok (.ishl, 1) := by decide +kernel
theorem dX9_peace_47 : decode cX9_peace 47 = .ok (.ior, 1) := by decide +kernel
theorem dX9_peace_48 : decode cX9_peace 48 = .ok (.invokevirtual 150, 3) := by decide +kernel
theorem dX9_peace_51 : decode cX9_peace 51 = .ok (.ireturn, 1) := by decide +kernel
set_option maxRecDepth 20000 in
theorem ggX9_quiet_X2_hoursToFight : GoodIn wsX9_quiet wsX2_hoursToFight := goodIn_r _ [7, 8, 9, 10, 11, 12, 13, 14, 15, 16, 17, 18, 19, 20, 21, 22, 23, 24, 25, 26, 27, 28, 29, 30, 31, 32, 33, 34, 35, 36, 37, 38, 39, 40, 41, 42, 43, 44, 45, 46, 47, 48, 49, 50, 51, 52, 53, 54, 55, 56, 57, 58, 59, 60, 61, 62, 63, 64, 65, 66, 67, 68, 69, 70, 71, 72, 73, 74, 75, 76, 77, 78, 79, 80, 81, 82, 83, 84, 85, 86, 87, 88, 89, 90, 91, 104, 105, 106, 107, 108, 109, 110, 111, 112, 113, 114, 115, 116, 117, 118] (by decide +kernel) (by decide +kernel)
set_option maxRecDepth 20000 in
theorem gX9_quiet_X2_hoursToFight : GoodIn wsX9_quiet (wsV RX9 150 RX2 yX2_hoursToFight wsX2_hoursToFight) := goodIn_app (goodIn_of _ (by decide +kernel)) ggX9_quiet_X2_hoursToFight
theorem dX9_quiet_0 : decode cX9_quiet 0 = .ok (.aload_n 0, 1) := by decide +kernel
theorem dX9_quiet_1 : decode cX9_quiet 1 = .ok (.getfield 48, 3) := by decide +kernel
theorem dX9_quiet_4 : decode cX9_quiet 4 = .ok (.aload_n 0, 1) := by decide +kernel
theorem dX9_quiet_5 : decode cX9_quiet 5 = .ok (.getfield 36, 3) := by decide +kernel
theorem dX9_quiet_8 : decode cX9_quiet 8 = .ok (.iconst 0, 1) := by decide +kernel
theorem dX9_quiet_9 : decode cX9_quiet 9 = .ok (.bipush 31, 2) := by decide +kernel
theorem dX9_quiet_11 : decode cX9_quiet 11 = .ok (.invokevirtual 150, 3) := by decide +kernel
theorem dX9_quiet_14 : decode cX9_quiet 14 = .ok (.ireturn, 1) := by decide +kernel
set_option maxRecDepth 20000 in
theorem ggX9_sending_X2_bestToSend : GoodIn wsX9_sending wsX2_bestToSend := goodIn_r _ [7, 8, 9, 10, 11, 12, 13, 14, 15, 16, 17, 18, 19, 20, 21, 22, 23, 24, 25, 26, 27, 28, 29, 30, 31, 32, 33, 34, 35, 36, 37, 38, 6, 39, 40, 41, 42, 43, 44, 45, 46, 47, 48, 49, 50, 51, 52, 53, 54, 55, 56, 57, 58, 59, 60, 61, 62, 63, 64, 65, 66, 67, 68, 69, 70, 71, 72, 73, 74, 75, 76, 77, 78, 79, 80, 81, 82, 83, 84, 85, 86, 87, 88, 89, 90, 91, 92, 93, 94, 95, 96, 97, 98, 99, 100, 101, 102, 103, 104, 105, 106, 107, 121, 122, 123, 124, 125, 126, 127, 128, 129, 130, 131, 132, 133, 134, 135] (by decide +kernel) (by decide +kernel)
set_option maxRecDepth 20000 in
theorem gX9_sending_X2_bestToSend : GoodIn wsX9_sending (wsV RX9 154 RX2 yX2_bestToSend wsX2_bestToSend) := goodIn_app (goodIn_of _ (by decide +kernel)) ggX9_sending_X2_bestToSend
set_option maxRecDepth 20000 in
theorem ggX9_sending_X2_hoursToFight : GoodIn wsX9_sending wsX2_hoursToFight := goodIn_r _ [39, 40, 41, 42, 43, 44, 45, 46, 47, 48, 49, 26, 27, 28, 29, 30, 31, 50, 51, 52, 11, 53, 19, 54, 55, 56, 57, 58, 59, 60, 61, 62, 63, 64, 65, 17, 66, 67, 68, 69, 70, 8, 9, 10, 12, 13, 14, 15, 16, 18, 71, 72, 73, 74, 75, 76, 77, 78, 79, 80, 81, 82, 83, 84, 85, 86, 87, 88, 89, 90, 91, 92, 93, 94, 95, 96, 97, 98, 99, 100, 25, 101, 102, 103, 104, 121, 122, 123, 124, 125, 126, 135, 127, 128, 129, 130, 131, 132, 133, 134] (by decide +kernel) (by decide +kernel)
set_option maxRecDepth 20000 in
theorem gX9_sending_X2_hoursToFight : GoodIn wsX9_sending (wsV RX9 150 RX2 yX2_hoursToFight wsX2_hoursToFight) := goodIn_app (goodIn_of _ (by decide +kernel)) ggX9_sending_X2_hoursToFight
theorem dX9_sending_0 : decode cX9_sending 0 = .ok (.aload_n 0, 1) := by decide +kernel
theorem dX9_sending_1 : decode cX9_sending 1 = .ok (.getfield 48, 3) := by decide +kernel
theorem dX9_sending_4 : decode cX9_sending 4 = .ok (.aload_n 0, 1) := by decide +kernel
theorem dX9_sending_5 : decode cX9_sending 5 = .ok (.getfield 36, 3) := by decide +kernel
theorem dX9_sending_8 : decode cX9_sending 8 = .ok (.invokevirtual 154, 3) := by decide +kernel
theorem dX9_sending_11 : decode cX9_sending 11 = .ok (.istore_n 2, 1) := by decide +kernel
theorem dX9_sending_12 : decode cX9_sending 12 = .ok (.iload_n 1, 1) := by decide +kernel
theorem dX9_sending_13 : decode cX9_sending 13 = .ok (.ifCond .eq 20, 3) := by decide +kernel
theorem dX9_sending_16 : decode cX9_sending 16 = .ok (.aload_n 0, 1) := by decide +kernel
theorem dX9_sending_17 : decode cX9_sending 17 = .ok (.getfield 48, 3) := by decide +kernel
theorem dX9_sending_20 : decode cX9_sending 20 = .ok (.aload_n 0, 1) := by decide +kernel
theorem dX9_sending_21 : decode cX9_sending 21 = .ok (.getfield 36, 3) := by decide +kernel
theorem dX9_sending_24 : decode cX9_sending 24 = .ok (.iload_n 2, 1) := by decide +kernel
theorem dX9_sending_25 : decode cX9_sending 25 = .ok (.bipush 31, 2) := by decide +kernel
theorem dX9_sending_27 : decode cX9_sending 27 = .ok (.invokevirtual 150, 3) := by decide +kernel
theorem dX9_sending_30 : decode cX9_sending 30 = .ok (.goto 4, 3) := by decide +kernel
theorem dX9_sending_33 : decode cX9_sending 33 = .ok (.iload_n 2, 1) := by decide +kernel
theorem dX9_sending_34 : decode cX9_sending 34 = .ok (.ireturn, 1) := by decide +kernel
set_option maxRecDepth 20000 in
theorem ggX9_cover_X8_homeBits : GoodIn wsX9_cover wsX8_homeBits := goodIn_r _ [7, 8, 9, 10, 6, 11, 12, 13, 14, 49, 50, 51, 52, 53, 54, 55, 56, 57, 58, 59, 60, 61, 62] (by decide +kernel) (by decide +kernel)
set_option maxRecDepth 20000 in
theorem gX9_cover_X8_homeBits : GoodIn wsX9_cover (wsV RX9 158 RX8 yX8_homeBits wsX8_homeBits) := goodIn_app (goodIn_of _ (by decide +kernel)) ggX9_cover_X8_homeBits
set_option maxRecDepth 20000 in
theorem ggX9_cover_X9_isWithin : GoodIn wsX9_cover wsX9_isWithin := goodIn_r _ [18] (by decide +kernel) (by decide +kernel)
set_option maxRecDepth 20000 in
theorem gX9_cover_X9_isWithin : GoodIn wsX9_cover (va_wsS RX9 161 yX9_isWithin wsX9_isWithin) := goodIn_app (goodIn_of _ (by decide +kernel)) ggX9_cover_X9_isWithin
set_option maxRecDepth 20000 in
theorem ggX9_cover_X4_hostilePairs : GoodIn wsX9_cover wsX4_hostilePairs := goodIn_r _ [23, 24, 25, 26, 27, 28, 29, 30, 31, 32, 55, 56, 57, 58, 59, 60, 61, 62] (by decide +kernel) (by decide +kernel)
set_option maxRecDepth 20000 in
theorem gX9_cover_X4_hostilePairs : GoodIn wsX9_cover (wsV RX9 165 RX4 yX4_hostilePairs wsX4_hostilePairs) := goodIn_app (goodIn_of _ (by decide +kernel)) ggX9_cover_X4_hostilePairs
set_option maxRecDepth 20000 in
theorem ggX9_cover_X9_isFewer : GoodIn wsX9_cover wsX9_isFewer := goodIn_r _ [35, 36, 27, 28, 29, 30, 31, 32] (by decide +kernel) (by decide +kernel)
set_option maxRecDepth 20000 in
theorem gX9_cover_X9_isFewer : GoodIn wsX9_cover (va_wsS RX9 169 yX9_isFewer wsX9_isFewer) := goodIn_app (goodIn_of _ (by decide +kernel)) ggX9_cover_X9_isFewer
theorem dX9_cover_0 : decode cX9_cover 0 = .ok (.aload_n 0, 1) := by decide +kernel
theorem dX9_cover_1 : decode cX9_cover 1 = .ok (.getfield 36, 3) := by decide +kernel
theorem dX9_cover_4 : decode cX9_cover 4 = .ok (.invokevirtual 158, 3) := by decide +kernel
theorem dX9_cover_7 : decode cX9_cover 7 = .ok (.istore_n 1, 1) := by decide +kernel
theorem dX9_cover_8 : decode cX9_cover 8 = .ok (.bipush (-9), 2) := by decide +kernel
theorem dX9_cover_10 : decode cX9_cover 10 = .ok (.istore_n 2, 1) := by decide +kernel
theorem dX9_cover_11 : decode cX9_cover 11 = .ok (.iconst 0, 1) := by decide +kernel
theorem dX9_cover_12 : decode cX9_cover 12 = .ok (.istore_n 3, 1) := by decide +kernel
theorem dX9_cover_13 : decode cX9_cover 13 = .ok (.iload_n 3, 1) := by decide +kernel
theorem dX9_cover_14 : decode cX9_cover 14 = .ok (.bipush 31, 2) := by decide +kernel
theorem dX9_cover_16 : decode cX9_cover 16 = .ok (.if_icmp .gt 54, 3) := by decide +kernel
theorem dX9_cover_19 : decode cX9_cover 19 = .ok (.iload_n 3, 1) := by decide +kernel
theorem dX9_cover_20 : decode cX9_cover 20 = .ok (.iload_n 1, 1) := by decide +kernel
theorem dX9_cover_21 : decode cX9_cover 21 = .ok (.invokestatic 161, 3) := by decide +kernel
theorem dX9_cover_24 : decode cX9_cover 24 = .ok (.ifCond .eq 22, 3) := by decide +kernel
theorem dX9_cover_27 : decode cX9_cover 27 = .ok (.aload_n 0, 1) := by decide +kernel
theorem dX9_cover_28 : decode cX9_cover 28 = .ok (.getfield 27, 3) := by decide +kernel
theorem dX9_cover_31 : decode cX9_cover 31 = .ok (.iload_n 1, 1) := by decide +kernel
theorem dX9_cover_32 : decode cX9_cover 32 = .ok (.iload_n 3, 1) := by decide +kernel
theorem dX9_cover_33 : decode cX9_cover 33 = .ok (.iconst (-1), 1) := by decide +kernel
theorem dX9_cover_34 : decode cX9_cover 34 = .ok (.ixor, 1) := by decide +kernel
theorem dX9_cover_35 : decode cX9_cover 35 = .ok (.iand, 1) := by decide +kernel
theorem dX9_cover_36 : decode cX9_cover 36 = .ok (.invokevirtual 165, 3) := by decide +kernel
theorem dX9_cover_39 : decode cX9_cover 39 = .ok (.ifCond .ne 7, 3) := by decide +kernel
theorem dX9_cover_42 : decode cX9_cover 42 = .ok (.iconst 1, 1) := by decide +kernel
theorem dX9_cover_43 : decode cX9_cover 43 = .ok (.goto 4, 3) := by decide +kernel
theorem dX9_cover_46 : decode cX9_cover 46 = .ok (.iconst 0, 1) := by decide +kernel
theorem dX9_cover_47 : decode cX9_cover 47 = .ok (.istore 4, 2) := by decide +kernel
theorem dX9_cover_49 : decode cX9_cover 49 = .ok (.iload 4, 2) := by decide +kernel
theorem dX9_cover_51 : decode cX9_cover 51 = .ok (.ifCond .eq 13, 3) := by decide +kernel
theorem dX9_cover_54 : decode cX9_cover 54 = .ok (.iload_n 3, 1) := by decide +kernel
theorem dX9_cover_55 : decode cX9_cover 55 = .ok (.iload_n 2, 1) := by decide +kernel
theorem dX9_cover_56 : decode cX9_cover 56 = .ok (.invokestatic 169, 3) := by decide +kernel
theorem dX9_cover_59 : decode cX9_cover 59 = .ok (.ifCond .eq 5, 3) := by decide +kernel
theorem dX9_cover_62 : decode cX9_cover 62 = .ok (.iload_n 3, 1) := by decide +kernel
theorem dX9_cover_63 : decode cX9_cover 63 = .ok (.istore_n 2, 1) := by decide +kernel
theorem dX9_cover_64 : decode cX9_cover 64 = .ok (.iinc 3 1, 3) := by decide +kernel
theorem dX9_cover_67 : decode cX9_cover 67 = .ok (.goto (-54), 3) := by decide +kernel
theorem dX9_cover_70 : decode cX9_cover 70 = .ok (.iload_n 2, 1) := by decide +kernel
theorem dX9_cover_71 : decode cX9_cover 71 = .ok (.ireturn, 1) := by decide +kernel
set_option maxRecDepth 20000 in
theorem ggX9_ran_X4_has : GoodIn wsX9_ran wsX4_has := goodIn_r _ [7, 8, 50, 51, 52, 53, 54, 55, 56, 57] (by decide +kernel) (by decide +kernel)
set_option maxRecDepth 20000 in
theorem gX9_ran_X4_has : GoodIn wsX9_ran (wsV RX9 95 RX4 yX4_has wsX4_has) := goodIn_app (goodIn_of _ (by decide +kernel)) ggX9_ran_X4_has
set_option maxRecDepth 20000 in
theorem ggX9_ran_X9_areColours : GoodIn wsX9_ran wsX9_areColours := goodIn_r _ [12] (by decide +kernel) (by decide +kernel)
set_option maxRecDepth 20000 in
theorem gX9_ran_X9_areColours : GoodIn wsX9_ran (va_wsS RX9 172 yX9_areColours wsX9_areColours) := goodIn_app (goodIn_of _ (by decide +kernel)) ggX9_ran_X9_areColours
set_option maxRecDepth 20000 in
theorem ggX9_ran_X4_allBits : GoodIn wsX9_ran wsX4_allBits := goodIn_r _ [16, 8, 50, 51, 52, 53, 54, 55, 56, 57] (by decide +kernel) (by decide +kernel)
set_option maxRecDepth 20000 in
theorem gX9_ran_X4_allBits : GoodIn wsX9_ran (wsV RX9 175 RX4 yX4_allBits wsX4_allBits) := goodIn_app (goodIn_of _ (by decide +kernel)) ggX9_ran_X4_allBits
set_option maxRecDepth 20000 in
theorem ggX9_ran_X9_isWithin : GoodIn wsX9_ran wsX9_isWithin := goodIn_r _ [19] (by decide +kernel) (by decide +kernel)
set_option maxRecDepth 20000 in
theorem gX9_ran_X9_isWithin : GoodIn wsX9_ran (va_wsS RX9 161 yX9_isWithin wsX9_isWithin) := goodIn_app (goodIn_of _ (by decide +kernel)) ggX9_ran_X9_isWithin
set_option maxRecDepth 20000 in
theorem ggX9_ran_X8_coloursOf : GoodIn wsX9_ran wsX8_coloursOf := goodIn_r _ [24, 25, 26, 27, 58, 59, 60, 61, 62, 63, 50, 51, 52, 53, 54, 55, 56, 57] (by decide +kernel) (by decide +kernel)
set_option maxRecDepth 20000 in
theorem gX9_ran_X8_coloursOf : GoodIn wsX9_ran (wsV RX9 178 RX8 yX8_coloursOf wsX8_coloursOf) := goodIn_app (goodIn_of _ (by decide +kernel)) ggX9_ran_X8_coloursOf
set_option maxRecDepth 20000 in
theorem ggX9_ran_X9_isFewer : GoodIn wsX9_ran wsX9_isFewer := goodIn_r _ [30, 31, 32, 33, 34, 35, 36, 37] (by decide +kernel) (by decide +kernel)
set_option maxRecDepth 20000 in
theorem gX9_ran_X9_isFewer : GoodIn wsX9_ran (va_wsS RX9 169 yX9_isFewer wsX9_isFewer) := goodIn_app (goodIn_of _ (by decide +kernel)) ggX9_ran_X9_isFewer
theorem dX9_ran_0 : decode cX9_ran 0 = .ok (.aload_n 0, 1) := by decide +kernel
theorem dX9_ran_1 : decode cX9_ran 1 = .ok (.getfield 27, 3) := by decide +kernel
theorem dX9_ran_4 : decode cX9_ran 4 = .ok (.iload_n 1, 1) := by decide +kernel
theorem dX9_ran_5 : decode cX9_ran 5 = .ok (.invokevirtual 95, 3) := by decide +kernel
theorem dX9_ran_8 : decode cX9_ran 8 = .ok (.ifCond .ne 5, 3) := by decide +kernel
theorem dX9_ran_11 : decode cX9_ran 11 = .ok (.iconst (-1), 1) := by decide +kernel
theorem dX9_ran_12 : decode cX9_ran 12 = .ok (.ireturn, 1) := by decide +kernel
theorem dX9_ran_13 : decode cX9_ran 13 = .ok (.iload_n 2, 1) := by decide +kernel
theorem dX9_ran_14 : decode cX9_ran 14 = .ok (.invokestatic 172, 3) := by decide +kernel
theorem dX9_ran_17 : decode cX9_ran 17 = .ok (.ifCond .ne 6, 3) := by decide +kernel
theorem dX9_ran_20 : decode cX9_ran 20 = .ok (.bipush (-2), 2) := by decide +kernel
theorem dX9_ran_22 : decode cX9_ran 22 = .ok (.ireturn, 1) := by decide +kernel
theorem dX9_ran_23 : decode cX9_ran 23 = .ok (.aload_n 0, 1) := by decide +kernel
theorem dX9_ran_24 : decode cX9_ran 24 = .ok (.getfield 27, 3) := by decide +kernel
theorem dX9_ran_27 : decode cX9_ran 27 = .ok (.invokevirtual 175, 3) := by decide +kernel
theorem dX9_ran_30 : decode cX9_ran 30 = .ok (.iconst 1, 1) := by decide +kernel
theorem dX9_ran_31 : decode cX9_ran 31 = .ok (.iload_n 1, 1) := by decide +kernel
theorem dX9_ran_32 : decode cX9_ran 32 = .ok (.ishl, 1) := by decide +kernel
theorem dX9_ran_33 : decode cX9_ran 33 = .ok (.iconst (-1), 1) := by decide +kernel
theorem dX9_ran_34 : decode cX9_ran 34 = .ok (.ixor, 1) := by decide +kernel
theorem dX9_ran_35 : decode cX9_ran 35 = .ok (.iand, 1) := by decide +kernel
theorem dX9_ran_36 : decode cX9_ran 36 = .ok (.istore_n 3, 1) := by decide +kernel
theorem dX9_ran_37 : decode cX9_ran 37 = .ok (.bipush (-9), 2) := by decide +kernel
theorem dX9_ran_39 : decode cX9_ran 39 = .ok (.istore 4, 2) := by decide +kernel
theorem dX9_ran_41 : decode cX9_ran 41 = .ok (.iconst 0, 1) := by decide +kernel
theorem dX9_ran_42 : decode cX9_ran 42 = .ok (.istore 5, 2) := by decide +kernel
theorem dX9_ran_44 : decode cX9_ran 44 = .ok (.iload 5, 2) := by decide +kernel
theorem dX9_ran_46 : decode cX9_ran 46 = .ok (.bipush 31, 2) := by decide +kernel
theorem dX9_ran_48 : decode cX9_ran 48 = .ok (.if_icmp .gt 61, 3) := by decide +kernel
theorem dX9_ran_51 : decode cX9_ran 51 = .ok (.iload 5, 2) := by decide +kernel
theorem dX9_ran_53 : decode cX9_ran 53 = .ok (.iload_n 3, 1) := by decide +kernel
theorem dX9_ran_54 : decode cX9_ran 54 = .ok (.invokestatic 161, 3) := by decide +kernel
theorem dX9_ran_57 : decode cX9_ran 57 = .ok (.ifCond .eq 24, 3) := by decide +kernel
theorem dX9_ran_60 : decode cX9_ran 60 = .ok (.aload_n 0, 1) := by decide +kernel
theorem dX9_ran_61 : decode cX9_ran 61 = .ok (.getfield 36, 3) := by decide +kernel
theorem dX9_ran_64 : decode cX9_ran 64 = .ok (.iload 5, 2) := by decide +kernel
theorem dX9_ran_66 : decode cX9_ran 66 = .ok (.iconst 1, 1) := by decide +kernel
theorem dX9_ran_67 : decode cX9_ran 67 = .ok (.iload_n 1, 1) := by decide +kernel
theorem dX9_ran_68 : decode cX9_ran 68 = .ok (.ishl, 1) := by decide +kernel
theorem dX9_ran_69 : decode cX9_ran 69 = .ok (.ior, 1) := by decide +kernel
theorem dX9_ran_70 : decode cX9_ran 70 = .ok (.invokevirtual 178, 3) := by decide +kernel
theorem dX9_ran_73 : decode cX9_ran 73 = .ok (.iload_n 2, 1) := by decide +kernel
theorem dX9_ran_74 : decode cX9_ran 74 = .ok (.if_icmp .ne 7, 3) := by decide +kernel
theorem dX9_ran_77 : decode cX9_ran 77 = .ok (.iconst 1, 1) := by decide +kernel
theorem dX9_ran_78 : decode cX9_ran 78 = .ok (.goto 4, 3) := by decide +kernel
theorem dX9_ran_81 : decode cX9_ran 81 = .ok (.iconst 0, 1) := by decide +kernel
theorem dX9_ran_82 : decode cX9_ran 82 = .ok (.istore 6, 2) := by decide +kernel
theorem dX9_ran_84 : decode cX9_ran 84 = .ok (.iload 6, 2) := by decide +kernel
theorem dX9_ran_86 : decode cX9_ran 86 = .ok (.ifCond .eq 17, 3) := by decide +kernel
theorem dX9_ran_89 : decode cX9_ran 89 = .ok (.iload 5, 2) := by decide +kernel
theorem dX9_ran_91 : decode cX9_ran 91 = .ok (.iload 4, 2) := by decide +kernel
theorem dX9_ran_93 : decode cX9_ran 93 = .ok (.invokestatic 169, 3) := by decide +kernel
theorem dX9_ran_96 : decode cX9_ran 96 = .ok (.ifCond .eq 7, 3) := by decide +kernel
theorem dX9_ran_99 : decode cX9_ran 99 = .ok (.iload 5, 2) := by decide +kernel
theorem dX9_ran_101 : decode cX9_ran 101 = .ok (.istore 4, 2) := by decide +kernel
theorem dX9_ran_103 : decode cX9_ran 103 = .ok (.iinc 5 1, 3) := by decide +kernel
theorem dX9_ran_106 : decode cX9_ran 106 = .ok (.goto (-62), 3) := by decide +kernel
theorem dX9_ran_109 : decode cX9_ran 109 = .ok (.iload 4, 2) := by decide +kernel
theorem dX9_ran_111 : decode cX9_ran 111 = .ok (.ireturn, 1) := by decide +kernel
set_option maxRecDepth 20000 in
theorem ggX9_judge_X9_withoutLastFigures : GoodIn wsX9_judge wsX9_withoutLastFigures := goodIn_r _ [6] (by decide +kernel) (by decide +kernel)
set_option maxRecDepth 20000 in
theorem gX9_judge_X9_withoutLastFigures : GoodIn wsX9_judge (va_wsS RX9 181 yX9_withoutLastFigures wsX9_withoutLastFigures) := goodIn_app (goodIn_of _ (by decide +kernel)) ggX9_judge_X9_withoutLastFigures
set_option maxRecDepth 20000 in
theorem ggX9_judge_X8_copyFrom : GoodIn wsX9_judge wsX8_copyFrom := goodIn_r _ [11, 12, 13, 14, 15, 16, 17, 18, 19, 20, 112, 113, 114, 115, 116, 117] (by decide +kernel) (by decide +kernel)
set_option maxRecDepth 20000 in
theorem gX9_judge_X8_copyFrom : GoodIn wsX9_judge (wsV RX9 185 RX8 yX8_copyFrom wsX8_copyFrom) := goodIn_app (goodIn_of _ (by decide +kernel)) ggX9_judge_X8_copyFrom
set_option maxRecDepth 20000 in
theorem ggX9_judge_X8_doFigure : GoodIn wsX9_judge wsX8_doFigure := goodIn_r _ [24, 25, 26, 27, 10, 28, 20, 29, 30, 31, 32, 33, 34, 12, 17, 19, 35, 36, 37, 38, 39, 40, 41, 42, 43, 44, 45, 46, 47, 48, 49, 18, 50, 51, 52, 53, 54, 55, 56, 57, 58, 59, 60, 61, 62, 63, 64, 65, 66, 67, 68, 69, 70, 71, 72, 73, 74, 75, 76, 77, 78, 79, 80, 81, 82, 83, 84, 85, 86, 87, 88, 89, 90, 91, 92, 93, 94, 95, 96, 97, 98, 99, 112, 113, 114, 115, 116, 117, 118, 119, 120, 121, 122, 123, 124, 125] (by decide +kernel) (by decide +kernel)
set_option maxRecDepth 20000 in
theorem gX9_judge_X8_doFigure : GoodIn wsX9_judge (wsV RX9 187 RX8 yX8_doFigure wsX8_doFigure) := goodIn_app (goodIn_of _ (by decide +kernel)) ggX9_judge_X8_doFigure
theorem dX9_judge_0 : decode cX9_judge 0 = .ok (.iload_n 1, 1) := by decide +kernel
theorem dX9_judge_1 : decode cX9_judge 1 = .ok (.iconst 1, 1) := by decide +kernel
theorem dX9_judge_2 : decode cX9_judge 2 = .ok (.if_icmp .lt 21, 3) := by decide +kernel
theorem dX9_judge_5 : decode cX9_judge 5 = .ok (.iload_n 1, 1) := by decide +kernel
theorem dX9_judge_6 : decode cX9_judge 6 = .ok (.bipush 6, 2) := by decide +kernel
theorem dX9_judge_8 : decode cX9_judge 8 = .ok (.if_icmp .gt 15, 3) := by decide +kernel
theorem dX9_judge_11 : decode cX9_judge 11 = .ok (.iload_n 2, 1) := by decide +kernel
theorem dX9_judge_12 : decode cX9_judge 12 = .ok (.ifCond .lt 11, 3) := by decide +kernel
theorem dX9_judge_15 : decode cX9_judge 15 = .ok (.iload_n 2, 1) := by decide +kernel
theorem dX9_judge_16 : decode cX9_judge 16 = .ok (.iload_n 1, 1) := by decide +kernel
theorem dX9_judge_17 : decode cX9_judge 17 = .ok (.invokestatic 181, 3) := by decide +kernel
theorem dX9_judge_20 : decode cX9_judge 20 = .ok (.ifCond .eq 6, 3) := by decide +kernel
theorem dX9_judge_23 : decode cX9_judge 23 = .ok (.bipush (-2), 2) := by decide +kernel
theorem dX9_judge_25 : decode cX9_judge 25 = .ok (.ireturn, 1) := by decide +kernel
theorem dX9_judge_26 : decode cX9_judge 26 = .ok (.aload_n 0, 1) := by decide +kernel
theorem dX9_judge_27 : decode cX9_judge 27 = .ok (.getfield 40, 3) := by decide +kernel
theorem dX9_judge_30 : decode cX9_judge 30 = .ok (.aload_n 0, 1) := by decide +kernel
theorem dX9_judge_31 : decode cX9_judge 31 = .ok (.getfield 36, 3) := by decide +kernel
theorem dX9_judge_34 : decode cX9_judge 34 = .ok (.invokevirtual 185, 3) := by decide +kernel
theorem dX9_judge_37 : decode cX9_judge 37 = .ok (.iconst 0, 1) := by decide +kernel
theorem dX9_judge_38 : decode cX9_judge 38 = .ok (.istore_n 3, 1) := by decide +kernel
theorem dX9_judge_39 : decode cX9_judge 39 = .ok (.iload_n 3, 1) := by decide +kernel
theorem dX9_judge_40 : decode cX9_judge 40 = .ok (.iload_n 1, 1) := by decide +kernel
theorem dX9_judge_41 : decode cX9_judge 41 = .ok (.if_icmp .ge 37, 3) := by decide +kernel
theorem dX9_judge_44 : decode cX9_judge 44 = .ok (.iload_n 2, 1) := by decide +kernel
theorem dX9_judge_45 : decode cX9_judge 45 = .ok (.iload_n 1, 1) := by decide +kernel
theorem dX9_judge_46 : decode cX9_judge 46 = .ok (.iconst 1, 1) := by decide +kernel
theorem dX9_judge_47 : decode cX9_judge 47 = .ok (.isub, 1) := by decide +kernel
theorem dX9_judge_48 : decode cX9_judge 48 = .ok (.iload_n 3, 1) := by decide +kernel
theorem dX9_judge_49 : decode cX9_judge 49 = .ok (.isub, 1) := by decide +kernel
theorem dX9_judge_50 : decode cX9_judge 50 = .ok (.invokestatic 181, 3) := by decide +kernel
theorem dX9_judge_53 : decode cX9_judge 53 = .ok (.bipush 10, 2) := by decide +kernel
theorem dX9_judge_55 : decode cX9_judge 55 = .ok (.irem, 1) := by decide +kernel
theorem dX9_judge_56 : decode cX9_judge 56 = .ok (.istore 4, 2) := by decide +kernel
theorem dX9_judge_58 : decode cX9_judge 58 = .ok (.aload_n 0, 1) := by decide +kernel
theorem dX9_judge_59 : decode cX9_judge 59 = .ok (.getfield 40, 3) := by decide +kernel
theorem dX9_judge_62 : decode cX9_judge 62 = .ok (.iload 4, 2) := by decide +kernel
theorem dX9_judge_64 : decode cX9_judge 64 = .ok (.invokevirtual 187, 3) := by decide +kernel
theorem dX9_judge_67 : decode cX9_judge 67 = .ok (.ifCond .ne 5, 3) := by decide +kernel
theorem dX9_judge_70 : decode cX9_judge 70 = .ok (.iload_n 3, 1) := by decide +kernel
theorem dX9_judge_71 : decode cX9_judge 71 = .ok (.ireturn, 1) := by decide +kernel
theorem dX9_judge_72 : decode cX9_judge 72 = .ok (.iinc 3 1, 3) := by decide +kernel
theorem dX9_judge_75 : decode cX9_judge 75 = .ok (.goto (-36), 3) := by decide +kernel
theorem dX9_judge_78 : decode cX9_judge 78 = .ok (.bipush (-9), 2) := by decide +kernel
theorem dX9_judge_80 : decode cX9_judge 80 = .ok (.ireturn, 1) := by decide +kernel
set_option maxRecDepth 20000 in
theorem ggX9_see_X4_has : GoodIn wsX9_see wsX4_has := goodIn_r _ [8, 9, 42, 43, 44, 45, 46, 47, 48, 49] (by decide +kernel) (by decide +kernel)
set_option maxRecDepth 20000 in
theorem gX9_see_X4_has : GoodIn wsX9_see (wsV RX9 95 RX4 yX4_has wsX4_has) := goodIn_app (goodIn_of _ (by decide +kernel)) ggX9_see_X4_has
set_option maxRecDepth 20000 in
theorem ggX9_see_X9_areColours : GoodIn wsX9_see wsX9_areColours := goodIn_r _ [13] (by decide +kernel) (by decide +kernel)
set_option maxRecDepth 20000 in
theorem gX9_see_X9_areColours : GoodIn wsX9_see (va_wsS RX9 172 yX9_areColours wsX9_areColours) := goodIn_app (goodIn_of _ (by decide +kernel)) ggX9_see_X9_areColours
set_option maxRecDepth 20000 in
theorem ggX9_see_X9_isWithin : GoodIn wsX9_see wsX9_isWithin := goodIn_r _ [16] (by decide +kernel) (by decide +kernel)
set_option maxRecDepth 20000 in
theorem gX9_see_X9_isWithin : GoodIn wsX9_see (va_wsS RX9 161 yX9_isWithin wsX9_isWithin) := goodIn_app (goodIn_of _ (by decide +kernel)) ggX9_see_X9_isWithin
set_option maxRecDepth 20000 in
theorem ggX9_see_X7_add : GoodIn wsX9_see wsX7_add := goodIn_r _ [21, 22, 23, 24, 25, 38, 39, 40, 41] (by decide +kernel) (by decide +kernel)
set_option maxRecDepth 20000 in
theorem gX9_see_X7_add : GoodIn wsX9_see (wsV RX9 190 RX7 yX7_add wsX7_add) := goodIn_app (goodIn_of _ (by decide +kernel)) ggX9_see_X7_add
theorem dX9_see_0 : decode cX9_see 0 = .ok (.aload_n 0, 1) := by decide +kernel
theorem dX9_see_1 : decode cX9_see 1 = .ok (.getfield 27, 3) := by decide +kernel
theorem dX9_see_4 : decode cX9_see 4 = .ok (.iload_n 1, 1) := by decide +kernel
theorem dX9_see_5 : decode cX9_see 5 = .ok (.invokevirtual 95, 3) := by decide +kernel
theorem dX9_see_8 : decode cX9_see 8 = .ok (.ifCond .ne 5, 3) := by decide +kernel
theorem dX9_see_11 : decode cX9_see 11 = .ok (.iconst (-1), 1) := by decide +kernel
theorem dX9_see_12 : decode cX9_see 12 = .ok (.ireturn, 1) := by decide +kernel
theorem dX9_see_13 : decode cX9_see 13 = .ok (.iload_n 2, 1) := by decide +kernel
theorem dX9_see_14 : decode cX9_see 14 = .ok (.invokestatic 172, 3) := by decide +kernel
theorem dX9_see_17 : decode cX9_see 17 = .ok (.ifCond .eq 18, 3) := by decide +kernel
theorem dX9_see_20 : decode cX9_see 20 = .ok (.iload_n 3, 1) := by decide +kernel
theorem dX9_see_21 : decode cX9_see 21 = .ok (.bipush 31, 2) := by decide +kernel
theorem dX9_see_23 : decode cX9_see 23 = .ok (.iconst 1, 1) := by decide +kernel
theorem dX9_see_24 : decode cX9_see 24 = .ok (.iload_n 1, 1) := by decide +kernel
theorem dX9_see_25 : decode cX9_see 25 = .ok (.ishl, 1) := by decide +kernel
theorem dX9_see_26 : decode cX9_see 26 = .ok (.iconst (-1), 1) := by decide +kernel
theorem dX9_see_27 : decode cX9_see 27 = .ok (.ixor, 1) := by decide +kernel
theorem dX9_see_28 : decode cX9_see 28 = .ok (.iand, 1) := by decide +kernel
theorem dX9_see_29 : decode cX9_see 29 = .ok (.invokestatic 161, 3) := by decide +kernel
theorem dX9_see_32 : decode cX9_see 32 = .ok (.ifCond .ne 6, 3) := by decide +kernel
theorem dX9_see_35 : decode cX9_see 35 = .ok (.bipush (-2), 2) := by decide +kernel
theorem dX9_see_37 : decode cX9_see 37 = .ok (.ireturn, 1) := by decide +kernel
theorem dX9_see_38 : decode cX9_see 38 = .ok (.aload_n 0, 1) := by decide +kernel
theorem dX9_see_39 : decode cX9_see 39 = .ok (.getfield 62, 3) := by decide +kernel
theorem dX9_see_42 : decode cX9_see 42 = .ok (.iload_n 1, 1) := by decide +kernel
theorem dX9_see_43 : decode cX9_see 43 = .ok (.iload_n 2, 1) := by decide +kernel
theorem dX9_see_44 : decode cX9_see 44 = .ok (.iload_n 3, 1) := by decide +kernel
theorem dX9_see_45 : decode cX9_see 45 = .ok (.invokevirtual 190, 3) := by decide +kernel
theorem dX9_see_48 : decode cX9_see 48 = .ok (.ifCond .eq 13, 3) := by decide +kernel
theorem dX9_see_51 : decode cX9_see 51 = .ok (.aload_n 0, 1) := by decide +kernel
theorem dX9_see_52 : decode cX9_see 52 = .ok (.getfield 62, 3) := by decide +kernel
theorem dX9_see_55 : decode cX9_see 55 = .ok (.getfield 194, 3) := by decide +kernel
theorem dX9_see_58 : decode cX9_see 58 = .ok (.goto 5, 3) := by decide +kernel
theorem dX9_see_61 : decode cX9_see 61 = .ok (.bipush (-4), 2) := by decide +kernel
theorem dX9_see_63 : decode cX9_see 63 = .ok (.ireturn, 1) := by decide +kernel
set_option maxRecDepth 20000 in
theorem ggX9_unsee_X7_forgetAll : GoodIn wsX9_unsee wsX7_forgetAll := goodIn_r _ [7, 8, 21, 22, 23, 24] (by decide +kernel) (by decide +kernel)
set_option maxRecDepth 20000 in
theorem gX9_unsee_X7_forgetAll : GoodIn wsX9_unsee (wsV RX9 195 RX7 yX7_forgetAll wsX7_forgetAll) := goodIn_app (goodIn_of _ (by decide +kernel)) ggX9_unsee_X7_forgetAll
theorem dX9_unsee_0 : decode cX9_unsee 0 = .ok (.aload_n 0, 1) := by decide +kernel
theorem dX9_unsee_1 : decode cX9_unsee 1 = .ok (.getfield 62, 3) := by decide +kernel
theorem dX9_unsee_4 : decode cX9_unsee 4 = .ok (.getfield 194, 3) := by decide +kernel
theorem dX9_unsee_7 : decode cX9_unsee 7 = .ok (.istore_n 1, 1) := by decide +kernel
theorem dX9_unsee_8 : decode cX9_unsee 8 = .ok (.aload_n 0, 1) := by decide +kernel
theorem dX9_unsee_9 : decode cX9_unsee 9 = .ok (.getfield 62, 3) := by decide +kernel
theorem dX9_unsee_12 : decode cX9_unsee 12 = .ok (.invokevirtual 195, 3) := by decide +kernel
theorem dX9_unsee_15 : decode cX9_unsee 15 = .ok (.iload_n 1, 1) := by decide +kernel
theorem dX9_unsee_16 : decode cX9_unsee 16 = .ok (.ireturn, 1) := by decide +kernel
set_option maxRecDepth 20000 in
theorem ggX9_had_X4_has : GoodIn wsX9_had wsX4_has := goodIn_r _ [8, 9, 59, 60, 61, 62, 63, 64, 65, 66] (by decide +kernel) (by decide +kernel)
set_option maxRecDepth 20000 in
theorem gX9_had_X4_has : GoodIn wsX9_had (wsV RX9 95 RX4 yX4_has wsX4_has) := goodIn_app (goodIn_of _ (by decide +kernel)) ggX9_had_X4_has
set_option maxRecDepth 20000 in
theorem ggX9_had_X7_howManySets : GoodIn wsX9_had wsX7_howManySets := goodIn_r _ [14, 15, 16, 17, 13, 18, 19, 20, 21, 22, 23, 24, 25, 26, 7, 27, 9, 28, 29, 30, 31, 32, 33, 34, 35, 36, 37, 38, 67, 68, 69, 70, 71, 72, 73, 74, 75, 76, 59, 60, 61, 62, 63, 64, 65, 66] (by decide +kernel) (by decide +kernel)
set_option maxRecDepth 20000 in
theorem gX9_had_X7_howManySets : GoodIn wsX9_had (wsV RX9 196 RX7 yX7_howManySets wsX7_howManySets) := goodIn_app (goodIn_of _ (by decide +kernel)) ggX9_had_X7_howManySets
set_option maxRecDepth 20000 in
theorem ggX9_had_X7_coloursInAll : GoodIn wsX9_had wsX7_coloursInAll := goodIn_r _ [42, 15, 16, 17, 13, 18, 19, 20, 21, 22, 23, 24, 25, 26, 7, 27, 9, 28, 29, 30, 31, 32, 33, 34, 35, 36, 37, 38, 67, 68, 69, 70, 71, 72, 73, 74, 75, 76, 59, 60, 61, 62, 63, 64, 65, 66] (by decide +kernel) (by decide +kernel)
set_option maxRecDepth 20000 in
theorem gX9_had_X7_coloursInAll : GoodIn wsX9_had (wsV RX9 200 RX7 yX7_coloursInAll wsX7_coloursInAll) := goodIn_app (goodIn_of _ (by decide +kernel)) ggX9_had_X7_coloursInAll
set_option maxRecDepth 20000 in
theorem ggX9_had_X7_coloursInNone : GoodIn wsX9_had wsX7_coloursInNone := goodIn_r _ [46, 15, 16, 17, 13, 18, 19, 20, 21, 22, 23, 24, 25, 26, 7, 27, 9, 28, 29, 30, 31, 32, 33, 34, 35, 36, 37, 38, 67, 68, 69, 70, 71, 72, 73, 74, 75, 76, 59, 60, 61, 62, 63, 64, 65, 66] (by decide +kernel) (by decide +kernel)
set_option maxRecDepth 20000 in
theorem gX9_had_X7_coloursInNone : GoodIn wsX9_had (wsV RX9 203 RX7 yX7_coloursInNone wsX7_coloursInNone) := goodIn_app (goodIn_of _ (by decide +kernel)) ggX9_had_X7_coloursInNone
theorem dX9_had_0 : decode cX9_had 0 = .ok (.aload_n 0, 1) := by decide +kernel
theorem dX9_had_1 : decode cX9_had 1 = .ok (.getfield 27, 3) := by decide +kernel
theorem dX9_had_4 : decode cX9_had 4 = .ok (.iload_n 1, 1) := by decide +kernel
theorem dX9_had_5 : decode cX9_had 5 = .ok (.invokevirtual 95, 3) := by decide +kernel
theorem dX9_had_8 : decode cX9_had 8 = .ok (.ifCond .ne 5, 3) := by decide +kernel
theorem dX9_had_11 : decode cX9_had 11 = .ok (.iconst (-1), 1) := by decide +kernel
theorem dX9_had_12 : decode cX9_had 12 = .ok (.ireturn, 1) := by decide +kernel
theorem dX9_had_13 : decode cX9_had 13 = .ok (.iload_n 2, 1) := by decide +kernel
theorem dX9_had_14 : decode cX9_had 14 = .ok (.tableswitch 65 0 2 #[26, 39, 52], 26) := by decide +kernel
theorem dX9_had_40 : decode cX9_had 40 = .ok (.aload_n 0, 1) := by decide +kernel
theorem dX9_had_41 : decode cX9_had 41 = .ok (.getfield 62, 3) := by decide +kernel
theorem dX9_had_44 : decode cX9_had 44 = .ok (.iload_n 1, 1) := by decide +kernel
theorem dX9_had_45 : decode cX9_had 45 = .ok (.aload_n 0, 1) := by decide +kernel
theorem dX9_had_46 : decode cX9_had 46 = .ok (.getfield 36, 3) := by decide +kernel
theorem dX9_had_49 : decode cX9_had 49 = .ok (.invokevirtual 196, 3) := by decide +kernel
theorem dX9_had_52 : decode cX9_had 52 = .ok (.ireturn, 1) := by decide +kernel
theorem dX9_had_53 : decode cX9_had 53 = .ok (.aload_n 0, 1) := by decide +kernel
theorem dX9_had_54 : decode cX9_had 54 = .ok (.getfield 62, 3) := by decide +kernel
theorem dX9_had_57 : decode cX9_had 57 = .ok (.iload_n 1, 1) := by decide +kernel
theorem dX9_had_58 : decode cX9_had 58 = .ok (.aload_n 0, 1) := by decide +kernel
theorem dX9_had_59 : decode cX9_had 59 = .ok (.getfield 36, 3) := by decide +kernel
theorem dX9_had_62 : decode cX9_had 62 = .ok (.invokevirtual 200, 3) := by decide +kernel
theorem dX9_had_65 : decode cX9_had 65 = .ok (.ireturn, 1) := by decide +kernel
theorem dX9_had_66 : decode cX9_had 66 = .ok (.aload_n 0, 1) := by decide +kernel
theorem dX9_had_67 : decode cX9_had 67 = .ok (.getfield 62, 3) := by decide +kernel
theorem dX9_had_70 : decode cX9_had 70 = .ok (.iload_n 1, 1) := by decide +kernel
theorem dX9_had_71 : decode cX9_had 71 = .ok (.aload_n 0, 1) := by decide +kernel
theorem dX9_had_72 : decode cX9_had 72 = .ok (.getfield 36, 3) := by decide +kernel
theorem dX9_had_75 : decode cX9_had 75 = .ok (.invokevirtual 203, 3) := by decide +kernel
theorem dX9_had_78 : decode cX9_had 78 = .ok (.ireturn, 1) := by decide +kernel
theorem dX9_had_79 : decode cX9_had 79 = .ok (.bipush (-2), 2) := by decide +kernel
theorem dX9_had_81 : decode cX9_had 81 = .ok (.ireturn, 1) := by decide +kernel
set_option maxRecDepth 20000 in
theorem ggX9_share_X4_has : GoodIn wsX9_share wsX4_has := goodIn_r _ [7, 8, 55, 56, 57, 58, 59, 60, 61, 62] (by decide +kernel) (by decide +kernel)
set_option maxRecDepth 20000 in
theorem gX9_share_X4_has : GoodIn wsX9_share (wsV RX9 95 RX4 yX4_has wsX4_has) := goodIn_app (goodIn_of _ (by decide +kernel)) ggX9_share_X4_has
set_option maxRecDepth 20000 in
theorem ggX9_share_X6_gainInAllOrders : GoodIn wsX9_share wsX6_gainInAllOrders := goodIn_r _ [12, 13, 14, 15, 16, 6, 17, 8, 18, 19, 20, 21, 22, 23, 24, 25, 26, 27, 28, 29, 11, 30, 31, 32, 33, 34, 35, 55, 56, 57, 58, 59, 60, 61, 62] (by decide +kernel) (by decide +kernel)
set_option maxRecDepth 20000 in
theorem gX9_share_X6_gainInAllOrders : GoodIn wsX9_share (va_wsS RX9 206 yX6_gainInAllOrders wsX6_gainInAllOrders) := goodIn_app (goodIn_of _ (by decide +kernel)) ggX9_share_X6_gainInAllOrders
set_option maxRecDepth 20000 in
theorem ggX9_share_X6_orders : GoodIn wsX9_share wsX6_orders := goodIn_r _ [34, 35] (by decide +kernel) (by decide +kernel)
set_option maxRecDepth 20000 in
theorem gX9_share_X6_orders : GoodIn wsX9_share (va_wsS RX9 212 yX6_orders wsX6_orders) := goodIn_app (goodIn_of _ (by decide +kernel)) ggX9_share_X6_orders
set_option maxRecDepth 20000 in
theorem ggX9_share_X9_toldFraction : GoodIn wsX9_share wsX9_toldFraction := goodIn_r _ [39, 40, 41, 19, 42] (by decide +kernel) (by decide +kernel)
set_option maxRecDepth 20000 in
theorem gX9_share_X9_toldFraction : GoodIn wsX9_share (va_wsS RX9 215 yX9_toldFraction wsX9_toldFraction) := goodIn_app (goodIn_of _ (by decide +kernel)) ggX9_share_X9_toldFraction
theorem dX9_share_0 : decode cX9_share 0 = .ok (.aload_n 0, 1) := by decide +kernel
theorem dX9_share_1 : decode cX9_share 1 = .ok (.getfield 27, 3) := by decide +kernel
theorem dX9_share_4 : decode cX9_share 4 = .ok (.iload_n 1, 1) := by decide +kernel
theorem dX9_share_5 : decode cX9_share 5 = .ok (.invokevirtual 95, 3) := by decide +kernel
theorem dX9_share_8 : decode cX9_share 8 = .ok (.ifCond .ne 5, 3) := by decide +kernel
theorem dX9_share_11 : decode cX9_share 11 = .ok (.iconst (-1), 1) := by decide +kernel
theorem dX9_share_12 : decode cX9_share 12 = .ok (.ireturn, 1) := by decide +kernel
theorem dX9_share_13 : decode cX9_share 13 = .ok (.aload_n 0, 1) := by decide +kernel
theorem dX9_share_14 : decode cX9_share 14 = .ok (.getfield 27, 3) := by decide +kernel
theorem dX9_share_17 : decode cX9_share 17 = .ok (.iload_n 1, 1) := by decide +kernel
theorem dX9_share_18 : decode cX9_share 18 = .ok (.invokestatic 206, 3) := by decide +kernel
theorem dX9_share_21 : decode cX9_share 21 = .ok (.aload_n 0, 1) := by decide +kernel
theorem dX9_share_22 : decode cX9_share 22 = .ok (.getfield 27, 3) := by decide +kernel
theorem dX9_share_25 : decode cX9_share 25 = .ok (.getfield 92, 3) := by decide +kernel
theorem dX9_share_28 : decode cX9_share 28 = .ok (.invokestatic 212, 3) := by decide +kernel
theorem dX9_share_31 : decode cX9_share 31 = .ok (.iload_n 2, 1) := by decide +kernel
theorem dX9_share_32 : decode cX9_share 32 = .ok (.invokestatic 215, 3) := by decide +kernel
theorem dX9_share_35 : decode cX9_share 35 = .ok (.ireturn, 1) := by decide +kernel
set_option maxRecDepth 20000 in
theorem ggX9_rests_X4_has : GoodIn wsX9_rests wsX4_has := goodIn_r _ [6, 7, 41, 42, 43, 44, 45, 46, 47, 48] (by decide +kernel) (by decide +kernel)
set_option maxRecDepth 20000 in
theorem gX9_rests_X4_has : GoodIn wsX9_rests (wsV RX9 95 RX4 yX4_has wsX4_has) := goodIn_app (goodIn_of _ (by decide +kernel)) ggX9_rests_X4_has
set_option maxRecDepth 20000 in
theorem ggX9_rests_X3_howManyRests : GoodIn wsX9_rests wsX3_howManyRests := goodIn_r _ [11, 12, 13, 10, 14, 15, 16, 17, 18, 19, 3, 4, 5, 6, 7, 20, 21, 22, 23, 24, 25, 41, 42, 43, 44, 45, 46, 47, 48] (by decide +kernel) (by decide +kernel)
set_option maxRecDepth 20000 in
theorem gX9_rests_X3_howManyRests : GoodIn wsX9_rests (va_wsS RX9 219 yX3_howManyRests wsX3_howManyRests) := goodIn_app (goodIn_of _ (by decide +kernel)) ggX9_rests_X3_howManyRests
set_option maxRecDepth 20000 in
theorem ggX9_rests_X3_firstRest : GoodIn wsX9_rests wsX3_firstRest := goodIn_r _ [28, 12, 13, 10, 14, 15, 16, 17, 18, 19, 3, 4, 5, 6, 7, 20, 21, 22, 23, 24, 25, 41, 42, 43, 44, 45, 46, 47, 48] (by decide +kernel) (by decide +kernel)
set_option maxRecDepth 20000 in
theorem gX9_rests_X3_firstRest : GoodIn wsX9_rests (va_wsS RX9 225 yX3_firstRest wsX3_firstRest) := goodIn_app (goodIn_of _ (by decide +kernel)) ggX9_rests_X3_firstRest
theorem dX9_rests_0 : decode cX9_rests 0 = .ok (.aload_n 0, 1) := by decide +kernel
theorem dX9_rests_1 : decode cX9_rests 1 = .ok (.getfield 27, 3) := by decide +kernel
theorem dX9_rests_4 : decode cX9_rests 4 = .ok (.iload_n 1, 1) := by decide +kernel
theorem dX9_rests_5 : decode cX9_rests 5 = .ok (.invokevirtual 95, 3) := by decide +kernel
theorem dX9_rests_8 : decode cX9_rests 8 = .ok (.ifCond .eq 14, 3) := by decide +kernel
theorem dX9_rests_11 : decode cX9_rests 11 = .ok (.aload_n 0, 1) := by decide +kernel
theorem dX9_rests_12 : decode cX9_rests 12 = .ok (.getfield 27, 3) := by decide +kernel
theorem dX9_rests_15 : decode cX9_rests 15 = .ok (.iload_n 2, 1) := by decide +kernel
theorem dX9_rests_16 : decode cX9_rests 16 = .ok (.invokevirtual 95, 3) := by decide +kernel
theorem dX9_rests_19 : decode cX9_rests 19 = .ok (.ifCond .ne 5, 3) := by decide +kernel
theorem dX9_rests_22 : decode cX9_rests 22 = .ok (.iconst (-1), 1) := by decide +kernel
theorem dX9_rests_23 : decode cX9_rests 23 = .ok (.ireturn, 1) := by decide +kernel
theorem dX9_rests_24 : decode cX9_rests 24 = .ok (.iload_n 1, 1) := by decide +kernel
theorem dX9_rests_25 : decode cX9_rests 25 = .ok (.iload_n 2, 1) := by decide +kernel
theorem dX9_rests_26 : decode cX9_rests 26 = .ok (.if_icmp .ne 6, 3) := by decide +kernel
theorem dX9_rests_29 : decode cX9_rests 29 = .ok (.bipush (-2), 2) := by decide +kernel
theorem dX9_rests_31 : decode cX9_rests 31 = .ok (.ireturn, 1) := by decide +kernel
theorem dX9_rests_32 : decode cX9_rests 32 = .ok (.iload_n 3, 1) := by decide +kernel
theorem dX9_rests_33 : decode cX9_rests 33 = .ok (.lookupswitch 47 #[(0, 27), (1, 37)], 27) := by decide +kernel
theorem dX9_rests_60 : decode cX9_rests 60 = .ok (.aload_n 0, 1) := by decide +kernel
theorem dX9_rests_61 : decode cX9_rests 61 = .ok (.getfield 27, 3) := by decide +kernel
theorem dX9_rests_64 : decode cX9_rests 64 = .ok (.iload_n 1, 1) := by decide +kernel
theorem dX9_rests_65 : decode cX9_rests 65 = .ok (.iload_n 2, 1) := by decide +kernel
theorem dX9_rests_66 : decode cX9_rests 66 = .ok (.invokestatic 219, 3) := by decide +kernel
theorem dX9_rests_69 : decode cX9_rests 69 = .ok (.ireturn, 1) := by decide +kernel
theorem dX9_rests_70 : decode cX9_rests 70 = .ok (.aload_n 0, 1) := by decide +kernel
theorem dX9_rests_71 : decode cX9_rests 71 = .ok (.getfield 27, 3) := by decide +kernel
theorem dX9_rests_74 : decode cX9_rests 74 = .ok (.iload_n 1, 1) := by decide +kernel
theorem dX9_rests_75 : decode cX9_rests 75 = .ok (.iload_n 2, 1) := by decide +kernel
theorem dX9_rests_76 : decode cX9_rests 76 = .ok (.invokestatic 225, 3) := by decide +kernel
theorem dX9_rests_79 : decode cX9_rests 79 = .ok (.ireturn, 1) := by decide +kernel
theorem dX9_rests_80 : decode cX9_rests 80 = .ok (.bipush (-2), 2) := by decide +kernel
theorem dX9_rests_82 : decode cX9_rests 82 = .ok (.ireturn, 1) := by decide +kernel
set_option maxRecDepth 20000 in
theorem ggX9_dry_X4_has : GoodIn wsX9_dry wsX4_has := goodIn_r _ [9, 10, 47, 48, 49, 50, 51, 52, 53, 54] (by decide +kernel) (by decide +kernel)
set_option maxRecDepth 20000 in
theorem gX9_dry_X4_has : GoodIn wsX9_dry (wsV RX9 95 RX4 yX4_has wsX4_has) := goodIn_app (goodIn_of _ (by decide +kernel)) ggX9_dry_X4_has
set_option maxRecDepth 20000 in
theorem ggX9_dry_X1_waysToDry : GoodIn wsX9_dry wsX1_waysToDry := goodIn_r _ [14, 15, 16, 13, 17, 18, 19, 20] (by decide +kernel) (by decide +kernel)
set_option maxRecDepth 20000 in
theorem gX9_dry_X1_waysToDry : GoodIn wsX9_dry (va_wsS RX9 228 yX1_waysToDry wsX1_waysToDry) := goodIn_app (goodIn_of _ (by decide +kernel)) ggX9_dry_X1_waysToDry
set_option maxRecDepth 20000 in
theorem ggX9_dry_X1_power : GoodIn wsX9_dry wsX1_power := goodIn_r _ [20] (by decide +kernel) (by decide +kernel)
set_option maxRecDepth 20000 in
theorem gX9_dry_X1_power : GoodIn wsX9_dry (va_wsS RX9 234 yX1_power wsX1_power) := goodIn_app (goodIn_of _ (by decide +kernel)) ggX9_dry_X1_power
set_option maxRecDepth 20000 in
theorem ggX9_dry_X9_toldFraction : GoodIn wsX9_dry wsX9_toldFraction := goodIn_r _ [25, 26, 27, 24, 28] (by decide +kernel) (by decide +kernel)
set_option maxRecDepth 20000 in
theorem gX9_dry_X9_toldFraction : GoodIn wsX9_dry (va_wsS RX9 215 yX9_toldFraction wsX9_toldFraction) := goodIn_app (goodIn_of _ (by decide +kernel)) ggX9_dry_X9_toldFraction
theorem dX9_dry_0 : decode cX9_dry 0 = .ok (.aload_n 0, 1) := by decide +kernel
theorem dX9_dry_1 : decode cX9_dry 1 = .ok (.getfield 27, 3) := by decide +kernel
theorem dX9_dry_4 : decode cX9_dry 4 = .ok (.iload_n 1, 1) := by decide +kernel
theorem dX9_dry_5 : decode cX9_dry 5 = .ok (.invokevirtual 95, 3) := by decide +kernel
theorem dX9_dry_8 : decode cX9_dry 8 = .ok (.ifCond .ne 5, 3) := by decide +kernel
theorem dX9_dry_11 : decode cX9_dry 11 = .ok (.iconst (-1), 1) := by decide +kernel
theorem dX9_dry_12 : decode cX9_dry 12 = .ok (.ireturn, 1) := by decide +kernel
theorem dX9_dry_13 : decode cX9_dry 13 = .ok (.iload_n 2, 1) := by decide +kernel
theorem dX9_dry_14 : decode cX9_dry 14 = .ok (.iconst 1, 1) := by decide +kernel
theorem dX9_dry_15 : decode cX9_dry 15 = .ok (.if_icmp .lt 19, 3) := by decide +kernel
theorem dX9_dry_18 : decode cX9_dry 18 = .ok (.iload_n 2, 1) := by decide +kernel
theorem dX9_dry_19 : decode cX9_dry 19 = .ok (.bipush 6, 2) := by decide +kernel
theorem dX9_dry_21 : decode cX9_dry 21 = .ok (.if_icmp .gt 13, 3) := by decide +kernel
theorem dX9_dry_24 : decode cX9_dry 24 = .ok (.iload_n 3, 1) := by decide +kernel
theorem dX9_dry_25 : decode cX9_dry 25 = .ok (.ifCond .lt 9, 3) := by decide +kernel
theorem dX9_dry_28 : decode cX9_dry 28 = .ok (.iload_n 3, 1) := by decide +kernel
theorem dX9_dry_29 : decode cX9_dry 29 = .ok (.bipush 10, 2) := by decide +kernel
theorem dX9_dry_31 : decode cX9_dry 31 = .ok (.if_icmp .le 6, 3) := by decide +kernel
theorem dX9_dry_34 : decode cX9_dry 34 = .ok (.bipush (-2), 2) := by decide +kernel
theorem dX9_dry_36 : decode cX9_dry 36 = .ok (.ireturn, 1) := by decide +kernel
theorem dX9_dry_37 : decode cX9_dry 37 = .ok (.aload_n 0, 1) := by decide +kernel
theorem dX9_dry_38 : decode cX9_dry 38 = .ok (.getfield 36, 3) := by decide +kernel
theorem dX9_dry_41 : decode cX9_dry 41 = .ok (.getfield 108, 3) := by decide +kernel
theorem dX9_dry_44 : decode cX9_dry 44 = .ok (.iload_n 1, 1) := by decide +kernel
theorem dX9_dry_45 : decode cX9_dry 45 = .ok (.iaload, 1) := by decide +kernel
theorem dX9_dry_46 : decode cX9_dry 46 = .ok (.iconst 2, 1) := by decide +kernel
theorem dX9_dry_47 : decode cX9_dry 47 = .ok (.if_icmp .eq 6, 3) := by decide +kernel
theorem dX9_dry_50 : decode cX9_dry 50 = .ok (.bipush (-3), 2) := by decide +kernel
theorem dX9_dry_52 : decode cX9_dry 52 = .ok (.ireturn, 1) := by decide +kernel
theorem dX9_dry_53 : decode cX9_dry 53 = .ok (.aload_n 0, 1) := by decide +kernel
theorem dX9_dry_54 : decode cX9_dry 54 = .ok (.getfield 36, 3) := by decide +kernel
theorem dX9_dry_57 : decode cX9_dry 57 = .ok (.getfield 111, 3) := by decide +kernel
theorem dX9_dry_60 : decode cX9_dry 60 = .ok (.iload_n 1, 1) := by decide +kernel
theorem dX9_dry_61 : decode cX9_dry 61 = .ok (.iaload, 1) := by decide +kernel
theorem dX9_dry_62 : decode cX9_dry 62 = .ok (.iload_n 2, 1) := by decide +kernel
theorem dX9_dry_63 : decode cX9_dry 63 = .ok (.iload_n 3, 1) := by decide +kernel
theorem dX9_dry_64 : decode cX9_dry 64 = .ok (.invokestatic 228, 3) := by decide +kernel
theorem dX9_dry_67 : decode cX9_dry 67 = .ok (.bipush 10, 2) := by decide +kernel
theorem dX9_dry_69 : decode cX9_dry 69 = .ok (.iload_n 2, 1) := by decide +kernel
theorem dX9_dry_70 : decode cX9_dry 70 = .ok (.invokestatic 234, 3) := by decide +kernel
theorem dX9_dry_73 : decode cX9_dry 73 = .ok (.iload 4, 2) := by decide +kernel
theorem dX9_dry_75 : decode cX9_dry 75 = .ok (.invokestatic 215, 3) := by decide +kernel
theorem dX9_dry_78 : decode cX9_dry 78 = .ok (.ireturn, 1) := by decide +kernel
theorem dX9_seed_0 : decode cX9_seed 0 = .ok (.aload_n 0, 1) := by decide +kernel
theorem dX9_seed_1 : decode cX9_seed 1 = .ok (.getfield 74, 3) := by decide +kernel
theorem dX9_seed_4 : decode cX9_seed 4 = .ok (.lstore_n 3, 1) := by decide +kernel
theorem dX9_seed_5 : decode cX9_seed 5 = .ok (.aload_n 0, 1) := by decide +kernel
theorem dX9_seed_6 : decode cX9_seed 6 = .ok (.lload_n 1, 1) := by decide +kernel
theorem dX9_seed_7 : decode cX9_seed 7 = .ok (.putfield 74, 3) := by decide +kernel
theorem dX9_seed_10 : decode cX9_seed 10 = .ok (.lload_n 3, 1) := by decide +kernel
theorem dX9_seed_11 : decode cX9_seed 11 = .ok (.lreturn, 1) := by decide +kernel
set_option maxRecDepth 20000 in
theorem ggX9_weeks_X8_copyFrom : GoodIn wsX9_weeks wsX8_copyFrom := goodIn_r _ [11, 12, 13, 14, 15, 16, 17, 18, 19, 20, 122, 123, 124, 125, 126, 127] (by decide +kernel) (by decide +kernel)
set_option maxRecDepth 20000 in
theorem gX9_weeks_X8_copyFrom : GoodIn wsX9_weeks (wsV RX9 185 RX8 yX8_copyFrom wsX8_copyFrom) := goodIn_app (goodIn_of _ (by decide +kernel)) ggX9_weeks_X8_copyFrom
set_option maxRecDepth 20000 in
theorem ggX9_weeks_X8_doByChance : GoodIn wsX9_weeks wsX8_doByChance := goodIn_r _ [24, 19, 25, 26, 27, 10, 28, 29, 30, 31, 32, 33, 12, 34, 35, 36, 37, 38, 39, 40, 41, 42, 43, 44, 45, 46, 47, 48, 49, 50, 51, 52, 53, 54, 55, 56, 57, 58, 59, 60, 17, 61, 62, 63, 64, 65, 20, 66, 67, 68, 69, 70, 71, 72, 73, 74, 75, 76, 77, 78, 18, 79, 80, 81, 82, 83, 84, 85, 86, 87, 88, 89, 90, 91, 92, 93, 94, 95, 122, 123, 124, 125, 126, 127, 128, 129, 130, 131, 132, 133, 134, 135] (by decide +kernel) (by decide +kernel)
set_option maxRecDepth 20000 in
theorem gX9_weeks_X8_doByChance : GoodIn wsX9_weeks (wsV RX9 243 RX8 yX8_doByChance wsX8_doByChance) := goodIn_app (goodIn_of _ (by decide +kernel)) ggX9_weeks_X8_doByChance
set_option maxRecDepth 20000 in
theorem ggX9_weeks_X8_pairsThatMayFight : GoodIn wsX9_weeks wsX8_pairsThatMayFight := goodIn_r _ [99, 33, 100, 101, 102, 10, 103, 45, 46, 47, 48, 49, 12, 104, 105, 106, 37, 107, 39, 108, 109, 51, 52, 53, 54, 55, 56, 122, 123, 124, 125, 126, 127, 128, 129, 130, 131, 132, 133, 134, 135] (by decide +kernel) (by decide +kernel)
set_option maxRecDepth 20000 in
theorem gX9_weeks_X8_pairsThatMayFight : GoodIn wsX9_weeks (wsV RX9 246 RX8 yX8_pairsThatMayFight wsX8_pairsThatMayFight) := goodIn_app (goodIn_of _ (by decide +kernel)) ggX9_weeks_X8_pairsThatMayFight
theorem dX9_weeks_0 : decode cX9_weeks 0 = .ok (.iload_n 1, 1) := by decide +kernel
theorem dX9_weeks_1 : decode cX9_weeks 1 = .ok (.iconst 1, 1) := by decide +kernel
theorem dX9_weeks_2 : decode cX9_weeks 2 = .ok (.if_icmp .lt 9, 3) := by decide +kernel
theorem dX9_weeks_5 : decode cX9_weeks 5 = .ok (.iload_n 1, 1) := by decide +kernel
theorem dX9_weeks_6 : decode cX9_weeks 6 = .ok (.bipush 30, 2) := by decide +kernel
theorem dX9_weeks_8 : decode cX9_weeks 8 = .ok (.if_icmp .le 6, 3) := by decide +kernel
theorem dX9_weeks_11 : decode cX9_weeks 11 = .ok (.bipush (-2), 2) := by decide +kernel
theorem dX9_weeks_13 : decode cX9_weeks 13 = .ok (.ireturn, 1) := by decide +kernel
theorem dX9_weeks_14 : decode cX9_weeks 14 = .ok (.aload_n 0, 1) := by decide +kernel
theorem dX9_weeks_15 : decode cX9_weeks 15 = .ok (.getfield 40, 3) := by decide +kernel
theorem dX9_weeks_18 : decode cX9_weeks 18 = .ok (.aload_n 0, 1) := by decide +kernel
theorem dX9_weeks_19 : decode cX9_weeks 19 = .ok (.getfield 36, 3) := by decide +kernel
theorem dX9_weeks_22 : decode cX9_weeks 22 = .ok (.invokevirtual 185, 3) := by decide +kernel
theorem dX9_weeks_25 : decode cX9_weeks 25 = .ok (.iconst 0, 1) := by decide +kernel
theorem dX9_weeks_26 : decode cX9_weeks 26 = .ok (.istore_n 2, 1) := by decide +kernel
theorem dX9_weeks_27 : decode cX9_weeks 27 = .ok (.iconst 0, 1) := by decide +kernel
theorem dX9_weeks_28 : decode cX9_weeks 28 = .ok (.istore_n 3, 1) := by decide +kernel
theorem dX9_weeks_29 : decode cX9_weeks 29 = .ok (.iload_n 3, 1) := by decide +kernel
theorem dX9_weeks_30 : decode cX9_weeks 30 = .ok (.iload_n 1, 1) := by decide +kernel
theorem dX9_weeks_31 : decode cX9_weeks 31 = .ok (.if_icmp .ge 57, 3) := by decide +kernel
theorem dX9_weeks_34 : decode cX9_weeks 34 = .ok (.aload_n 0, 1) := by decide +kernel
theorem dX9_weeks_35 : decode cX9_weeks 35 = .ok (.aload_n 0, 1) := by decide +kernel
theorem dX9_weeks_36 : decode cX9_weeks 36 = .ok (.getfield 74, 3) := by decide +kernel
theorem dX9_weeks_39 : decode cX9_weeks 39 = .ok (.ldc2_w 237, 3) := by decide +kernel
theorem dX9_weeks_42 : decode cX9_weeks 42 = .ok (.lmul, 1) := by decide +kernel
theorem dX9_weeks_43 : decode cX9_weeks 43 = .ok (.ldc2_w 239, 3) := by decide +kernel
theorem dX9_weeks_46 : decode cX9_weeks 46 = .ok (.ladd, 1) := by decide +kernel
theorem dX9_weeks_47 : decode cX9_weeks 47 = .ok (.putfield 74, 3) := by decide +kernel
theorem dX9_weeks_50 : decode cX9_weeks 50 = .ok (.aload_n 0, 1) := by decide +kernel
theorem dX9_weeks_51 : decode cX9_weeks 51 = .ok (.getfield 40, 3) := by decide +kernel
theorem dX9_weeks_54 : decode cX9_weeks 54 = .ok (.aload_n 0, 1) := by decide +kernel
theorem dX9_weeks_55 : decode cX9_weeks 55 = .ok (.getfield 74, 3) := by decide +kernel
theorem dX9_weeks_58 : decode cX9_weeks 58 = .ok (.bipush 33, 2) := by decide +kernel
theorem dX9_weeks_60 : decode cX9_weeks 60 = .ok (.lushr, 1) := by decide +kernel
theorem dX9_weeks_61 : decode cX9_weeks 61 = .ok (.ldc2_w 241, 3) := by decide +kernel
theorem dX9_weeks_64 : decode cX9_weeks 64 = .ok (.lrem, 1) := by decide +kernel
theorem dX9_weeks_65 : decode cX9_weeks 65 = .ok (.l2i, 1) := by decide +kernel
theorem dX9_weeks_66 : decode cX9_weeks 66 = .ok (.invokevirtual 243, 3) := by decide +kernel
theorem dX9_weeks_69 : decode cX9_weeks 69 = .ok (.aload_n 0, 1) := by decide +kernel
theorem dX9_weeks_70 : decode cX9_weeks 70 = .ok (.getfield 40, 3) := by decide +kernel
theorem dX9_weeks_73 : decode cX9_weeks 73 = .ok (.invokevirtual 246, 3) := by decide +kernel
theorem dX9_weeks_76 : decode cX9_weeks 76 = .ok (.ifCond .le 6, 3) := by decide +kernel
theorem dX9_weeks_79 : decode cX9_weeks 79 = .ok (.iinc 2 1, 3) := by decide +kernel
theorem dX9_weeks_82 : decode cX9_weeks 82 = .ok (.iinc 3 1, 3) := by decide +kernel
theorem dX9_weeks_85 : decode cX9_weeks 85 = .ok (.goto (-56), 3) := by decide +kernel
theorem dX9_weeks_88 : decode cX9_weeks 88 = .ok (.iload_n 2, 1) := by decide +kernel
theorem dX9_weeks_89 : decode cX9_weeks 89 = .ok (.ireturn, 1) := by decide +kernel
set_option maxRecDepth 20000 in
theorem ggX9_keep_X8_copyFrom : GoodIn wsX9_keep wsX8_copyFrom := goodIn_r _ [9, 10, 11, 12, 13, 14, 15, 16, 17, 18, 31, 32, 33, 34, 35, 36] (by decide +kernel) (by decide +kernel)
set_option maxRecDepth 20000 in
theorem gX9_keep_X8_copyFrom : GoodIn wsX9_keep (wsV RX9 185 RX8 yX8_copyFrom wsX8_copyFrom) := goodIn_app (goodIn_of _ (by decide +kernel)) ggX9_keep_X8_copyFrom
theorem dX9_keep_0 : decode cX9_keep 0 = .ok (.iload_n 1, 1) := by decide +kernel
theorem dX9_keep_1 : decode cX9_keep 1 = .ok (.ifCond .lt 8, 3) := by decide +kernel
theorem dX9_keep_4 : decode cX9_keep 4 = .ok (.iload_n 1, 1) := by decide +kernel
theorem dX9_keep_5 : decode cX9_keep 5 = .ok (.iconst 2, 1) := by decide +kernel
theorem dX9_keep_6 : decode cX9_keep 6 = .ok (.if_icmp .lt 5, 3) := by decide +kernel
theorem dX9_keep_9 : decode cX9_keep 9 = .ok (.iconst (-1), 1) := by decide +kernel
theorem dX9_keep_10 : decode cX9_keep 10 = .ok (.ireturn, 1) := by decide +kernel
theorem dX9_keep_11 : decode cX9_keep 11 = .ok (.aload_n 0, 1) := by decide +kernel
theorem dX9_keep_12 : decode cX9_keep 12 = .ok (.getfield 66, 3) := by decide +kernel
theorem dX9_keep_15 : decode cX9_keep 15 = .ok (.iload_n 1, 1) := by decide +kernel
theorem dX9_keep_16 : decode cX9_keep 16 = .ok (.aaload, 1) := by decide +kernel
theorem dX9_keep_17 : decode cX9_keep 17 = .ok (.aload_n 0, 1) := by decide +kernel
theorem dX9_keep_18 : decode cX9_keep 18 = .ok (.getfield 36, 3) := by decide +kernel
theorem dX9_keep_21 : decode cX9_keep 21 = .ok (.invokevirtual 185, 3) := by decide +kernel
theorem dX9_keep_24 : decode cX9_keep 24 = .ok (.aload_n 0, 1) := by decide +kernel
theorem dX9_keep_25 : decode cX9_keep 25 = .ok (.getfield 70, 3) := by decide +kernel
theorem dX9_keep_28 : decode cX9_keep 28 = .ok (.iload_n 1, 1) := by decide +kernel
theorem dX9_keep_29 : decode cX9_keep 29 = .ok (.iconst 1, 1) := by decide +kernel
theorem dX9_keep_30 : decode cX9_keep 30 = .ok (.bastore, 1) := by decide +kernel
theorem dX9_keep_31 : decode cX9_keep 31 = .ok (.aload_n 0, 1) := by decide +kernel
theorem dX9_keep_32 : decode cX9_keep 32 = .ok (.getfield 36, 3) := by decide +kernel
theorem dX9_keep_35 : decode cX9_keep 35 = .ok (.getfield 249, 3) := by decide +kernel
theorem dX9_keep_38 : decode cX9_keep 38 = .ok (.ireturn, 1) := by decide +kernel
set_option maxRecDepth 20000 in
theorem ggX9_again_X8_copyFrom : GoodIn wsX9_again wsX8_copyFrom := goodIn_r _ [10, 11, 12, 13, 14, 15, 16, 17, 18, 19, 39, 40, 41, 42, 43, 44] (by decide +kernel) (by decide +kernel)
set_option maxRecDepth 20000 in
theorem gX9_again_X8_copyFrom : GoodIn wsX9_again (wsV RX9 185 RX8 yX8_copyFrom wsX8_copyFrom) := goodIn_app (goodIn_of _ (by decide +kernel)) ggX9_again_X8_copyFrom
set_option maxRecDepth 20000 in
theorem ggX9_again_X0_forgetAll : GoodIn wsX9_again wsX0_forgetAll := goodIn_r _ [24, 25, 26, 45, 46, 47] (by decide +kernel) (by decide +kernel)
set_option maxRecDepth 20000 in
theorem gX9_again_X0_forgetAll : GoodIn wsX9_again (wsV RX9 89 RX0 yX0_forgetAll wsX0_forgetAll) := goodIn_app (goodIn_of _ (by decide +kernel)) ggX9_again_X0_forgetAll
theorem dX9_again_0 : decode cX9_again 0 = .ok (.iload_n 1, 1) := by decide +kernel
theorem dX9_again_1 : decode cX9_again 1 = .ok (.ifCond .lt 8, 3) := by decide +kernel
theorem dX9_again_4 : decode cX9_again 4 = .ok (.iload_n 1, 1) := by decide +kernel
theorem dX9_again_5 : decode cX9_again 5 = .ok (.iconst 2, 1) := by decide +kernel
theorem dX9_again_6 : decode cX9_again 6 = .ok (.if_icmp .lt 5, 3) := by decide +kernel
theorem dX9_again_9 : decode cX9_again 9 = .ok (.iconst (-1), 1) := by decide +kernel
theorem dX9_again_10 : decode cX9_again 10 = .ok (.ireturn, 1) := by decide +kernel
theorem dX9_again_11 : decode cX9_again 11 = .ok (.aload_n 0, 1) := by decide +kernel
theorem dX9_again_12 : decode cX9_again 12 = .ok (.getfield 70, 3) := by decide +kernel
theorem dX9_again_15 : decode cX9_again 15 = .ok (.iload_n 1, 1) := by decide +kernel
theorem dX9_again_16 : decode cX9_again 16 = .ok (.baload, 1) := by decide +kernel
theorem dX9_again_17 : decode cX9_again 17 = .ok (.ifCond .ne 6, 3) := by decide +kernel
theorem dX9_again_20 : decode cX9_again 20 = .ok (.bipush (-3), 2) := by decide +kernel
theorem dX9_again_22 : decode cX9_again 22 = .ok (.ireturn, 1) := by decide +kernel
theorem dX9_again_23 : decode cX9_again 23 = .ok (.aload_n 0, 1) := by decide +kernel
theorem dX9_again_24 : decode cX9_again 24 = .ok (.getfield 36, 3) := by decide +kernel
theorem dX9_again_27 : decode cX9_again 27 = .ok (.aload_n 0, 1) := by decide +kernel
theorem dX9_again_28 : decode cX9_again 28 = .ok (.getfield 66, 3) := by decide +kernel
theorem dX9_again_31 : decode cX9_again 31 = .ok (.iload_n 1, 1) := by decide +kernel
theorem dX9_again_32 : decode cX9_again 32 = .ok (.aaload, 1) := by decide +kernel
theorem dX9_again_33 : decode cX9_again 33 = .ok (.invokevirtual 185, 3) := by decide +kernel
theorem dX9_again_36 : decode cX9_again 36 = .ok (.aload_n 0, 1) := by decide +kernel
theorem dX9_again_37 : decode cX9_again 37 = .ok (.getfield 55, 3) := by decide +kernel
theorem dX9_again_40 : decode cX9_again 40 = .ok (.invokevirtual 89, 3) := by decide +kernel
theorem dX9_again_43 : decode cX9_again 43 = .ok (.aload_n 0, 1) := by decide +kernel
theorem dX9_again_44 : decode cX9_again 44 = .ok (.getfield 36, 3) := by decide +kernel
theorem dX9_again_47 : decode cX9_again 47 = .ok (.getfield 249, 3) := by decide +kernel
theorem dX9_again_50 : decode cX9_again 50 = .ok (.ireturn, 1) := by decide +kernel
set_option maxRecDepth 20000 in
theorem ggX9_count_X8_freeTubs : GoodIn wsX9_count wsX8_freeTubs := goodIn_r _ [15, 16, 17, 18, 19, 20, 14, 21, 22, 23, 24, 25, 26, 27, 28, 29, 30, 73, 74, 75, 76, 77, 78, 65, 66, 67, 68, 69, 70, 71, 72] (by decide +kernel) (by decide +kernel)
set_option maxRecDepth 20000 in
theorem gX9_count_X8_freeTubs : GoodIn wsX9_count (wsV RX9 127 RX8 yX8_freeTubs wsX8_freeTubs) := goodIn_app (goodIn_of _ (by decide +kernel)) ggX9_count_X8_freeTubs
set_option maxRecDepth 20000 in
theorem ggX9_count_X8_freePegs : GoodIn wsX9_count wsX8_freePegs := goodIn_r _ [34, 16, 35, 18, 19, 20, 14, 21, 22, 23, 24, 25, 26, 27, 28, 29, 30, 73, 74, 75, 76, 77, 78, 65, 66, 67, 68, 69, 70, 71, 72] (by decide +kernel) (by decide +kernel)
set_option maxRecDepth 20000 in
theorem gX9_count_X8_freePegs : GoodIn wsX9_count (wsV RX9 252 RX8 yX8_freePegs wsX8_freePegs) := goodIn_app (goodIn_of _ (by decide +kernel)) ggX9_count_X8_freePegs
set_option maxRecDepth 20000 in
theorem ggX9_count_X8_homeBits : GoodIn wsX9_count wsX8_homeBits := goodIn_r _ [39, 18, 19, 20, 14, 21, 16, 22, 23, 73, 74, 75, 76, 77, 78, 65, 66, 67, 68, 69, 70, 71, 72] (by decide +kernel) (by decide +kernel)
set_option maxRecDepth 20000 in
theorem gX9_count_X8_homeBits : GoodIn wsX9_count (wsV RX9 158 RX8 yX8_homeBits wsX8_homeBits) := goodIn_app (goodIn_of _ (by decide +kernel)) ggX9_count_X8_homeBits
set_option maxRecDepth 20000 in
theorem ggX9_count_X8_pairsThatMayFight : GoodIn wsX9_count wsX8_pairsThatMayFight := goodIn_r _ [43, 16, 44, 37, 38, 14, 39, 18, 19, 20, 21, 22, 23, 45, 46, 47, 48, 49, 50, 51, 52, 25, 26, 27, 28, 29, 30, 73, 74, 75, 76, 77, 78, 65, 66, 67, 68, 69, 70, 71, 72] (by decide +kernel) (by decide +kernel)
set_option maxRecDepth 20000 in
theorem gX9_count_X8_pairsThatMayFight : GoodIn wsX9_count (wsV RX9 246 RX8 yX8_pairsThatMayFight wsX8_pairsThatMayFight) := goodIn_app (goodIn_of _ (by decide +kernel)) ggX9_count_X8_pairsThatMayFight
theorem dX9_count_0 : decode cX9_count 0 = .ok (.iload_n 1, 1) := by decide +kernel
theorem dX9_count_1 : decode cX9_count 1 = .ok (.tableswitch 132 0 9 #[55, 60, 68, 76, 84, 92, 100, 108, 116, 124], 55) := by decide +kernel
theorem dX9_count_56 : decode cX9_count 56 = .ok (.aload_n 0, 1) := by decide +kernel
theorem dX9_count_57 : decode cX9_count 57 = .ok (.getfield 13, 3) := by decide +kernel
theorem dX9_count_60 : decode cX9_count 60 = .ok (.ireturn, 1) := by decide +kernel
theorem dX9_count_61 : decode cX9_count 61 = .ok (.aload_n 0, 1) := by decide +kernel
theorem dX9_count_62 : decode cX9_count 62 = .ok (.getfield 27, 3) := by decide +kernel
theorem dX9_count_65 : decode cX9_count 65 = .ok (.getfield 92, 3) := by decide +kernel
theorem dX9_count_68 : decode cX9_count 68 = .ok (.ireturn, 1) := by decide +kernel
theorem dX9_count_69 : decode cX9_count 69 = .ok (.aload_n 0, 1) := by decide +kernel
theorem dX9_count_70 : decode cX9_count 70 = .ok (.getfield 36, 3) := by decide +kernel
theorem dX9_count_73 : decode cX9_count 73 = .ok (.invokevirtual 127, 3) := by decide +kernel
theorem dX9_count_76 : decode cX9_count 76 = .ok (.ireturn, 1) := by decide +kernel
theorem dX9_count_77 : decode cX9_count 77 = .ok (.aload_n 0, 1) := by decide +kernel
theorem dX9_count_78 : decode cX9_count 78 = .ok (.getfield 36, 3) := by decide +kernel
theorem dX9_count_81 : decode cX9_count 81 = .ok (.invokevirtual 252, 3) := by decide +kernel
theorem dX9_count_84 : decode cX9_count 84 = .ok (.ireturn, 1) := by decide +kernel
theorem dX9_count_85 : decode cX9_count 85 = .ok (.aload_n 0, 1) := by decide +kernel
theorem dX9_count_86 : decode cX9_count 86 = .ok (.getfield 36, 3) := by decide +kernel
theorem dX9_count_89 : decode cX9_count 89 = .ok (.getfield 140, 3) := by decide +kernel
theorem dX9_count_92 : decode cX9_count 92 = .ok (.ireturn, 1) := by decide +kernel
theorem dX9_count_93 : decode cX9_count 93 = .ok (.aload_n 0, 1) := by decide +kernel
theorem dX9_count_94 : decode cX9_count 94 = .ok (.getfield 36, 3) := by decide +kernel
theorem dX9_count_97 : decode cX9_count 97 = .ok (.invokevirtual 158, 3) := by decide +kernel
theorem dX9_count_100 : decode cX9_count 100 = .ok (.ireturn, 1) := by decide +kernel
theorem dX9_count_101 : decode cX9_count 101 = .ok (.aload_n 0, 1) := by decide +kernel
theorem dX9_count_102 : decode cX9_count 102 = .ok (.getfield 36, 3) := by decide +kernel
theorem dX9_count_105 : decode cX9_count 105 = .ok (.invokevirtual 246, 3) := by decide +kernel
theorem dX9_count_108 : decode cX9_count 108 = .ok (.ireturn, 1) := by decide +kernel
theorem dX9_count_109 : decode cX9_count 109 = .ok (.aload_n 0, 1) := by decide +kernel
theorem dX9_count_110 : decode cX9_count 110 = .ok (.getfield 36, 3) := by decide +kernel
theorem dX9_count_113 : decode cX9_count 113 = .ok (.getfield 249, 3) := by decide +kernel
theorem dX9_count_116 : decode cX9_count 116 = .ok (.ireturn, 1) := by decide +kernel
theorem dX9_count_117 : decode cX9_count 117 = .ok (.aload_n 0, 1) := by decide +kernel
theorem dX9_count_118 : decode cX9_count 118 = .ok (.getfield 55, 3) := by decide +kernel
theorem dX9_count_121 : decode cX9_count 121 = .ok (.getfield 147, 3) := by decide +kernel
theorem dX9_count_124 : decode cX9_count 124 = .ok (.ireturn, 1) := by decide +kernel
theorem dX9_count_125 : decode cX9_count 125 = .ok (.aload_n 0, 1) := by decide +kernel
theorem dX9_count_126 : decode cX9_count 126 = .ok (.getfield 62, 3) := by decide +kernel
theorem dX9_count_129 : decode cX9_count 129 = .ok (.getfield 194, 3) := by decide +kernel
theorem dX9_count_132 : decode cX9_count 132 = .ok (.ireturn, 1) := by decide +kernel
theorem dX9_count_133 : decode cX9_count 133 = .ok (.bipush (-2), 2) := by decide +kernel
theorem dX9_count_135 : decode cX9_count 135 = .ok (.ireturn, 1) := by decide +kernel
theorem dX9_areColours_0 : decode cX9_areColours 0 = .ok (.iload_n 0, 1) := by decide +kernel
theorem dX9_areColours_1 : decode cX9_areColours 1 = .ok (.ifCond .lt 13, 3) := by decide +kernel
theorem dX9_areColours_4 : decode cX9_areColours 4 = .ok (.iload_n 0, 1) := by decide +kernel
theorem dX9_areColours_5 : decode cX9_areColours 5 = .ok (.bipush 15, 2) := by decide +kernel
theorem dX9_areColours_7 : decode cX9_areColours 7 = .ok (.if_icmp .gt 7, 3) := by decide +kernel
theorem dX9_areColours_10 : decode cX9_areColours 10 = .ok (.iconst 1, 1) := by decide +kernel
theorem dX9_areColours_11 : decode cX9_areColours 11 = .ok (.goto 4, 3) := by decide +kernel
theorem dX9_areColours_14 : decode cX9_areColours 14 = .ok (.iconst 0, 1) := by decide +kernel
theorem dX9_areColours_15 : decode cX9_areColours 15 = .ok (.ireturn, 1) := by decide +kernel
theorem dX9_isWithin_0 : decode cX9_isWithin 0 = .ok (.iload_n 0, 1) := by decide +kernel
theorem dX9_isWithin_1 : decode cX9_isWithin 1 = .ok (.iload_n 1, 1) := by decide +kernel
theorem dX9_isWithin_2 : decode cX9_isWithin 2 = .ok (.iconst (-1), 1) := by decide +kernel
theorem dX9_isWithin_3 : decode cX9_isWithin 3 = .ok (.ixor, 1) := by decide +kernel
theorem dX9_isWithin_4 : decode cX9_isWithin 4 = .ok (.iand, 1) := by decide +kernel
theorem dX9_isWithin_5 : decode cX9_isWithin 5 = .ok (.ifCond .ne 7, 3) := by decide +kernel
theorem dX9_isWithin_8 : decode cX9_isWithin 8 = .ok (.iconst 1, 1) := by decide +kernel
theorem dX9_isWithin_9 : decode cX9_isWithin 9 = .ok (.goto 4, 3) := by decide +kernel
theorem dX9_isWithin_12 : decode cX9_isWithin 12 = .ok (.iconst 0, 1) := by decide +kernel
theorem dX9_isWithin_13 : decode cX9_isWithin 13 = .ok (.ireturn, 1) := by decide +kernel
set_option maxRecDepth 20000 in
theorem ggX9_isFewer_J6_bitCount_0f7a4 : GoodIn wsX9_isFewer wsJ6_bitCount_0f7a4 := goodIn_r _ [4, 5, 6, 7] (by decide +kernel) (by decide +kernel)
set_option maxRecDepth 20000 in
theorem gX9_isFewer_J6_bitCount_0f7a4 : GoodIn wsX9_isFewer (va_wsS RX9 255 yJ6_bitCount_0f7a4 wsJ6_bitCount_0f7a4) := goodIn_app (goodIn_of _ (by decide +kernel)) ggX9_isFewer_J6_bitCount_0f7a4
theorem dX9_isFewer_0 : decode cX9_isFewer 0 = .ok (.iload_n 1, 1) := by decide +kernel
theorem dX9_isFewer_1 : decode cX9_isFewer 1 = .ok (.bipush (-9), 2) := by decide +kernel
theorem dX9_isFewer_3 : decode cX9_isFewer 3 = .ok (.if_icmp .eq 14, 3) := by decide +kernel
theorem dX9_isFewer_6 : decode cX9_isFewer 6 = .ok (.iload_n 0, 1) := by decide +kernel
theorem dX9_isFewer_7 : decode cX9_isFewer 7 = .ok (.invokestatic 255, 3) := by decide +kernel
theorem dX9_isFewer_10 : decode cX9_isFewer 10 = .ok (.iload_n 1, 1) := by decide +kernel
theorem dX9_isFewer_11 : decode cX9_isFewer 11 = .ok (.invokestatic 255, 3) := by decide +kernel
theorem dX9_isFewer_14 : decode cX9_isFewer 14 = .ok (.if_icmp .ge 7, 3) := by decide +kernel
theorem dX9_isFewer_17 : decode cX9_isFewer 17 = .ok (.iconst 1, 1) := by decide +kernel
theorem dX9_isFewer_18 : decode cX9_isFewer 18 = .ok (.goto 4, 3) := by decide +kernel
theorem dX9_isFewer_21 : decode cX9_isFewer 21 = .ok (.iconst 0, 1) := by decide +kernel
theorem dX9_isFewer_22 : decode cX9_isFewer 22 = .ok (.ireturn, 1) := by decide +kernel
theorem dX9_withoutLastFigures_0 : decode cX9_withoutLastFigures 0 = .ok (.iload_n 0, 1) := by decide +kernel
theorem dX9_withoutLastFigures_1 : decode cX9_withoutLastFigures 1 = .ok (.istore_n 2, 1) := by decide +kernel
theorem dX9_withoutLastFigures_2 : decode cX9_withoutLastFigures 2 = .ok (.iconst 0, 1) := by decide +kernel
theorem dX9_withoutLastFigures_3 : decode cX9_withoutLastFigures 3 = .ok (.istore_n 3, 1) := by decide +kernel
theorem dX9_withoutLastFigures_4 : decode cX9_withoutLastFigures 4 = .ok (.iload_n 3, 1) := by decide +kernel
theorem dX9_withoutLastFigures_5 : decode cX9_withoutLastFigures 5 = .ok (.iload_n 1, 1) := by decide +kernel
theorem dX9_withoutLastFigures_6 : decode cX9_withoutLastFigures 6 = .ok (.if_icmp .ge 14, 3) := by decide +kernel
theorem dX9_withoutLastFigures_9 : decode cX9_withoutLastFigures 9 = .ok (.iload_n 2, 1) := by decide +kernel
theorem dX9_withoutLastFigures_10 : decode cX9_withoutLastFigures 10 = .ok (.bipush 10, 2) := by decide +kernel
theorem dX9_withoutLastFigures_12 : decode cX9_withoutLastFigures 12 = .ok (.idiv, 1) := by decide +kernel
theorem dX9_withoutLastFigures_13 : decode cX9_withoutLastFigures 13 = .ok (.istore_n 2, 1) := by decide +kernel
theorem dX9_withoutLastFigures_14 : decode cX9_withoutLastFigures 14 = .ok (.iinc 3 1, 3) := by decide +kernel
theorem dX9_withoutLastFigures_17 : decode cX9_withoutLastFigures 17 = .ok (.goto (-13), 3) := by decide +kernel
theorem dX9_withoutLastFigures_20 : decode cX9_withoutLastFigures 20 = .ok (.iload_n 2, 1) := by decide +kernel
theorem dX9_withoutLastFigures_21 : decode cX9_withoutLastFigures 21 = .ok (.ireturn, 1) := by decide +kernel
set_option maxRecDepth 20000 in
theorem ggX9_toldFraction_X9_greatestCommon : GoodIn wsX9_toldFraction wsX9_greatestCommon := goodIn_r _ [4] (by decide +kernel) (by decide +kernel)
set_option maxRecDepth 20000 in
theorem gX9_toldFraction_X9_greatestCommon : GoodIn wsX9_toldFraction (va_wsS RX9 260 yX9_greatestCommon wsX9_greatestCommon) := goodIn_app (goodIn_of _ (by decide +kernel)) ggX9_toldFraction_X9_greatestCommon
theorem dX9_toldFraction_0 : decode cX9_toldFraction 0 = .ok (.iload_n 0, 1) := by decide +kernel
theorem dX9_toldFraction_1 : decode cX9_toldFraction 1 = .ok (.iload_n 1, 1) := by decide +kernel
theorem dX9_toldFraction_2 : decode cX9_toldFraction 2 = .ok (.invokestatic 260, 3) := by decide +kernel
theorem dX9_toldFraction_5 : decode cX9_toldFraction 5 = .ok (.istore_n 3, 1) := by decide +kernel
theorem dX9_toldFraction_6 : decode cX9_toldFraction 6 = .ok (.iload_n 3, 1) := by decide +kernel
theorem dX9_toldFraction_7 : decode cX9_toldFraction 7 = .ok (.ifCond .ne 6, 3) := by decide +kernel
theorem dX9_toldFraction_10 : decode cX9_toldFraction 10 = .ok (.bipush (-9), 2) := by decide +kernel
theorem dX9_toldFraction_12 : decode cX9_toldFraction 12 = .ok (.ireturn, 1) := by decide +kernel
theorem dX9_toldFraction_13 : decode cX9_toldFraction 13 = .ok (.iload_n 2, 1) := by decide +kernel
theorem dX9_toldFraction_14 : decode cX9_toldFraction 14 = .ok (.ifCond .eq 7, 3) := by decide +kernel
theorem dX9_toldFraction_17 : decode cX9_toldFraction 17 = .ok (.iload_n 0, 1) := by decide +kernel
theorem dX9_toldFraction_18 : decode cX9_toldFraction 18 = .ok (.goto 4, 3) := by decide +kernel
theorem dX9_toldFraction_21 : decode cX9_toldFraction 21 = .ok (.iload_n 1, 1) := by decide +kernel
theorem dX9_toldFraction_22 : decode cX9_toldFraction 22 = .ok (.iload_n 3, 1) := by decide +kernel
theorem dX9_toldFraction_23 : decode cX9_toldFraction 23 = .ok (.idiv, 1) := by decide +kernel
theorem dX9_toldFraction_24 : decode cX9_toldFraction 24 = .ok (.ireturn, 1) := by decide +kernel
theorem dX9_greatestCommon_0 : decode cX9_greatestCommon 0 = .ok (.iload_n 0, 1) := by decide +kernel
theorem dX9_greatestCommon_1 : decode cX9_greatestCommon 1 = .ok (.istore_n 2, 1) := by decide +kernel
theorem dX9_greatestCommon_2 : decode cX9_greatestCommon 2 = .ok (.iload_n 1, 1) := by decide +kernel
theorem dX9_greatestCommon_3 : decode cX9_greatestCommon 3 = .ok (.istore_n 3, 1) := by decide +kernel
theorem dX9_greatestCommon_4 : decode cX9_greatestCommon 4 = .ok (.iconst 0, 1) := by decide +kernel
theorem dX9_greatestCommon_5 : decode cX9_greatestCommon 5 = .ok (.istore 4, 2) := by decide +kernel
theorem dX9_greatestCommon_7 : decode cX9_greatestCommon 7 = .ok (.iload 4, 2) := by decide +kernel
theorem dX9_greatestCommon_9 : decode cX9_greatestCommon 9 = .ok (.bipush 100, 2) := by decide +kernel
theorem dX9_greatestCommon_11 : decode cX9_greatestCommon 11 = .ok (.if_icmp .ge 23, 3) := by decide +kernel
theorem dX9_greatestCommon_14 : decode cX9_greatestCommon 14 = .ok (.iload_n 3, 1) := by decide +kernel
theorem dX9_greatestCommon_15 : decode cX9_greatestCommon 15 = .ok (.ifCond .eq 19, 3) := by decide +kernel
theorem dX9_greatestCommon_18 : decode cX9_greatestCommon 18 = .ok (.iload_n 2, 1) := by decide +kernel
theorem dX9_greatestCommon_19 : decode cX9_greatestCommon 19 = .ok (.iload_n 3, 1) := by decide +kernel
theorem dX9_greatestCommon_20 : decode cX9_greatestCommon 20 = .ok (.irem, 1) := by decide +kernel
theorem dX9_greatestCommon_21 : decode cX9_greatestCommon 21 = .ok (.istore 5, 2) := by decide +kernel
theorem dX9_greatestCommon_23 : decode cX9_greatestCommon 23 = .ok (.iload_n 3, 1) := by decide +kernel
theorem dX9_greatestCommon_24 : decode cX9_greatestCommon 24 = .ok (.istore_n 2, 1) := by decide +kernel
theorem dX9_greatestCommon_25 : decode cX9_greatestCommon 25 = .ok (.iload 5, 2) := by decide +kernel
theorem dX9_greatestCommon_27 : decode cX9_greatestCommon 27 = .ok (.istore_n 3, 1) := by decide +kernel
theorem dX9_greatestCommon_28 : decode cX9_greatestCommon 28 = .ok (.iinc 4 1, 3) := by decide +kernel
theorem dX9_greatestCommon_31 : decode cX9_greatestCommon 31 = .ok (.goto (-24), 3) := by decide +kernel
theorem dX9_greatestCommon_34 : decode cX9_greatestCommon 34 = .ok (.iload_n 2, 1) := by decide +kernel
theorem dX9_greatestCommon_35 : decode cX9_greatestCommon 35 = .ok (.ireturn, 1) := by decide +kernel
theorem dX10_init_0 : decode cX10_init 0 = .ok (.aload_n 0, 1) := by decide +kernel
theorem dX10_init_1 : decode cX10_init 1 = .ok (.invokespecial 1, 3) := by decide +kernel
theorem dX10_init_4 : decode cX10_init 4 = .ok (.aload_n 0, 1) := by decide +kernel
theorem dX10_init_5 : decode cX10_init 5 = .ok (.iconst 5, 1) := by decide +kernel
theorem dX10_init_6 : decode cX10_init 6 = .ok (.newarray .int, 2) := by decide +kernel
theorem dX10_init_8 : decode cX10_init 8 = .ok (.putfield 7, 3) := by decide +kernel
theorem dX10_init_11 : decode cX10_init 11 = .ok (.aload_n 0, 1) := by decide +kernel
theorem dX10_init_12 : decode cX10_init 12 = .ok (.iconst 5, 1) := by decide +kernel
theorem dX10_init_13 : decode cX10_init 13 = .ok (.newarray .int, 2) := by decide +kernel
theorem dX10_init_15 : decode cX10_init 15 = .ok (.putfield 13, 3) := by decide +kernel
theorem dX10_init_18 : decode cX10_init 18 = .ok (.aload_n 0, 1) := by decide +kernel
theorem dX10_init_19 : decode cX10_init 19 = .ok (.iconst 5, 1) := by decide +kernel
theorem dX10_init_20 : decode cX10_init 20 = .ok (.newarray .int, 2) := by decide +kernel
theorem dX10_init_22 : decode cX10_init 22 = .ok (.putfield 16, 3) := by decide +kernel
theorem dX10_init_25 : decode cX10_init 25 = .ok (.aload_n 0, 1) := by decide +kernel
theorem dX10_init_26 : decode cX10_init 26 = .ok (.bipush 34, 2) := by decide +kernel
theorem dX10_init_28 : decode cX10_init 28 = .ok (.newarray .int, 2) := by decide +kernel
theorem dX10_init_30 : decode cX10_init 30 = .ok (.putfield 19, 3) := by decide +kernel
theorem dX10_init_33 : decode cX10_init 33 = .ok (.aload_n 0, 1) := by decide +kernel
theorem dX10_init_34 : decode cX10_init 34 = .ok (.bipush 15, 2) := by decide +kernel
theorem dX10_init_36 : decode cX10_init 36 = .ok (.newarray .int, 2) := by decide +kernel
theorem dX10_init_38 : decode cX10_init 38 = .ok (.putfield 22, 3) := by decide +kernel
theorem dX10_init_41 : decode cX10_init 41 = .ok (.aload_n 0, 1) := by decide +kernel
theorem dX10_init_42 : decode cX10_init 42 = .ok (.iconst 5, 1) := by decide +kernel
theorem dX10_init_43 : decode cX10_init 43 = .ok (.newarray .int, 2) := by decide +kernel
theorem dX10_init_45 : decode cX10_init 45 = .ok (.putfield 25, 3) := by decide +kernel
theorem dX10_init_48 : decode cX10_init 48 = .ok (.aload_n 0, 1) := by decide +kernel
theorem dX10_init_49 : decode cX10_init 49 = .ok (.bipush 48, 2) := by decide +kernel
theorem dX10_init_51 : decode cX10_init 51 = .ok (.newarray .int, 2) := by decide +kernel
theorem dX10_init_53 : decode cX10_init 53 = .ok (.putfield 28, 3) := by decide +kernel
theorem dX10_init_56 : decode cX10_init 56 = .ok (.aload_n 0, 1) := by decide +kernel
theorem dX10_init_57 : decode cX10_init 57 = .ok (.sipush 238, 3) := by decide +kernel
theorem dX10_init_60 : decode cX10_init 60 = .ok (.newarray .int, 2) := by decide +kernel
theorem dX10_init_62 : decode cX10_init 62 = .ok (.putfield 31, 3) := by decide +kernel
theorem dX10_init_65 : decode cX10_init 65 = .ok (.aload_n 0, 1) := by decide +kernel
theorem dX10_init_66 : decode cX10_init 66 = .ok (.bipush 6, 2) := by decide +kernel
theorem dX10_init_68 : decode cX10_init 68 = .ok (.newarray .int, 2) := by decide +kernel
theorem dX10_init_70 : decode cX10_init 70 = .ok (.putfield 34, 3) := by decide +kernel
theorem dX10_init_73 : decode cX10_init 73 = .ok (.aload_n 0, 1) := by decide +kernel
theorem dX10_init_74 : decode cX10_init 74 = .ok (.bipush 6, 2) := by decide +kernel
theorem dX10_init_76 : decode cX10_init 76 = .ok (.newarray .int, 2) := by decide +kernel
theorem dX10_init_78 : decode cX10_init 78 = .ok (.putfield 37, 3) := by decide +kernel
theorem dX10_init_81 : decode cX10_init 81 = .ok (.aload_n 0, 1) := by decide +kernel
theorem dX10_init_82 : decode cX10_init 82 = .ok (.bipush 6, 2) := by decide +kernel
theorem dX10_init_84 : decode cX10_init 84 = .ok (.newarray .int, 2) := by decide +kernel
theorem dX10_init_86 : decode cX10_init 86 = .ok (.putfield 40, 3) := by decide +kernel
theorem dX10_init_89 : decode cX10_init 89 = .ok (.aload_n 0, 1) := by decide +kernel
theorem dX10_init_90 : decode cX10_init 90 = .ok (.iconst 2, 1) := by decide +kernel
theorem dX10_init_91 : decode cX10_init 91 = .ok (.newarray .boolean, 2) := by decide +kernel
theorem dX10_init_93 : decode cX10_init 93 = .ok (.putfield 43, 3) := by decide +kernel
theorem dX10_init_96 : decode cX10_init 96 = .ok (.aload_n 0, 1) := by decide +kernel
theorem dX10_init_97 : decode cX10_init 97 = .ok (.bipush 34, 2) := by decide +kernel
theorem dX10_init_99 : decode cX10_init 99 = .ok (.newarray .int, 2) := by decide +kernel
theorem dX10_init_101 : decode cX10_init 101 = .ok (.putfield 47, 3) := by decide +kernel
theorem dX10_init_104 : decode cX10_init 104 = .ok (.aload_n 0, 1) := by decide +kernel
theorem dX10_init_105 : decode cX10_init 105 = .ok (.iconst 1, 1) := by decide +kernel
theorem dX10_init_106 : decode cX10_init 106 = .ok (.putfield 50, 3) := by decide +kernel
theorem dX10_init_109 : decode cX10_init 109 = .ok (.aload_n 0, 1) := by decide +kernel
theorem dX10_init_110 : decode cX10_init 110 = .ok (.iconst 1, 1) := by decide +kernel
theorem dX10_init_111 : decode cX10_init 111 = .ok (.putfield 54, 3) := by decide +kernel
theorem dX10_init_114 : decode cX10_init 114 = .ok (.return_, 1) := by decide +kernel
theorem dX10_in_0 : decode cX10_in 0 = .ok (.lload_n 0, 1) := by decide +kernel
theorem dX10_in_1 : decode cX10_in 1 = .ok (.lload_n 2, 1) := by decide +kernel
theorem dX10_in_2 : decode cX10_in 2 = .ok (.lcmp, 1) := by decide +kernel
theorem dX10_in_3 : decode cX10_in 3 = .ok (.ifCond .lt 14, 3) := by decide +kernel
theorem dX10_in_6 : decode cX10_in 6 = .ok (.lload_n 0, 1) := by decide +kernel
theorem dX10_in_7 : decode cX10_in 7 = .ok (.lload 4, 2) := by decide +kernel
theorem dX10_in_9 : decode cX10_in 9 = .ok (.lcmp, 1) := by decide +kernel
theorem dX10_in_10 : decode cX10_in 10 = .ok (.ifCond .gt 7, 3) := by decide +kernel
theorem dX10_in_13 : decode cX10_in 13 = .ok (.iconst 1, 1) := by decide +kernel
theorem dX10_in_14 : decode cX10_in 14 = .ok (.goto 4, 3) := by decide +kernel
theorem dX10_in_17 : decode cX10_in 17 = .ok (.iconst 0, 1) := by decide +kernel
theorem dX10_in_18 : decode cX10_in 18 = .ok (.ireturn, 1) := by decide +kernel
theorem dX10_has_0 : decode cX10_has 0 = .ok (.iload_n 0, 1) := by decide +kernel
theorem dX10_has_1 : decode cX10_has 1 = .ok (.iload_n 1, 1) := by decide +kernel
theorem dX10_has_2 : decode cX10_has 2 = .ok (.ishr, 1) := by decide +kernel
theorem dX10_has_3 : decode cX10_has 3 = .ok (.iconst 1, 1) := by decide +kernel
theorem dX10_has_4 : decode cX10_has 4 = .ok (.iand, 1) := by decide +kernel
theorem dX10_has_5 : decode cX10_has 5 = .ok (.iconst 1, 1) := by decide +kernel
theorem dX10_has_6 : decode cX10_has 6 = .ok (.if_icmp .ne 7, 3) := by decide +kernel
theorem dX10_has_9 : decode cX10_has 9 = .ok (.iconst 1, 1) := by decide +kernel
theorem dX10_has_10 : decode cX10_has 10 = .ok (.goto 4, 3) := by decide +kernel
theorem dX10_has_13 : decode cX10_has 13 = .ok (.iconst 0, 1) := by decide +kernel
theorem dX10_has_14 : decode cX10_has 14 = .ok (.ireturn, 1) := by decide +kernel
theorem dX10_ones_0 : decode cX10_ones 0 = .ok (.iconst 0, 1) := by decide +kernel
theorem dX10_ones_1 : decode cX10_ones 1 = .ok (.istore_n 1, 1) := by decide +kernel
theorem dX10_ones_2 : decode cX10_ones 2 = .ok (.iconst 0, 1) := by decide +kernel
theorem dX10_ones_3 : decode cX10_ones 3 = .ok (.istore_n 2, 1) := by decide +kernel
theorem dX10_ones_4 : decode cX10_ones 4 = .ok (.iload_n 2, 1) := by decide +kernel
theorem dX10_ones_5 : decode cX10_ones 5 = .ok (.iconst 5, 1) := by decide +kernel
theorem dX10_ones_6 : decode cX10_ones 6 = .ok (.if_icmp .ge 17, 3) := by decide +kernel
theorem dX10_ones_9 : decode cX10_ones 9 = .ok (.iload_n 1, 1) := by decide +kernel
theorem dX10_ones_10 : decode cX10_ones 10 = .ok (.iload_n 0, 1) := by decide +kernel
theorem dX10_ones_11 : decode cX10_ones 11 = .ok (.iload_n 2, 1) := by decide +kernel
theorem dX10_ones_12 : decode cX10_ones 12 = .ok (.ishr, 1) := by decide +kernel
theorem dX10_ones_13 : decode cX10_ones 13 = .ok (.iconst 1, 1) := by decide +kernel
theorem dX10_ones_14 : decode cX10_ones 14 = .ok (.iand, 1) := by decide +kernel
theorem dX10_ones_15 : decode cX10_ones 15 = .ok (.iadd, 1) := by decide +kernel
theorem dX10_ones_16 : decode cX10_ones 16 = .ok (.istore_n 1, 1) := by decide +kernel
theorem dX10_ones_17 : decode cX10_ones 17 = .ok (.iinc 2 1, 3) := by decide +kernel
theorem dX10_ones_20 : decode cX10_ones 20 = .ok (.goto (-16), 3) := by decide +kernel
theorem dX10_ones_23 : decode cX10_ones 23 = .ok (.iload_n 1, 1) := by decide +kernel
theorem dX10_ones_24 : decode cX10_ones 24 = .ok (.ireturn, 1) := by decide +kernel
set_option maxRecDepth 20000 in
theorem ggX10_write_X10_in : GoodIn wsX10_write wsX10_in := goodIn_r _ [7] (by decide +kernel) (by decide +kernel)
set_option maxRecDepth 20000 in
theorem gX10_write_X10_in : GoodIn wsX10_write (va_wsS RX10 59 yX10_in wsX10_in) := goodIn_app (goodIn_of _ (by decide +kernel)) ggX10_write_X10_in
theorem dX10_write_0 : decode cX10_write 0 = .ok (.iload_n 1, 1) := by decide +kernel
theorem dX10_write_1 : decode cX10_write 1 = .ok (.i2l, 1) := by decide +kernel
theorem dX10_write_2 : decode cX10_write 2 = .ok (.lconst 0, 1) := by decide +kernel
theorem dX10_write_3 : decode cX10_write 3 = .ok (.ldc2_w 57, 3) := by decide +kernel
theorem dX10_write_6 : decode cX10_write 6 = .ok (.invokestatic 59, 3) := by decide +kernel
theorem dX10_write_9 : decode cX10_write 9 = .ok (.ifCond .ne 6, 3) := by decide +kernel
theorem dX10_write_12 : decode cX10_write 12 = .ok (.bipush (-2), 2) := by decide +kernel
theorem dX10_write_14 : decode cX10_write 14 = .ok (.ireturn, 1) := by decide +kernel
theorem dX10_write_15 : decode cX10_write 15 = .ok (.aload_n 0, 1) := by decide +kernel
theorem dX10_write_16 : decode cX10_write 16 = .ok (.getfield 63, 3) := by decide +kernel
theorem dX10_write_19 : decode cX10_write 19 = .ok (.bipush 48, 2) := by decide +kernel
theorem dX10_write_21 : decode cX10_write 21 = .ok (.if_icmp .ne 6, 3) := by decide +kernel
theorem dX10_write_24 : decode cX10_write 24 = .ok (.bipush (-4), 2) := by decide +kernel
theorem dX10_write_26 : decode cX10_write 26 = .ok (.ireturn, 1) := by decide +kernel
theorem dX10_write_27 : decode cX10_write 27 = .ok (.aload_n 0, 1) := by decide +kernel
theorem dX10_write_28 : decode cX10_write 28 = .ok (.getfield 28, 3) := by decide +kernel
theorem dX10_write_31 : decode cX10_write 31 = .ok (.aload_n 0, 1) := by decide +kernel
theorem dX10_write_32 : decode cX10_write 32 = .ok (.getfield 63, 3) := by decide +kernel
theorem dX10_write_35 : decode cX10_write 35 = .ok (.iload_n 1, 1) := by decide +kernel
theorem dX10_write_36 : decode cX10_write 36 = .ok (.iastore, 1) := by decide +kernel
theorem dX10_write_37 : decode cX10_write 37 = .ok (.aload_n 0, 1) := by decide +kernel
theorem dX10_write_38 : decode cX10_write 38 = .ok (.dup, 1) := by decide +kernel
theorem dX10_write_39 : decode cX10_write 39 = .ok (.getfield 63, 3) := by decide +kernel
theorem dX10_write_42 : decode cX10_write 42 = .ok (.iconst 1, 1) := by decide +kernel
theorem dX10_write_43 : decode cX10_write 43 = .ok (.iadd, 1) := by decide +kernel
theorem dX10_write_44 : decode cX10_write 44 = .ok (.putfield 63, 3) := by decide +kernel
theorem dX10_write_47 : decode cX10_write 47 = .ok (.aload_n 0, 1) := by decide +kernel
theorem dX10_write_48 : decode cX10_write 48 = .ok (.getfield 63, 3) := by decide +kernel
theorem dX10_write_51 : decode cX10_write 51 = .ok (.ireturn, 1) := by decide +kernel
theorem dX10_wipe_0 : decode cX10_wipe 0 = .ok (.aload_n 0, 1) := by decide +kernel
theorem dX10_wipe_1 : decode cX10_wipe 1 = .ok (.getfield 63, 3) := by decide +kernel
theorem dX10_wipe_4 : decode cX10_wipe 4 = .ok (.istore_n 1, 1) := by decide +kernel
theorem dX10_wipe_5 : decode cX10_wipe 5 = .ok (.aload_n 0, 1) := by decide +kernel
theorem dX10_wipe_6 : decode cX10_wipe 6 = .ok (.iconst 0, 1) := by decide +kernel
theorem dX10_wipe_7 : decode cX10_wipe 7 = .ok (.putfield 63, 3) := by decide +kernel
theorem dX10_wipe_10 : decode cX10_wipe 10 = .ok (.iload_n 1, 1) := by decide +kernel
theorem dX10_wipe_11 : decode cX10_wipe 11 = .ok (.ireturn, 1) := by decide +kernel
set_option maxRecDepth 20000 in
theorem ggX10_takeOf_X10_in : GoodIn wsX10_takeOf wsX10_in := goodIn_r _ [9] (by decide +kernel) (by decide +kernel)
set_option maxRecDepth 20000 in
theorem gX10_takeOf_X10_in : GoodIn wsX10_takeOf (va_wsS RX10 59 yX10_in wsX10_in) := goodIn_app (goodIn_of _ (by decide +kernel)) ggX10_takeOf_X10_in
set_option maxRecDepth 20000 in
theorem ggX10_takeOf_X10_has : GoodIn wsX10_takeOf wsX10_has := goodIn_r _ [12] (by decide +kernel) (by decide +kernel)
set_option maxRecDepth 20000 in
theorem gX10_takeOf_X10_has : GoodIn wsX10_takeOf (va_wsS RX10 74 yX10_has wsX10_has) := goodIn_app (goodIn_of _ (by decide +kernel)) ggX10_takeOf_X10_has
theorem dX10_takeOf_0 : decode cX10_takeOf 0 = .ok (.aload_n 0, 1) := by decide +kernel
theorem dX10_takeOf_1 : decode cX10_takeOf 1 = .ok (.getfield 66, 3) := by decide +kernel
theorem dX10_takeOf_4 : decode cX10_takeOf 4 = .ok (.bipush (-9), 2) := by decide +kernel
theorem dX10_takeOf_6 : decode cX10_takeOf 6 = .ok (.if_icmp .ne 28, 3) := by decide +kernel
theorem dX10_takeOf_9 : decode cX10_takeOf 9 = .ok (.aload_n 0, 1) := by decide +kernel
theorem dX10_takeOf_10 : decode cX10_takeOf 10 = .ok (.getfield 69, 3) := by decide +kernel
theorem dX10_takeOf_13 : decode cX10_takeOf 13 = .ok (.aload_n 0, 1) := by decide +kernel
theorem dX10_takeOf_14 : decode cX10_takeOf 14 = .ok (.getfield 63, 3) := by decide +kernel
theorem dX10_takeOf_17 : decode cX10_takeOf 17 = .ok (.if_icmp .ge 17, 3) := by decide +kernel
theorem dX10_takeOf_20 : decode cX10_takeOf 20 = .ok (.aload_n 0, 1) := by decide +kernel
theorem dX10_takeOf_21 : decode cX10_takeOf 21 = .ok (.getfield 28, 3) := by decide +kernel
theorem dX10_takeOf_24 : decode cX10_takeOf 24 = .ok (.aload_n 0, 1) := by decide +kernel
theorem dX10_takeOf_25 : decode cX10_takeOf 25 = .ok (.getfield 69, 3) := by decide +kernel
theorem dX10_takeOf_28 : decode cX10_takeOf 28 = .ok (.iaload, 1) := by decide +kernel
theorem dX10_takeOf_29 : decode cX10_takeOf 29 = .ok (.iload_n 1, 1) := by decide +kernel
theorem dX10_takeOf_30 : decode cX10_takeOf 30 = .ok (.isub, 1) := by decide +kernel
theorem dX10_takeOf_31 : decode cX10_takeOf 31 = .ok (.goto 5, 3) := by decide +kernel
theorem dX10_takeOf_34 : decode cX10_takeOf 34 = .ok (.bipush (-9), 2) := by decide +kernel
theorem dX10_takeOf_36 : decode cX10_takeOf 36 = .ok (.istore_n 3, 1) := by decide +kernel
theorem dX10_takeOf_37 : decode cX10_takeOf 37 = .ok (.iload_n 3, 1) := by decide +kernel
theorem dX10_takeOf_38 : decode cX10_takeOf 38 = .ok (.i2l, 1) := by decide +kernel
theorem dX10_takeOf_39 : decode cX10_takeOf 39 = .ok (.lconst 0, 1) := by decide +kernel
theorem dX10_takeOf_40 : decode cX10_takeOf 40 = .ok (.ldc2_w 72, 3) := by decide +kernel
theorem dX10_takeOf_43 : decode cX10_takeOf 43 = .ok (.invokestatic 59, 3) := by decide +kernel
theorem dX10_takeOf_46 : decode cX10_takeOf 46 = .ok (.ifCond .eq 11, 3) := by decide +kernel
theorem dX10_takeOf_49 : decode cX10_takeOf 49 = .ok (.iload_n 2, 1) := by decide +kernel
theorem dX10_takeOf_50 : decode cX10_takeOf 50 = .ok (.iload_n 3, 1) := by decide +kernel
theorem dX10_takeOf_51 : decode cX10_takeOf 51 = .ok (.invokestatic 74, 3) := by decide +kernel
theorem dX10_takeOf_54 : decode cX10_takeOf 54 = .ok (.ifCond .ne 29, 3) := by decide +kernel
theorem dX10_takeOf_57 : decode cX10_takeOf 57 = .ok (.aload_n 0, 1) := by decide +kernel
theorem dX10_takeOf_58 : decode cX10_takeOf 58 = .ok (.aload_n 0, 1) := by decide +kernel
theorem dX10_takeOf_59 : decode cX10_takeOf 59 = .ok (.getfield 66, 3) := by decide +kernel
theorem dX10_takeOf_62 : decode cX10_takeOf 62 = .ok (.bipush (-9), 2) := by decide +kernel
theorem dX10_takeOf_64 : decode cX10_takeOf 64 = .ok (.if_icmp .ne 10, 3) := by decide +kernel
theorem dX10_takeOf_67 : decode cX10_takeOf 67 = .ok (.aload_n 0, 1) := by decide +kernel
theorem dX10_takeOf_68 : decode cX10_takeOf 68 = .ok (.getfield 69, 3) := by decide +kernel
theorem dX10_takeOf_71 : decode cX10_takeOf 71 = .ok (.goto 7, 3) := by decide +kernel
theorem dX10_takeOf_74 : decode cX10_takeOf 74 = .ok (.aload_n 0, 1) := by decide +kernel
theorem dX10_takeOf_75 : decode cX10_takeOf 75 = .ok (.getfield 66, 3) := by decide +kernel
theorem dX10_takeOf_78 : decode cX10_takeOf 78 = .ok (.putfield 66, 3) := by decide +kernel
theorem dX10_takeOf_81 : decode cX10_takeOf 81 = .ok (.iconst 0, 1) := by decide +kernel
theorem dX10_takeOf_82 : decode cX10_takeOf 82 = .ok (.ireturn, 1) := by decide +kernel
theorem dX10_takeOf_83 : decode cX10_takeOf 83 = .ok (.aload_n 0, 1) := by decide +kernel
theorem dX10_takeOf_84 : decode cX10_takeOf 84 = .ok (.dup, 1) := by decide +kernel
theorem dX10_takeOf_85 : decode cX10_takeOf 85 = .ok (.getfield 69, 3) := by decide +kernel
theorem dX10_takeOf_88 : decode cX10_takeOf 88 = .ok (.iconst 1, 1) := by decide +kernel
theorem dX10_takeOf_89 : decode cX10_takeOf 89 = .ok (.iadd, 1) := by decide +kernel
theorem dX10_takeOf_90 : decode cX10_takeOf 90 = .ok (.putfield 69, 3) := by decide +kernel
theorem dX10_takeOf_93 : decode cX10_takeOf 93 = .ok (.iload_n 3, 1) := by decide +kernel
theorem dX10_takeOf_94 : decode cX10_takeOf 94 = .ok (.ireturn, 1) := by decide +kernel
theorem dX10_left_0 : decode cX10_left 0 = .ok (.iconst 1, 1) := by decide +kernel
theorem dX10_left_1 : decode cX10_left 1 = .ok (.aload_n 0, 1) := by decide +kernel
theorem dX10_left_2 : decode cX10_left 2 = .ok (.getfield 78, 3) := by decide +kernel
theorem dX10_left_5 : decode cX10_left 5 = .ok (.ishl, 1) := by decide +kernel
theorem dX10_left_6 : decode cX10_left 6 = .ok (.iconst 1, 1) := by decide +kernel
theorem dX10_left_7 : decode cX10_left 7 = .ok (.isub, 1) := by decide +kernel
theorem dX10_left_8 : decode cX10_left 8 = .ok (.aload_n 0, 1) := by decide +kernel
theorem dX10_left_9 : decode cX10_left 9 = .ok (.getfield 25, 3) := by decide +kernel
theorem dX10_left_12 : decode cX10_left 12 = .ok (.iload_n 1, 1) := by decide +kernel
theorem dX10_left_13 : decode cX10_left 13 = .ok (.iaload, 1) := by decide +kernel
theorem dX10_left_14 : decode cX10_left 14 = .ok (.iconst (-1), 1) := by decide +kernel
theorem dX10_left_15 : decode cX10_left 15 = .ok (.ixor, 1) := by decide +kernel
theorem dX10_left_16 : decode cX10_left 16 = .ok (.iand, 1) := by decide +kernel
theorem dX10_left_17 : decode cX10_left 17 = .ok (.iconst 1, 1) := by decide +kernel
theorem dX10_left_18 : decode cX10_left 18 = .ok (.iload_n 1, 1) := by decide +kernel
theorem dX10_left_19 : decode cX10_left 19 = .ok (.ishl, 1) := by decide +kernel
theorem dX10_left_20 : decode cX10_left 20 = .ok (.iconst (-1), 1) := by decide +kernel
theorem dX10_left_21 : decode cX10_left 21 = .ok (.ixor, 1) := by decide +kernel
theorem dX10_left_22 : decode cX10_left 22 = .ok (.iand, 1) := by decide +kernel
theorem dX10_left_23 : decode cX10_left 23 = .ok (.ireturn, 1) := by decide +kernel
set_option maxRecDepth 20000 in
theorem ggX10_firstsLeft_X10_left : GoodIn wsX10_firstsLeft wsX10_left := goodIn_r _ [6, 1, 7, 8, 9, 10, 11, 12, 13, 14, 15, 16, 17, 18, 19, 20, 21, 22, 23, 24, 25, 26, 27, 28, 29, 30, 31] (by decide +kernel) (by decide +kernel)
set_option maxRecDepth 20000 in
theorem gX10_firstsLeft_X10_left : GoodIn wsX10_firstsLeft (wsV RX10 81 RX10 yX10_left wsX10_left) := goodIn_app (goodIn_of _ (by decide +kernel)) ggX10_firstsLeft_X10_left
theorem dX10_firstsLeft_0 : decode cX10_firstsLeft 0 = .ok (.iconst 0, 1) := by decide +kernel
theorem dX10_firstsLeft_1 : decode cX10_firstsLeft 1 = .ok (.istore_n 1, 1) := by decide +kernel
theorem dX10_firstsLeft_2 : decode cX10_firstsLeft 2 = .ok (.iconst 0, 1) := by decide +kernel
theorem dX10_firstsLeft_3 : decode cX10_firstsLeft 3 = .ok (.istore_n 2, 1) := by decide +kernel
theorem dX10_firstsLeft_4 : decode cX10_firstsLeft 4 = .ok (.iload_n 2, 1) := by decide +kernel
theorem dX10_firstsLeft_5 : decode cX10_firstsLeft 5 = .ok (.aload_n 0, 1) := by decide +kernel
theorem dX10_firstsLeft_6 : decode cX10_firstsLeft 6 = .ok (.getfield 78, 3) := by decide +kernel
theorem dX10_firstsLeft_9 : decode cX10_firstsLeft 9 = .ok (.if_icmp .ge 27, 3) := by decide +kernel
theorem dX10_firstsLeft_12 : decode cX10_firstsLeft 12 = .ok (.iload_n 1, 1) := by decide +kernel
theorem dX10_firstsLeft_13 : decode cX10_firstsLeft 13 = .ok (.aload_n 0, 1) := by decide +kernel
theorem dX10_firstsLeft_14 : decode cX10_firstsLeft 14 = .ok (.iload_n 2, 1) := by decide +kernel
theorem dX10_firstsLeft_15 : decode cX10_firstsLeft 15 = .ok (.invokevirtual 81, 3) := by decide +kernel
theorem dX10_firstsLeft_18 : decode cX10_firstsLeft 18 = .ok (.ifCond .eq 9, 3) := by decide +kernel
theorem dX10_firstsLeft_21 : decode cX10_firstsLeft 21 = .ok (.iconst 1, 1) := by decide +kernel
theorem dX10_firstsLeft_22 : decode cX10_firstsLeft 22 = .ok (.iload_n 2, 1) := by decide +kernel
theorem dX10_firstsLeft_23 : decode cX10_firstsLeft 23 = .ok (.ishl, 1) := by decide +kernel
theorem dX10_firstsLeft_24 : decode cX10_firstsLeft 24 = .ok (.goto 4, 3) := by decide +kernel
theorem dX10_firstsLeft_27 : decode cX10_firstsLeft 27 = .ok (.iconst 0, 1) := by decide +kernel
theorem dX10_firstsLeft_28 : decode cX10_firstsLeft 28 = .ok (.ior, 1) := by decide +kernel
theorem dX10_firstsLeft_29 : decode cX10_firstsLeft 29 = .ok (.istore_n 1, 1) := by decide +kernel
theorem dX10_firstsLeft_30 : decode cX10_firstsLeft 30 = .ok (.iinc 2 1, 3) := by decide +kernel
theorem dX10_firstsLeft_33 : decode cX10_firstsLeft 33 = .ok (.goto (-29), 3) := by decide +kernel
theorem dX10_firstsLeft_36 : decode cX10_firstsLeft 36 = .ok (.iload_n 1, 1) := by decide +kernel
theorem dX10_firstsLeft_37 : decode cX10_firstsLeft 37 = .ok (.ireturn, 1) := by decide +kernel
set_option maxRecDepth 20000 in
theorem ggX10_readText_X10_takeOf : GoodIn wsX10_readText wsX10_takeOf := goodIn_r _ [11, 2, 1, 5, 6, 12, 13, 14, 10, 15, 16, 17, 18, 33, 34, 35, 36, 37, 38, 39, 40, 41, 42, 43, 44, 45, 46, 47, 48, 49, 50, 51, 52, 53, 54, 55, 56] (by decide +kernel) (by decide +kernel)
set_option maxRecDepth 20000 in
theorem gX10_readText_X10_takeOf : GoodIn wsX10_readText (wsV RX10 85 RX10 yX10_takeOf wsX10_takeOf) := goodIn_app (goodIn_of _ (by decide +kernel)) ggX10_readText_X10_takeOf
set_option maxRecDepth 20000 in
theorem ggX10_readText_X10_readPart : GoodIn wsX10_readText wsX10_readPart := goodIn_r _ [22, 3, 1, 23, 24, 4, 2, 7, 8, 9, 10, 11, 5, 6, 12, 13, 14, 15, 16, 17, 18, 25, 26, 27, 28, 29, 30, 31, 32, 33, 34, 35, 36, 37, 38, 39, 40, 41, 42, 43, 44, 45, 46, 47, 48, 49, 50, 51, 52, 53, 54, 55, 56] (by decide +kernel) (by decide +kernel)
set_option maxRecDepth 20000 in
theorem gX10_readText_X10_readPart : GoodIn wsX10_readText (wsV RX10 89 RX10 yX10_readPart wsX10_readPart) := goodIn_app (goodIn_of _ (by decide +kernel)) ggX10_readText_X10_readPart
theorem dX10_readText_0 : decode cX10_readText 0 = .ok (.aload_n 0, 1) := by decide +kernel
theorem dX10_readText_1 : decode cX10_readText 1 = .ok (.iconst 0, 1) := by decide +kernel
theorem dX10_readText_2 : decode cX10_readText 2 = .ok (.putfield 69, 3) := by decide +kernel
theorem dX10_readText_5 : decode cX10_readText 5 = .ok (.aload_n 0, 1) := by decide +kernel
theorem dX10_readText_6 : decode cX10_readText 6 = .ok (.bipush (-9), 2) := by decide +kernel
theorem dX10_readText_8 : decode cX10_readText 8 = .ok (.putfield 66, 3) := by decide +kernel
theorem dX10_readText_11 : decode cX10_readText 11 = .ok (.aload_n 0, 1) := by decide +kernel
theorem dX10_readText_12 : decode cX10_readText 12 = .ok (.iconst 0, 1) := by decide +kernel
theorem dX10_readText_13 : decode cX10_readText 13 = .ok (.putfield 78, 3) := by decide +kernel
theorem dX10_readText_16 : decode cX10_readText 16 = .ok (.iconst 0, 1) := by decide +kernel
theorem dX10_readText_17 : decode cX10_readText 17 = .ok (.istore_n 1, 1) := by decide +kernel
theorem dX10_readText_18 : decode cX10_readText 18 = .ok (.iload_n 1, 1) := by decide +kernel
theorem dX10_readText_19 : decode cX10_readText 19 = .ok (.iconst 5, 1) := by decide +kernel
theorem dX10_readText_20 : decode cX10_readText 20 = .ok (.if_icmp .ge 16, 3) := by decide +kernel
theorem dX10_readText_23 : decode cX10_readText 23 = .ok (.aload_n 0, 1) := by decide +kernel
theorem dX10_readText_24 : decode cX10_readText 24 = .ok (.getfield 25, 3) := by decide +kernel
theorem dX10_readText_27 : decode cX10_readText 27 = .ok (.iload_n 1, 1) := by decide +kernel
theorem dX10_readText_28 : decode cX10_readText 28 = .ok (.iconst 0, 1) := by decide +kernel
theorem dX10_readText_29 : decode cX10_readText 29 = .ok (.iastore, 1) := by decide +kernel
theorem dX10_readText_30 : decode cX10_readText 30 = .ok (.iinc 1 1, 3) := by decide +kernel
theorem dX10_readText_33 : decode cX10_readText 33 = .ok (.goto (-15), 3) := by decide +kernel
theorem dX10_readText_36 : decode cX10_readText 36 = .ok (.aload_n 0, 1) := by decide +kernel
theorem dX10_readText_37 : decode cX10_readText 37 = .ok (.getfield 63, 3) := by decide +kernel
theorem dX10_readText_40 : decode cX10_readText 40 = .ok (.ifCond .eq 14, 3) := by decide +kernel
theorem dX10_readText_43 : decode cX10_readText 43 = .ok (.aload_n 0, 1) := by decide +kernel
theorem dX10_readText_44 : decode cX10_readText 44 = .ok (.getfield 28, 3) := by decide +kernel
theorem dX10_readText_47 : decode cX10_readText 47 = .ok (.iconst 0, 1) := by decide +kernel
theorem dX10_readText_48 : decode cX10_readText 48 = .ok (.iaload, 1) := by decide +kernel
theorem dX10_readText_49 : decode cX10_readText 49 = .ok (.bipush 85, 2) := by decide +kernel
theorem dX10_readText_51 : decode cX10_readText 51 = .ok (.if_icmp .eq 5, 3) := by decide +kernel
theorem dX10_readText_54 : decode cX10_readText 54 = .ok (.iconst 0, 1) := by decide +kernel
theorem dX10_readText_55 : decode cX10_readText 55 = .ok (.ireturn, 1) := by decide +kernel
theorem dX10_readText_56 : decode cX10_readText 56 = .ok (.aload_n 0, 1) := by decide +kernel
theorem dX10_readText_57 : decode cX10_readText 57 = .ok (.iconst 1, 1) := by decide +kernel
theorem dX10_readText_58 : decode cX10_readText 58 = .ok (.putfield 69, 3) := by decide +kernel
theorem dX10_readText_61 : decode cX10_readText 61 = .ok (.aload_n 0, 1) := by decide +kernel
theorem dX10_readText_62 : decode cX10_readText 62 = .ok (.bipush 48, 2) := by decide +kernel
theorem dX10_readText_64 : decode cX10_readText 64 = .ok (.bipush 14, 2) := by decide +kernel
theorem dX10_readText_66 : decode cX10_readText 66 = .ok (.invokevirtual 85, 3) := by decide +kernel
theorem dX10_readText_69 : decode cX10_readText 69 = .ok (.pop, 1) := by decide +kernel
theorem dX10_readText_70 : decode cX10_readText 70 = .ok (.aload_n 0, 1) := by decide +kernel
theorem dX10_readText_71 : decode cX10_readText 71 = .ok (.bipush 48, 2) := by decide +kernel
theorem dX10_readText_73 : decode cX10_readText 73 = .ok (.bipush 30, 2) := by decide +kernel
theorem dX10_readText_75 : decode cX10_readText 75 = .ok (.invokevirtual 85, 3) := by decide +kernel
theorem dX10_readText_78 : decode cX10_readText 78 = .ok (.pop, 1) := by decide +kernel
theorem dX10_readText_79 : decode cX10_readText 79 = .ok (.aload_n 0, 1) := by decide +kernel
theorem dX10_readText_80 : decode cX10_readText 80 = .ok (.bipush 48, 2) := by decide +kernel
theorem dX10_readText_82 : decode cX10_readText 82 = .ok (.bipush 7, 2) := by decide +kernel
theorem dX10_readText_84 : decode cX10_readText 84 = .ok (.invokevirtual 85, 3) := by decide +kernel
theorem dX10_readText_87 : decode cX10_readText 87 = .ok (.pop, 1) := by decide +kernel
theorem dX10_readText_88 : decode cX10_readText 88 = .ok (.aload_n 0, 1) := by decide +kernel
theorem dX10_readText_89 : decode cX10_readText 89 = .ok (.getfield 66, 3) := by decide +kernel
theorem dX10_readText_92 : decode cX10_readText 92 = .ok (.bipush (-9), 2) := by decide +kernel
theorem dX10_readText_94 : decode cX10_readText 94 = .ok (.if_icmp .ne 30, 3) := by decide +kernel
theorem dX10_readText_97 : decode cX10_readText 97 = .ok (.aload_n 0, 1) := by decide +kernel
theorem dX10_readText_98 : decode cX10_readText 98 = .ok (.getfield 69, 3) := by decide +kernel
theorem dX10_readText_101 : decode cX10_readText 101 = .ok (.aload_n 0, 1) := by decide +kernel
theorem dX10_readText_102 : decode cX10_readText 102 = .ok (.getfield 63, 3) := by decide +kernel
theorem dX10_readText_105 : decode cX10_readText 105 = .ok (.if_icmp .ge 19, 3) := by decide +kernel
theorem dX10_readText_108 : decode cX10_readText 108 = .ok (.aload_n 0, 1) := by decide +kernel
theorem dX10_readText_109 : decode cX10_readText 109 = .ok (.aload_n 0, 1) := by decide +kernel
theorem dX10_readText_110 : decode cX10_readText 110 = .ok (.getfield 28, 3) := by decide +kernel
theorem dX10_readText_113 : decode cX10_readText 113 = .ok (.aload_n 0, 1) := by decide +kernel
theorem dX10_readText_114 : decode cX10_readText 114 = .ok (.getfield 69, 3) := by decide +kernel
theorem dX10_readText_117 : decode cX10_readText 117 = .ok (.iaload, 1) := by decide +kernel
theorem dX10_readText_118 : decode cX10_readText 118 = .ok (.invokevirtual 89, 3) := by decide +kernel
theorem dX10_readText_121 : decode cX10_readText 121 = .ok (.goto (-33), 3) := by decide +kernel
theorem dX10_readText_124 : decode cX10_readText 124 = .ok (.aload_n 0, 1) := by decide +kernel
theorem dX10_readText_125 : decode cX10_readText 125 = .ok (.getfield 66, 3) := by decide +kernel
theorem dX10_readText_128 : decode cX10_readText 128 = .ok (.ireturn, 1) := by decide +kernel
set_option maxRecDepth 20000 in
theorem ggX10_readPart_X10_takeOf : GoodIn wsX10_readPart wsX10_takeOf := goodIn_r _ [11, 6, 2, 12, 13, 14, 15, 16, 10, 17, 18, 19, 20, 29, 30, 31, 32, 33, 34, 35, 36, 37, 38, 39, 40, 41, 42, 43, 44, 45, 46, 47, 48, 49, 50, 51, 52] (by decide +kernel) (by decide +kernel)
set_option maxRecDepth 20000 in
theorem gX10_readPart_X10_takeOf : GoodIn wsX10_readPart (wsV RX10 85 RX10 yX10_takeOf wsX10_takeOf) := goodIn_app (goodIn_of _ (by decide +kernel)) ggX10_readPart_X10_takeOf
set_option maxRecDepth 20000 in
theorem ggX10_readPart_X10_firstsLeft : GoodIn wsX10_readPart wsX10_firstsLeft := goodIn_r _ [24, 1, 25, 26, 27, 10, 28, 5, 29, 30, 31, 32, 33, 34, 35, 36, 37, 38, 39, 40, 41, 42, 43, 44, 45, 46, 47, 48, 49, 50, 51, 52] (by decide +kernel) (by decide +kernel)
set_option maxRecDepth 20000 in
theorem gX10_readPart_X10_firstsLeft : GoodIn wsX10_readPart (wsV RX10 94 RX10 yX10_firstsLeft wsX10_firstsLeft) := goodIn_app (goodIn_of _ (by decide +kernel)) ggX10_readPart_X10_firstsLeft
set_option maxRecDepth 20000 in
theorem ggX10_readPart_X10_left : GoodIn wsX10_readPart wsX10_left := goodIn_r _ [28, 1, 5, 29, 30, 31, 32, 33, 34, 35, 36, 37, 38, 39, 40, 41, 42, 43, 44, 45, 46, 47, 48, 49, 50, 51, 52] (by decide +kernel) (by decide +kernel)
set_option maxRecDepth 20000 in
theorem gX10_readPart_X10_left : GoodIn wsX10_readPart (wsV RX10 81 RX10 yX10_left wsX10_left) := goodIn_app (goodIn_of _ (by decide +kernel)) ggX10_readPart_X10_left
theorem dX10_readPart_0 : decode cX10_readPart 0 = .ok (.iload_n 1, 1) := by decide +kernel
theorem dX10_readPart_1 : decode cX10_readPart 1 = .ok (.bipush 70, 2) := by decide +kernel
theorem dX10_readPart_3 : decode cX10_readPart 3 = .ok (.if_icmp .ne 95, 3) := by decide +kernel
theorem dX10_readPart_6 : decode cX10_readPart 6 = .ok (.aload_n 0, 1) := by decide +kernel
theorem dX10_readPart_7 : decode cX10_readPart 7 = .ok (.getfield 78, 3) := by decide +kernel
theorem dX10_readPart_10 : decode cX10_readPart 10 = .ok (.iconst 5, 1) := by decide +kernel
theorem dX10_readPart_11 : decode cX10_readPart 11 = .ok (.if_icmp .ge 87, 3) := by decide +kernel
theorem dX10_readPart_14 : decode cX10_readPart 14 = .ok (.aload_n 0, 1) := by decide +kernel
theorem dX10_readPart_15 : decode cX10_readPart 15 = .ok (.dup, 1) := by decide +kernel
theorem dX10_readPart_16 : decode cX10_readPart 16 = .ok (.getfield 69, 3) := by decide +kernel
theorem dX10_readPart_19 : decode cX10_readPart 19 = .ok (.iconst 1, 1) := by decide +kernel
theorem dX10_readPart_20 : decode cX10_readPart 20 = .ok (.iadd, 1) := by decide +kernel
theorem dX10_readPart_21 : decode cX10_readPart 21 = .ok (.putfield 69, 3) := by decide +kernel
theorem dX10_readPart_24 : decode cX10_readPart 24 = .ok (.aload_n 0, 1) := by decide +kernel
theorem dX10_readPart_25 : decode cX10_readPart 25 = .ok (.getfield 22, 3) := by decide +kernel
theorem dX10_readPart_28 : decode cX10_readPart 28 = .ok (.iconst 3, 1) := by decide +kernel
theorem dX10_readPart_29 : decode cX10_readPart 29 = .ok (.aload_n 0, 1) := by decide +kernel
theorem dX10_readPart_30 : decode cX10_readPart 30 = .ok (.getfield 78, 3) := by decide +kernel
theorem dX10_readPart_33 : decode cX10_readPart 33 = .ok (.imul, 1) := by decide +kernel
theorem dX10_readPart_34 : decode cX10_readPart 34 = .ok (.aload_n 0, 1) := by decide +kernel
theorem dX10_readPart_35 : decode cX10_readPart 35 = .ok (.bipush 97, 2) := by decide +kernel
theorem dX10_readPart_37 : decode cX10_readPart 37 = .ok (.ldc 93, 2) := by decide +kernel
theorem dX10_readPart_39 : decode cX10_readPart 39 = .ok (.invokevirtual 85, 3) := by decide +kernel
theorem dX10_readPart_42 : decode cX10_readPart 42 = .ok (.iastore, 1) := by decide +kernel
theorem dX10_readPart_43 : decode cX10_readPart 43 = .ok (.aload_n 0, 1) := by decide +kernel
theorem dX10_readPart_44 : decode cX10_readPart 44 = .ok (.getfield 22, 3) := by decide +kernel
theorem dX10_readPart_47 : decode cX10_readPart 47 = .ok (.iconst 3, 1) := by decide +kernel
theorem dX10_readPart_48 : decode cX10_readPart 48 = .ok (.aload_n 0, 1) := by decide +kernel
theorem dX10_readPart_49 : decode cX10_readPart 49 = .ok (.getfield 78, 3) := by decide +kernel
theorem dX10_readPart_52 : decode cX10_readPart 52 = .ok (.imul, 1) := by decide +kernel
theorem dX10_readPart_53 : decode cX10_readPart 53 = .ok (.iconst 1, 1) := by decide +kernel
theorem dX10_readPart_54 : decode cX10_readPart 54 = .ok (.iadd, 1) := by decide +kernel
theorem dX10_readPart_55 : decode cX10_readPart 55 = .ok (.aload_n 0, 1) := by decide +kernel
theorem dX10_readPart_56 : decode cX10_readPart 56 = .ok (.bipush 48, 2) := by decide +kernel
theorem dX10_readPart_58 : decode cX10_readPart 58 = .ok (.bipush 15, 2) := by decide +kernel
theorem dX10_readPart_60 : decode cX10_readPart 60 = .ok (.invokevirtual 85, 3) := by decide +kernel
theorem dX10_readPart_63 : decode cX10_readPart 63 = .ok (.iastore, 1) := by decide +kernel
theorem dX10_readPart_64 : decode cX10_readPart 64 = .ok (.aload_n 0, 1) := by decide +kernel
theorem dX10_readPart_65 : decode cX10_readPart 65 = .ok (.getfield 22, 3) := by decide +kernel
theorem dX10_readPart_68 : decode cX10_readPart 68 = .ok (.iconst 3, 1) := by decide +kernel
theorem dX10_readPart_69 : decode cX10_readPart 69 = .ok (.aload_n 0, 1) := by decide +kernel
theorem dX10_readPart_70 : decode cX10_readPart 70 = .ok (.getfield 78, 3) := by decide +kernel
theorem dX10_readPart_73 : decode cX10_readPart 73 = .ok (.imul, 1) := by decide +kernel
theorem dX10_readPart_74 : decode cX10_readPart 74 = .ok (.iconst 2, 1) := by decide +kernel
theorem dX10_readPart_75 : decode cX10_readPart 75 = .ok (.iadd, 1) := by decide +kernel
theorem dX10_readPart_76 : decode cX10_readPart 76 = .ok (.aload_n 0, 1) := by decide +kernel
theorem dX10_readPart_77 : decode cX10_readPart 77 = .ok (.bipush 48, 2) := by decide +kernel
theorem dX10_readPart_79 : decode cX10_readPart 79 = .ok (.bipush 30, 2) := by decide +kernel
theorem dX10_readPart_81 : decode cX10_readPart 81 = .ok (.invokevirtual 85, 3) := by decide +kernel
theorem dX10_readPart_84 : decode cX10_readPart 84 = .ok (.iastore, 1) := by decide +kernel
theorem dX10_readPart_85 : decode cX10_readPart 85 = .ok (.aload_n 0, 1) := by decide +kernel
theorem dX10_readPart_86 : decode cX10_readPart 86 = .ok (.dup, 1) := by decide +kernel
theorem dX10_readPart_87 : decode cX10_readPart 87 = .ok (.getfield 78, 3) := by decide +kernel
theorem dX10_readPart_90 : decode cX10_readPart 90 = .ok (.iconst 1, 1) := by decide +kernel
theorem dX10_readPart_91 : decode cX10_readPart 91 = .ok (.iadd, 1) := by decide +kernel
theorem dX10_readPart_92 : decode cX10_readPart 92 = .ok (.putfield 78, 3) := by decide +kernel
theorem dX10_readPart_95 : decode cX10_readPart 95 = .ok (.goto 110, 3) := by decide +kernel
theorem dX10_readPart_98 : decode cX10_readPart 98 = .ok (.iload_n 1, 1) := by decide +kernel
theorem dX10_readPart_99 : decode cX10_readPart 99 = .ok (.bipush 72, 2) := by decide +kernel
theorem dX10_readPart_101 : decode cX10_readPart 101 = .ok (.if_icmp .ne 96, 3) := by decide +kernel
theorem dX10_readPart_104 : decode cX10_readPart 104 = .ok (.aload_n 0, 1) := by decide +kernel
theorem dX10_readPart_105 : decode cX10_readPart 105 = .ok (.invokevirtual 94, 3) := by decide +kernel
theorem dX10_readPart_108 : decode cX10_readPart 108 = .ok (.ifCond .eq 89, 3) := by decide +kernel
theorem dX10_readPart_111 : decode cX10_readPart 111 = .ok (.aload_n 0, 1) := by decide +kernel
theorem dX10_readPart_112 : decode cX10_readPart 112 = .ok (.dup, 1) := by decide +kernel
theorem dX10_readPart_113 : decode cX10_readPart 113 = .ok (.getfield 69, 3) := by decide +kernel
theorem dX10_readPart_116 : decode cX10_readPart 116 = .ok (.iconst 1, 1) := by decide +kernel
theorem dX10_readPart_117 : decode cX10_readPart 117 = .ok (.iadd, 1) := by decide +kernel
theorem dX10_readPart_118 : decode cX10_readPart 118 = .ok (.putfield 69, 3) := by decide +kernel
theorem dX10_readPart_121 : decode cX10_readPart 121 = .ok (.aload_n 0, 1) := by decide +kernel
theorem dX10_readPart_122 : decode cX10_readPart 122 = .ok (.bipush 48, 2) := by decide +kernel
theorem dX10_readPart_124 : decode cX10_readPart 124 = .ok (.aload_n 0, 1) := by decide +kernel
theorem dX10_readPart_125 : decode cX10_readPart 125 = .ok (.invokevirtual 94, 3) := by decide +kernel
theorem dX10_readPart_128 : decode cX10_readPart 128 = .ok (.invokevirtual 85, 3) := by decide +kernel
theorem dX10_readPart_131 : decode cX10_readPart 131 = .ok (.istore_n 2, 1) := by decide +kernel
theorem dX10_readPart_132 : decode cX10_readPart 132 = .ok (.aload_n 0, 1) := by decide +kernel
theorem dX10_readPart_133 : decode cX10_readPart 133 = .ok (.bipush 48, 2) := by decide +kernel
theorem dX10_readPart_135 : decode cX10_readPart 135 = .ok (.aload_n 0, 1) := by decide +kernel
theorem dX10_readPart_136 : decode cX10_readPart 136 = .ok (.iload_n 2, 1) := by decide +kernel
theorem dX10_readPart_137 : decode cX10_readPart 137 = .ok (.invokevirtual 81, 3) := by decide +kernel
theorem dX10_readPart_140 : decode cX10_readPart 140 = .ok (.invokevirtual 85, 3) := by decide +kernel
theorem dX10_readPart_143 : decode cX10_readPart 143 = .ok (.istore_n 3, 1) := by decide +kernel
theorem dX10_readPart_144 : decode cX10_readPart 144 = .ok (.aload_n 0, 1) := by decide +kernel
theorem dX10_readPart_145 : decode cX10_readPart 145 = .ok (.getfield 25, 3) := by decide +kernel
theorem dX10_readPart_148 : decode cX10_readPart 148 = .ok (.iload_n 2, 1) := by decide +kernel
theorem dX10_readPart_149 : decode cX10_readPart 149 = .ok (.dup2, 1) := by decide +kernel
theorem dX10_readPart_150 : decode cX10_readPart 150 = .ok (.iaload, 1) := by decide +kernel
theorem dX10_readPart_151 : decode cX10_readPart 151 = .ok (.aload_n 0, 1) := by decide +kernel
theorem dX10_readPart_152 : decode cX10_readPart 152 = .ok (.getfield 66, 3) := by decide +kernel
theorem dX10_readPart_155 : decode cX10_readPart 155 = .ok (.bipush (-9), 2) := by decide +kernel
theorem dX10_readPart_157 : decode cX10_readPart 157 = .ok (.if_icmp .ne 9, 3) := by decide +kernel
theorem dX10_readPart_160 : decode cX10_readPart 160 = .ok (.iconst 1, 1) := by decide +kernel
theorem dX10_readPart_161 : decode cX10_readPart 161 = .ok (.iload_n 3, 1) := by decide +kernel
theorem dX10_readPart_162 : decode cX10_readPart 162 = .ok (.ishl, 1) := by decide +kernel
theorem dX10_readPart_163 : decode cX10_readPart 163 = .ok (.goto 4, 3) := by decide +kernel
theorem dX10_readPart_166 : decode cX10_readPart 166 = .ok (.iconst 0, 1) := by decide +kernel
theorem dX10_readPart_167 : decode cX10_readPart 167 = .ok (.ior, 1) := by decide +kernel
theorem dX10_readPart_168 : decode cX10_readPart 168 = .ok (.iastore, 1) := by decide +kernel
theorem dX10_readPart_169 : decode cX10_readPart 169 = .ok (.aload_n 0, 1) := by decide +kernel
theorem dX10_readPart_170 : decode cX10_readPart 170 = .ok (.getfield 25, 3) := by decide +kernel
theorem dX10_readPart_173 : decode cX10_readPart 173 = .ok (.iload_n 3, 1) := by decide +kernel
theorem dX10_readPart_174 : decode cX10_readPart 174 = .ok (.dup2, 1) := by decide +kernel
theorem dX10_readPart_175 : decode cX10_readPart 175 = .ok (.iaload, 1) := by decide +kernel
theorem dX10_readPart_176 : decode cX10_readPart 176 = .ok (.aload_n 0, 1) := by decide +kernel
theorem dX10_readPart_177 : decode cX10_readPart 177 = .ok (.getfield 66, 3) := by decide +kernel
theorem dX10_readPart_180 : decode cX10_readPart 180 = .ok (.bipush (-9), 2) := by decide +kernel
theorem dX10_readPart_182 : decode cX10_readPart 182 = .ok (.if_icmp .ne 9, 3) := by decide +kernel
theorem dX10_readPart_185 : decode cX10_readPart 185 = .ok (.iconst 1, 1) := by decide +kernel
theorem dX10_readPart_186 : decode cX10_readPart 186 = .ok (.iload_n 2, 1) := by decide +kernel
theorem dX10_readPart_187 : decode cX10_readPart 187 = .ok (.ishl, 1) := by decide +kernel
theorem dX10_readPart_188 : decode cX10_readPart 188 = .ok (.goto 4, 3) := by decide +kernel
theorem dX10_readPart_191 : decode cX10_readPart 191 = .ok (.iconst 0, 1) := by decide +kernel
theorem dX10_readPart_192 : decode cX10_readPart 192 = .ok (.ior, 1) := by decide +kernel
theorem dX10_readPart_193 : decode cX10_readPart 193 = .ok (.iastore, 1) := by decide +kernel
theorem dX10_readPart_194 : decode cX10_readPart 194 = .ok (.goto 11, 3) := by decide +kernel
theorem dX10_readPart_197 : decode cX10_readPart 197 = .ok (.aload_n 0, 1) := by decide +kernel
theorem dX10_readPart_198 : decode cX10_readPart 198 = .ok (.aload_n 0, 1) := by decide +kernel
theorem dX10_readPart_199 : decode cX10_readPart 199 = .ok (.getfield 69, 3) := by decide +kernel
theorem dX10_readPart_202 : decode cX10_readPart 202 = .ok (.putfield 66, 3) := by decide +kernel
theorem dX10_readPart_205 : decode cX10_readPart 205 = .ok (.return_, 1) := by decide +kernel
set_option maxRecDepth 20000 in
theorem ggX10_fault_X10_readText : GoodIn wsX10_fault wsX10_readText := goodIn_r _ [5, 6, 7, 8, 9, 10, 11, 12, 13, 14, 4, 15, 16, 17, 18, 19, 20, 21, 22, 23, 24, 25, 26, 27, 28, 29, 30, 31, 32, 33, 34, 35, 36, 37, 38, 39, 40, 41, 42, 43, 44, 45, 46, 47, 48, 49, 50, 51, 52, 53, 54, 55, 56, 57, 58, 59, 60] (by decide +kernel) (by decide +kernel)
set_option maxRecDepth 20000 in
theorem gX10_fault_X10_readText : GoodIn wsX10_fault (wsV RX10 98 RX10 yX10_readText wsX10_readText) := goodIn_app (goodIn_of _ (by decide +kernel)) ggX10_fault_X10_readText
theorem dX10_fault_0 : decode cX10_fault 0 = .ok (.aload_n 0, 1) := by decide +kernel
theorem dX10_fault_1 : decode cX10_fault 1 = .ok (.invokevirtual 98, 3) := by decide +kernel
theorem dX10_fault_4 : decode cX10_fault 4 = .ok (.ireturn, 1) := by decide +kernel
set_option maxRecDepth 20000 in
theorem ggX10_laundry_X10_readText : GoodIn wsX10_laundry wsX10_readText := goodIn_r _ [18, 19, 20, 1, 11, 21, 3, 22, 23, 24, 17, 25, 26, 27, 28, 29, 30, 31, 32, 33, 34, 35, 36, 7, 37, 38, 39, 40, 41, 42, 43, 44, 45, 46, 47, 48, 49, 50, 51, 52, 53, 54, 55, 56, 57, 58, 59, 60, 61, 62, 63, 64, 65, 66, 67, 68, 69] (by decide +kernel) (by decide +kernel)
set_option maxRecDepth 20000 in
theorem gX10_laundry_X10_readText : GoodIn wsX10_laundry (wsV RX10 98 RX10 yX10_readText wsX10_readText) := goodIn_app (goodIn_of _ (by decide +kernel)) ggX10_laundry_X10_readText
theorem dX10_laundry_0 : decode cX10_laundry 0 = .ok (.aload_n 0, 1) := by decide +kernel
theorem dX10_laundry_1 : decode cX10_laundry 1 = .ok (.invokevirtual 98, 3) := by decide +kernel
theorem dX10_laundry_4 : decode cX10_laundry 4 = .ok (.bipush (-9), 2) := by decide +kernel
theorem dX10_laundry_6 : decode cX10_laundry 6 = .ok (.if_icmp .eq 6, 3) := by decide +kernel
theorem dX10_laundry_9 : decode cX10_laundry 9 = .ok (.bipush (-3), 2) := by decide +kernel
theorem dX10_laundry_11 : decode cX10_laundry 11 = .ok (.ireturn, 1) := by decide +kernel
theorem dX10_laundry_12 : decode cX10_laundry 12 = .ok (.aload_n 0, 1) := by decide +kernel
theorem dX10_laundry_13 : decode cX10_laundry 13 = .ok (.aload_n 0, 1) := by decide +kernel
theorem dX10_laundry_14 : decode cX10_laundry 14 = .ok (.getfield 78, 3) := by decide +kernel
theorem dX10_laundry_17 : decode cX10_laundry 17 = .ok (.putfield 101, 3) := by decide +kernel
theorem dX10_laundry_20 : decode cX10_laundry 20 = .ok (.aload_n 0, 1) := by decide +kernel
theorem dX10_laundry_21 : decode cX10_laundry 21 = .ok (.aload_n 0, 1) := by decide +kernel
theorem dX10_laundry_22 : decode cX10_laundry 22 = .ok (.getfield 28, 3) := by decide +kernel
theorem dX10_laundry_25 : decode cX10_laundry 25 = .ok (.iconst 1, 1) := by decide +kernel
theorem dX10_laundry_26 : decode cX10_laundry 26 = .ok (.iaload, 1) := by decide +kernel
theorem dX10_laundry_27 : decode cX10_laundry 27 = .ok (.bipush 48, 2) := by decide +kernel
theorem dX10_laundry_29 : decode cX10_laundry 29 = .ok (.isub, 1) := by decide +kernel
theorem dX10_laundry_30 : decode cX10_laundry 30 = .ok (.putfield 50, 3) := by decide +kernel
theorem dX10_laundry_33 : decode cX10_laundry 33 = .ok (.aload_n 0, 1) := by decide +kernel
theorem dX10_laundry_34 : decode cX10_laundry 34 = .ok (.aload_n 0, 1) := by decide +kernel
theorem dX10_laundry_35 : decode cX10_laundry 35 = .ok (.getfield 28, 3) := by decide +kernel
theorem dX10_laundry_38 : decode cX10_laundry 38 = .ok (.iconst 2, 1) := by decide +kernel
theorem dX10_laundry_39 : decode cX10_laundry 39 = .ok (.iaload, 1) := by decide +kernel
theorem dX10_laundry_40 : decode cX10_laundry 40 = .ok (.bipush 48, 2) := by decide +kernel
theorem dX10_laundry_42 : decode cX10_laundry 42 = .ok (.isub, 1) := by decide +kernel
theorem dX10_laundry_43 : decode cX10_laundry 43 = .ok (.putfield 54, 3) := by decide +kernel
theorem dX10_laundry_46 : decode cX10_laundry 46 = .ok (.iconst 0, 1) := by decide +kernel
theorem dX10_laundry_47 : decode cX10_laundry 47 = .ok (.istore_n 1, 1) := by decide +kernel
theorem dX10_laundry_48 : decode cX10_laundry 48 = .ok (.iload_n 1, 1) := by decide +kernel
theorem dX10_laundry_49 : decode cX10_laundry 49 = .ok (.bipush 17, 2) := by decide +kernel
theorem dX10_laundry_51 : decode cX10_laundry 51 = .ok (.if_icmp .ge 16, 3) := by decide +kernel
theorem dX10_laundry_54 : decode cX10_laundry 54 = .ok (.aload_n 0, 1) := by decide +kernel
theorem dX10_laundry_55 : decode cX10_laundry 55 = .ok (.getfield 19, 3) := by decide +kernel
theorem dX10_laundry_58 : decode cX10_laundry 58 = .ok (.iload_n 1, 1) := by decide +kernel
