theorem dX10_had_71 : decode cX10_had 71 = .ok (.iinc 6 1, 3) := by decide +kernel
theorem dX10_had_74 : decode cX10_had 74 = .ok (.goto (-37), 3) := by decide +kernel
theorem dX10_had_77 : decode cX10_had 77 = .ok (.iload_n 2, 1) := by decide +kernel
theorem dX10_had_78 : decode cX10_had 78 = .ok (.ifCond .ne 7, 3) := by decide +kernel
theorem dX10_had_81 : decode cX10_had 81 = .ok (.iload_n 3, 1) := by decide +kernel
theorem dX10_had_82 : decode cX10_had 82 = .ok (.goto 29, 3) := by decide +kernel
theorem dX10_had_85 : decode cX10_had 85 = .ok (.iload_n 3, 1) := by decide +kernel
theorem dX10_had_86 : decode cX10_had 86 = .ok (.ifCond .ne 8, 3) := by decide +kernel
theorem dX10_had_89 : decode cX10_had 89 = .ok (.bipush (-9), 2) := by decide +kernel
theorem dX10_had_91 : decode cX10_had 91 = .ok (.goto 20, 3) := by decide +kernel
theorem dX10_had_94 : decode cX10_had 94 = .ok (.iload_n 2, 1) := by decide +kernel
theorem dX10_had_95 : decode cX10_had 95 = .ok (.iconst 1, 1) := by decide +kernel
theorem dX10_had_96 : decode cX10_had 96 = .ok (.if_icmp .ne 8, 3) := by decide +kernel
theorem dX10_had_99 : decode cX10_had 99 = .ok (.iload 4, 2) := by decide +kernel
theorem dX10_had_101 : decode cX10_had 101 = .ok (.goto 10, 3) := by decide +kernel
theorem dX10_had_104 : decode cX10_had 104 = .ok (.bipush 15, 2) := by decide +kernel
theorem dX10_had_106 : decode cX10_had 106 = .ok (.iload 5, 2) := by decide +kernel
theorem dX10_had_108 : decode cX10_had 108 = .ok (.iconst (-1), 1) := by decide +kernel
theorem dX10_had_109 : decode cX10_had 109 = .ok (.ixor, 1) := by decide +kernel
theorem dX10_had_110 : decode cX10_had 110 = .ok (.iand, 1) := by decide +kernel
theorem dX10_had_111 : decode cX10_had 111 = .ok (.ireturn, 1) := by decide +kernel
theorem dX10_factorial_0 : decode cX10_factorial 0 = .ok (.iconst 1, 1) := by decide +kernel
theorem dX10_factorial_1 : decode cX10_factorial 1 = .ok (.istore_n 1, 1) := by decide +kernel
theorem dX10_factorial_2 : decode cX10_factorial 2 = .ok (.iconst 2, 1) := by decide +kernel
theorem dX10_factorial_3 : decode cX10_factorial 3 = .ok (.istore_n 2, 1) := by decide +kernel
theorem dX10_factorial_4 : decode cX10_factorial 4 = .ok (.iload_n 2, 1) := by decide +kernel
theorem dX10_factorial_5 : decode cX10_factorial 5 = .ok (.iload_n 0, 1) := by decide +kernel
theorem dX10_factorial_6 : decode cX10_factorial 6 = .ok (.if_icmp .gt 13, 3) := by decide +kernel
theorem dX10_factorial_9 : decode cX10_factorial 9 = .ok (.iload_n 1, 1) := by decide +kernel
theorem dX10_factorial_10 : decode cX10_factorial 10 = .ok (.iload_n 2, 1) := by decide +kernel
theorem dX10_factorial_11 : decode cX10_factorial 11 = .ok (.imul, 1) := by decide +kernel
theorem dX10_factorial_12 : decode cX10_factorial 12 = .ok (.istore_n 1, 1) := by decide +kernel
theorem dX10_factorial_13 : decode cX10_factorial 13 = .ok (.iinc 2 1, 3) := by decide +kernel
theorem dX10_factorial_16 : decode cX10_factorial 16 = .ok (.goto (-12), 3) := by decide +kernel
theorem dX10_factorial_19 : decode cX10_factorial 19 = .ok (.iload_n 1, 1) := by decide +kernel
theorem dX10_factorial_20 : decode cX10_factorial 20 = .ok (.ireturn, 1) := by decide +kernel
theorem dX10_common_0 : decode cX10_common 0 = .ok (.iload_n 0, 1) := by decide +kernel
theorem dX10_common_1 : decode cX10_common 1 = .ok (.ifCond .ge 8, 3) := by decide +kernel
theorem dX10_common_4 : decode cX10_common 4 = .ok (.iload_n 0, 1) := by decide +kernel
theorem dX10_common_5 : decode cX10_common 5 = .ok (.ineg, 1) := by decide +kernel
theorem dX10_common_6 : decode cX10_common 6 = .ok (.goto 4, 3) := by decide +kernel
theorem dX10_common_9 : decode cX10_common 9 = .ok (.iload_n 0, 1) := by decide +kernel
theorem dX10_common_10 : decode cX10_common 10 = .ok (.istore_n 2, 1) := by decide +kernel
theorem dX10_common_11 : decode cX10_common 11 = .ok (.iload_n 1, 1) := by decide +kernel
theorem dX10_common_12 : decode cX10_common 12 = .ok (.istore_n 3, 1) := by decide +kernel
theorem dX10_common_13 : decode cX10_common 13 = .ok (.iload_n 3, 1) := by decide +kernel
theorem dX10_common_14 : decode cX10_common 14 = .ok (.ifCond .eq 16, 3) := by decide +kernel
theorem dX10_common_17 : decode cX10_common 17 = .ok (.iload_n 2, 1) := by decide +kernel
theorem dX10_common_18 : decode cX10_common 18 = .ok (.iload_n 3, 1) := by decide +kernel
theorem dX10_common_19 : decode cX10_common 19 = .ok (.irem, 1) := by decide +kernel
theorem dX10_common_20 : decode cX10_common 20 = .ok (.istore 4, 2) := by decide +kernel
theorem dX10_common_22 : decode cX10_common 22 = .ok (.iload_n 3, 1) := by decide +kernel
theorem dX10_common_23 : decode cX10_common 23 = .ok (.istore_n 2, 1) := by decide +kernel
theorem dX10_common_24 : decode cX10_common 24 = .ok (.iload 4, 2) := by decide +kernel
theorem dX10_common_26 : decode cX10_common 26 = .ok (.istore_n 3, 1) := by decide +kernel
theorem dX10_common_27 : decode cX10_common 27 = .ok (.goto (-14), 3) := by decide +kernel
theorem dX10_common_30 : decode cX10_common 30 = .ok (.iload_n 2, 1) := by decide +kernel
theorem dX10_common_31 : decode cX10_common 31 = .ok (.ireturn, 1) := by decide +kernel
set_option maxRecDepth 20000 in
theorem ggX10_calm_X10_has : GoodIn wsX10_calm wsX10_has := goodIn_r _ [6] (by decide +kernel) (by decide +kernel)
set_option maxRecDepth 20000 in
theorem gX10_calm_X10_has : GoodIn wsX10_calm (va_wsS RX10 74 yX10_has wsX10_has) := goodIn_app (goodIn_of _ (by decide +kernel)) ggX10_calm_X10_has
theorem dX10_calm_0 : decode cX10_calm 0 = .ok (.iconst 0, 1) := by decide +kernel
theorem dX10_calm_1 : decode cX10_calm 1 = .ok (.istore_n 2, 1) := by decide +kernel
theorem dX10_calm_2 : decode cX10_calm 2 = .ok (.iconst 0, 1) := by decide +kernel
theorem dX10_calm_3 : decode cX10_calm 3 = .ok (.istore_n 3, 1) := by decide +kernel
theorem dX10_calm_4 : decode cX10_calm 4 = .ok (.iload_n 3, 1) := by decide +kernel
theorem dX10_calm_5 : decode cX10_calm 5 = .ok (.aload_n 0, 1) := by decide +kernel
theorem dX10_calm_6 : decode cX10_calm 6 = .ok (.getfield 101, 3) := by decide +kernel
theorem dX10_calm_9 : decode cX10_calm 9 = .ok (.if_icmp .ge 38, 3) := by decide +kernel
theorem dX10_calm_12 : decode cX10_calm 12 = .ok (.iload_n 2, 1) := by decide +kernel
theorem dX10_calm_13 : decode cX10_calm 13 = .ok (.iload_n 1, 1) := by decide +kernel
theorem dX10_calm_14 : decode cX10_calm 14 = .ok (.iload_n 3, 1) := by decide +kernel
theorem dX10_calm_15 : decode cX10_calm 15 = .ok (.invokestatic 74, 3) := by decide +kernel
theorem dX10_calm_18 : decode cX10_calm 18 = .ok (.ifCond .ne 16, 3) := by decide +kernel
theorem dX10_calm_21 : decode cX10_calm 21 = .ok (.aload_n 0, 1) := by decide +kernel
theorem dX10_calm_22 : decode cX10_calm 22 = .ok (.getfield 16, 3) := by decide +kernel
theorem dX10_calm_25 : decode cX10_calm 25 = .ok (.iload_n 3, 1) := by decide +kernel
theorem dX10_calm_26 : decode cX10_calm 26 = .ok (.iaload, 1) := by decide +kernel
theorem dX10_calm_27 : decode cX10_calm 27 = .ok (.iload_n 1, 1) := by decide +kernel
theorem dX10_calm_28 : decode cX10_calm 28 = .ok (.iconst (-1), 1) := by decide +kernel
theorem dX10_calm_29 : decode cX10_calm 29 = .ok (.ixor, 1) := by decide +kernel
theorem dX10_calm_30 : decode cX10_calm 30 = .ok (.iand, 1) := by decide +kernel
theorem dX10_calm_31 : decode cX10_calm 31 = .ok (.ifCond .ne 7, 3) := by decide +kernel
theorem dX10_calm_34 : decode cX10_calm 34 = .ok (.iconst 1, 1) := by decide +kernel
theorem dX10_calm_35 : decode cX10_calm 35 = .ok (.goto 4, 3) := by decide +kernel
theorem dX10_calm_38 : decode cX10_calm 38 = .ok (.iconst 0, 1) := by decide +kernel
theorem dX10_calm_39 : decode cX10_calm 39 = .ok (.iadd, 1) := by decide +kernel
theorem dX10_calm_40 : decode cX10_calm 40 = .ok (.istore_n 2, 1) := by decide +kernel
theorem dX10_calm_41 : decode cX10_calm 41 = .ok (.iinc 3 1, 3) := by decide +kernel
theorem dX10_calm_44 : decode cX10_calm 44 = .ok (.goto (-40), 3) := by decide +kernel
theorem dX10_calm_47 : decode cX10_calm 47 = .ok (.iload_n 2, 1) := by decide +kernel
theorem dX10_calm_48 : decode cX10_calm 48 = .ok (.ireturn, 1) := by decide +kernel
set_option maxRecDepth 20000 in
theorem ggX10_share_X10_isFlag : GoodIn wsX10_share wsX10_isFlag := goodIn_r _ [6, 1, 7, 8, 5, 9, 27, 28, 29, 30, 31, 32, 33, 34, 35, 36, 37, 38, 39, 40, 41, 42, 43, 44, 45, 46, 47, 48, 49, 50] (by decide +kernel) (by decide +kernel)
set_option maxRecDepth 20000 in
theorem gX10_share_X10_isFlag : GoodIn wsX10_share (wsV RX10 126 RX10 yX10_isFlag wsX10_isFlag) := goodIn_app (goodIn_of _ (by decide +kernel)) ggX10_share_X10_isFlag
set_option maxRecDepth 20000 in
theorem ggX10_share_X10_has : GoodIn wsX10_share wsX10_has := goodIn_r _ [12] (by decide +kernel) (by decide +kernel)
set_option maxRecDepth 20000 in
theorem gX10_share_X10_has : GoodIn wsX10_share (va_wsS RX10 74 yX10_has wsX10_has) := goodIn_app (goodIn_of _ (by decide +kernel)) ggX10_share_X10_has
set_option maxRecDepth 20000 in
theorem ggX10_share_X10_ones : GoodIn wsX10_share wsX10_ones := goodIn_r _ [15] (by decide +kernel) (by decide +kernel)
set_option maxRecDepth 20000 in
theorem gX10_share_X10_ones : GoodIn wsX10_share (va_wsS RX10 110 yX10_ones wsX10_ones) := goodIn_app (goodIn_of _ (by decide +kernel)) ggX10_share_X10_ones
set_option maxRecDepth 20000 in
theorem ggX10_share_X10_factorial : GoodIn wsX10_share wsX10_factorial := goodIn_r _ [18] (by decide +kernel) (by decide +kernel)
set_option maxRecDepth 20000 in
theorem gX10_share_X10_factorial : GoodIn wsX10_share (va_wsS RX10 178 yX10_factorial wsX10_factorial) := goodIn_app (goodIn_of _ (by decide +kernel)) ggX10_share_X10_factorial
set_option maxRecDepth 20000 in
theorem ggX10_share_X10_calm : GoodIn wsX10_share wsX10_calm := goodIn_r _ [22, 1, 23, 10, 11, 5, 12, 27, 28, 29, 30, 31, 32, 33, 34, 35, 36, 37, 38, 39, 40, 41, 42, 43, 44, 45, 46, 47, 48, 49, 50] (by decide +kernel) (by decide +kernel)
set_option maxRecDepth 20000 in
theorem gX10_share_X10_calm : GoodIn wsX10_share (wsV RX10 181 RX10 yX10_calm wsX10_calm) := goodIn_app (goodIn_of _ (by decide +kernel)) ggX10_share_X10_calm
set_option maxRecDepth 20000 in
theorem ggX10_share_X10_common : GoodIn wsX10_share wsX10_common := goodIn_r _ [26] (by decide +kernel) (by decide +kernel)
set_option maxRecDepth 20000 in
theorem gX10_share_X10_common : GoodIn wsX10_share (va_wsS RX10 184 yX10_common wsX10_common) := goodIn_app (goodIn_of _ (by decide +kernel)) ggX10_share_X10_common
theorem dX10_share_0 : decode cX10_share 0 = .ok (.aload_n 0, 1) := by decide +kernel
theorem dX10_share_1 : decode cX10_share 1 = .ok (.iload_n 1, 1) := by decide +kernel
theorem dX10_share_2 : decode cX10_share 2 = .ok (.invokevirtual 126, 3) := by decide +kernel
theorem dX10_share_5 : decode cX10_share 5 = .ok (.ifCond .ne 5, 3) := by decide +kernel
theorem dX10_share_8 : decode cX10_share 8 = .ok (.iconst (-1), 1) := by decide +kernel
theorem dX10_share_9 : decode cX10_share 9 = .ok (.ireturn, 1) := by decide +kernel
theorem dX10_share_10 : decode cX10_share 10 = .ok (.iconst 0, 1) := by decide +kernel
theorem dX10_share_11 : decode cX10_share 11 = .ok (.istore_n 3, 1) := by decide +kernel
theorem dX10_share_12 : decode cX10_share 12 = .ok (.iconst 0, 1) := by decide +kernel
theorem dX10_share_13 : decode cX10_share 13 = .ok (.istore 4, 2) := by decide +kernel
theorem dX10_share_15 : decode cX10_share 15 = .ok (.iload 4, 2) := by decide +kernel
theorem dX10_share_17 : decode cX10_share 17 = .ok (.iconst 1, 1) := by decide +kernel
theorem dX10_share_18 : decode cX10_share 18 = .ok (.aload_n 0, 1) := by decide +kernel
theorem dX10_share_19 : decode cX10_share 19 = .ok (.getfield 101, 3) := by decide +kernel
theorem dX10_share_22 : decode cX10_share 22 = .ok (.ishl, 1) := by decide +kernel
theorem dX10_share_23 : decode cX10_share 23 = .ok (.if_icmp .ge 67, 3) := by decide +kernel
theorem dX10_share_26 : decode cX10_share 26 = .ok (.iload 4, 2) := by decide +kernel
theorem dX10_share_28 : decode cX10_share 28 = .ok (.iload_n 1, 1) := by decide +kernel
theorem dX10_share_29 : decode cX10_share 29 = .ok (.invokestatic 74, 3) := by decide +kernel
theorem dX10_share_32 : decode cX10_share 32 = .ok (.ifCond .ne 52, 3) := by decide +kernel
theorem dX10_share_35 : decode cX10_share 35 = .ok (.iload 4, 2) := by decide +kernel
theorem dX10_share_37 : decode cX10_share 37 = .ok (.invokestatic 110, 3) := by decide +kernel
theorem dX10_share_40 : decode cX10_share 40 = .ok (.invokestatic 178, 3) := by decide +kernel
theorem dX10_share_43 : decode cX10_share 43 = .ok (.aload_n 0, 1) := by decide +kernel
theorem dX10_share_44 : decode cX10_share 44 = .ok (.getfield 101, 3) := by decide +kernel
theorem dX10_share_47 : decode cX10_share 47 = .ok (.iconst 1, 1) := by decide +kernel
theorem dX10_share_48 : decode cX10_share 48 = .ok (.isub, 1) := by decide +kernel
theorem dX10_share_49 : decode cX10_share 49 = .ok (.iload 4, 2) := by decide +kernel
theorem dX10_share_51 : decode cX10_share 51 = .ok (.invokestatic 110, 3) := by decide +kernel
theorem dX10_share_54 : decode cX10_share 54 = .ok (.isub, 1) := by decide +kernel
theorem dX10_share_55 : decode cX10_share 55 = .ok (.invokestatic 178, 3) := by decide +kernel
theorem dX10_share_58 : decode cX10_share 58 = .ok (.imul, 1) := by decide +kernel
theorem dX10_share_59 : decode cX10_share 59 = .ok (.istore 5, 2) := by decide +kernel
theorem dX10_share_61 : decode cX10_share 61 = .ok (.iload_n 3, 1) := by decide +kernel
theorem dX10_share_62 : decode cX10_share 62 = .ok (.iload 5, 2) := by decide +kernel
theorem dX10_share_64 : decode cX10_share 64 = .ok (.aload_n 0, 1) := by decide +kernel
theorem dX10_share_65 : decode cX10_share 65 = .ok (.iload 4, 2) := by decide +kernel
theorem dX10_share_67 : decode cX10_share 67 = .ok (.iconst 1, 1) := by decide +kernel
theorem dX10_share_68 : decode cX10_share 68 = .ok (.iload_n 1, 1) := by decide +kernel
theorem dX10_share_69 : decode cX10_share 69 = .ok (.ishl, 1) := by decide +kernel
theorem dX10_share_70 : decode cX10_share 70 = .ok (.ior, 1) := by decide +kernel
theorem dX10_share_71 : decode cX10_share 71 = .ok (.invokevirtual 181, 3) := by decide +kernel
theorem dX10_share_74 : decode cX10_share 74 = .ok (.aload_n 0, 1) := by decide +kernel
theorem dX10_share_75 : decode cX10_share 75 = .ok (.iload 4, 2) := by decide +kernel
theorem dX10_share_77 : decode cX10_share 77 = .ok (.invokevirtual 181, 3) := by decide +kernel
theorem dX10_share_80 : decode cX10_share 80 = .ok (.isub, 1) := by decide +kernel
theorem dX10_share_81 : decode cX10_share 81 = .ok (.imul, 1) := by decide +kernel
theorem dX10_share_82 : decode cX10_share 82 = .ok (.iadd, 1) := by decide +kernel
theorem dX10_share_83 : decode cX10_share 83 = .ok (.istore_n 3, 1) := by decide +kernel
theorem dX10_share_84 : decode cX10_share 84 = .ok (.iinc 4 1, 3) := by decide +kernel
theorem dX10_share_87 : decode cX10_share 87 = .ok (.goto (-72), 3) := by decide +kernel
theorem dX10_share_90 : decode cX10_share 90 = .ok (.iload_n 3, 1) := by decide +kernel
theorem dX10_share_91 : decode cX10_share 91 = .ok (.aload_n 0, 1) := by decide +kernel
theorem dX10_share_92 : decode cX10_share 92 = .ok (.getfield 101, 3) := by decide +kernel
theorem dX10_share_95 : decode cX10_share 95 = .ok (.invokestatic 178, 3) := by decide +kernel
theorem dX10_share_98 : decode cX10_share 98 = .ok (.invokestatic 184, 3) := by decide +kernel
theorem dX10_share_101 : decode cX10_share 101 = .ok (.istore 4, 2) := by decide +kernel
theorem dX10_share_103 : decode cX10_share 103 = .ok (.iload_n 2, 1) := by decide +kernel
theorem dX10_share_104 : decode cX10_share 104 = .ok (.ifCond .eq 10, 3) := by decide +kernel
theorem dX10_share_107 : decode cX10_share 107 = .ok (.iload_n 3, 1) := by decide +kernel
theorem dX10_share_108 : decode cX10_share 108 = .ok (.iload 4, 2) := by decide +kernel
theorem dX10_share_110 : decode cX10_share 110 = .ok (.idiv, 1) := by decide +kernel
theorem dX10_share_111 : decode cX10_share 111 = .ok (.goto 13, 3) := by decide +kernel
theorem dX10_share_114 : decode cX10_share 114 = .ok (.aload_n 0, 1) := by decide +kernel
theorem dX10_share_115 : decode cX10_share 115 = .ok (.getfield 101, 3) := by decide +kernel
theorem dX10_share_118 : decode cX10_share 118 = .ok (.invokestatic 178, 3) := by decide +kernel
theorem dX10_share_121 : decode cX10_share 121 = .ok (.iload 4, 2) := by decide +kernel
theorem dX10_share_123 : decode cX10_share 123 = .ok (.idiv, 1) := by decide +kernel
theorem dX10_share_124 : decode cX10_share 124 = .ok (.ireturn, 1) := by decide +kernel
set_option maxRecDepth 20000 in
theorem ggX10_gain_X10_has : GoodIn wsX10_gain wsX10_has := goodIn_r _ [6] (by decide +kernel) (by decide +kernel)
set_option maxRecDepth 20000 in
theorem gX10_gain_X10_has : GoodIn wsX10_gain (va_wsS RX10 74 yX10_has wsX10_has) := goodIn_app (goodIn_of _ (by decide +kernel)) ggX10_gain_X10_has
theorem dX10_gain_0 : decode cX10_gain 0 = .ok (.iload_n 3, 1) := by decide +kernel
theorem dX10_gain_1 : decode cX10_gain 1 = .ok (.ifCond .ne 11, 3) := by decide +kernel
theorem dX10_gain_4 : decode cX10_gain 4 = .ok (.aload_n 0, 1) := by decide +kernel
theorem dX10_gain_5 : decode cX10_gain 5 = .ok (.getfield 13, 3) := by decide +kernel
theorem dX10_gain_8 : decode cX10_gain 8 = .ok (.iload_n 1, 1) := by decide +kernel
theorem dX10_gain_9 : decode cX10_gain 9 = .ok (.iaload, 1) := by decide +kernel
theorem dX10_gain_10 : decode cX10_gain 10 = .ok (.ineg, 1) := by decide +kernel
theorem dX10_gain_11 : decode cX10_gain 11 = .ok (.ireturn, 1) := by decide +kernel
theorem dX10_gain_12 : decode cX10_gain 12 = .ok (.iload 4, 2) := by decide +kernel
theorem dX10_gain_14 : decode cX10_gain 14 = .ok (.ifCond .ne 7, 3) := by decide +kernel
theorem dX10_gain_17 : decode cX10_gain 17 = .ok (.iconst 2, 1) := by decide +kernel
theorem dX10_gain_18 : decode cX10_gain 18 = .ok (.goto 22, 3) := by decide +kernel
theorem dX10_gain_21 : decode cX10_gain 21 = .ok (.aload_n 0, 1) := by decide +kernel
theorem dX10_gain_22 : decode cX10_gain 22 = .ok (.getfield 16, 3) := by decide +kernel
theorem dX10_gain_25 : decode cX10_gain 25 = .ok (.iload_n 1, 1) := by decide +kernel
theorem dX10_gain_26 : decode cX10_gain 26 = .ok (.iaload, 1) := by decide +kernel
theorem dX10_gain_27 : decode cX10_gain 27 = .ok (.iload_n 2, 1) := by decide +kernel
theorem dX10_gain_28 : decode cX10_gain 28 = .ok (.invokestatic 74, 3) := by decide +kernel
theorem dX10_gain_31 : decode cX10_gain 31 = .ok (.ifCond .eq 8, 3) := by decide +kernel
theorem dX10_gain_34 : decode cX10_gain 34 = .ok (.bipush (-5), 2) := by decide +kernel
theorem dX10_gain_36 : decode cX10_gain 36 = .ok (.goto 4, 3) := by decide +kernel
theorem dX10_gain_39 : decode cX10_gain 39 = .ok (.iconst 0, 1) := by decide +kernel
theorem dX10_gain_40 : decode cX10_gain 40 = .ok (.ireturn, 1) := by decide +kernel
set_option maxRecDepth 20000 in
theorem ggX10_isRest_X10_gain : GoodIn wsX10_isRest wsX10_gain := goodIn_r _ [5, 6, 7, 8, 9, 4, 10, 11, 12, 13, 14, 15, 16, 17, 18, 19, 20, 21, 22, 23, 24, 25, 26, 27, 28, 29, 30, 31, 32, 33, 34] (by decide +kernel) (by decide +kernel)
set_option maxRecDepth 20000 in
theorem gX10_isRest_X10_gain : GoodIn wsX10_isRest (wsV RX10 187 RX10 yX10_gain wsX10_gain) := goodIn_app (goodIn_of _ (by decide +kernel)) ggX10_isRest_X10_gain
theorem dX10_isRest_0 : decode cX10_isRest 0 = .ok (.aload_n 0, 1) := by decide +kernel
theorem dX10_isRest_1 : decode cX10_isRest 1 = .ok (.iload_n 1, 1) := by decide +kernel
theorem dX10_isRest_2 : decode cX10_isRest 2 = .ok (.iload_n 2, 1) := by decide +kernel
theorem dX10_isRest_3 : decode cX10_isRest 3 = .ok (.iconst 1, 1) := by decide +kernel
theorem dX10_isRest_4 : decode cX10_isRest 4 = .ok (.iload_n 3, 1) := by decide +kernel
theorem dX10_isRest_5 : decode cX10_isRest 5 = .ok (.isub, 1) := by decide +kernel
theorem dX10_isRest_6 : decode cX10_isRest 6 = .ok (.iload 4, 2) := by decide +kernel
theorem dX10_isRest_8 : decode cX10_isRest 8 = .ok (.invokevirtual 187, 3) := by decide +kernel
theorem dX10_isRest_11 : decode cX10_isRest 11 = .ok (.aload_n 0, 1) := by decide +kernel
theorem dX10_isRest_12 : decode cX10_isRest 12 = .ok (.iload_n 1, 1) := by decide +kernel
theorem dX10_isRest_13 : decode cX10_isRest 13 = .ok (.iload_n 2, 1) := by decide +kernel
theorem dX10_isRest_14 : decode cX10_isRest 14 = .ok (.iload_n 3, 1) := by decide +kernel
theorem dX10_isRest_15 : decode cX10_isRest 15 = .ok (.iload 4, 2) := by decide +kernel
theorem dX10_isRest_17 : decode cX10_isRest 17 = .ok (.invokevirtual 187, 3) := by decide +kernel
theorem dX10_isRest_20 : decode cX10_isRest 20 = .ok (.if_icmp .gt 30, 3) := by decide +kernel
theorem dX10_isRest_23 : decode cX10_isRest 23 = .ok (.aload_n 0, 1) := by decide +kernel
theorem dX10_isRest_24 : decode cX10_isRest 24 = .ok (.iload_n 2, 1) := by decide +kernel
theorem dX10_isRest_25 : decode cX10_isRest 25 = .ok (.iload_n 1, 1) := by decide +kernel
theorem dX10_isRest_26 : decode cX10_isRest 26 = .ok (.iconst 1, 1) := by decide +kernel
theorem dX10_isRest_27 : decode cX10_isRest 27 = .ok (.iload 4, 2) := by decide +kernel
theorem dX10_isRest_29 : decode cX10_isRest 29 = .ok (.isub, 1) := by decide +kernel
theorem dX10_isRest_30 : decode cX10_isRest 30 = .ok (.iload_n 3, 1) := by decide +kernel
theorem dX10_isRest_31 : decode cX10_isRest 31 = .ok (.invokevirtual 187, 3) := by decide +kernel
theorem dX10_isRest_34 : decode cX10_isRest 34 = .ok (.aload_n 0, 1) := by decide +kernel
theorem dX10_isRest_35 : decode cX10_isRest 35 = .ok (.iload_n 2, 1) := by decide +kernel
theorem dX10_isRest_36 : decode cX10_isRest 36 = .ok (.iload_n 1, 1) := by decide +kernel
theorem dX10_isRest_37 : decode cX10_isRest 37 = .ok (.iload 4, 2) := by decide +kernel
theorem dX10_isRest_39 : decode cX10_isRest 39 = .ok (.iload_n 3, 1) := by decide +kernel
theorem dX10_isRest_40 : decode cX10_isRest 40 = .ok (.invokevirtual 187, 3) := by decide +kernel
theorem dX10_isRest_43 : decode cX10_isRest 43 = .ok (.if_icmp .gt 7, 3) := by decide +kernel
theorem dX10_isRest_46 : decode cX10_isRest 46 = .ok (.iconst 1, 1) := by decide +kernel
theorem dX10_isRest_47 : decode cX10_isRest 47 = .ok (.goto 4, 3) := by decide +kernel
theorem dX10_isRest_50 : decode cX10_isRest 50 = .ok (.iconst 0, 1) := by decide +kernel
theorem dX10_isRest_51 : decode cX10_isRest 51 = .ok (.ireturn, 1) := by decide +kernel
set_option maxRecDepth 20000 in
theorem ggX10_rests_X10_isFlag : GoodIn wsX10_rests wsX10_isFlag := goodIn_r _ [5, 6, 7, 8, 4, 9, 23, 24, 25, 26, 27, 28, 29, 30, 31, 32, 33, 34, 35, 36, 37, 38, 39, 40, 41, 42, 43, 44, 45, 46] (by decide +kernel) (by decide +kernel)
set_option maxRecDepth 20000 in
theorem gX10_rests_X10_isFlag : GoodIn wsX10_rests (wsV RX10 126 RX10 yX10_isFlag wsX10_isFlag) := goodIn_app (goodIn_of _ (by decide +kernel)) ggX10_rests_X10_isFlag
set_option maxRecDepth 20000 in
theorem ggX10_rests_X10_in : GoodIn wsX10_rests wsX10_in := goodIn_r _ [9] (by decide +kernel) (by decide +kernel)
set_option maxRecDepth 20000 in
theorem gX10_rests_X10_in : GoodIn wsX10_rests (va_wsS RX10 59 yX10_in wsX10_in) := goodIn_app (goodIn_of _ (by decide +kernel)) ggX10_rests_X10_in
set_option maxRecDepth 20000 in
theorem ggX10_rests_X10_isRest : GoodIn wsX10_rests wsX10_isRest := goodIn_r _ [13, 14, 15, 16, 4, 17, 18, 19, 20, 21, 22, 23, 24, 25, 26, 27, 28, 29, 30, 31, 32, 33, 34, 35, 36, 37, 38, 39, 40, 41, 42, 43, 44, 45, 46] (by decide +kernel) (by decide +kernel)
set_option maxRecDepth 20000 in
theorem gX10_rests_X10_isRest : GoodIn wsX10_rests (wsV RX10 191 RX10 yX10_isRest wsX10_isRest) := goodIn_app (goodIn_of _ (by decide +kernel)) ggX10_rests_X10_isRest
theorem dX10_rests_0 : decode cX10_rests 0 = .ok (.aload_n 0, 1) := by decide +kernel
theorem dX10_rests_1 : decode cX10_rests 1 = .ok (.iload_n 1, 1) := by decide +kernel
theorem dX10_rests_2 : decode cX10_rests 2 = .ok (.invokevirtual 126, 3) := by decide +kernel
theorem dX10_rests_5 : decode cX10_rests 5 = .ok (.ifCond .eq 11, 3) := by decide +kernel
theorem dX10_rests_8 : decode cX10_rests 8 = .ok (.aload_n 0, 1) := by decide +kernel
theorem dX10_rests_9 : decode cX10_rests 9 = .ok (.iload_n 2, 1) := by decide +kernel
theorem dX10_rests_10 : decode cX10_rests 10 = .ok (.invokevirtual 126, 3) := by decide +kernel
theorem dX10_rests_13 : decode cX10_rests 13 = .ok (.ifCond .ne 5, 3) := by decide +kernel
theorem dX10_rests_16 : decode cX10_rests 16 = .ok (.iconst (-1), 1) := by decide +kernel
theorem dX10_rests_17 : decode cX10_rests 17 = .ok (.ireturn, 1) := by decide +kernel
theorem dX10_rests_18 : decode cX10_rests 18 = .ok (.iload_n 1, 1) := by decide +kernel
theorem dX10_rests_19 : decode cX10_rests 19 = .ok (.iload_n 2, 1) := by decide +kernel
theorem dX10_rests_20 : decode cX10_rests 20 = .ok (.if_icmp .eq 13, 3) := by decide +kernel
theorem dX10_rests_23 : decode cX10_rests 23 = .ok (.iload_n 3, 1) := by decide +kernel
theorem dX10_rests_24 : decode cX10_rests 24 = .ok (.i2l, 1) := by decide +kernel
theorem dX10_rests_25 : decode cX10_rests 25 = .ok (.lconst 0, 1) := by decide +kernel
theorem dX10_rests_26 : decode cX10_rests 26 = .ok (.lconst 1, 1) := by decide +kernel
theorem dX10_rests_27 : decode cX10_rests 27 = .ok (.invokestatic 59, 3) := by decide +kernel
theorem dX10_rests_30 : decode cX10_rests 30 = .ok (.ifCond .ne 6, 3) := by decide +kernel
theorem dX10_rests_33 : decode cX10_rests 33 = .ok (.bipush (-2), 2) := by decide +kernel
theorem dX10_rests_35 : decode cX10_rests 35 = .ok (.ireturn, 1) := by decide +kernel
theorem dX10_rests_36 : decode cX10_rests 36 = .ok (.iconst 0, 1) := by decide +kernel
theorem dX10_rests_37 : decode cX10_rests 37 = .ok (.istore 4, 2) := by decide +kernel
theorem dX10_rests_39 : decode cX10_rests 39 = .ok (.bipush (-9), 2) := by decide +kernel
theorem dX10_rests_41 : decode cX10_rests 41 = .ok (.istore 5, 2) := by decide +kernel
theorem dX10_rests_43 : decode cX10_rests 43 = .ok (.iconst 0, 1) := by decide +kernel
theorem dX10_rests_44 : decode cX10_rests 44 = .ok (.istore 6, 2) := by decide +kernel
theorem dX10_rests_46 : decode cX10_rests 46 = .ok (.iload 6, 2) := by decide +kernel
theorem dX10_rests_48 : decode cX10_rests 48 = .ok (.iconst 4, 1) := by decide +kernel
theorem dX10_rests_49 : decode cX10_rests 49 = .ok (.if_icmp .ge 53, 3) := by decide +kernel
theorem dX10_rests_52 : decode cX10_rests 52 = .ok (.aload_n 0, 1) := by decide +kernel
theorem dX10_rests_53 : decode cX10_rests 53 = .ok (.iload_n 1, 1) := by decide +kernel
theorem dX10_rests_54 : decode cX10_rests 54 = .ok (.iload_n 2, 1) := by decide +kernel
theorem dX10_rests_55 : decode cX10_rests 55 = .ok (.iload 6, 2) := by decide +kernel
theorem dX10_rests_57 : decode cX10_rests 57 = .ok (.iconst 2, 1) := by decide +kernel
theorem dX10_rests_58 : decode cX10_rests 58 = .ok (.idiv, 1) := by decide +kernel
theorem dX10_rests_59 : decode cX10_rests 59 = .ok (.iload 6, 2) := by decide +kernel
theorem dX10_rests_61 : decode cX10_rests 61 = .ok (.iconst 2, 1) := by decide +kernel
theorem dX10_rests_62 : decode cX10_rests 62 = .ok (.irem, 1) := by decide +kernel
theorem dX10_rests_63 : decode cX10_rests 63 = .ok (.invokevirtual 191, 3) := by decide +kernel
theorem dX10_rests_66 : decode cX10_rests 66 = .ok (.ifCond .eq 30, 3) := by decide +kernel
theorem dX10_rests_69 : decode cX10_rests 69 = .ok (.iload 4, 2) := by decide +kernel
theorem dX10_rests_71 : decode cX10_rests 71 = .ok (.ifCond .ne 18, 3) := by decide +kernel
theorem dX10_rests_74 : decode cX10_rests 74 = .ok (.bipush 10, 2) := by decide +kernel
theorem dX10_rests_76 : decode cX10_rests 76 = .ok (.iload 6, 2) := by decide +kernel
theorem dX10_rests_78 : decode cX10_rests 78 = .ok (.iconst 2, 1) := by decide +kernel
theorem dX10_rests_79 : decode cX10_rests 79 = .ok (.idiv, 1) := by decide +kernel
theorem dX10_rests_80 : decode cX10_rests 80 = .ok (.imul, 1) := by decide +kernel
theorem dX10_rests_81 : decode cX10_rests 81 = .ok (.iload 6, 2) := by decide +kernel
theorem dX10_rests_83 : decode cX10_rests 83 = .ok (.iconst 2, 1) := by decide +kernel
theorem dX10_rests_84 : decode cX10_rests 84 = .ok (.irem, 1) := by decide +kernel
theorem dX10_rests_85 : decode cX10_rests 85 = .ok (.iadd, 1) := by decide +kernel
theorem dX10_rests_86 : decode cX10_rests 86 = .ok (.goto 5, 3) := by decide +kernel
theorem dX10_rests_89 : decode cX10_rests 89 = .ok (.iload 5, 2) := by decide +kernel
theorem dX10_rests_91 : decode cX10_rests 91 = .ok (.istore 5, 2) := by decide +kernel
theorem dX10_rests_93 : decode cX10_rests 93 = .ok (.iinc 4 1, 3) := by decide +kernel
theorem dX10_rests_96 : decode cX10_rests 96 = .ok (.iinc 6 1, 3) := by decide +kernel
theorem dX10_rests_99 : decode cX10_rests 99 = .ok (.goto (-53), 3) := by decide +kernel
theorem dX10_rests_102 : decode cX10_rests 102 = .ok (.iload_n 3, 1) := by decide +kernel
theorem dX10_rests_103 : decode cX10_rests 103 = .ok (.ifCond .ne 8, 3) := by decide +kernel
theorem dX10_rests_106 : decode cX10_rests 106 = .ok (.iload 4, 2) := by decide +kernel
theorem dX10_rests_108 : decode cX10_rests 108 = .ok (.goto 5, 3) := by decide +kernel
theorem dX10_rests_111 : decode cX10_rests 111 = .ok (.iload 5, 2) := by decide +kernel
theorem dX10_rests_113 : decode cX10_rests 113 = .ok (.ireturn, 1) := by decide +kernel
set_option maxRecDepth 20000 in
theorem ggX10_dry_X10_isFlag : GoodIn wsX10_dry wsX10_isFlag := goodIn_r _ [8, 9, 10, 11, 7, 12, 19, 20, 21, 22, 23, 24, 25, 26, 27, 28, 29, 30, 31, 32, 33, 34, 35, 36, 37, 38, 39, 40, 41, 42] (by decide +kernel) (by decide +kernel)
set_option maxRecDepth 20000 in
theorem gX10_dry_X10_isFlag : GoodIn wsX10_dry (wsV RX10 126 RX10 yX10_isFlag wsX10_isFlag) := goodIn_app (goodIn_of _ (by decide +kernel)) ggX10_dry_X10_isFlag
set_option maxRecDepth 20000 in
theorem ggX10_dry_X10_in : GoodIn wsX10_dry wsX10_in := goodIn_r _ [12] (by decide +kernel) (by decide +kernel)
set_option maxRecDepth 20000 in
theorem gX10_dry_X10_in : GoodIn wsX10_dry (va_wsS RX10 59 yX10_in wsX10_in) := goodIn_app (goodIn_of _ (by decide +kernel)) ggX10_dry_X10_in
set_option maxRecDepth 20000 in
theorem ggX10_dry_X10_has : GoodIn wsX10_dry wsX10_has := goodIn_r _ [15] (by decide +kernel) (by decide +kernel)
set_option maxRecDepth 20000 in
theorem gX10_dry_X10_has : GoodIn wsX10_dry (va_wsS RX10 74 yX10_has wsX10_has) := goodIn_app (goodIn_of _ (by decide +kernel)) ggX10_dry_X10_has
set_option maxRecDepth 20000 in
theorem ggX10_dry_X10_common : GoodIn wsX10_dry wsX10_common := goodIn_r _ [18] (by decide +kernel) (by decide +kernel)
set_option maxRecDepth 20000 in
theorem gX10_dry_X10_common : GoodIn wsX10_dry (va_wsS RX10 184 yX10_common wsX10_common) := goodIn_app (goodIn_of _ (by decide +kernel)) ggX10_dry_X10_common
theorem dX10_dry_0 : decode cX10_dry 0 = .ok (.aload_n 0, 1) := by decide +kernel
theorem dX10_dry_1 : decode cX10_dry 1 = .ok (.iload_n 1, 1) := by decide +kernel
theorem dX10_dry_2 : decode cX10_dry 2 = .ok (.invokevirtual 126, 3) := by decide +kernel
theorem dX10_dry_5 : decode cX10_dry 5 = .ok (.ifCond .ne 5, 3) := by decide +kernel
theorem dX10_dry_8 : decode cX10_dry 8 = .ok (.iconst (-1), 1) := by decide +kernel
theorem dX10_dry_9 : decode cX10_dry 9 = .ok (.ireturn, 1) := by decide +kernel
theorem dX10_dry_10 : decode cX10_dry 10 = .ok (.iload_n 2, 1) := by decide +kernel
theorem dX10_dry_11 : decode cX10_dry 11 = .ok (.i2l, 1) := by decide +kernel
theorem dX10_dry_12 : decode cX10_dry 12 = .ok (.lconst 1, 1) := by decide +kernel
theorem dX10_dry_13 : decode cX10_dry 13 = .ok (.ldc2_w 162, 3) := by decide +kernel
theorem dX10_dry_16 : decode cX10_dry 16 = .ok (.invokestatic 59, 3) := by decide +kernel
theorem dX10_dry_19 : decode cX10_dry 19 = .ok (.ifCond .eq 15, 3) := by decide +kernel
theorem dX10_dry_22 : decode cX10_dry 22 = .ok (.iload_n 3, 1) := by decide +kernel
theorem dX10_dry_23 : decode cX10_dry 23 = .ok (.i2l, 1) := by decide +kernel
theorem dX10_dry_24 : decode cX10_dry 24 = .ok (.lconst 0, 1) := by decide +kernel
theorem dX10_dry_25 : decode cX10_dry 25 = .ok (.ldc2_w 195, 3) := by decide +kernel
theorem dX10_dry_28 : decode cX10_dry 28 = .ok (.invokestatic 59, 3) := by decide +kernel
theorem dX10_dry_31 : decode cX10_dry 31 = .ok (.ifCond .ne 6, 3) := by decide +kernel
theorem dX10_dry_34 : decode cX10_dry 34 = .ok (.bipush (-2), 2) := by decide +kernel
theorem dX10_dry_36 : decode cX10_dry 36 = .ok (.ireturn, 1) := by decide +kernel
theorem dX10_dry_37 : decode cX10_dry 37 = .ok (.aload_n 0, 1) := by decide +kernel
theorem dX10_dry_38 : decode cX10_dry 38 = .ok (.getfield 19, 3) := by decide +kernel
theorem dX10_dry_41 : decode cX10_dry 41 = .ok (.iconst 5, 1) := by decide +kernel
theorem dX10_dry_42 : decode cX10_dry 42 = .ok (.iload_n 1, 1) := by decide +kernel
theorem dX10_dry_43 : decode cX10_dry 43 = .ok (.iadd, 1) := by decide +kernel
theorem dX10_dry_44 : decode cX10_dry 44 = .ok (.iaload, 1) := by decide +kernel
theorem dX10_dry_45 : decode cX10_dry 45 = .ok (.iconst 2, 1) := by decide +kernel
theorem dX10_dry_46 : decode cX10_dry 46 = .ok (.if_icmp .eq 6, 3) := by decide +kernel
theorem dX10_dry_49 : decode cX10_dry 49 = .ok (.bipush (-3), 2) := by decide +kernel
theorem dX10_dry_51 : decode cX10_dry 51 = .ok (.ireturn, 1) := by decide +kernel
theorem dX10_dry_52 : decode cX10_dry 52 = .ok (.iconst 0, 1) := by decide +kernel
theorem dX10_dry_53 : decode cX10_dry 53 = .ok (.istore 5, 2) := by decide +kernel
theorem dX10_dry_55 : decode cX10_dry 55 = .ok (.iconst 0, 1) := by decide +kernel
theorem dX10_dry_56 : decode cX10_dry 56 = .ok (.istore 6, 2) := by decide +kernel
theorem dX10_dry_58 : decode cX10_dry 58 = .ok (.iconst 0, 1) := by decide +kernel
theorem dX10_dry_59 : decode cX10_dry 59 = .ok (.istore 7, 2) := by decide +kernel
theorem dX10_dry_61 : decode cX10_dry 61 = .ok (.iload 7, 2) := by decide +kernel
theorem dX10_dry_63 : decode cX10_dry 63 = .ok (.iconst 1, 1) := by decide +kernel
theorem dX10_dry_64 : decode cX10_dry 64 = .ok (.iload_n 2, 1) := by decide +kernel
theorem dX10_dry_65 : decode cX10_dry 65 = .ok (.ishl, 1) := by decide +kernel
theorem dX10_dry_66 : decode cX10_dry 66 = .ok (.if_icmp .ge 105, 3) := by decide +kernel
theorem dX10_dry_69 : decode cX10_dry 69 = .ok (.iconst 1, 1) := by decide +kernel
theorem dX10_dry_70 : decode cX10_dry 70 = .ok (.istore 8, 2) := by decide +kernel
theorem dX10_dry_72 : decode cX10_dry 72 = .ok (.iconst 0, 1) := by decide +kernel
theorem dX10_dry_73 : decode cX10_dry 73 = .ok (.istore 9, 2) := by decide +kernel
theorem dX10_dry_75 : decode cX10_dry 75 = .ok (.iconst 0, 1) := by decide +kernel
theorem dX10_dry_76 : decode cX10_dry 76 = .ok (.istore 10, 2) := by decide +kernel
theorem dX10_dry_78 : decode cX10_dry 78 = .ok (.iload 10, 2) := by decide +kernel
theorem dX10_dry_80 : decode cX10_dry 80 = .ok (.iload_n 2, 1) := by decide +kernel
theorem dX10_dry_81 : decode cX10_dry 81 = .ok (.if_icmp .ge 52, 3) := by decide +kernel
theorem dX10_dry_84 : decode cX10_dry 84 = .ok (.iload 8, 2) := by decide +kernel
theorem dX10_dry_86 : decode cX10_dry 86 = .ok (.iload 7, 2) := by decide +kernel
theorem dX10_dry_88 : decode cX10_dry 88 = .ok (.iload 10, 2) := by decide +kernel
theorem dX10_dry_90 : decode cX10_dry 90 = .ok (.invokestatic 74, 3) := by decide +kernel
theorem dX10_dry_93 : decode cX10_dry 93 = .ok (.ifCond .eq 7, 3) := by decide +kernel
theorem dX10_dry_96 : decode cX10_dry 96 = .ok (.iload_n 3, 1) := by decide +kernel
theorem dX10_dry_97 : decode cX10_dry 97 = .ok (.goto 7, 3) := by decide +kernel
theorem dX10_dry_100 : decode cX10_dry 100 = .ok (.bipush 10, 2) := by decide +kernel
theorem dX10_dry_102 : decode cX10_dry 102 = .ok (.iload_n 3, 1) := by decide +kernel
theorem dX10_dry_103 : decode cX10_dry 103 = .ok (.isub, 1) := by decide +kernel
theorem dX10_dry_104 : decode cX10_dry 104 = .ok (.imul, 1) := by decide +kernel
theorem dX10_dry_105 : decode cX10_dry 105 = .ok (.istore 8, 2) := by decide +kernel
theorem dX10_dry_107 : decode cX10_dry 107 = .ok (.iload 9, 2) := by decide +kernel
theorem dX10_dry_109 : decode cX10_dry 109 = .ok (.iload 7, 2) := by decide +kernel
theorem dX10_dry_111 : decode cX10_dry 111 = .ok (.iload 10, 2) := by decide +kernel
theorem dX10_dry_113 : decode cX10_dry 113 = .ok (.invokestatic 74, 3) := by decide +kernel
theorem dX10_dry_116 : decode cX10_dry 116 = .ok (.ifCond .eq 7, 3) := by decide +kernel
theorem dX10_dry_119 : decode cX10_dry 119 = .ok (.iconst 3, 1) := by decide +kernel
theorem dX10_dry_120 : decode cX10_dry 120 = .ok (.goto 4, 3) := by decide +kernel
theorem dX10_dry_123 : decode cX10_dry 123 = .ok (.iconst 1, 1) := by decide +kernel
theorem dX10_dry_124 : decode cX10_dry 124 = .ok (.iadd, 1) := by decide +kernel
theorem dX10_dry_125 : decode cX10_dry 125 = .ok (.istore 9, 2) := by decide +kernel
theorem dX10_dry_127 : decode cX10_dry 127 = .ok (.iinc 10 1, 3) := by decide +kernel
theorem dX10_dry_130 : decode cX10_dry 130 = .ok (.goto (-52), 3) := by decide +kernel
theorem dX10_dry_133 : decode cX10_dry 133 = .ok (.iload 6, 2) := by decide +kernel
theorem dX10_dry_135 : decode cX10_dry 135 = .ok (.iload 8, 2) := by decide +kernel
theorem dX10_dry_137 : decode cX10_dry 137 = .ok (.iadd, 1) := by decide +kernel
theorem dX10_dry_138 : decode cX10_dry 138 = .ok (.istore 6, 2) := by decide +kernel
theorem dX10_dry_140 : decode cX10_dry 140 = .ok (.iload 5, 2) := by decide +kernel
theorem dX10_dry_142 : decode cX10_dry 142 = .ok (.iload 9, 2) := by decide +kernel
theorem dX10_dry_144 : decode cX10_dry 144 = .ok (.aload_n 0, 1) := by decide +kernel
theorem dX10_dry_145 : decode cX10_dry 145 = .ok (.getfield 19, 3) := by decide +kernel
theorem dX10_dry_148 : decode cX10_dry 148 = .ok (.bipush 10, 2) := by decide +kernel
theorem dX10_dry_150 : decode cX10_dry 150 = .ok (.iload_n 1, 1) := by decide +kernel
theorem dX10_dry_151 : decode cX10_dry 151 = .ok (.iadd, 1) := by decide +kernel
theorem dX10_dry_152 : decode cX10_dry 152 = .ok (.iaload, 1) := by decide +kernel
theorem dX10_dry_153 : decode cX10_dry 153 = .ok (.if_icmp .lt 8, 3) := by decide +kernel
theorem dX10_dry_156 : decode cX10_dry 156 = .ok (.iload 8, 2) := by decide +kernel
theorem dX10_dry_158 : decode cX10_dry 158 = .ok (.goto 4, 3) := by decide +kernel
theorem dX10_dry_161 : decode cX10_dry 161 = .ok (.iconst 0, 1) := by decide +kernel
theorem dX10_dry_162 : decode cX10_dry 162 = .ok (.iadd, 1) := by decide +kernel
theorem dX10_dry_163 : decode cX10_dry 163 = .ok (.istore 5, 2) := by decide +kernel
theorem dX10_dry_165 : decode cX10_dry 165 = .ok (.iinc 7 1, 3) := by decide +kernel
theorem dX10_dry_168 : decode cX10_dry 168 = .ok (.goto (-107), 3) := by decide +kernel
theorem dX10_dry_171 : decode cX10_dry 171 = .ok (.iload 5, 2) := by decide +kernel
theorem dX10_dry_173 : decode cX10_dry 173 = .ok (.iload 6, 2) := by decide +kernel
theorem dX10_dry_175 : decode cX10_dry 175 = .ok (.invokestatic 184, 3) := by decide +kernel
theorem dX10_dry_178 : decode cX10_dry 178 = .ok (.istore 7, 2) := by decide +kernel
theorem dX10_dry_180 : decode cX10_dry 180 = .ok (.iload 4, 2) := by decide +kernel
theorem dX10_dry_182 : decode cX10_dry 182 = .ok (.ifCond .eq 11, 3) := by decide +kernel
theorem dX10_dry_185 : decode cX10_dry 185 = .ok (.iload 5, 2) := by decide +kernel
theorem dX10_dry_187 : decode cX10_dry 187 = .ok (.iload 7, 2) := by decide +kernel
theorem dX10_dry_189 : decode cX10_dry 189 = .ok (.idiv, 1) := by decide +kernel
theorem dX10_dry_190 : decode cX10_dry 190 = .ok (.goto 8, 3) := by decide +kernel
theorem dX10_dry_193 : decode cX10_dry 193 = .ok (.iload 6, 2) := by decide +kernel
theorem dX10_dry_195 : decode cX10_dry 195 = .ok (.iload 7, 2) := by decide +kernel
theorem dX10_dry_197 : decode cX10_dry 197 = .ok (.idiv, 1) := by decide +kernel
theorem dX10_dry_198 : decode cX10_dry 198 = .ok (.ireturn, 1) := by decide +kernel
theorem dX10_seed_0 : decode cX10_seed 0 = .ok (.aload_n 0, 1) := by decide +kernel
theorem dX10_seed_1 : decode cX10_seed 1 = .ok (.getfield 197, 3) := by decide +kernel
theorem dX10_seed_4 : decode cX10_seed 4 = .ok (.lstore_n 3, 1) := by decide +kernel
theorem dX10_seed_5 : decode cX10_seed 5 = .ok (.aload_n 0, 1) := by decide +kernel
theorem dX10_seed_6 : decode cX10_seed 6 = .ok (.lload_n 1, 1) := by decide +kernel
theorem dX10_seed_7 : decode cX10_seed 7 = .ok (.putfield 197, 3) := by decide +kernel
theorem dX10_seed_10 : decode cX10_seed 10 = .ok (.lload_n 3, 1) := by decide +kernel
theorem dX10_seed_11 : decode cX10_seed 11 = .ok (.lreturn, 1) := by decide +kernel
set_option maxRecDepth 20000 in
theorem ggX10_weeks_X10_in : GoodIn wsX10_weeks wsX10_in := goodIn_r _ [10] (by decide +kernel) (by decide +kernel)
set_option maxRecDepth 20000 in
theorem gX10_weeks_X10_in : GoodIn wsX10_weeks (va_wsS RX10 59 yX10_in wsX10_in) := goodIn_app (goodIn_of _ (by decide +kernel)) ggX10_weeks_X10_in
set_option maxRecDepth 20000 in
theorem ggX10_weeks_X10_layTrial : GoodIn wsX10_weeks wsX10_layTrial := goodIn_r _ [14, 6, 67, 68, 69, 70, 71, 72, 73, 74, 75, 76, 77, 78, 79, 80, 81, 82, 83, 84, 85, 86, 87, 88, 89, 90] (by decide +kernel) (by decide +kernel)
set_option maxRecDepth 20000 in
theorem gX10_weeks_X10_layTrial : GoodIn wsX10_weeks (wsV RX10 153 RX10 yX10_layTrial wsX10_layTrial) := goodIn_app (goodIn_of _ (by decide +kernel)) ggX10_weeks_X10_layTrial
set_option maxRecDepth 20000 in
theorem ggX10_weeks_X10_passOn : GoodIn wsX10_weeks wsX10_passOn := goodIn_r _ [18, 19, 6, 20, 21, 22, 23, 9, 24, 25, 26, 27, 28, 29, 30, 31, 32, 33, 34, 35, 36, 37, 38, 39, 40, 41, 42, 43, 44, 45, 46, 47, 48, 67, 68, 69, 70, 71, 72, 73, 74, 75, 76, 77, 78, 79, 80, 81, 82, 83, 84, 85, 86, 87, 88, 89, 90] (by decide +kernel) (by decide +kernel)
set_option maxRecDepth 20000 in
theorem gX10_weeks_X10_passOn : GoodIn wsX10_weeks (wsV RX10 145 RX10 yX10_passOn wsX10_passOn) := goodIn_app (goodIn_of _ (by decide +kernel)) ggX10_weeks_X10_passOn
set_option maxRecDepth 20000 in
theorem ggX10_weeks_X10_canSend : GoodIn wsX10_weeks wsX10_canSend := goodIn_r _ [52, 6, 53, 54, 55, 9, 56, 19, 7, 8, 10, 36, 37, 38, 39, 40, 41, 21, 22, 23, 24, 42, 43, 44, 67, 68, 69, 70, 71, 72, 73, 74, 75, 76, 77, 78, 79, 80, 81, 82, 83, 84, 85, 86, 87, 88, 89, 90] (by decide +kernel) (by decide +kernel)
set_option maxRecDepth 20000 in
theorem gX10_weeks_X10_canSend : GoodIn wsX10_weeks (wsV RX10 133 RX10 yX10_canSend wsX10_canSend) := goodIn_app (goodIn_of _ (by decide +kernel)) ggX10_weeks_X10_canSend
set_option maxRecDepth 20000 in
theorem ggX10_weeks_X10_sendOn : GoodIn wsX10_weeks wsX10_sendOn := goodIn_r _ [60, 6, 61, 67, 68, 69, 70, 71, 72, 73, 74, 75, 76, 77, 78, 79, 80, 81, 82, 83, 84, 85, 86, 87, 88, 89, 90] (by decide +kernel) (by decide +kernel)
set_option maxRecDepth 20000 in
theorem gX10_weeks_X10_sendOn : GoodIn wsX10_weeks (wsV RX10 139 RX10 yX10_sendOn wsX10_sendOn) := goodIn_app (goodIn_of _ (by decide +kernel)) ggX10_weeks_X10_sendOn
set_option maxRecDepth 20000 in
theorem ggX10_weeks_X10_areIn : GoodIn wsX10_weeks wsX10_areIn := goodIn_r _ [24, 19, 6, 67, 68, 69, 70, 71, 72, 73, 74, 75, 76, 77, 78, 79, 80, 81, 82, 83, 84, 85, 86, 87, 88, 89, 90] (by decide +kernel) (by decide +kernel)
set_option maxRecDepth 20000 in
theorem gX10_weeks_X10_areIn : GoodIn wsX10_weeks (wsV RX10 107 RX10 yX10_areIn wsX10_areIn) := goodIn_app (goodIn_of _ (by decide +kernel)) ggX10_weeks_X10_areIn
set_option maxRecDepth 20000 in
theorem ggX10_weeks_X10_fights : GoodIn wsX10_weeks wsX10_fights := goodIn_r _ [65, 19, 66, 25, 26, 9, 27, 42, 43, 44, 67, 68, 69, 70, 71, 72, 73, 74, 75, 76, 77, 78, 79, 80, 81, 82, 83, 84, 85, 86, 87, 88, 89, 90] (by decide +kernel) (by decide +kernel)
set_option maxRecDepth 20000 in
theorem gX10_weeks_X10_fights : GoodIn wsX10_weeks (wsV RX10 150 RX10 yX10_fights wsX10_fights) := goodIn_app (goodIn_of _ (by decide +kernel)) ggX10_weeks_X10_fights
theorem dX10_weeks_0 : decode cX10_weeks 0 = .ok (.iload_n 1, 1) := by decide +kernel
theorem dX10_weeks_1 : decode cX10_weeks 1 = .ok (.i2l, 1) := by decide +kernel
theorem dX10_weeks_2 : decode cX10_weeks 2 = .ok (.lconst 1, 1) := by decide +kernel
theorem dX10_weeks_3 : decode cX10_weeks 3 = .ok (.ldc2_w 201, 3) := by decide +kernel
theorem dX10_weeks_6 : decode cX10_weeks 6 = .ok (.invokestatic 59, 3) := by decide +kernel
theorem dX10_weeks_9 : decode cX10_weeks 9 = .ok (.ifCond .ne 6, 3) := by decide +kernel
theorem dX10_weeks_12 : decode cX10_weeks 12 = .ok (.bipush (-2), 2) := by decide +kernel
theorem dX10_weeks_14 : decode cX10_weeks 14 = .ok (.ireturn, 1) := by decide +kernel
theorem dX10_weeks_15 : decode cX10_weeks 15 = .ok (.aload_n 0, 1) := by decide +kernel
theorem dX10_weeks_16 : decode cX10_weeks 16 = .ok (.invokevirtual 153, 3) := by decide +kernel
theorem dX10_weeks_19 : decode cX10_weeks 19 = .ok (.iconst 0, 1) := by decide +kernel
theorem dX10_weeks_20 : decode cX10_weeks 20 = .ok (.istore_n 2, 1) := by decide +kernel
theorem dX10_weeks_21 : decode cX10_weeks 21 = .ok (.iconst 0, 1) := by decide +kernel
theorem dX10_weeks_22 : decode cX10_weeks 22 = .ok (.istore_n 3, 1) := by decide +kernel
theorem dX10_weeks_23 : decode cX10_weeks 23 = .ok (.iload_n 3, 1) := by decide +kernel
theorem dX10_weeks_24 : decode cX10_weeks 24 = .ok (.iload_n 1, 1) := by decide +kernel
theorem dX10_weeks_25 : decode cX10_weeks 25 = .ok (.if_icmp .ge 103, 3) := by decide +kernel
theorem dX10_weeks_28 : decode cX10_weeks 28 = .ok (.aload_n 0, 1) := by decide +kernel
theorem dX10_weeks_29 : decode cX10_weeks 29 = .ok (.aload_n 0, 1) := by decide +kernel
theorem dX10_weeks_30 : decode cX10_weeks 30 = .ok (.getfield 197, 3) := by decide +kernel
theorem dX10_weeks_33 : decode cX10_weeks 33 = .ok (.ldc2_w 203, 3) := by decide +kernel
theorem dX10_weeks_36 : decode cX10_weeks 36 = .ok (.lmul, 1) := by decide +kernel
theorem dX10_weeks_37 : decode cX10_weeks 37 = .ok (.ldc2_w 205, 3) := by decide +kernel
theorem dX10_weeks_40 : decode cX10_weeks 40 = .ok (.ladd, 1) := by decide +kernel
theorem dX10_weeks_41 : decode cX10_weeks 41 = .ok (.putfield 197, 3) := by decide +kernel
theorem dX10_weeks_44 : decode cX10_weeks 44 = .ok (.aload_n 0, 1) := by decide +kernel
theorem dX10_weeks_45 : decode cX10_weeks 45 = .ok (.getfield 197, 3) := by decide +kernel
theorem dX10_weeks_48 : decode cX10_weeks 48 = .ok (.bipush 33, 2) := by decide +kernel
theorem dX10_weeks_50 : decode cX10_weeks 50 = .ok (.lushr, 1) := by decide +kernel
theorem dX10_weeks_51 : decode cX10_weeks 51 = .ok (.ldc2_w 195, 3) := by decide +kernel
theorem dX10_weeks_54 : decode cX10_weeks 54 = .ok (.lrem, 1) := by decide +kernel
theorem dX10_weeks_55 : decode cX10_weeks 55 = .ok (.l2i, 1) := by decide +kernel
theorem dX10_weeks_56 : decode cX10_weeks 56 = .ok (.istore 4, 2) := by decide +kernel
theorem dX10_weeks_58 : decode cX10_weeks 58 = .ok (.iload 4, 2) := by decide +kernel
theorem dX10_weeks_60 : decode cX10_weeks 60 = .ok (.iconst 4, 1) := by decide +kernel
theorem dX10_weeks_61 : decode cX10_weeks 61 = .ok (.if_icmp .le 23, 3) := by decide +kernel
theorem dX10_weeks_64 : decode cX10_weeks 64 = .ok (.aload_n 0, 1) := by decide +kernel
theorem dX10_weeks_65 : decode cX10_weeks 65 = .ok (.getfield 19, 3) := by decide +kernel
theorem dX10_weeks_68 : decode cX10_weeks 68 = .ok (.bipush 32, 2) := by decide +kernel
theorem dX10_weeks_70 : decode cX10_weeks 70 = .ok (.iload 4, 2) := by decide +kernel
theorem dX10_weeks_72 : decode cX10_weeks 72 = .ok (.iconst 3, 1) := by decide +kernel
theorem dX10_weeks_73 : decode cX10_weeks 73 = .ok (.irem, 1) := by decide +kernel
theorem dX10_weeks_74 : decode cX10_weeks 74 = .ok (.iastore, 1) := by decide +kernel
theorem dX10_weeks_75 : decode cX10_weeks 75 = .ok (.aload_n 0, 1) := by decide +kernel
theorem dX10_weeks_76 : decode cX10_weeks 76 = .ok (.iconst 1, 1) := by decide +kernel
theorem dX10_weeks_77 : decode cX10_weeks 77 = .ok (.invokevirtual 145, 3) := by decide +kernel
theorem dX10_weeks_80 : decode cX10_weeks 80 = .ok (.pop, 1) := by decide +kernel
theorem dX10_weeks_81 : decode cX10_weeks 81 = .ok (.goto 20, 3) := by decide +kernel
theorem dX10_weeks_84 : decode cX10_weeks 84 = .ok (.aload_n 0, 1) := by decide +kernel
theorem dX10_weeks_85 : decode cX10_weeks 85 = .ok (.iconst 1, 1) := by decide +kernel
theorem dX10_weeks_86 : decode cX10_weeks 86 = .ok (.iload 4, 2) := by decide +kernel
theorem dX10_weeks_88 : decode cX10_weeks 88 = .ok (.invokevirtual 133, 3) := by decide +kernel
theorem dX10_weeks_91 : decode cX10_weeks 91 = .ok (.ifCond .eq 10, 3) := by decide +kernel
theorem dX10_weeks_94 : decode cX10_weeks 94 = .ok (.aload_n 0, 1) := by decide +kernel
theorem dX10_weeks_95 : decode cX10_weeks 95 = .ok (.iconst 1, 1) := by decide +kernel
theorem dX10_weeks_96 : decode cX10_weeks 96 = .ok (.iload 4, 2) := by decide +kernel
theorem dX10_weeks_98 : decode cX10_weeks 98 = .ok (.invokevirtual 139, 3) := by decide +kernel
theorem dX10_weeks_101 : decode cX10_weeks 101 = .ok (.iload_n 2, 1) := by decide +kernel
theorem dX10_weeks_102 : decode cX10_weeks 102 = .ok (.aload_n 0, 1) := by decide +kernel
theorem dX10_weeks_103 : decode cX10_weeks 103 = .ok (.aload_n 0, 1) := by decide +kernel
theorem dX10_weeks_104 : decode cX10_weeks 104 = .ok (.iconst 1, 1) := by decide +kernel
theorem dX10_weeks_105 : decode cX10_weeks 105 = .ok (.iconst 0, 1) := by decide +kernel
theorem dX10_weeks_106 : decode cX10_weeks 106 = .ok (.invokevirtual 107, 3) := by decide +kernel
theorem dX10_weeks_109 : decode cX10_weeks 109 = .ok (.invokevirtual 150, 3) := by decide +kernel
theorem dX10_weeks_112 : decode cX10_weeks 112 = .ok (.ifCond .le 7, 3) := by decide +kernel
theorem dX10_weeks_115 : decode cX10_weeks 115 = .ok (.iconst 1, 1) := by decide +kernel
theorem dX10_weeks_116 : decode cX10_weeks 116 = .ok (.goto 4, 3) := by decide +kernel
theorem dX10_weeks_119 : decode cX10_weeks 119 = .ok (.iconst 0, 1) := by decide +kernel
theorem dX10_weeks_120 : decode cX10_weeks 120 = .ok (.iadd, 1) := by decide +kernel
theorem dX10_weeks_121 : decode cX10_weeks 121 = .ok (.istore_n 2, 1) := by decide +kernel
theorem dX10_weeks_122 : decode cX10_weeks 122 = .ok (.iinc 3 1, 3) := by decide +kernel
theorem dX10_weeks_125 : decode cX10_weeks 125 = .ok (.goto (-102), 3) := by decide +kernel
theorem dX10_weeks_128 : decode cX10_weeks 128 = .ok (.iload_n 2, 1) := by decide +kernel
theorem dX10_weeks_129 : decode cX10_weeks 129 = .ok (.ireturn, 1) := by decide +kernel
set_option maxRecDepth 20000 in
theorem ggX10_keep_X10_in : GoodIn wsX10_keep wsX10_in := goodIn_r _ [7] (by decide +kernel) (by decide +kernel)
set_option maxRecDepth 20000 in
theorem gX10_keep_X10_in : GoodIn wsX10_keep (va_wsS RX10 59 yX10_in wsX10_in) := goodIn_app (goodIn_of _ (by decide +kernel)) ggX10_keep_X10_in
theorem dX10_keep_0 : decode cX10_keep 0 = .ok (.iload_n 1, 1) := by decide +kernel
theorem dX10_keep_1 : decode cX10_keep 1 = .ok (.i2l, 1) := by decide +kernel
theorem dX10_keep_2 : decode cX10_keep 2 = .ok (.lconst 0, 1) := by decide +kernel
theorem dX10_keep_3 : decode cX10_keep 3 = .ok (.lconst 1, 1) := by decide +kernel
theorem dX10_keep_4 : decode cX10_keep 4 = .ok (.invokestatic 59, 3) := by decide +kernel
theorem dX10_keep_7 : decode cX10_keep 7 = .ok (.ifCond .ne 5, 3) := by decide +kernel
theorem dX10_keep_10 : decode cX10_keep 10 = .ok (.iconst (-1), 1) := by decide +kernel
theorem dX10_keep_11 : decode cX10_keep 11 = .ok (.ireturn, 1) := by decide +kernel
theorem dX10_keep_12 : decode cX10_keep 12 = .ok (.aload_n 0, 1) := by decide +kernel
theorem dX10_keep_13 : decode cX10_keep 13 = .ok (.getfield 43, 3) := by decide +kernel
theorem dX10_keep_16 : decode cX10_keep 16 = .ok (.iload_n 1, 1) := by decide +kernel
theorem dX10_keep_17 : decode cX10_keep 17 = .ok (.iconst 1, 1) := by decide +kernel
theorem dX10_keep_18 : decode cX10_keep 18 = .ok (.bastore, 1) := by decide +kernel
theorem dX10_keep_19 : decode cX10_keep 19 = .ok (.iconst 0, 1) := by decide +kernel
theorem dX10_keep_20 : decode cX10_keep 20 = .ok (.istore_n 2, 1) := by decide +kernel
theorem dX10_keep_21 : decode cX10_keep 21 = .ok (.iload_n 2, 1) := by decide +kernel
theorem dX10_keep_22 : decode cX10_keep 22 = .ok (.bipush 17, 2) := by decide +kernel
theorem dX10_keep_24 : decode cX10_keep 24 = .ok (.if_icmp .ge 26, 3) := by decide +kernel
theorem dX10_keep_27 : decode cX10_keep 27 = .ok (.aload_n 0, 1) := by decide +kernel
theorem dX10_keep_28 : decode cX10_keep 28 = .ok (.getfield 47, 3) := by decide +kernel
theorem dX10_keep_31 : decode cX10_keep 31 = .ok (.bipush 17, 2) := by decide +kernel
theorem dX10_keep_33 : decode cX10_keep 33 = .ok (.iload_n 1, 1) := by decide +kernel
theorem dX10_keep_34 : decode cX10_keep 34 = .ok (.imul, 1) := by decide +kernel
theorem dX10_keep_35 : decode cX10_keep 35 = .ok (.iload_n 2, 1) := by decide +kernel
theorem dX10_keep_36 : decode cX10_keep 36 = .ok (.iadd, 1) := by decide +kernel
theorem dX10_keep_37 : decode cX10_keep 37 = .ok (.aload_n 0, 1) := by decide +kernel
theorem dX10_keep_38 : decode cX10_keep 38 = .ok (.getfield 19, 3) := by decide +kernel
theorem dX10_keep_41 : decode cX10_keep 41 = .ok (.iload_n 2, 1) := by decide +kernel
theorem dX10_keep_42 : decode cX10_keep 42 = .ok (.iaload, 1) := by decide +kernel
theorem dX10_keep_43 : decode cX10_keep 43 = .ok (.iastore, 1) := by decide +kernel
theorem dX10_keep_44 : decode cX10_keep 44 = .ok (.iinc 2 1, 3) := by decide +kernel
theorem dX10_keep_47 : decode cX10_keep 47 = .ok (.goto (-26), 3) := by decide +kernel
theorem dX10_keep_50 : decode cX10_keep 50 = .ok (.aload_n 0, 1) := by decide +kernel
theorem dX10_keep_51 : decode cX10_keep 51 = .ok (.getfield 19, 3) := by decide +kernel
theorem dX10_keep_54 : decode cX10_keep 54 = .ok (.bipush 16, 2) := by decide +kernel
theorem dX10_keep_56 : decode cX10_keep 56 = .ok (.iaload, 1) := by decide +kernel
theorem dX10_keep_57 : decode cX10_keep 57 = .ok (.ireturn, 1) := by decide +kernel
set_option maxRecDepth 20000 in
theorem ggX10_again_X10_in : GoodIn wsX10_again wsX10_in := goodIn_r _ [8] (by decide +kernel) (by decide +kernel)
set_option maxRecDepth 20000 in
theorem gX10_again_X10_in : GoodIn wsX10_again (va_wsS RX10 59 yX10_in wsX10_in) := goodIn_app (goodIn_of _ (by decide +kernel)) ggX10_again_X10_in
theorem dX10_again_0 : decode cX10_again 0 = .ok (.iload_n 1, 1) := by decide +kernel
theorem dX10_again_1 : decode cX10_again 1 = .ok (.i2l, 1) := by decide +kernel
theorem dX10_again_2 : decode cX10_again 2 = .ok (.lconst 0, 1) := by decide +kernel
theorem dX10_again_3 : decode cX10_again 3 = .ok (.lconst 1, 1) := by decide +kernel
theorem dX10_again_4 : decode cX10_again 4 = .ok (.invokestatic 59, 3) := by decide +kernel
theorem dX10_again_7 : decode cX10_again 7 = .ok (.ifCond .ne 5, 3) := by decide +kernel
theorem dX10_again_10 : decode cX10_again 10 = .ok (.iconst (-1), 1) := by decide +kernel
theorem dX10_again_11 : decode cX10_again 11 = .ok (.ireturn, 1) := by decide +kernel
theorem dX10_again_12 : decode cX10_again 12 = .ok (.aload_n 0, 1) := by decide +kernel
theorem dX10_again_13 : decode cX10_again 13 = .ok (.getfield 43, 3) := by decide +kernel
theorem dX10_again_16 : decode cX10_again 16 = .ok (.iload_n 1, 1) := by decide +kernel
theorem dX10_again_17 : decode cX10_again 17 = .ok (.baload, 1) := by decide +kernel
theorem dX10_again_18 : decode cX10_again 18 = .ok (.ifCond .ne 6, 3) := by decide +kernel
theorem dX10_again_21 : decode cX10_again 21 = .ok (.bipush (-3), 2) := by decide +kernel
theorem dX10_again_23 : decode cX10_again 23 = .ok (.ireturn, 1) := by decide +kernel
theorem dX10_again_24 : decode cX10_again 24 = .ok (.iconst 0, 1) := by decide +kernel
theorem dX10_again_25 : decode cX10_again 25 = .ok (.istore_n 2, 1) := by decide +kernel
theorem dX10_again_26 : decode cX10_again 26 = .ok (.iload_n 2, 1) := by decide +kernel
theorem dX10_again_27 : decode cX10_again 27 = .ok (.bipush 17, 2) := by decide +kernel
theorem dX10_again_29 : decode cX10_again 29 = .ok (.if_icmp .ge 26, 3) := by decide +kernel
theorem dX10_again_32 : decode cX10_again 32 = .ok (.aload_n 0, 1) := by decide +kernel
theorem dX10_again_33 : decode cX10_again 33 = .ok (.getfield 19, 3) := by decide +kernel
theorem dX10_again_36 : decode cX10_again 36 = .ok (.iload_n 2, 1) := by decide +kernel
theorem dX10_again_37 : decode cX10_again 37 = .ok (.aload_n 0, 1) := by decide +kernel
theorem dX10_again_38 : decode cX10_again 38 = .ok (.getfield 47, 3) := by decide +kernel
theorem dX10_again_41 : decode cX10_again 41 = .ok (.bipush 17, 2) := by decide +kernel
theorem dX10_again_43 : decode cX10_again 43 = .ok (.iload_n 1, 1) := by decide +kernel
theorem dX10_again_44 : decode cX10_again 44 = .ok (.imul, 1) := by decide +kernel
theorem dX10_again_45 : decode cX10_again 45 = .ok (.iload_n 2, 1) := by decide +kernel
theorem dX10_again_46 : decode cX10_again 46 = .ok (.iadd, 1) := by decide +kernel
theorem dX10_again_47 : decode cX10_again 47 = .ok (.iaload, 1) := by decide +kernel
theorem dX10_again_48 : decode cX10_again 48 = .ok (.iastore, 1) := by decide +kernel
theorem dX10_again_49 : decode cX10_again 49 = .ok (.iinc 2 1, 3) := by decide +kernel
theorem dX10_again_52 : decode cX10_again 52 = .ok (.goto (-26), 3) := by decide +kernel
theorem dX10_again_55 : decode cX10_again 55 = .ok (.aload_n 0, 1) := by decide +kernel
theorem dX10_again_56 : decode cX10_again 56 = .ok (.iconst 0, 1) := by decide +kernel
theorem dX10_again_57 : decode cX10_again 57 = .ok (.putfield 104, 3) := by decide +kernel
theorem dX10_again_60 : decode cX10_again 60 = .ok (.aload_n 0, 1) := by decide +kernel
theorem dX10_again_61 : decode cX10_again 61 = .ok (.getfield 19, 3) := by decide +kernel
theorem dX10_again_64 : decode cX10_again 64 = .ok (.bipush 16, 2) := by decide +kernel
theorem dX10_again_66 : decode cX10_again 66 = .ok (.iaload, 1) := by decide +kernel
theorem dX10_again_67 : decode cX10_again 67 = .ok (.ireturn, 1) := by decide +kernel
set_option maxRecDepth 20000 in
theorem ggX10_count_X10_free : GoodIn wsX10_count wsX10_free := goodIn_r _ [10, 11, 12, 13, 14, 15, 9, 16, 2, 3, 17, 18, 19, 28, 29, 30, 31, 32, 33, 34, 35, 36, 37, 38, 39, 40, 41, 42, 43, 44, 45, 46, 47, 48, 49, 50, 51] (by decide +kernel) (by decide +kernel)
set_option maxRecDepth 20000 in
theorem gX10_count_X10_free : GoodIn wsX10_count (wsV RX10 120 RX10 yX10_free wsX10_free) := goodIn_app (goodIn_of _ (by decide +kernel)) ggX10_count_X10_free
set_option maxRecDepth 20000 in
theorem ggX10_count_X10_areIn : GoodIn wsX10_count wsX10_areIn := goodIn_r _ [16, 2, 3, 28, 29, 30, 31, 32, 33, 34, 35, 36, 37, 38, 39, 40, 41, 42, 43, 44, 45, 46, 47, 48, 49, 50, 51] (by decide +kernel) (by decide +kernel)
set_option maxRecDepth 20000 in
theorem gX10_count_X10_areIn : GoodIn wsX10_count (wsV RX10 107 RX10 yX10_areIn wsX10_areIn) := goodIn_app (goodIn_of _ (by decide +kernel)) ggX10_count_X10_areIn
set_option maxRecDepth 20000 in
theorem ggX10_count_X10_fights : GoodIn wsX10_count wsX10_fights := goodIn_r _ [23, 2, 24, 25, 26, 9, 27, 17, 18, 19, 28, 29, 30, 31, 32, 33, 34, 35, 36, 37, 38, 39, 40, 41, 42, 43, 44, 45, 46, 47, 48, 49, 50, 51] (by decide +kernel) (by decide +kernel)
set_option maxRecDepth 20000 in
theorem gX10_count_X10_fights : GoodIn wsX10_count (wsV RX10 150 RX10 yX10_fights wsX10_fights) := goodIn_app (goodIn_of _ (by decide +kernel)) ggX10_count_X10_fights
theorem dX10_count_0 : decode cX10_count 0 = .ok (.iload_n 1, 1) := by decide +kernel
theorem dX10_count_1 : decode cX10_count 1 = .ok (.tableswitch 123 0 9 #[55, 60, 65, 72, 79, 87, 94, 105, 113, 118], 55) := by decide +kernel
theorem dX10_count_56 : decode cX10_count 56 = .ok (.aload_n 0, 1) := by decide +kernel
theorem dX10_count_57 : decode cX10_count 57 = .ok (.getfield 63, 3) := by decide +kernel
theorem dX10_count_60 : decode cX10_count 60 = .ok (.ireturn, 1) := by decide +kernel
theorem dX10_count_61 : decode cX10_count 61 = .ok (.aload_n 0, 1) := by decide +kernel
theorem dX10_count_62 : decode cX10_count 62 = .ok (.getfield 101, 3) := by decide +kernel
theorem dX10_count_65 : decode cX10_count 65 = .ok (.ireturn, 1) := by decide +kernel
theorem dX10_count_66 : decode cX10_count 66 = .ok (.aload_n 0, 1) := by decide +kernel
theorem dX10_count_67 : decode cX10_count 67 = .ok (.iconst 0, 1) := by decide +kernel
theorem dX10_count_68 : decode cX10_count 68 = .ok (.iconst 1, 1) := by decide +kernel
theorem dX10_count_69 : decode cX10_count 69 = .ok (.invokevirtual 120, 3) := by decide +kernel
theorem dX10_count_72 : decode cX10_count 72 = .ok (.ireturn, 1) := by decide +kernel
theorem dX10_count_73 : decode cX10_count 73 = .ok (.aload_n 0, 1) := by decide +kernel
theorem dX10_count_74 : decode cX10_count 74 = .ok (.iconst 0, 1) := by decide +kernel
theorem dX10_count_75 : decode cX10_count 75 = .ok (.iconst 2, 1) := by decide +kernel
theorem dX10_count_76 : decode cX10_count 76 = .ok (.invokevirtual 120, 3) := by decide +kernel
theorem dX10_count_79 : decode cX10_count 79 = .ok (.ireturn, 1) := by decide +kernel
theorem dX10_count_80 : decode cX10_count 80 = .ok (.aload_n 0, 1) := by decide +kernel
theorem dX10_count_81 : decode cX10_count 81 = .ok (.getfield 19, 3) := by decide +kernel
theorem dX10_count_84 : decode cX10_count 84 = .ok (.bipush 15, 2) := by decide +kernel
theorem dX10_count_86 : decode cX10_count 86 = .ok (.iaload, 1) := by decide +kernel
theorem dX10_count_87 : decode cX10_count 87 = .ok (.ireturn, 1) := by decide +kernel
theorem dX10_count_88 : decode cX10_count 88 = .ok (.aload_n 0, 1) := by decide +kernel
theorem dX10_count_89 : decode cX10_count 89 = .ok (.iconst 0, 1) := by decide +kernel
theorem dX10_count_90 : decode cX10_count 90 = .ok (.iconst 0, 1) := by decide +kernel
theorem dX10_count_91 : decode cX10_count 91 = .ok (.invokevirtual 107, 3) := by decide +kernel
theorem dX10_count_94 : decode cX10_count 94 = .ok (.ireturn, 1) := by decide +kernel
theorem dX10_count_95 : decode cX10_count 95 = .ok (.aload_n 0, 1) := by decide +kernel
theorem dX10_count_96 : decode cX10_count 96 = .ok (.aload_n 0, 1) := by decide +kernel
theorem dX10_count_97 : decode cX10_count 97 = .ok (.iconst 0, 1) := by decide +kernel
theorem dX10_count_98 : decode cX10_count 98 = .ok (.iconst 0, 1) := by decide +kernel
theorem dX10_count_99 : decode cX10_count 99 = .ok (.invokevirtual 107, 3) := by decide +kernel
theorem dX10_count_102 : decode cX10_count 102 = .ok (.invokevirtual 150, 3) := by decide +kernel
theorem dX10_count_105 : decode cX10_count 105 = .ok (.ireturn, 1) := by decide +kernel
theorem dX10_count_106 : decode cX10_count 106 = .ok (.aload_n 0, 1) := by decide +kernel
theorem dX10_count_107 : decode cX10_count 107 = .ok (.getfield 19, 3) := by decide +kernel
theorem dX10_count_110 : decode cX10_count 110 = .ok (.bipush 16, 2) := by decide +kernel
theorem dX10_count_112 : decode cX10_count 112 = .ok (.iaload, 1) := by decide +kernel
theorem dX10_count_113 : decode cX10_count 113 = .ok (.ireturn, 1) := by decide +kernel
theorem dX10_count_114 : decode cX10_count 114 = .ok (.aload_n 0, 1) := by decide +kernel
theorem dX10_count_115 : decode cX10_count 115 = .ok (.getfield 104, 3) := by decide +kernel
theorem dX10_count_118 : decode cX10_count 118 = .ok (.ireturn, 1) := by decide +kernel
theorem dX10_count_119 : decode cX10_count 119 = .ok (.aload_n 0, 1) := by decide +kernel
theorem dX10_count_120 : decode cX10_count 120 = .ok (.getfield 172, 3) := by decide +kernel
theorem dX10_count_123 : decode cX10_count 123 = .ok (.ireturn, 1) := by decide +kernel
theorem dX10_count_124 : decode cX10_count 124 = .ok (.bipush (-2), 2) := by decide +kernel
theorem dX10_count_126 : decode cX10_count 126 = .ok (.ireturn, 1) := by decide +kernel
theorem dJ6_bitCount_0f7a4_0 : decode cJ6_bitCount_0f7a4 0 = .ok (.iload_n 0, 1) := by decide +kernel
theorem dJ6_bitCount_0f7a4_1 : decode cJ6_bitCount_0f7a4 1 = .ok (.iload_n 0, 1) := by decide +kernel
theorem dJ6_bitCount_0f7a4_2 : decode cJ6_bitCount_0f7a4 2 = .ok (.iconst 1, 1) := by decide +kernel
theorem dJ6_bitCount_0f7a4_3 : decode cJ6_bitCount_0f7a4 3 = .ok (.iushr, 1) := by decide +kernel
theorem dJ6_bitCount_0f7a4_4 : decode cJ6_bitCount_0f7a4 4 = .ok (.ldc_w 265, 3) := by decide +kernel
theorem dJ6_bitCount_0f7a4_7 : decode cJ6_bitCount_0f7a4 7 = .ok (.iand, 1) := by decide +kernel
theorem dJ6_bitCount_0f7a4_8 : decode cJ6_bitCount_0f7a4 8 = .ok (.isub, 1) := by decide +kernel
theorem dJ6_bitCount_0f7a4_9 : decode cJ6_bitCount_0f7a4 9 = .ok (.istore_n 0, 1) := by decide +kernel
theorem dJ6_bitCount_0f7a4_10 : decode cJ6_bitCount_0f7a4 10 = .ok (.iload_n 0, 1) := by decide +kernel
theorem dJ6_bitCount_0f7a4_11 : decode cJ6_bitCount_0f7a4 11 = .ok (.ldc_w 266, 3) := by decide +kernel
theorem dJ6_bitCount_0f7a4_14 : decode cJ6_bitCount_0f7a4 14 = .ok (.iand, 1) := by decide +kernel
theorem dJ6_bitCount_0f7a4_15 : decode cJ6_bitCount_0f7a4 15 = .ok (.iload_n 0, 1) := by decide +kernel
theorem dJ6_bitCount_0f7a4_16 : decode cJ6_bitCount_0f7a4 16 = .ok (.iconst 2, 1) := by decide +kernel
theorem dJ6_bitCount_0f7a4_17 : decode cJ6_bitCount_0f7a4 17 = .ok (.iushr, 1) := by decide +kernel
theorem dJ6_bitCount_0f7a4_18 : decode cJ6_bitCount_0f7a4 18 = .ok (.ldc_w 266, 3) := by decide +kernel
theorem dJ6_bitCount_0f7a4_21 : decode cJ6_bitCount_0f7a4 21 = .ok (.iand, 1) := by decide +kernel
theorem dJ6_bitCount_0f7a4_22 : decode cJ6_bitCount_0f7a4 22 = .ok (.iadd, 1) := by decide +kernel
theorem dJ6_bitCount_0f7a4_23 : decode cJ6_bitCount_0f7a4 23 = .ok (.istore_n 0, 1) := by decide +kernel
theorem dJ6_bitCount_0f7a4_24 : decode cJ6_bitCount_0f7a4 24 = .ok (.iload_n 0, 1) := by decide +kernel
theorem dJ6_bitCount_0f7a4_25 : decode cJ6_bitCount_0f7a4 25 = .ok (.iload_n 0, 1) := by decide +kernel
theorem dJ6_bitCount_0f7a4_26 : decode cJ6_bitCount_0f7a4 26 = .ok (.iconst 4, 1) := by decide +kernel
theorem dJ6_bitCount_0f7a4_27 : decode cJ6_bitCount_0f7a4 27 = .ok (.iushr, 1) := by decide +kernel
theorem dJ6_bitCount_0f7a4_28 : decode cJ6_bitCount_0f7a4 28 = .ok (.iadd, 1) := by decide +kernel
theorem dJ6_bitCount_0f7a4_29 : decode cJ6_bitCount_0f7a4 29 = .ok (.ldc_w 267, 3) := by decide +kernel
theorem dJ6_bitCount_0f7a4_32 : decode cJ6_bitCount_0f7a4 32 = .ok (.iand, 1) := by decide +kernel
theorem dJ6_bitCount_0f7a4_33 : decode cJ6_bitCount_0f7a4 33 = .ok (.istore_n 0, 1) := by decide +kernel
theorem dJ6_bitCount_0f7a4_34 : decode cJ6_bitCount_0f7a4 34 = .ok (.iload_n 0, 1) := by decide +kernel
theorem dJ6_bitCount_0f7a4_35 : decode cJ6_bitCount_0f7a4 35 = .ok (.iload_n 0, 1) := by decide +kernel
theorem dJ6_bitCount_0f7a4_36 : decode cJ6_bitCount_0f7a4 36 = .ok (.bipush 8, 2) := by decide +kernel
theorem dJ6_bitCount_0f7a4_38 : decode cJ6_bitCount_0f7a4 38 = .ok (.iushr, 1) := by decide +kernel
theorem dJ6_bitCount_0f7a4_39 : decode cJ6_bitCount_0f7a4 39 = .ok (.iadd, 1) := by decide +kernel
theorem dJ6_bitCount_0f7a4_40 : decode cJ6_bitCount_0f7a4 40 = .ok (.istore_n 0, 1) := by decide +kernel
theorem dJ6_bitCount_0f7a4_41 : decode cJ6_bitCount_0f7a4 41 = .ok (.iload_n 0, 1) := by decide +kernel
theorem dJ6_bitCount_0f7a4_42 : decode cJ6_bitCount_0f7a4 42 = .ok (.iload_n 0, 1) := by decide +kernel
theorem dJ6_bitCount_0f7a4_43 : decode cJ6_bitCount_0f7a4 43 = .ok (.bipush 16, 2) := by decide +kernel
theorem dJ6_bitCount_0f7a4_45 : decode cJ6_bitCount_0f7a4 45 = .ok (.iushr, 1) := by decide +kernel
theorem dJ6_bitCount_0f7a4_46 : decode cJ6_bitCount_0f7a4 46 = .ok (.iadd, 1) := by decide +kernel
theorem dJ6_bitCount_0f7a4_47 : decode cJ6_bitCount_0f7a4 47 = .ok (.istore_n 0, 1) := by decide +kernel
theorem dJ6_bitCount_0f7a4_48 : decode cJ6_bitCount_0f7a4 48 = .ok (.iload_n 0, 1) := by decide +kernel
theorem dJ6_bitCount_0f7a4_49 : decode cJ6_bitCount_0f7a4 49 = .ok (.bipush 63, 2) := by decide +kernel
theorem dJ6_bitCount_0f7a4_51 : decode cJ6_bitCount_0f7a4 51 = .ok (.iand, 1) := by decide +kernel
theorem dJ6_bitCount_0f7a4_52 : decode cJ6_bitCount_0f7a4 52 = .ok (.ireturn, 1) := by decide +kernel
set_option maxRecDepth 20000 in
theorem ggL_law_X9_init : GoodIn wsL_law wsX9_init := goodIn_r _ [9, 10, 11, 12, 13, 14, 15, 16, 17, 18, 19, 20, 21, 22, 23, 24, 25, 26, 27, 28, 29, 30, 31, 32, 33, 34, 35, 36, 37, 38, 39, 40, 41, 42, 43, 44, 45, 46, 47, 48, 49, 50, 51, 52, 53, 54, 55, 56, 57, 58, 59, 60, 61, 62, 63, 64, 65, 66, 67, 68, 69, 70, 71, 72, 73, 74, 75, 76, 77, 78, 79, 80, 81, 82, 83, 84, 85, 86, 87, 88, 89, 90, 91, 92, 93, 94, 95, 787, 788, 789, 790, 791, 792, 793, 794, 795, 796, 797, 798, 823, 824, 825, 826, 827, 828, 829, 830, 831, 832, 833, 834, 835, 836, 837, 838, 839, 840, 841, 842, 843, 844, 845, 846, 847, 848, 849] (by decide +kernel) (by decide +kernel)
set_option maxRecDepth 20000 in
theorem gL_law_X9_init : GoodIn wsL_law (wsX9_init) := ggL_law_X9_init
set_option maxRecDepth 20000 in
theorem ggL_law_X10_init : GoodIn wsL_law wsX10_init := goodIn_r _ [98, 99, 11, 12, 13, 100, 101, 102, 103, 104, 105, 106, 107, 108, 109, 110, 42, 111, 112, 113, 114, 799, 800, 801, 802, 803, 804, 805, 806, 807, 808, 809, 810, 811, 812, 813, 814, 815, 816, 817, 818, 819, 820, 821, 822] (by decide +kernel) (by decide +kernel)
set_option maxRecDepth 20000 in
theorem gL_law_X10_init : GoodIn wsL_law (wsX10_init) := ggL_law_X10_init
set_option maxRecDepth 20000 in
theorem ggL_law_X9_write : GoodIn wsL_law wsX9_write := goodIn_r _ [118, 15, 14, 787, 788, 789, 790, 791, 792, 793, 794, 795, 796, 797, 798] (by decide +kernel) (by decide +kernel)
set_option maxRecDepth 20000 in
theorem gL_law_X9_write : GoodIn wsL_law (wsV RL 13 RX9 yX9_write wsX9_write) := goodIn_app (goodIn_of _ (by decide +kernel)) ggL_law_X9_write
set_option maxRecDepth 20000 in
theorem ggL_law_X10_write : GoodIn wsL_law wsX10_write := goodIn_r _ [122, 123, 124, 106, 125, 126, 5, 127, 799, 800, 801, 802, 803, 804, 805, 806, 807, 808, 809, 810, 811, 812, 813, 814, 815, 816, 817, 818, 819, 820, 821, 822] (by decide +kernel) (by decide +kernel)
set_option maxRecDepth 20000 in
theorem gL_law_X10_write : GoodIn wsL_law (wsV RL 17 RX10 yX10_write wsX10_write) := goodIn_app (goodIn_of _ (by decide +kernel)) ggL_law_X10_write
set_option maxRecDepth 20000 in
theorem ggL_law_X9_wipe : GoodIn wsL_law wsX9_wipe := goodIn_r _ [131, 15, 787, 788, 789, 790, 791, 792, 793, 794, 795, 796, 797, 798] (by decide +kernel) (by decide +kernel)
set_option maxRecDepth 20000 in
theorem gL_law_X9_wipe : GoodIn wsL_law (wsV RL 18 RX9 yX9_wipe wsX9_wipe) := goodIn_app (goodIn_of _ (by decide +kernel)) ggL_law_X9_wipe
set_option maxRecDepth 20000 in
theorem ggL_law_X10_wipe : GoodIn wsL_law wsX10_wipe := goodIn_r _ [135, 124, 799, 800, 801, 802, 803, 804, 805, 806, 807, 808, 809, 810, 811, 812, 813, 814, 815, 816, 817, 818, 819, 820, 821, 822] (by decide +kernel) (by decide +kernel)
set_option maxRecDepth 20000 in
theorem gL_law_X10_wipe : GoodIn wsL_law (wsV RL 22 RX10 yX10_wipe wsX10_wipe) := goodIn_app (goodIn_of _ (by decide +kernel)) ggL_law_X10_wipe
set_option maxRecDepth 20000 in
theorem ggL_law_X9_fault : GoodIn wsL_law wsX9_fault := goodIn_r _ [139, 19, 14, 15, 140, 141, 142, 18, 143, 49, 144, 50, 145, 146, 147, 148, 149, 150, 151, 152, 153, 154, 155, 156, 157, 158, 159, 22, 160, 60, 161, 162, 163, 164, 64, 165, 166, 167, 168, 169, 170, 171, 172, 173, 174, 175, 176, 51, 52, 177, 2, 178, 179, 180, 181, 182, 61, 62, 63, 183, 184, 185, 186, 53, 187, 188, 189, 190, 191, 192, 193, 194, 195, 196, 197, 198, 199, 787, 788, 789, 790, 791, 792, 793, 794, 795, 796, 797, 798, 823, 824, 825, 826, 827, 828, 829, 830, 831, 832, 833, 834, 835] (by decide +kernel) (by decide +kernel)
set_option maxRecDepth 20000 in
theorem gL_law_X9_fault : GoodIn wsL_law (wsV RL 23 RX9 yX9_fault wsX9_fault) := goodIn_app (goodIn_of _ (by decide +kernel)) ggL_law_X9_fault
set_option maxRecDepth 20000 in
theorem ggL_law_X10_fault : GoodIn wsL_law wsX10_fault := goodIn_r _ [203, 204, 205, 206, 5, 207, 208, 209, 210, 105, 124, 106, 211, 212, 213, 214, 215, 125, 126, 127, 216, 217, 218, 219, 220, 221, 222, 104, 223, 224, 225, 226, 227, 228, 229, 230, 231, 799, 800, 801, 802, 803, 804, 805, 806, 807, 808, 809, 810, 811, 812, 813, 814, 815, 816, 817, 818, 819, 820, 821, 822] (by decide +kernel) (by decide +kernel)
set_option maxRecDepth 20000 in
theorem gL_law_X10_fault : GoodIn wsL_law (wsV RL 26 RX10 yX10_fault wsX10_fault) := goodIn_app (goodIn_of _ (by decide +kernel)) ggL_law_X10_fault
set_option maxRecDepth 20000 in
theorem ggL_law_X9_laundry : GoodIn wsL_law wsX9_laundry := goodIn_r _ [235, 19, 14, 15, 23, 236, 27, 36, 43, 237, 140, 141, 142, 18, 143, 49, 144, 50, 145, 146, 147, 148, 149, 150, 151, 152, 153, 154, 155, 156, 157, 158, 159, 22, 160, 60, 161, 162, 163, 164, 64, 165, 166, 167, 168, 169, 170, 171, 172, 173, 174, 175, 176, 51, 52, 177, 2, 178, 179, 180, 181, 182, 61, 62, 63, 183, 184, 185, 186, 53, 187, 188, 189, 190, 191, 192, 193, 194, 195, 196, 197, 198, 199, 238, 239, 240, 241, 57, 58, 59, 242, 243, 244, 245, 246, 247, 248, 26, 249, 69, 70, 71, 74, 250, 251, 72, 73, 252, 253, 254, 35, 255, 86, 87, 787, 788, 789, 790, 791, 792, 793, 794, 795, 796, 797, 798, 823, 824, 825, 826, 827, 828, 829, 830, 831, 832, 833, 834, 835, 836, 837, 838, 839, 840, 841, 843, 844, 845] (by decide +kernel) (by decide +kernel)
set_option maxRecDepth 20000 in
theorem gL_law_X9_laundry : GoodIn wsL_law (wsV RL 27 RX9 yX9_laundry wsX9_laundry) := goodIn_app (goodIn_of _ (by decide +kernel)) ggL_law_X9_laundry
set_option maxRecDepth 20000 in
theorem ggL_law_X10_laundry : GoodIn wsL_law wsX10_laundry := goodIn_r _ [259, 210, 260, 106, 113, 114, 103, 104, 100, 101, 102, 105, 261, 111, 204, 205, 206, 5, 207, 208, 209, 124, 211, 212, 213, 214, 215, 125, 126, 127, 216, 217, 218, 219, 220, 221, 222, 223, 224, 225, 226, 227, 228, 229, 230, 231, 799, 800, 801, 802, 803, 804, 805, 806, 807, 808, 809, 810, 811, 812, 813, 814, 815, 816, 817, 818, 819, 820, 821, 822] (by decide +kernel) (by decide +kernel)
set_option maxRecDepth 20000 in
theorem gL_law_X10_laundry : GoodIn wsL_law (wsV RL 30 RX10 yX10_laundry wsX10_laundry) := goodIn_app (goodIn_of _ (by decide +kernel)) ggL_law_X10_laundry
set_option maxRecDepth 20000 in
theorem ggL_law_X9_flag : GoodIn wsL_law wsX9_flag := goodIn_r _ [265, 23, 27, 266, 267, 268, 269, 270, 271, 272, 166, 167, 22, 168, 60, 787, 788, 789, 790, 791, 792, 793, 794, 795, 796, 797, 798, 836, 837, 838, 839, 840, 841, 828, 829, 830, 831, 832, 833, 834, 835] (by decide +kernel) (by decide +kernel)
set_option maxRecDepth 20000 in
theorem gL_law_X9_flag : GoodIn wsL_law (wsV RL 31 RX9 yX9_flag wsX9_flag) := goodIn_app (goodIn_of _ (by decide +kernel)) ggL_law_X9_flag
set_option maxRecDepth 20000 in
theorem ggL_law_X10_flag : GoodIn wsL_law wsX10_flag := goodIn_r _ [276, 103, 100, 101, 102, 277, 278, 279, 5, 280, 260, 125, 126, 127, 799, 800, 801, 802, 803, 804, 805, 806, 807, 808, 809, 810, 811, 812, 813, 814, 815, 816, 817, 818, 819, 820, 821, 822] (by decide +kernel) (by decide +kernel)
set_option maxRecDepth 20000 in
theorem gL_law_X10_flag : GoodIn wsL_law (wsV RL 35 RX10 yX10_flag wsX10_flag) := goodIn_app (goodIn_of _ (by decide +kernel)) ggL_law_X10_flag
set_option maxRecDepth 20000 in
theorem ggL_law_X9_send : GoodIn wsL_law wsX9_send := goodIn_r _ [284, 23, 27, 36, 272, 166, 167, 22, 168, 60, 285, 286, 287, 26, 288, 74, 69, 289, 290, 291, 292, 293, 294, 295, 296, 297, 298, 299, 300, 301, 302, 303, 304, 305, 306, 307, 308, 309, 35, 310, 87, 86, 85, 311, 312, 313, 314, 315, 243, 244, 245, 70, 71, 72, 73, 316, 317, 318, 319, 320, 321, 787, 788, 789, 790, 791, 792, 793, 794, 795, 796, 797, 798, 828, 829, 830, 831, 832, 833, 834, 835, 836, 837, 838, 839, 840, 841, 843, 844, 845] (by decide +kernel) (by decide +kernel)
set_option maxRecDepth 20000 in
theorem gL_law_X9_send : GoodIn wsL_law (wsV RL 36 RX9 yX9_send wsX9_send) := goodIn_app (goodIn_of _ (by decide +kernel)) ggL_law_X9_send
set_option maxRecDepth 20000 in
theorem ggL_law_X10_send : GoodIn wsL_law wsX10_send := goodIn_r _ [325, 277, 278, 279, 5, 280, 260, 125, 126, 127, 326, 327, 328, 329, 103, 330, 331, 332, 333, 113, 114, 334, 335, 336, 337, 338, 339, 340, 341, 342, 343, 344, 107, 345, 261, 346, 347, 348, 349, 101, 799, 800, 801, 802, 803, 804, 805, 806, 807, 808, 809, 810, 811, 812, 813, 814, 815, 816, 817, 818, 819, 820, 821, 822] (by decide +kernel) (by decide +kernel)
set_option maxRecDepth 20000 in
theorem gL_law_X10_send : GoodIn wsL_law (wsV RL 39 RX10 yX10_send wsX10_send) := goodIn_app (goodIn_of _ (by decide +kernel)) ggL_law_X10_send
set_option maxRecDepth 20000 in
theorem ggL_law_X9_pull : GoodIn wsL_law wsX9_pull := goodIn_r _ [353, 23, 27, 36, 269, 272, 166, 167, 22, 168, 60, 354, 355, 356, 26, 357, 74, 69, 289, 307, 308, 309, 35, 310, 87, 86, 85, 311, 312, 313, 314, 315, 243, 244, 245, 70, 71, 72, 73, 358, 359, 360, 361, 787, 788, 789, 790, 791, 792, 793, 794, 795, 796, 797, 798, 836, 837, 838, 839, 840, 841, 828, 829, 830, 831, 832, 833, 834, 835, 843, 844, 845] (by decide +kernel) (by decide +kernel)
set_option maxRecDepth 20000 in
theorem gL_law_X9_pull : GoodIn wsL_law (wsV RL 40 RX9 yX9_pull wsX9_pull) := goodIn_app (goodIn_of _ (by decide +kernel)) ggL_law_X9_pull
set_option maxRecDepth 20000 in
theorem ggL_law_X10_pull : GoodIn wsL_law wsX10_pull := goodIn_r _ [365, 103, 277, 278, 279, 5, 280, 260, 125, 126, 127, 341, 342, 343, 344, 107, 345, 261, 366, 367, 368, 369, 799, 800, 801, 802, 803, 804, 805, 806, 807, 808, 809, 810, 811, 812, 813, 814, 815, 816, 817, 818, 819, 820, 821, 822] (by decide +kernel) (by decide +kernel)
set_option maxRecDepth 20000 in
theorem gL_law_X10_pull : GoodIn wsL_law (wsV RL 43 RX10 yX10_pull wsX10_pull) := goodIn_app (goodIn_of _ (by decide +kernel)) ggL_law_X10_pull
set_option maxRecDepth 20000 in
theorem ggL_law_X9_hour : GoodIn wsL_law wsX9_hour := goodIn_r _ [373, 36, 27, 307, 308, 309, 35, 310, 87, 86, 85, 311, 312, 313, 26, 314, 69, 315, 243, 244, 245, 70, 71, 72, 73, 374, 375, 376, 377, 378, 379, 380, 381, 74, 299, 382, 359, 360, 361, 289, 166, 167, 22, 168, 60, 383, 384, 385, 386, 387, 388, 389, 390, 391, 392, 393, 394, 395, 396, 397, 398, 399, 400, 295, 296, 297, 298, 300, 301, 302, 303, 304, 305, 306, 401, 402, 403, 404, 787, 788, 789, 790, 791, 792, 793, 794, 795, 796, 797, 798, 843, 844, 845, 836, 837, 838, 839, 840, 841, 828, 829, 830, 831, 832, 833, 834, 835] (by decide +kernel) (by decide +kernel)
set_option maxRecDepth 20000 in
theorem gL_law_X9_hour : GoodIn wsL_law (wsV RL 44 RX9 yX9_hour wsX9_hour) := goodIn_app (goodIn_of _ (by decide +kernel)) ggL_law_X9_hour
set_option maxRecDepth 20000 in
theorem ggL_law_X10_hour : GoodIn wsL_law wsX10_hour := goodIn_r _ [408, 341, 342, 343, 5, 344, 107, 345, 103, 261, 409, 410, 411, 412, 260, 100, 334, 335, 336, 337, 216, 217, 218, 413, 414, 415, 416, 417, 418, 419, 420, 330, 331, 332, 333, 113, 114, 338, 339, 340, 421, 422, 423, 424, 799, 800, 801, 802, 803, 804, 805, 806, 807, 808, 809, 810, 811, 812, 813, 814, 815, 816, 817, 818, 819, 820, 821, 822] (by decide +kernel) (by decide +kernel)
set_option maxRecDepth 20000 in
theorem gL_law_X10_hour : GoodIn wsL_law (wsV RL 47 RX10 yX10_hour wsX10_hour) := goodIn_app (goodIn_of _ (by decide +kernel)) ggL_law_X10_hour
set_option maxRecDepth 20000 in
theorem ggL_law_X9_wind : GoodIn wsL_law wsX9_wind := goodIn_r _ [428, 27, 429, 36, 307, 308, 309, 35, 310, 87, 86, 85, 311, 312, 313, 26, 314, 69, 315, 243, 244, 245, 70, 71, 72, 73, 787, 788, 789, 790, 791, 792, 793, 794, 795, 796, 797, 798, 836, 837, 838, 839, 840, 841, 843, 844, 845] (by decide +kernel) (by decide +kernel)
set_option maxRecDepth 20000 in
theorem gL_law_X9_wind : GoodIn wsL_law (wsV RL 48 RX9 yX9_wind wsX9_wind) := goodIn_app (goodIn_of _ (by decide +kernel)) ggL_law_X9_wind
set_option maxRecDepth 20000 in
theorem ggL_law_X10_wind : GoodIn wsL_law wsX10_wind := goodIn_r _ [433, 434, 103, 125, 126, 5, 127, 341, 342, 343, 344, 107, 345, 261, 799, 800, 801, 802, 803, 804, 805, 806, 807, 808, 809, 810, 811, 812, 813, 814, 815, 816, 817, 818, 819, 820, 821, 822] (by decide +kernel) (by decide +kernel)
set_option maxRecDepth 20000 in
theorem gL_law_X10_wind : GoodIn wsL_law (wsV RL 51 RX10 yX10_wind wsX10_wind) := goodIn_app (goodIn_of _ (by decide +kernel)) ggL_law_X10_wind
set_option maxRecDepth 20000 in
theorem ggL_law_X9_undo : GoodIn wsL_law wsX9_undo := goodIn_r _ [438, 36, 27, 439, 440, 441, 442, 35, 443, 87, 85, 86, 311, 312, 313, 26, 314, 69, 315, 243, 244, 245, 70, 71, 72, 73, 787, 788, 789, 790, 791, 792, 793, 794, 795, 796, 797, 798, 843, 844, 845, 836, 837, 838, 839, 840, 841] (by decide +kernel) (by decide +kernel)
set_option maxRecDepth 20000 in
theorem gL_law_X9_undo : GoodIn wsL_law (wsV RL 52 RX9 yX9_undo wsX9_undo) := goodIn_app (goodIn_of _ (by decide +kernel)) ggL_law_X9_undo
set_option maxRecDepth 20000 in
theorem ggL_law_X10_undo : GoodIn wsL_law wsX10_undo := goodIn_r _ [447, 261, 345, 103, 107, 799, 800, 801, 802, 803, 804, 805, 806, 807, 808, 809, 810, 811, 812, 813, 814, 815, 816, 817, 818, 819, 820, 821, 822] (by decide +kernel) (by decide +kernel)
set_option maxRecDepth 20000 in
theorem gL_law_X10_undo : GoodIn wsL_law (wsV RL 55 RX10 yX10_undo wsX10_undo) := goodIn_app (goodIn_of _ (by decide +kernel)) ggL_law_X10_undo
set_option maxRecDepth 20000 in
theorem ggL_law_X9_peace : GoodIn wsL_law wsX9_peace := goodIn_r _ [451, 23, 32, 27, 272, 166, 167, 22, 168, 60, 452, 453, 454, 31, 455, 456, 79, 457, 458, 459, 460, 64, 461, 301, 302, 303, 304, 305, 306, 462, 312, 313, 26, 314, 69, 315, 243, 244, 245, 70, 71, 72, 73, 463, 317, 318, 319, 74, 320, 289, 464, 465, 466, 467, 295, 296, 297, 298, 299, 468, 375, 376, 377, 378, 379, 380, 381, 382, 359, 360, 361, 383, 384, 385, 386, 387, 388, 389, 390, 391, 392, 393, 394, 395, 396, 397, 398, 399, 400, 300, 401, 402, 403, 404, 787, 788, 789, 790, 791, 792, 793, 794, 795, 796, 797, 798, 828, 829, 830, 831, 832, 833, 834, 835, 836, 837, 838, 839, 840, 841, 842] (by decide +kernel) (by decide +kernel)
set_option maxRecDepth 20000 in
theorem gL_law_X9_peace : GoodIn wsL_law (wsV RL 56 RX9 yX9_peace wsX9_peace) := goodIn_app (goodIn_of _ (by decide +kernel)) ggL_law_X9_peace
set_option maxRecDepth 20000 in
theorem ggL_law_X10_peace : GoodIn wsL_law wsX10_peace := goodIn_r _ [472, 102, 277, 278, 279, 5, 280, 260, 125, 126, 127, 473, 474, 475, 476, 103, 216, 217, 218, 477, 478, 479, 480, 334, 335, 336, 337, 481, 482, 483, 484, 338, 339, 340, 409, 410, 411, 412, 100, 413, 414, 415, 416, 417, 418, 419, 420, 330, 331, 332, 333, 113, 114, 421, 422, 423, 424, 799, 800, 801, 802, 803, 804, 805, 806, 807, 808, 809, 810, 811, 812, 813, 814, 815, 816, 817, 818, 819, 820, 821, 822] (by decide +kernel) (by decide +kernel)
set_option maxRecDepth 20000 in
theorem gL_law_X10_peace : GoodIn wsL_law (wsV RL 59 RX10 yX10_peace wsX10_peace) := goodIn_app (goodIn_of _ (by decide +kernel)) ggL_law_X10_peace
set_option maxRecDepth 20000 in
theorem ggL_law_X9_quiet : GoodIn wsL_law wsX9_quiet := goodIn_r _ [488, 32, 27, 452, 453, 454, 31, 455, 456, 79, 457, 458, 459, 22, 460, 60, 64, 461, 301, 302, 303, 304, 305, 306, 462, 312, 313, 26, 314, 69, 315, 243, 244, 245, 70, 71, 72, 73, 463, 317, 318, 319, 74, 320, 289, 166, 167, 168, 464, 465, 466, 467, 295, 296, 297, 298, 299, 468, 375, 376, 377, 378, 379, 380, 381, 382, 359, 360, 361, 383, 384, 385, 386, 387, 388, 389, 390, 391, 392, 393, 394, 395, 396, 397, 398, 399, 400, 300, 401, 402, 403, 404, 787, 788, 789, 790, 791, 792, 793, 794, 795, 796, 797, 798, 836, 837, 838, 839, 840, 841, 842, 828, 829, 830, 831, 832, 833, 834, 835] (by decide +kernel) (by decide +kernel)
set_option maxRecDepth 20000 in
theorem gL_law_X9_quiet : GoodIn wsL_law (wsV RL 60 RX9 yX9_quiet wsX9_quiet) := goodIn_app (goodIn_of _ (by decide +kernel)) ggL_law_X9_quiet
set_option maxRecDepth 20000 in
theorem ggL_law_X10_quiet : GoodIn wsL_law wsX10_quiet := goodIn_r _ [492, 473, 474, 475, 5, 476, 103, 477, 478, 479, 480, 334, 335, 336, 337, 260, 481, 482, 483, 484, 102, 216, 217, 218, 338, 339, 340, 409, 410, 411, 412, 100, 413, 414, 415, 416, 417, 418, 419, 420, 330, 331, 332, 333, 113, 114, 421, 422, 423, 424, 799, 800, 801, 802, 803, 804, 805, 806, 807, 808, 809, 810, 811, 812, 813, 814, 815, 816, 817, 818, 819, 820, 821, 822] (by decide +kernel) (by decide +kernel)
set_option maxRecDepth 20000 in
theorem gL_law_X10_quiet : GoodIn wsL_law (wsV RL 63 RX10 yX10_quiet wsX10_quiet) := goodIn_app (goodIn_of _ (by decide +kernel)) ggL_law_X10_quiet
set_option maxRecDepth 20000 in
theorem ggL_law_X9_sending : GoodIn wsL_law wsX9_sending := goodIn_r _ [496, 32, 27, 497, 498, 499, 31, 500, 464, 465, 466, 26, 467, 295, 296, 297, 298, 74, 299, 69, 501, 291, 292, 293, 294, 300, 301, 302, 303, 304, 305, 306, 502, 2, 503, 504, 505, 453, 454, 455, 456, 79, 457, 458, 459, 22, 460, 60, 64, 461, 462, 312, 313, 314, 315, 243, 244, 245, 70, 71, 72, 73, 463, 317, 318, 319, 320, 289, 166, 167, 168, 468, 375, 376, 377, 378, 379, 380, 381, 382, 359, 360, 361, 383, 384, 385, 386, 387, 388, 389, 390, 391, 392, 393, 394, 395, 396, 397, 398, 399, 400, 401, 402, 403, 404, 506, 507, 508, 452, 787, 788, 789, 790, 791, 792, 793, 794, 795, 796, 797, 798, 836, 837, 838, 839, 840, 841, 828, 829, 830, 831, 832, 833, 834, 835, 842] (by decide +kernel) (by decide +kernel)
set_option maxRecDepth 20000 in
theorem gL_law_X9_sending : GoodIn wsL_law (wsV RL 64 RX9 yX9_sending wsX9_sending) := goodIn_app (goodIn_of _ (by decide +kernel)) ggL_law_X9_sending
set_option maxRecDepth 20000 in
theorem ggL_law_X10_sending : GoodIn wsL_law wsX10_sending := goodIn_r _ [512, 334, 335, 336, 5, 337, 260, 103, 513, 514, 515, 516, 473, 474, 475, 476, 216, 217, 218, 346, 347, 348, 349, 101, 477, 478, 479, 480, 481, 482, 483, 484, 102, 338, 339, 340, 409, 410, 411, 412, 100, 413, 414, 415, 416, 417, 418, 419, 420, 330, 331, 332, 333, 113, 114, 421, 422, 423, 424, 799, 800, 801, 802, 803, 804, 805, 806, 807, 808, 809, 810, 811, 812, 813, 814, 815, 816, 817, 818, 819, 820, 821, 822] (by decide +kernel) (by decide +kernel)
set_option maxRecDepth 20000 in
theorem gL_law_X10_sending : GoodIn wsL_law (wsV RL 68 RX10 yX10_sending wsX10_sending) := goodIn_app (goodIn_of _ (by decide +kernel)) ggL_law_X10_sending
set_option maxRecDepth 20000 in
theorem ggL_law_X9_cover : GoodIn wsL_law wsX9_cover := goodIn_r _ [520, 27, 23, 521, 465, 466, 26, 467, 295, 296, 297, 298, 74, 299, 69, 522, 502, 2, 503, 523, 458, 459, 22, 460, 60, 64, 461, 301, 302, 303, 304, 305, 306, 524, 506, 507, 508, 787, 788, 789, 790, 791, 792, 793, 794, 795, 796, 797, 798, 836, 837, 838, 839, 840, 841, 828, 829, 830, 831, 832, 833, 834, 835] (by decide +kernel) (by decide +kernel)
set_option maxRecDepth 20000 in
theorem gL_law_X9_cover : GoodIn wsL_law (wsV RL 69 RX9 yX9_cover wsX9_cover) := goodIn_app (goodIn_of _ (by decide +kernel)) ggL_law_X9_cover
set_option maxRecDepth 20000 in
theorem ggL_law_X10_cover : GoodIn wsL_law wsX10_cover := goodIn_r _ [528, 334, 335, 336, 5, 337, 260, 103, 338, 339, 340, 481, 482, 483, 484, 102, 216, 217, 218, 799, 800, 801, 802, 803, 804, 805, 806, 807, 808, 809, 810, 811, 812, 813, 814, 815, 816, 817, 818, 819, 820, 821, 822] (by decide +kernel) (by decide +kernel)
set_option maxRecDepth 20000 in
theorem gL_law_X10_cover : GoodIn wsL_law (wsV RL 72 RX10 yX10_cover wsX10_cover) := goodIn_app (goodIn_of _ (by decide +kernel)) ggL_law_X10_cover
set_option maxRecDepth 20000 in
theorem ggL_law_X9_ran : GoodIn wsL_law wsX9_ran := goodIn_r _ [532, 23, 27, 272, 166, 167, 22, 168, 60, 533, 177, 2, 178, 534, 170, 171, 172, 522, 502, 503, 535, 536, 537, 26, 538, 74, 299, 71, 524, 506, 507, 508, 301, 302, 303, 304, 305, 306, 787, 788, 789, 790, 791, 792, 793, 794, 795, 796, 797, 798, 828, 829, 830, 831, 832, 833, 834, 835, 836, 837, 838, 839, 840, 841] (by decide +kernel) (by decide +kernel)
set_option maxRecDepth 20000 in
theorem gL_law_X9_ran : GoodIn wsL_law (wsV RL 73 RX9 yX9_ran wsX9_ran) := goodIn_app (goodIn_of _ (by decide +kernel)) ggL_law_X9_ran
set_option maxRecDepth 20000 in
theorem ggL_law_X10_ran : GoodIn wsL_law wsX10_ran := goodIn_r _ [542, 215, 260, 103, 277, 278, 279, 5, 280, 125, 126, 127, 216, 217, 218, 338, 339, 340, 413, 414, 415, 416, 799, 800, 801, 802, 803, 804, 805, 806, 807, 808, 809, 810, 811, 812, 813, 814, 815, 816, 817, 818, 819, 820, 821, 822] (by decide +kernel) (by decide +kernel)
set_option maxRecDepth 20000 in
theorem gL_law_X10_ran : GoodIn wsL_law (wsV RL 76 RX10 yX10_ran wsX10_ran) := goodIn_app (goodIn_of _ (by decide +kernel)) ggL_law_X10_ran
set_option maxRecDepth 20000 in
theorem ggL_law_X9_judge : GoodIn wsL_law wsX9_judge := goodIn_r _ [546, 28, 27, 547, 548, 2, 549, 550, 312, 313, 26, 314, 69, 315, 243, 244, 245, 70, 71, 72, 73, 551, 552, 553, 554, 555, 375, 376, 377, 378, 379, 380, 381, 74, 299, 382, 359, 360, 361, 289, 166, 167, 22, 168, 60, 383, 384, 385, 386, 387, 388, 389, 390, 391, 392, 393, 394, 395, 396, 397, 398, 399, 400, 295, 296, 297, 298, 300, 301, 302, 303, 304, 305, 306, 401, 402, 403, 404, 556, 557, 558, 559, 560, 286, 287, 288, 290, 291, 292, 293, 294, 561, 317, 318, 319, 320, 562, 355, 356, 357, 787, 788, 789, 790, 791, 792, 793, 794, 795, 796, 797, 798, 836, 837, 838, 839, 840, 841, 828, 829, 830, 831, 832, 833, 834, 835] (by decide +kernel) (by decide +kernel)
set_option maxRecDepth 20000 in
theorem gL_law_X9_judge : GoodIn wsL_law (wsV RL 77 RX9 yX9_judge wsX9_judge) := goodIn_app (goodIn_of _ (by decide +kernel)) ggL_law_X9_judge
set_option maxRecDepth 20000 in
theorem ggL_law_X10_judge : GoodIn wsL_law wsX10_judge := goodIn_r _ [566, 567, 125, 126, 5, 127, 568, 569, 570, 473, 474, 475, 476, 103, 571, 572, 573, 574, 409, 410, 411, 412, 260, 100, 334, 335, 336, 337, 216, 217, 218, 413, 414, 415, 416, 417, 418, 419, 420, 330, 331, 332, 333, 113, 114, 338, 339, 340, 421, 422, 423, 424, 326, 327, 328, 329, 277, 278, 279, 280, 346, 347, 348, 349, 101, 366, 367, 368, 369, 799, 800, 801, 802, 803, 804, 805, 806, 807, 808, 809, 810, 811, 812, 813, 814, 815, 816, 817, 818, 819, 820, 821, 822] (by decide +kernel) (by decide +kernel)
set_option maxRecDepth 20000 in
theorem gL_law_X10_judge : GoodIn wsL_law (wsV RL 80 RX10 yX10_judge wsX10_judge) := goodIn_app (goodIn_of _ (by decide +kernel)) ggL_law_X10_judge
set_option maxRecDepth 20000 in
theorem ggL_law_X9_see : GoodIn wsL_law wsX9_see := goodIn_r _ [578, 23, 40, 579, 272, 166, 167, 22, 168, 60, 533, 177, 2, 178, 522, 502, 503, 580, 581, 582, 39, 583, 95, 92, 93, 94, 787, 788, 789, 790, 791, 792, 793, 794, 795, 796, 797, 798, 846, 847, 848, 849, 828, 829, 830, 831, 832, 833, 834, 835] (by decide +kernel) (by decide +kernel)
set_option maxRecDepth 20000 in
theorem gL_law_X9_see : GoodIn wsL_law (wsV RL 81 RX9 yX9_see wsX9_see) := goodIn_app (goodIn_of _ (by decide +kernel)) ggL_law_X9_see
set_option maxRecDepth 20000 in
theorem ggL_law_X10_see : GoodIn wsL_law wsX10_see := goodIn_r _ [587, 215, 588, 589, 108, 109, 110, 277, 278, 279, 5, 280, 260, 125, 126, 127, 216, 217, 218, 799, 800, 801, 802, 803, 804, 805, 806, 807, 808, 809, 810, 811, 812, 813, 814, 815, 816, 817, 818, 819, 820, 821, 822] (by decide +kernel) (by decide +kernel)
set_option maxRecDepth 20000 in
theorem gL_law_X10_see : GoodIn wsL_law (wsV RL 85 RX10 yX10_see wsX10_see) := goodIn_app (goodIn_of _ (by decide +kernel)) ggL_law_X10_see
set_option maxRecDepth 20000 in
theorem ggL_law_X9_unsee : GoodIn wsL_law wsX9_unsee := goodIn_r _ [593, 40, 579, 594, 595, 596, 39, 597, 95, 787, 788, 789, 790, 791, 792, 793, 794, 795, 796, 797, 798, 846, 847, 848, 849] (by decide +kernel) (by decide +kernel)
set_option maxRecDepth 20000 in
theorem gL_law_X9_unsee : GoodIn wsL_law (wsV RL 86 RX9 yX9_unsee wsX9_unsee) := goodIn_app (goodIn_of _ (by decide +kernel)) ggL_law_X9_unsee
set_option maxRecDepth 20000 in
theorem ggL_law_X10_unsee : GoodIn wsL_law wsX10_unsee := goodIn_r _ [601, 589, 799, 800, 801, 802, 803, 804, 805, 806, 807, 808, 809, 810, 811, 812, 813, 814, 815, 816, 817, 818, 819, 820, 821, 822] (by decide +kernel) (by decide +kernel)
set_option maxRecDepth 20000 in
theorem gL_law_X10_unsee : GoodIn wsL_law (wsV RL 89 RX10 yX10_unsee wsX10_unsee) := goodIn_app (goodIn_of _ (by decide +kernel)) ggL_law_X10_unsee
set_option maxRecDepth 20000 in
theorem ggL_law_X9_had : GoodIn wsL_law wsX9_had := goodIn_r _ [605, 23, 40, 27, 272, 166, 167, 22, 168, 60, 606, 607, 608, 39, 609, 610, 611, 612, 613, 95, 92, 94, 614, 93, 615, 170, 171, 172, 502, 2, 503, 616, 536, 537, 26, 538, 74, 299, 71, 617, 618, 619, 620, 621, 622, 623, 624, 787, 788, 789, 790, 791, 792, 793, 794, 795, 796, 797, 798, 828, 829, 830, 831, 832, 833, 834, 835, 846, 847, 848, 849, 836, 837, 838, 839, 840, 841] (by decide +kernel) (by decide +kernel)
set_option maxRecDepth 20000 in
theorem gL_law_X9_had : GoodIn wsL_law (wsV RL 90 RX9 yX9_had wsX9_had) := goodIn_app (goodIn_of _ (by decide +kernel)) ggL_law_X9_had
set_option maxRecDepth 20000 in
theorem ggL_law_X10_had : GoodIn wsL_law wsX10_had := goodIn_r _ [628, 434, 277, 278, 279, 5, 280, 260, 125, 126, 127, 629, 630, 631, 632, 589, 108, 110, 109, 413, 414, 415, 416, 103, 216, 217, 218, 799, 800, 801, 802, 803, 804, 805, 806, 807, 808, 809, 810, 811, 812, 813, 814, 815, 816, 817, 818, 819, 820, 821, 822] (by decide +kernel) (by decide +kernel)
set_option maxRecDepth 20000 in
theorem gL_law_X10_had : GoodIn wsL_law (wsV RL 93 RX10 yX10_had wsX10_had) := goodIn_app (goodIn_of _ (by decide +kernel)) ggL_law_X10_had
set_option maxRecDepth 20000 in
theorem ggL_law_X9_share : GoodIn wsL_law wsX9_share := goodIn_r _ [636, 23, 237, 272, 166, 167, 22, 168, 60, 637, 638, 639, 640, 641, 642, 170, 171, 172, 502, 2, 503, 643, 301, 302, 303, 304, 305, 306, 644, 645, 646, 647, 648, 649, 650, 651, 652, 653, 654, 655, 656, 657, 658, 787, 788, 789, 790, 791, 792, 793, 794, 795, 796, 797, 798, 828, 829, 830, 831, 832, 833, 834, 835] (by decide +kernel) (by decide +kernel)
set_option maxRecDepth 20000 in
theorem gL_law_X9_share : GoodIn wsL_law (wsV RL 94 RX9 yX9_share wsX9_share) := goodIn_app (goodIn_of _ (by decide +kernel)) ggL_law_X9_share
set_option maxRecDepth 20000 in
theorem ggL_law_X10_share : GoodIn wsL_law wsX10_share := goodIn_r _ [662, 260, 277, 278, 279, 5, 280, 125, 126, 127, 216, 217, 218, 338, 339, 340, 663, 664, 665, 666, 667, 668, 669, 102, 670, 671, 672, 799, 800, 801, 802, 803, 804, 805, 806, 807, 808, 809, 810, 811, 812, 813, 814, 815, 816, 817, 818, 819, 820, 821, 822] (by decide +kernel) (by decide +kernel)
set_option maxRecDepth 20000 in
theorem gL_law_X10_share : GoodIn wsL_law (wsV RL 98 RX10 yX10_share wsX10_share) := goodIn_app (goodIn_of _ (by decide +kernel)) ggL_law_X10_share
set_option maxRecDepth 20000 in
theorem ggL_law_X9_rests : GoodIn wsL_law wsX9_rests := goodIn_r _ [676, 23, 272, 166, 167, 22, 168, 60, 677, 678, 679, 680, 681, 682, 683, 684, 685, 686, 687, 688, 689, 690, 691, 692, 64, 165, 693, 694, 695, 787, 788, 789, 790, 791, 792, 793, 794, 795, 796, 797, 798, 828, 829, 830, 831, 832, 833, 834, 835] (by decide +kernel) (by decide +kernel)
set_option maxRecDepth 20000 in
theorem gL_law_X9_rests : GoodIn wsL_law (wsV RL 99 RX9 yX9_rests wsX9_rests) := goodIn_app (goodIn_of _ (by decide +kernel)) ggL_law_X9_rests
set_option maxRecDepth 20000 in
theorem ggL_law_X10_rests : GoodIn wsL_law wsX10_rests := goodIn_r _ [699, 277, 278, 279, 5, 280, 260, 125, 126, 127, 700, 701, 702, 703, 704, 705, 706, 707, 101, 102, 216, 217, 218, 799, 800, 801, 802, 803, 804, 805, 806, 807, 808, 809, 810, 811, 812, 813, 814, 815, 816, 817, 818, 819, 820, 821, 822] (by decide +kernel) (by decide +kernel)
set_option maxRecDepth 20000 in
theorem gL_law_X10_rests : GoodIn wsL_law (wsV RL 102 RX10 yX10_rests wsX10_rests) := goodIn_app (goodIn_of _ (by decide +kernel)) ggL_law_X10_rests
set_option maxRecDepth 20000 in
theorem ggL_law_X9_dry : GoodIn wsL_law wsX9_dry := goodIn_r _ [711, 23, 27, 269, 270, 272, 166, 167, 22, 168, 60, 712, 713, 714, 715, 716, 717, 718, 719, 720, 721, 722, 653, 654, 2, 655, 656, 657, 658, 787, 788, 789, 790, 791, 792, 793, 794, 795, 796, 797, 798, 836, 837, 838, 839, 840, 841, 828, 829, 830, 831, 832, 833, 834, 835] (by decide +kernel) (by decide +kernel)
set_option maxRecDepth 20000 in
theorem gL_law_X9_dry : GoodIn wsL_law (wsV RL 103 RX9 yX9_dry wsX9_dry) := goodIn_app (goodIn_of _ (by decide +kernel)) ggL_law_X9_dry
set_option maxRecDepth 20000 in
theorem ggL_law_X10_dry : GoodIn wsL_law wsX10_dry := goodIn_r _ [726, 567, 727, 103, 277, 278, 279, 5, 280, 260, 125, 126, 127, 216, 217, 218, 670, 671, 672, 799, 800, 801, 802, 803, 804, 805, 806, 807, 808, 809, 810, 811, 812, 813, 814, 815, 816, 817, 818, 819, 820, 821, 822] (by decide +kernel) (by decide +kernel)
set_option maxRecDepth 20000 in
theorem gL_law_X10_dry : GoodIn wsL_law (wsV RL 107 RX10 yX10_dry wsX10_dry) := goodIn_app (goodIn_of _ (by decide +kernel)) ggL_law_X10_dry
set_option maxRecDepth 20000 in
theorem ggL_law_X9_seed : GoodIn wsL_law wsX9_seed := goodIn_r _ [731, 44, 787, 788, 789, 790, 791, 792, 793, 794, 795, 796, 797, 798] (by decide +kernel) (by decide +kernel)
set_option maxRecDepth 20000 in
theorem gL_law_X9_seed : GoodIn wsL_law (wsV RL 110 RX9 yX9_seed wsX9_seed) := goodIn_app (goodIn_of _ (by decide +kernel)) ggL_law_X9_seed
set_option maxRecDepth 20000 in
theorem ggL_law_X10_seed : GoodIn wsL_law wsX10_seed := goodIn_r _ [735, 736, 799, 800, 801, 802, 803, 804, 805, 806, 807, 808, 809, 810, 811, 812, 813, 814, 815, 816, 817, 818, 819, 820, 821, 822] (by decide +kernel) (by decide +kernel)
set_option maxRecDepth 20000 in
theorem gL_law_X10_seed : GoodIn wsL_law (wsV RL 114 RX10 yX10_seed wsX10_seed) := goodIn_app (goodIn_of _ (by decide +kernel)) ggL_law_X10_seed
set_option maxRecDepth 20000 in
theorem ggL_law_X9_weeks : GoodIn wsL_law wsX9_weeks := goodIn_r _ [740, 28, 27, 44, 741, 742, 743, 550, 312, 313, 26, 314, 69, 315, 243, 244, 245, 70, 71, 72, 73, 744, 745, 746, 747, 556, 557, 558, 559, 560, 286, 287, 288, 74, 289, 166, 167, 22, 168, 60, 290, 291, 292, 293, 294, 295, 296, 297, 298, 299, 300, 301, 302, 303, 304, 305, 306, 561, 317, 318, 319, 320, 555, 375, 376, 377, 378, 379, 380, 381, 382, 359, 360, 361, 383, 384, 385, 386, 387, 388, 389, 390, 391, 392, 393, 394, 395, 396, 397, 398, 399, 400, 401, 402, 403, 404, 748, 749, 750, 751, 752, 465, 466, 467, 753, 458, 459, 460, 64, 461, 787, 788, 789, 790, 791, 792, 793, 794, 795, 796, 797, 798, 836, 837, 838, 839, 840, 841, 828, 829, 830, 831, 832, 833, 834, 835] (by decide +kernel) (by decide +kernel)
set_option maxRecDepth 20000 in
theorem gL_law_X9_weeks : GoodIn wsL_law (wsV RL 115 RX9 yX9_weeks wsX9_weeks) := goodIn_app (goodIn_of _ (by decide +kernel)) ggL_law_X9_weeks
set_option maxRecDepth 20000 in
theorem ggL_law_X10_weeks : GoodIn wsL_law wsX10_weeks := goodIn_r _ [757, 758, 736, 759, 760, 727, 103, 125, 126, 5, 127, 473, 474, 475, 476, 409, 410, 411, 412, 260, 100, 334, 335, 336, 337, 216, 217, 218, 413, 414, 415, 416, 417, 418, 419, 420, 330, 331, 332, 333, 113, 114, 338, 339, 340, 421, 422, 423, 424, 326, 327, 328, 329, 277, 278, 279, 280, 346, 347, 348, 349, 101, 481, 482, 483, 484, 102, 799, 800, 801, 802, 803, 804, 805, 806, 807, 808, 809, 810, 811, 812, 813, 814, 815, 816, 817, 818, 819, 820, 821, 822] (by decide +kernel) (by decide +kernel)
set_option maxRecDepth 20000 in
theorem gL_law_X10_weeks : GoodIn wsL_law (wsV RL 118 RX10 yX10_weeks wsX10_weeks) := goodIn_app (goodIn_of _ (by decide +kernel)) ggL_law_X10_weeks
set_option maxRecDepth 20000 in
theorem ggL_law_X9_keep : GoodIn wsL_law wsX9_keep := goodIn_r _ [764, 41, 27, 43, 765, 550, 312, 313, 26, 314, 69, 315, 243, 244, 245, 70, 71, 72, 73, 787, 788, 789, 790, 791, 792, 793, 794, 795, 796, 797, 798, 836, 837, 838, 839, 840, 841] (by decide +kernel) (by decide +kernel)
set_option maxRecDepth 20000 in
theorem gL_law_X9_keep : GoodIn wsL_law (wsV RL 119 RX9 yX9_keep wsX9_keep) := goodIn_app (goodIn_of _ (by decide +kernel)) ggL_law_X9_keep
set_option maxRecDepth 20000 in
theorem ggL_law_X10_keep : GoodIn wsL_law wsX10_keep := goodIn_r _ [769, 111, 112, 103, 125, 126, 5, 127, 799, 800, 801, 802, 803, 804, 805, 806, 807, 808, 809, 810, 811, 812, 813, 814, 815, 816, 817, 818, 819, 820, 821, 822] (by decide +kernel) (by decide +kernel)
set_option maxRecDepth 20000 in
theorem gL_law_X10_keep : GoodIn wsL_law (wsV RL 122 RX10 yX10_keep wsX10_keep) := goodIn_app (goodIn_of _ (by decide +kernel)) ggL_law_X10_keep
set_option maxRecDepth 20000 in
theorem ggL_law_X9_again : GoodIn wsL_law wsX9_again := goodIn_r _ [773, 43, 27, 41, 36, 765, 550, 312, 313, 26, 314, 69, 315, 243, 244, 245, 70, 71, 72, 73, 252, 253, 254, 35, 255, 86, 87, 787, 788, 789, 790, 791, 792, 793, 794, 795, 796, 797, 798, 836, 837, 838, 839, 840, 841, 843, 844, 845] (by decide +kernel) (by decide +kernel)
set_option maxRecDepth 20000 in
theorem gL_law_X9_again : GoodIn wsL_law (wsV RL 123 RX9 yX9_again wsX9_again) := goodIn_app (goodIn_of _ (by decide +kernel)) ggL_law_X9_again
set_option maxRecDepth 20000 in
theorem ggL_law_X10_again : GoodIn wsL_law wsX10_again := goodIn_r _ [777, 111, 103, 112, 261, 125, 126, 5, 127, 799, 800, 801, 802, 803, 804, 805, 806, 807, 808, 809, 810, 811, 812, 813, 814, 815, 816, 817, 818, 819, 820, 821, 822] (by decide +kernel) (by decide +kernel)
set_option maxRecDepth 20000 in
theorem gL_law_X10_again : GoodIn wsL_law (wsV RL 126 RX10 yX10_again wsX10_again) := goodIn_app (goodIn_of _ (by decide +kernel)) ggL_law_X10_again
set_option maxRecDepth 20000 in
theorem ggL_law_X9_count : GoodIn wsL_law wsX9_count := goodIn_r _ [781, 15, 23, 237, 27, 429, 765, 36, 439, 40, 579, 321, 291, 292, 26, 293, 74, 294, 295, 296, 297, 298, 299, 69, 300, 301, 302, 303, 304, 305, 306, 782, 397, 398, 399, 400, 521, 465, 466, 467, 748, 749, 750, 751, 752, 753, 458, 459, 22, 460, 60, 64, 461, 787, 788, 789, 790, 791, 792, 793, 794, 795, 796, 797, 798, 828, 829, 830, 831, 832, 833, 834, 835, 836, 837, 838, 839, 840, 841, 843, 844, 845, 846, 847, 848, 849] (by decide +kernel) (by decide +kernel)
set_option maxRecDepth 20000 in
theorem gL_law_X9_count : GoodIn wsL_law (wsV RL 127 RX9 yX9_count wsX9_count) := goodIn_app (goodIn_of _ (by decide +kernel)) ggL_law_X9_count
set_option maxRecDepth 20000 in
theorem ggL_law_X10_count : GoodIn wsL_law wsX10_count := goodIn_r _ [786, 124, 260, 103, 261, 589, 330, 331, 332, 5, 333, 113, 114, 334, 335, 336, 337, 338, 339, 340, 481, 482, 483, 484, 102, 216, 217, 218, 799, 800, 801, 802, 803, 804, 805, 806, 807, 808, 809, 810, 811, 812, 813, 814, 815, 816, 817, 818, 819, 820, 821, 822] (by decide +kernel) (by decide +kernel)
set_option maxRecDepth 20000 in
theorem gL_law_X10_count : GoodIn wsL_law (wsV RL 130 RX10 yX10_count wsX10_count) := goodIn_app (goodIn_of _ (by decide +kernel)) ggL_law_X10_count
theorem dL_law_0 : decode cL_law 0 = .ok (.new 7, 3) := by decide +kernel
theorem dL_law_3 : decode cL_law 3 = .ok (.dup, 1) := by decide +kernel
theorem dL_law_4 : decode cL_law 4 = .ok (.invokespecial 9, 3) := by decide +kernel
theorem dL_law_7 : decode cL_law 7 = .ok (.astore_n 1, 1) := by decide +kernel
theorem dL_law_8 : decode cL_law 8 = .ok (.new 10, 3) := by decide +kernel
theorem dL_law_11 : decode cL_law 11 = .ok (.dup, 1) := by decide +kernel
theorem dL_law_12 : decode cL_law 12 = .ok (.invokespecial 12, 3) := by decide +kernel
theorem dL_law_15 : decode cL_law 15 = .ok (.astore_n 2, 1) := by decide +kernel
theorem dL_law_16 : decode cL_law 16 = .ok (.iconst 0, 1) := by decide +kernel
theorem dL_law_17 : decode cL_law 17 = .ok (.istore_n 3, 1) := by decide +kernel
theorem dL_law_18 : decode cL_law 18 = .ok (.iload_n 3, 1) := by decide +kernel
theorem dL_law_19 : decode cL_law 19 = .ok (.aload_n 0, 1) := by decide +kernel
theorem dL_law_20 : decode cL_law 20 = .ok (.arraylength, 1) := by decide +kernel
theorem dL_law_21 : decode cL_law 21 = .ok (.iconst 5, 1) := by decide +kernel
theorem dL_law_22 : decode cL_law 22 = .ok (.isub, 1) := by decide +kernel
theorem dL_law_23 : decode cL_law 23 = .ok (.if_icmp .gt 889, 3) := by decide +kernel
theorem dL_law_26 : decode cL_law 26 = .ok (.aload_n 0, 1) := by decide +kernel
theorem dL_law_27 : decode cL_law 27 = .ok (.iload_n 3, 1) := by decide +kernel
theorem dL_law_28 : decode cL_law 28 = .ok (.iaload, 1) := by decide +kernel
theorem dL_law_29 : decode cL_law 29 = .ok (.bipush 31, 2) := by decide +kernel
theorem dL_law_31 : decode cL_law 31 = .ok (.iand, 1) := by decide +kernel
theorem dL_law_32 : decode cL_law 32 = .ok (.tableswitch 874 0 26 #[124, 147, 160, 173, 186, 219, 242, 265, 278, 301, 314, 347, 360, 399, 412, 445, 478, 521, 534, 567, 616, 659, 728, 782, 805, 828, 851], 124) := by decide +kernel
theorem dL_law_156 : decode cL_law 156 = .ok (.aload_n 1, 1) := by decide +kernel
theorem dL_law_157 : decode cL_law 157 = .ok (.aload_n 0, 1) := by decide +kernel
theorem dL_law_158 : decode cL_law 158 = .ok (.iload_n 3, 1) := by decide +kernel
theorem dL_law_159 : decode cL_law 159 = .ok (.iconst 1, 1) := by decide +kernel
theorem dL_law_160 : decode cL_law 160 = .ok (.iadd, 1) := by decide +kernel
theorem dL_law_161 : decode cL_law 161 = .ok (.iaload, 1) := by decide +kernel
theorem dL_law_162 : decode cL_law 162 = .ok (.invokevirtual 13, 3) := by decide +kernel
theorem dL_law_165 : decode cL_law 165 = .ok (.aload_n 2, 1) := by decide +kernel
theorem dL_law_166 : decode cL_law 166 = .ok (.aload_n 0, 1) := by decide +kernel
theorem dL_law_167 : decode cL_law 167 = .ok (.iload_n 3, 1) := by decide +kernel
theorem dL_law_168 : decode cL_law 168 = .ok (.iconst 1, 1) := by decide +kernel
theorem dL_law_169 : decode cL_law 169 = .ok (.iadd, 1) := by decide +kernel
theorem dL_law_170 : decode cL_law 170 = .ok (.iaload, 1) := by decide +kernel
theorem dL_law_171 : decode cL_law 171 = .ok (.invokevirtual 17, 3) := by decide +kernel
theorem dL_law_174 : decode cL_law 174 = .ok (.if_icmp .eq 732, 3) := by decide +kernel
theorem dL_law_177 : decode cL_law 177 = .ok (.iconst 0, 1) := by decide +kernel
theorem dL_law_178 : decode cL_law 178 = .ok (.ireturn, 1) := by decide +kernel
theorem dL_law_179 : decode cL_law 179 = .ok (.aload_n 1, 1) := by decide +kernel
theorem dL_law_180 : decode cL_law 180 = .ok (.invokevirtual 18, 3) := by decide +kernel
theorem dL_law_183 : decode cL_law 183 = .ok (.aload_n 2, 1) := by decide +kernel
theorem dL_law_184 : decode cL_law 184 = .ok (.invokevirtual 22, 3) := by decide +kernel
theorem dL_law_187 : decode cL_law 187 = .ok (.if_icmp .eq 719, 3) := by decide +kernel
theorem dL_law_190 : decode cL_law 190 = .ok (.iconst 0, 1) := by decide +kernel
theorem dL_law_191 : decode cL_law 191 = .ok (.ireturn, 1) := by decide +kernel
theorem dL_law_192 : decode cL_law 192 = .ok (.aload_n 1, 1) := by decide +kernel
theorem dL_law_193 : decode cL_law 193 = .ok (.invokevirtual 23, 3) := by decide +kernel
theorem dL_law_196 : decode cL_law 196 = .ok (.aload_n 2, 1) := by decide +kernel
theorem dL_law_197 : decode cL_law 197 = .ok (.invokevirtual 26, 3) := by decide +kernel
theorem dL_law_200 : decode cL_law 200 = .ok (.if_icmp .eq 706, 3) := by decide +kernel
theorem dL_law_203 : decode cL_law 203 = .ok (.iconst 0, 1) := by decide +kernel
theorem dL_law_204 : decode cL_law 204 = .ok (.ireturn, 1) := by decide +kernel
theorem dL_law_205 : decode cL_law 205 = .ok (.aload_n 1, 1) := by decide +kernel
theorem dL_law_206 : decode cL_law 206 = .ok (.invokevirtual 27, 3) := by decide +kernel
theorem dL_law_209 : decode cL_law 209 = .ok (.aload_n 2, 1) := by decide +kernel
theorem dL_law_210 : decode cL_law 210 = .ok (.invokevirtual 30, 3) := by decide +kernel
theorem dL_law_213 : decode cL_law 213 = .ok (.if_icmp .eq 693, 3) := by decide +kernel
theorem dL_law_216 : decode cL_law 216 = .ok (.iconst 0, 1) := by decide +kernel
theorem dL_law_217 : decode cL_law 217 = .ok (.ireturn, 1) := by decide +kernel
theorem dL_law_218 : decode cL_law 218 = .ok (.aload_n 1, 1) := by decide +kernel
theorem dL_law_219 : decode cL_law 219 = .ok (.aload_n 0, 1) := by decide +kernel
theorem dL_law_220 : decode cL_law 220 = .ok (.iload_n 3, 1) := by decide +kernel
theorem dL_law_221 : decode cL_law 221 = .ok (.iconst 1, 1) := by decide +kernel
theorem dL_law_222 : decode cL_law 222 = .ok (.iadd, 1) := by decide +kernel
theorem dL_law_223 : decode cL_law 223 = .ok (.iaload, 1) := by decide +kernel
theorem dL_law_224 : decode cL_law 224 = .ok (.aload_n 0, 1) := by decide +kernel
theorem dL_law_225 : decode cL_law 225 = .ok (.iload_n 3, 1) := by decide +kernel
theorem dL_law_226 : decode cL_law 226 = .ok (.iconst 2, 1) := by decide +kernel
theorem dL_law_227 : decode cL_law 227 = .ok (.iadd, 1) := by decide +kernel
theorem dL_law_228 : decode cL_law 228 = .ok (.iaload, 1) := by decide +kernel
theorem dL_law_229 : decode cL_law 229 = .ok (.invokevirtual 31, 3) := by decide +kernel
theorem dL_law_232 : decode cL_law 232 = .ok (.aload_n 2, 1) := by decide +kernel
theorem dL_law_233 : decode cL_law 233 = .ok (.aload_n 0, 1) := by decide +kernel
theorem dL_law_234 : decode cL_law 234 = .ok (.iload_n 3, 1) := by decide +kernel
theorem dL_law_235 : decode cL_law 235 = .ok (.iconst 1, 1) := by decide +kernel
theorem dL_law_236 : decode cL_law 236 = .ok (.iadd, 1) := by decide +kernel
theorem dL_law_237 : decode cL_law 237 = .ok (.iaload, 1) := by decide +kernel
theorem dL_law_238 : decode cL_law 238 = .ok (.aload_n 0, 1) := by decide +kernel
theorem dL_law_239 : decode cL_law 239 = .ok (.iload_n 3, 1) := by decide +kernel
theorem dL_law_240 : decode cL_law 240 = .ok (.iconst 2, 1) := by decide +kernel
theorem dL_law_241 : decode cL_law 241 = .ok (.iadd, 1) := by decide +kernel
theorem dL_law_242 : decode cL_law 242 = .ok (.iaload, 1) := by decide +kernel
theorem dL_law_243 : decode cL_law 243 = .ok (.invokevirtual 35, 3) := by decide +kernel
theorem dL_law_246 : decode cL_law 246 = .ok (.if_icmp .eq 660, 3) := by decide +kernel
theorem dL_law_249 : decode cL_law 249 = .ok (.iconst 0, 1) := by decide +kernel
theorem dL_law_250 : decode cL_law 250 = .ok (.ireturn, 1) := by decide +kernel
theorem dL_law_251 : decode cL_law 251 = .ok (.aload_n 1, 1) := by decide +kernel
theorem dL_law_252 : decode cL_law 252 = .ok (.aload_n 0, 1) := by decide +kernel
theorem dL_law_253 : decode cL_law 253 = .ok (.iload_n 3, 1) := by decide +kernel
theorem dL_law_254 : decode cL_law 254 = .ok (.iconst 1, 1) := by decide +kernel
theorem dL_law_255 : decode cL_law 255 = .ok (.iadd, 1) := by decide +kernel
theorem dL_law_256 : decode cL_law 256 = .ok (.iaload, 1) := by decide +kernel
theorem dL_law_257 : decode cL_law 257 = .ok (.invokevirtual 36, 3) := by decide +kernel
theorem dL_law_260 : decode cL_law 260 = .ok (.aload_n 2, 1) := by decide +kernel
theorem dL_law_261 : decode cL_law 261 = .ok (.aload_n 0, 1) := by decide +kernel
theorem dL_law_262 : decode cL_law 262 = .ok (.iload_n 3, 1) := by decide +kernel
theorem dL_law_263 : decode cL_law 263 = .ok (.iconst 1, 1) := by decide +kernel
theorem dL_law_264 : decode cL_law 264 = .ok (.iadd, 1) := by decide +kernel
theorem dL_law_265 : decode cL_law 265 = .ok (.iaload, 1) := by decide +kernel
theorem dL_law_266 : decode cL_law 266 = .ok (.invokevirtual 39, 3) := by decide +kernel
theorem dL_law_269 : decode cL_law 269 = .ok (.if_icmp .eq 637, 3) := by decide +kernel
theorem dL_law_272 : decode cL_law 272 = .ok (.iconst 0, 1) := by decide +kernel
theorem dL_law_273 : decode cL_law 273 = .ok (.ireturn, 1) := by decide +kernel
theorem dL_law_274 : decode cL_law 274 = .ok (.aload_n 1, 1) := by decide +kernel
theorem dL_law_275 : decode cL_law 275 = .ok (.aload_n 0, 1) := by decide +kernel
theorem dL_law_276 : decode cL_law 276 = .ok (.iload_n 3, 1) := by decide +kernel
theorem dL_law_277 : decode cL_law 277 = .ok (.iconst 1, 1) := by decide +kernel
theorem dL_law_278 : decode cL_law 278 = .ok (.iadd, 1) := by decide +kernel
theorem dL_law_279 : decode cL_law 279 = .ok (.iaload, 1) := by decide +kernel
theorem dL_law_280 : decode cL_law 280 = .ok (.invokevirtual 40, 3) := by decide +kernel
theorem dL_law_283 : decode cL_law 283 = .ok (.aload_n 2, 1) := by decide +kernel
theorem dL_law_284 : decode cL_law 284 = .ok (.aload_n 0, 1) := by decide +kernel
theorem dL_law_285 : decode cL_law 285 = .ok (.iload_n 3, 1) := by decide +kernel
theorem dL_law_286 : decode cL_law 286 = .ok (.iconst 1, 1) := by decide +kernel
theorem dL_law_287 : decode cL_law 287 = .ok (.iadd, 1) := by decide +kernel
theorem dL_law_288 : decode cL_law 288 = .ok (.iaload, 1) := by decide +kernel
theorem dL_law_289 : decode cL_law 289 = .ok (.invokevirtual 43, 3) := by decide +kernel
theorem dL_law_292 : decode cL_law 292 = .ok (.if_icmp .eq 614, 3) := by decide +kernel
theorem dL_law_295 : decode cL_law 295 = .ok (.iconst 0, 1) := by decide +kernel
theorem dL_law_296 : decode cL_law 296 = .ok (.ireturn, 1) := by decide +kernel
theorem dL_law_297 : decode cL_law 297 = .ok (.aload_n 1, 1) := by decide +kernel
theorem dL_law_298 : decode cL_law 298 = .ok (.invokevirtual 44, 3) := by decide +kernel
theorem dL_law_301 : decode cL_law 301 = .ok (.aload_n 2, 1) := by decide +kernel
theorem dL_law_302 : decode cL_law 302 = .ok (.invokevirtual 47, 3) := by decide +kernel
theorem dL_law_305 : decode cL_law 305 = .ok (.if_icmp .eq 601, 3) := by decide +kernel
theorem dL_law_308 : decode cL_law 308 = .ok (.iconst 0, 1) := by decide +kernel
theorem dL_law_309 : decode cL_law 309 = .ok (.ireturn, 1) := by decide +kernel
theorem dL_law_310 : decode cL_law 310 = .ok (.aload_n 1, 1) := by decide +kernel
theorem dL_law_311 : decode cL_law 311 = .ok (.aload_n 0, 1) := by decide +kernel
theorem dL_law_312 : decode cL_law 312 = .ok (.iload_n 3, 1) := by decide +kernel
theorem dL_law_313 : decode cL_law 313 = .ok (.iconst 1, 1) := by decide +kernel
theorem dL_law_314 : decode cL_law 314 = .ok (.iadd, 1) := by decide +kernel
theorem dL_law_315 : decode cL_law 315 = .ok (.iaload, 1) := by decide +kernel
theorem dL_law_316 : decode cL_law 316 = .ok (.invokevirtual 48, 3) := by decide +kernel
theorem dL_law_319 : decode cL_law 319 = .ok (.aload_n 2, 1) := by decide +kernel
theorem dL_law_320 : decode cL_law 320 = .ok (.aload_n 0, 1) := by decide +kernel
theorem dL_law_321 : decode cL_law 321 = .ok (.iload_n 3, 1) := by decide +kernel
theorem dL_law_322 : decode cL_law 322 = .ok (.iconst 1, 1) := by decide +kernel
theorem dL_law_323 : decode cL_law 323 = .ok (.iadd, 1) := by decide +kernel
theorem dL_law_324 : decode cL_law 324 = .ok (.iaload, 1) := by decide +kernel
theorem dL_law_325 : decode cL_law 325 = .ok (.invokevirtual 51, 3) := by decide +kernel
theorem dL_law_328 : decode cL_law 328 = .ok (.if_icmp .eq 578, 3) := by decide +kernel
theorem dL_law_331 : decode cL_law 331 = .ok (.iconst 0, 1) := by decide +kernel
theorem dL_law_332 : decode cL_law 332 = .ok (.ireturn, 1) := by decide +kernel
theorem dL_law_333 : decode cL_law 333 = .ok (.aload_n 1, 1) := by decide +kernel
theorem dL_law_334 : decode cL_law 334 = .ok (.invokevirtual 52, 3) := by decide +kernel
theorem dL_law_337 : decode cL_law 337 = .ok (.aload_n 2, 1) := by decide +kernel
theorem dL_law_338 : decode cL_law 338 = .ok (.invokevirtual 55, 3) := by decide +kernel
theorem dL_law_341 : decode cL_law 341 = .ok (.if_icmp .eq 565, 3) := by decide +kernel
theorem dL_law_344 : decode cL_law 344 = .ok (.iconst 0, 1) := by decide +kernel
theorem dL_law_345 : decode cL_law 345 = .ok (.ireturn, 1) := by decide +kernel
theorem dL_law_346 : decode cL_law 346 = .ok (.aload_n 1, 1) := by decide +kernel
theorem dL_law_347 : decode cL_law 347 = .ok (.aload_n 0, 1) := by decide +kernel
theorem dL_law_348 : decode cL_law 348 = .ok (.iload_n 3, 1) := by decide +kernel
theorem dL_law_349 : decode cL_law 349 = .ok (.iconst 1, 1) := by decide +kernel
theorem dL_law_350 : decode cL_law 350 = .ok (.iadd, 1) := by decide +kernel
theorem dL_law_351 : decode cL_law 351 = .ok (.iaload, 1) := by decide +kernel
theorem dL_law_352 : decode cL_law 352 = .ok (.aload_n 0, 1) := by decide +kernel
theorem dL_law_353 : decode cL_law 353 = .ok (.iload_n 3, 1) := by decide +kernel
theorem dL_law_354 : decode cL_law 354 = .ok (.iconst 2, 1) := by decide +kernel
theorem dL_law_355 : decode cL_law 355 = .ok (.iadd, 1) := by decide +kernel
theorem dL_law_356 : decode cL_law 356 = .ok (.iaload, 1) := by decide +kernel
theorem dL_law_357 : decode cL_law 357 = .ok (.invokevirtual 56, 3) := by decide +kernel
theorem dL_law_360 : decode cL_law 360 = .ok (.aload_n 2, 1) := by decide +kernel
theorem dL_law_361 : decode cL_law 361 = .ok (.aload_n 0, 1) := by decide +kernel
theorem dL_law_362 : decode cL_law 362 = .ok (.iload_n 3, 1) := by decide +kernel
theorem dL_law_363 : decode cL_law 363 = .ok (.iconst 1, 1) := by decide +kernel
theorem dL_law_364 : decode cL_law 364 = .ok (.iadd, 1) := by decide +kernel
theorem dL_law_365 : decode cL_law 365 = .ok (.iaload, 1) := by decide +kernel
theorem dL_law_366 : decode cL_law 366 = .ok (.aload_n 0, 1) := by decide +kernel
theorem dL_law_367 : decode cL_law 367 = .ok (.iload_n 3, 1) := by decide +kernel
theorem dL_law_368 : decode cL_law 368 = .ok (.iconst 2, 1) := by decide +kernel
theorem dL_law_369 : decode cL_law 369 = .ok (.iadd, 1) := by decide +kernel
theorem dL_law_370 : decode cL_law 370 = .ok (.iaload, 1) := by decide +kernel
theorem dL_law_371 : decode cL_law 371 = .ok (.invokevirtual 59, 3) := by decide +kernel
theorem dL_law_374 : decode cL_law 374 = .ok (.if_icmp .eq 532, 3) := by decide +kernel
theorem dL_law_377 : decode cL_law 377 = .ok (.iconst 0, 1) := by decide +kernel
theorem dL_law_378 : decode cL_law 378 = .ok (.ireturn, 1) := by decide +kernel
theorem dL_law_379 : decode cL_law 379 = .ok (.aload_n 1, 1) := by decide +kernel
theorem dL_law_380 : decode cL_law 380 = .ok (.invokevirtual 60, 3) := by decide +kernel
theorem dL_law_383 : decode cL_law 383 = .ok (.aload_n 2, 1) := by decide +kernel
theorem dL_law_384 : decode cL_law 384 = .ok (.invokevirtual 63, 3) := by decide +kernel
theorem dL_law_387 : decode cL_law 387 = .ok (.if_icmp .eq 519, 3) := by decide +kernel
theorem dL_law_390 : decode cL_law 390 = .ok (.iconst 0, 1) := by decide +kernel
theorem dL_law_391 : decode cL_law 391 = .ok (.ireturn, 1) := by decide +kernel
theorem dL_law_392 : decode cL_law 392 = .ok (.aload_n 1, 1) := by decide +kernel
theorem dL_law_393 : decode cL_law 393 = .ok (.aload_n 0, 1) := by decide +kernel
theorem dL_law_394 : decode cL_law 394 = .ok (.iload_n 3, 1) := by decide +kernel
theorem dL_law_395 : decode cL_law 395 = .ok (.iconst 1, 1) := by decide +kernel
theorem dL_law_396 : decode cL_law 396 = .ok (.iadd, 1) := by decide +kernel
theorem dL_law_397 : decode cL_law 397 = .ok (.iaload, 1) := by decide +kernel
theorem dL_law_398 : decode cL_law 398 = .ok (.ifCond .eq 7, 3) := by decide +kernel
theorem dL_law_401 : decode cL_law 401 = .ok (.iconst 1, 1) := by decide +kernel
theorem dL_law_402 : decode cL_law 402 = .ok (.goto 4, 3) := by decide +kernel
theorem dL_law_405 : decode cL_law 405 = .ok (.iconst 0, 1) := by decide +kernel
theorem dL_law_406 : decode cL_law 406 = .ok (.invokevirtual 64, 3) := by decide +kernel
theorem dL_law_409 : decode cL_law 409 = .ok (.aload_n 2, 1) := by decide +kernel
theorem dL_law_410 : decode cL_law 410 = .ok (.aload_n 0, 1) := by decide +kernel
theorem dL_law_411 : decode cL_law 411 = .ok (.iload_n 3, 1) := by decide +kernel
theorem dL_law_412 : decode cL_law 412 = .ok (.iconst 1, 1) := by decide +kernel
theorem dL_law_413 : decode cL_law 413 = .ok (.iadd, 1) := by decide +kernel
theorem dL_law_414 : decode cL_law 414 = .ok (.iaload, 1) := by decide +kernel
theorem dL_law_415 : decode cL_law 415 = .ok (.ifCond .eq 7, 3) := by decide +kernel
theorem dL_law_418 : decode cL_law 418 = .ok (.iconst 1, 1) := by decide +kernel
theorem dL_law_419 : decode cL_law 419 = .ok (.goto 4, 3) := by decide +kernel
theorem dL_law_422 : decode cL_law 422 = .ok (.iconst 0, 1) := by decide +kernel
theorem dL_law_423 : decode cL_law 423 = .ok (.invokevirtual 68, 3) := by decide +kernel
theorem dL_law_426 : decode cL_law 426 = .ok (.if_icmp .eq 480, 3) := by decide +kernel
theorem dL_law_429 : decode cL_law 429 = .ok (.iconst 0, 1) := by decide +kernel
theorem dL_law_430 : decode cL_law 430 = .ok (.ireturn, 1) := by decide +kernel
theorem dL_law_431 : decode cL_law 431 = .ok (.aload_n 1, 1) := by decide +kernel
theorem dL_law_432 : decode cL_law 432 = .ok (.invokevirtual 69, 3) := by decide +kernel
theorem dL_law_435 : decode cL_law 435 = .ok (.aload_n 2, 1) := by decide +kernel
theorem dL_law_436 : decode cL_law 436 = .ok (.invokevirtual 72, 3) := by decide +kernel
theorem dL_law_439 : decode cL_law 439 = .ok (.if_icmp .eq 467, 3) := by decide +kernel
theorem dL_law_442 : decode cL_law 442 = .ok (.iconst 0, 1) := by decide +kernel
theorem dL_law_443 : decode cL_law 443 = .ok (.ireturn, 1) := by decide +kernel
theorem dL_law_444 : decode cL_law 444 = .ok (.aload_n 1, 1) := by decide +kernel
theorem dL_law_445 : decode cL_law 445 = .ok (.aload_n 0, 1) := by decide +kernel
theorem dL_law_446 : decode cL_law 446 = .ok (.iload_n 3, 1) := by decide +kernel
theorem dL_law_447 : decode cL_law 447 = .ok (.iconst 1, 1) := by decide +kernel
theorem dL_law_448 : decode cL_law 448 = .ok (.iadd, 1) := by decide +kernel
theorem dL_law_449 : decode cL_law 449 = .ok (.iaload, 1) := by decide +kernel
theorem dL_law_450 : decode cL_law 450 = .ok (.aload_n 0, 1) := by decide +kernel
theorem dL_law_451 : decode cL_law 451 = .ok (.iload_n 3, 1) := by decide +kernel
theorem dL_law_452 : decode cL_law 452 = .ok (.iconst 2, 1) := by decide +kernel
theorem dL_law_453 : decode cL_law 453 = .ok (.iadd, 1) := by decide +kernel
theorem dL_law_454 : decode cL_law 454 = .ok (.iaload, 1) := by decide +kernel
theorem dL_law_455 : decode cL_law 455 = .ok (.invokevirtual 73, 3) := by decide +kernel
theorem dL_law_458 : decode cL_law 458 = .ok (.aload_n 2, 1) := by decide +kernel
theorem dL_law_459 : decode cL_law 459 = .ok (.aload_n 0, 1) := by decide +kernel
theorem dL_law_460 : decode cL_law 460 = .ok (.iload_n 3, 1) := by decide +kernel
theorem dL_law_461 : decode cL_law 461 = .ok (.iconst 1, 1) := by decide +kernel
theorem dL_law_462 : decode cL_law 462 = .ok (.iadd, 1) := by decide +kernel
theorem dL_law_463 : decode cL_law 463 = .ok (.iaload, 1) := by decide +kernel
theorem dL_law_464 : decode cL_law 464 = .ok (.aload_n 0, 1) := by decide +kernel
theorem dL_law_465 : decode cL_law 465 = .ok (.iload_n 3, 1) := by decide +kernel
theorem dL_law_466 : decode cL_law 466 = .ok (.iconst 2, 1) := by decide +kernel
theorem dL_law_467 : decode cL_law 467 = .ok (.iadd, 1) := by decide +kernel
theorem dL_law_468 : decode cL_law 468 = .ok (.iaload, 1) := by decide +kernel
theorem dL_law_469 : decode cL_law 469 = .ok (.invokevirtual 76, 3) := by decide +kernel
theorem dL_law_472 : decode cL_law 472 = .ok (.if_icmp .eq 434, 3) := by decide +kernel
theorem dL_law_475 : decode cL_law 475 = .ok (.iconst 0, 1) := by decide +kernel
theorem dL_law_476 : decode cL_law 476 = .ok (.ireturn, 1) := by decide +kernel
theorem dL_law_477 : decode cL_law 477 = .ok (.aload_n 1, 1) := by decide +kernel
theorem dL_law_478 : decode cL_law 478 = .ok (.aload_n 0, 1) := by decide +kernel
theorem dL_law_479 : decode cL_law 479 = .ok (.iload_n 3, 1) := by decide +kernel
theorem dL_law_480 : decode cL_law 480 = .ok (.iconst 1, 1) := by decide +kernel
theorem dL_law_481 : decode cL_law 481 = .ok (.iadd, 1) := by decide +kernel
theorem dL_law_482 : decode cL_law 482 = .ok (.iaload, 1) := by decide +kernel
theorem dL_law_483 : decode cL_law 483 = .ok (.aload_n 0, 1) := by decide +kernel
theorem dL_law_484 : decode cL_law 484 = .ok (.iload_n 3, 1) := by decide +kernel
theorem dL_law_485 : decode cL_law 485 = .ok (.iconst 2, 1) := by decide +kernel
theorem dL_law_486 : decode cL_law 486 = .ok (.iadd, 1) := by decide +kernel
theorem dL_law_487 : decode cL_law 487 = .ok (.iaload, 1) := by decide +kernel
theorem dL_law_488 : decode cL_law 488 = .ok (.invokevirtual 77, 3) := by decide +kernel
theorem dL_law_491 : decode cL_law 491 = .ok (.aload_n 2, 1) := by decide +kernel
theorem dL_law_492 : decode cL_law 492 = .ok (.aload_n 0, 1) := by decide +kernel
theorem dL_law_493 : decode cL_law 493 = .ok (.iload_n 3, 1) := by decide +kernel
theorem dL_law_494 : decode cL_law 494 = .ok (.iconst 1, 1) := by decide +kernel
theorem dL_law_495 : decode cL_law 495 = .ok (.iadd, 1) := by decide +kernel
theorem dL_law_496 : decode cL_law 496 = .ok (.iaload, 1) := by decide +kernel
theorem dL_law_497 : decode cL_law 497 = .ok (.aload_n 0, 1) := by decide +kernel
theorem dL_law_498 : decode cL_law 498 = .ok (.iload_n 3, 1) := by decide +kernel
theorem dL_law_499 : decode cL_law 499 = .ok (.iconst 2, 1) := by decide +kernel
theorem dL_law_500 : decode cL_law 500 = .ok (.iadd, 1) := by decide +kernel
theorem dL_law_501 : decode cL_law 501 = .ok (.iaload, 1) := by decide +kernel
theorem dL_law_502 : decode cL_law 502 = .ok (.invokevirtual 80, 3) := by decide +kernel
theorem dL_law_505 : decode cL_law 505 = .ok (.if_icmp .eq 401, 3) := by decide +kernel
theorem dL_law_508 : decode cL_law 508 = .ok (.iconst 0, 1) := by decide +kernel
theorem dL_law_509 : decode cL_law 509 = .ok (.ireturn, 1) := by decide +kernel
theorem dL_law_510 : decode cL_law 510 = .ok (.aload_n 1, 1) := by decide +kernel
theorem dL_law_511 : decode cL_law 511 = .ok (.aload_n 0, 1) := by decide +kernel
theorem dL_law_512 : decode cL_law 512 = .ok (.iload_n 3, 1) := by decide +kernel
theorem dL_law_513 : decode cL_law 513 = .ok (.iconst 1, 1) := by decide +kernel
theorem dL_law_514 : decode cL_law 514 = .ok (.iadd, 1) := by decide +kernel
theorem dL_law_515 : decode cL_law 515 = .ok (.iaload, 1) := by decide +kernel
theorem dL_law_516 : decode cL_law 516 = .ok (.aload_n 0, 1) := by decide +kernel
theorem dL_law_517 : decode cL_law 517 = .ok (.iload_n 3, 1) := by decide +kernel
theorem dL_law_518 : decode cL_law 518 = .ok (.iconst 2, 1) := by decide +kernel
theorem dL_law_519 : decode cL_law 519 = .ok (.iadd, 1) := by decide +kernel
theorem dL_law_520 : decode cL_law 520 = .ok (.iaload, 1) := by decide +kernel
theorem dL_law_521 : decode cL_law 521 = .ok (.aload_n 0, 1) := by decide +kernel
theorem dL_law_522 : decode cL_law 522 = .ok (.iload_n 3, 1) := by decide +kernel
theorem dL_law_523 : decode cL_law 523 = .ok (.iconst 3, 1) := by decide +kernel
theorem dL_law_524 : decode cL_law 524 = .ok (.iadd, 1) := by decide +kernel
theorem dL_law_525 : decode cL_law 525 = .ok (.iaload, 1) := by decide +kernel
theorem dL_law_526 : decode cL_law 526 = .ok (.invokevirtual 81, 3) := by decide +kernel
theorem dL_law_529 : decode cL_law 529 = .ok (.aload_n 2, 1) := by decide +kernel
theorem dL_law_530 : decode cL_law 530 = .ok (.aload_n 0, 1) := by decide +kernel
theorem dL_law_531 : decode cL_law 531 = .ok (.iload_n 3, 1) := by decide +kernel
theorem dL_law_532 : decode cL_law 532 = .ok (.iconst 1, 1) := by decide +kernel
theorem dL_law_533 : decode cL_law 533 = .ok (.iadd, 1) := by decide +kernel
theorem dL_law_534 : decode cL_law 534 = .ok (.iaload, 1) := by decide +kernel
theorem dL_law_535 : decode cL_law 535 = .ok (.aload_n 0, 1) := by decide +kernel
theorem dL_law_536 : decode cL_law 536 = .ok (.iload_n 3, 1) := by decide +kernel
theorem dL_law_537 : decode cL_law 537 = .ok (.iconst 2, 1) := by decide +kernel
theorem dL_law_538 : decode cL_law 538 = .ok (.iadd, 1) := by decide +kernel
theorem dL_law_539 : decode cL_law 539 = .ok (.iaload, 1) := by decide +kernel
theorem dL_law_540 : decode cL_law 540 = .ok (.aload_n 0, 1) := by decide +kernel
theorem dL_law_541 : decode cL_law 541 = .ok (.iload_n 3, 1) := by decide +kernel
theorem dL_law_542 : decode cL_law 542 = .ok (.iconst 3, 1) := by decide +kernel
theorem dL_law_543 : decode cL_law 543 = .ok (.iadd, 1) := by decide +kernel
theorem dL_law_544 : decode cL_law 544 = .ok (.iaload, 1) := by decide +kernel
theorem dL_law_545 : decode cL_law 545 = .ok (.invokevirtual 85, 3) := by decide +kernel
theorem dL_law_548 : decode cL_law 548 = .ok (.if_icmp .eq 358, 3) := by decide +kernel
theorem dL_law_551 : decode cL_law 551 = .ok (.iconst 0, 1) := by decide +kernel
theorem dL_law_552 : decode cL_law 552 = .ok (.ireturn, 1) := by decide +kernel
theorem dL_law_553 : decode cL_law 553 = .ok (.aload_n 1, 1) := by decide +kernel
theorem dL_law_554 : decode cL_law 554 = .ok (.invokevirtual 86, 3) := by decide +kernel
theorem dL_law_557 : decode cL_law 557 = .ok (.aload_n 2, 1) := by decide +kernel
theorem dL_law_558 : decode cL_law 558 = .ok (.invokevirtual 89, 3) := by decide +kernel
theorem dL_law_561 : decode cL_law 561 = .ok (.if_icmp .eq 345, 3) := by decide +kernel
theorem dL_law_564 : decode cL_law 564 = .ok (.iconst 0, 1) := by decide +kernel
theorem dL_law_565 : decode cL_law 565 = .ok (.ireturn, 1) := by decide +kernel
theorem dL_law_566 : decode cL_law 566 = .ok (.aload_n 1, 1) := by decide +kernel
theorem dL_law_567 : decode cL_law 567 = .ok (.aload_n 0, 1) := by decide +kernel
theorem dL_law_568 : decode cL_law 568 = .ok (.iload_n 3, 1) := by decide +kernel
theorem dL_law_569 : decode cL_law 569 = .ok (.iconst 1, 1) := by decide +kernel
theorem dL_law_570 : decode cL_law 570 = .ok (.iadd, 1) := by decide +kernel
theorem dL_law_571 : decode cL_law 571 = .ok (.iaload, 1) := by decide +kernel
theorem dL_law_572 : decode cL_law 572 = .ok (.aload_n 0, 1) := by decide +kernel
theorem dL_law_573 : decode cL_law 573 = .ok (.iload_n 3, 1) := by decide +kernel
theorem dL_law_574 : decode cL_law 574 = .ok (.iconst 2, 1) := by decide +kernel
theorem dL_law_575 : decode cL_law 575 = .ok (.iadd, 1) := by decide +kernel
theorem dL_law_576 : decode cL_law 576 = .ok (.iaload, 1) := by decide +kernel
theorem dL_law_577 : decode cL_law 577 = .ok (.invokevirtual 90, 3) := by decide +kernel
theorem dL_law_580 : decode cL_law 580 = .ok (.aload_n 2, 1) := by decide +kernel
theorem dL_law_581 : decode cL_law 581 = .ok (.aload_n 0, 1) := by decide +kernel
theorem dL_law_582 : decode cL_law 582 = .ok (.iload_n 3, 1) := by decide +kernel
theorem dL_law_583 : decode cL_law 583 = .ok (.iconst 1, 1) := by decide +kernel
theorem dL_law_584 : decode cL_law 584 = .ok (.iadd, 1) := by decide +kernel
theorem dL_law_585 : decode cL_law 585 = .ok (.iaload, 1) := by decide +kernel
theorem dL_law_586 : decode cL_law 586 = .ok (.aload_n 0, 1) := by decide +kernel
theorem dL_law_587 : decode cL_law 587 = .ok (.iload_n 3, 1) := by decide +kernel
theorem dL_law_588 : decode cL_law 588 = .ok (.iconst 2, 1) := by decide +kernel
theorem dL_law_589 : decode cL_law 589 = .ok (.iadd, 1) := by decide +kernel
theorem dL_law_590 : decode cL_law 590 = .ok (.iaload, 1) := by decide +kernel
theorem dL_law_591 : decode cL_law 591 = .ok (.invokevirtual 93, 3) := by decide +kernel
theorem dL_law_594 : decode cL_law 594 = .ok (.if_icmp .eq 312, 3) := by decide +kernel
theorem dL_law_597 : decode cL_law 597 = .ok (.iconst 0, 1) := by decide +kernel
theorem dL_law_598 : decode cL_law 598 = .ok (.ireturn, 1) := by decide +kernel
theorem dL_law_599 : decode cL_law 599 = .ok (.aload_n 1, 1) := by decide +kernel
theorem dL_law_600 : decode cL_law 600 = .ok (.aload_n 0, 1) := by decide +kernel
theorem dL_law_601 : decode cL_law 601 = .ok (.iload_n 3, 1) := by decide +kernel
theorem dL_law_602 : decode cL_law 602 = .ok (.iconst 1, 1) := by decide +kernel
theorem dL_law_603 : decode cL_law 603 = .ok (.iadd, 1) := by decide +kernel
theorem dL_law_604 : decode cL_law 604 = .ok (.iaload, 1) := by decide +kernel
theorem dL_law_605 : decode cL_law 605 = .ok (.aload_n 0, 1) := by decide +kernel
theorem dL_law_606 : decode cL_law 606 = .ok (.iload_n 3, 1) := by decide +kernel
theorem dL_law_607 : decode cL_law 607 = .ok (.iconst 2, 1) := by decide +kernel
theorem dL_law_608 : decode cL_law 608 = .ok (.iadd, 1) := by decide +kernel
theorem dL_law_609 : decode cL_law 609 = .ok (.iaload, 1) := by decide +kernel
theorem dL_law_610 : decode cL_law 610 = .ok (.ifCond .eq 7, 3) := by decide +kernel
theorem dL_law_613 : decode cL_law 613 = .ok (.iconst 1, 1) := by decide +kernel
theorem dL_law_614 : decode cL_law 614 = .ok (.goto 4, 3) := by decide +kernel
theorem dL_law_617 : decode cL_law 617 = .ok (.iconst 0, 1) := by decide +kernel
theorem dL_law_618 : decode cL_law 618 = .ok (.invokevirtual 94, 3) := by decide +kernel
theorem dL_law_621 : decode cL_law 621 = .ok (.aload_n 2, 1) := by decide +kernel
theorem dL_law_622 : decode cL_law 622 = .ok (.aload_n 0, 1) := by decide +kernel
theorem dL_law_623 : decode cL_law 623 = .ok (.iload_n 3, 1) := by decide +kernel
theorem dL_law_624 : decode cL_law 624 = .ok (.iconst 1, 1) := by decide +kernel
theorem dL_law_625 : decode cL_law 625 = .ok (.iadd, 1) := by decide +kernel
theorem dL_law_626 : decode cL_law 626 = .ok (.iaload, 1) := by decide +kernel
theorem dL_law_627 : decode cL_law 627 = .ok (.aload_n 0, 1) := by decide +kernel
theorem dL_law_628 : decode cL_law 628 = .ok (.iload_n 3, 1) := by decide +kernel
theorem dL_law_629 : decode cL_law 629 = .ok (.iconst 2, 1) := by decide +kernel
theorem dL_law_630 : decode cL_law 630 = .ok (.iadd, 1) := by decide +kernel
theorem dL_law_631 : decode cL_law 631 = .ok (.iaload, 1) := by decide +kernel
theorem dL_law_632 : decode cL_law 632 = .ok (.ifCond .eq 7, 3) := by decide +kernel
theorem dL_law_635 : decode cL_law 635 = .ok (.iconst 1, 1) := by decide +kernel
theorem dL_law_636 : decode cL_law 636 = .ok (.goto 4, 3) := by decide +kernel
theorem dL_law_639 : decode cL_law 639 = .ok (.iconst 0, 1) := by decide +kernel
theorem dL_law_640 : decode cL_law 640 = .ok (.invokevirtual 98, 3) := by decide +kernel
theorem dL_law_643 : decode cL_law 643 = .ok (.if_icmp .eq 263, 3) := by decide +kernel
theorem dL_law_646 : decode cL_law 646 = .ok (.iconst 0, 1) := by decide +kernel
theorem dL_law_647 : decode cL_law 647 = .ok (.ireturn, 1) := by decide +kernel
theorem dL_law_648 : decode cL_law 648 = .ok (.aload_n 1, 1) := by decide +kernel
theorem dL_law_649 : decode cL_law 649 = .ok (.aload_n 0, 1) := by decide +kernel
theorem dL_law_650 : decode cL_law 650 = .ok (.iload_n 3, 1) := by decide +kernel
theorem dL_law_651 : decode cL_law 651 = .ok (.iconst 1, 1) := by decide +kernel
theorem dL_law_652 : decode cL_law 652 = .ok (.iadd, 1) := by decide +kernel
theorem dL_law_653 : decode cL_law 653 = .ok (.iaload, 1) := by decide +kernel
theorem dL_law_654 : decode cL_law 654 = .ok (.aload_n 0, 1) := by decide +kernel
theorem dL_law_655 : decode cL_law 655 = .ok (.iload_n 3, 1) := by decide +kernel
theorem dL_law_656 : decode cL_law 656 = .ok (.iconst 2, 1) := by decide +kernel
theorem dL_law_657 : decode cL_law 657 = .ok (.iadd, 1) := by decide +kernel
theorem dL_law_658 : decode cL_law 658 = .ok (.iaload, 1) := by decide +kernel
theorem dL_law_659 : decode cL_law 659 = .ok (.aload_n 0, 1) := by decide +kernel
theorem dL_law_660 : decode cL_law 660 = .ok (.iload_n 3, 1) := by decide +kernel
theorem dL_law_661 : decode cL_law 661 = .ok (.iconst 3, 1) := by decide +kernel
theorem dL_law_662 : decode cL_law 662 = .ok (.iadd, 1) := by decide +kernel
theorem dL_law_663 : decode cL_law 663 = .ok (.iaload, 1) := by decide +kernel
theorem dL_law_664 : decode cL_law 664 = .ok (.invokevirtual 99, 3) := by decide +kernel
theorem dL_law_667 : decode cL_law 667 = .ok (.aload_n 2, 1) := by decide +kernel
theorem dL_law_668 : decode cL_law 668 = .ok (.aload_n 0, 1) := by decide +kernel
theorem dL_law_669 : decode cL_law 669 = .ok (.iload_n 3, 1) := by decide +kernel
theorem dL_law_670 : decode cL_law 670 = .ok (.iconst 1, 1) := by decide +kernel
theorem dL_law_671 : decode cL_law 671 = .ok (.iadd, 1) := by decide +kernel
theorem dL_law_672 : decode cL_law 672 = .ok (.iaload, 1) := by decide +kernel
theorem dL_law_673 : decode cL_law 673 = .ok (.aload_n 0, 1) := by decide +kernel
theorem dL_law_674 : decode cL_law 674 = .ok (.iload_n 3, 1) := by decide +kernel
theorem dL_law_675 : decode cL_law 675 = .ok (.iconst 2, 1) := by decide +kernel
theorem dL_law_676 : decode cL_law 676 = .ok (.iadd, 1) := by decide +kernel
theorem dL_law_677 : decode cL_law 677 = .ok (.iaload, 1) := by decide +kernel
theorem dL_law_678 : decode cL_law 678 = .ok (.aload_n 0, 1) := by decide +kernel
theorem dL_law_679 : decode cL_law 679 = .ok (.iload_n 3, 1) := by decide +kernel
theorem dL_law_680 : decode cL_law 680 = .ok (.iconst 3, 1) := by decide +kernel
theorem dL_law_681 : decode cL_law 681 = .ok (.iadd, 1) := by decide +kernel
theorem dL_law_682 : decode cL_law 682 = .ok (.iaload, 1) := by decide +kernel
theorem dL_law_683 : decode cL_law 683 = .ok (.invokevirtual 102, 3) := by decide +kernel
theorem dL_law_686 : decode cL_law 686 = .ok (.if_icmp .eq 220, 3) := by decide +kernel
theorem dL_law_689 : decode cL_law 689 = .ok (.iconst 0, 1) := by decide +kernel
theorem dL_law_690 : decode cL_law 690 = .ok (.ireturn, 1) := by decide +kernel
theorem dL_law_691 : decode cL_law 691 = .ok (.aload_n 1, 1) := by decide +kernel
theorem dL_law_692 : decode cL_law 692 = .ok (.aload_n 0, 1) := by decide +kernel
theorem dL_law_693 : decode cL_law 693 = .ok (.iload_n 3, 1) := by decide +kernel
theorem dL_law_694 : decode cL_law 694 = .ok (.iconst 1, 1) := by decide +kernel
theorem dL_law_695 : decode cL_law 695 = .ok (.iadd, 1) := by decide +kernel
theorem dL_law_696 : decode cL_law 696 = .ok (.iaload, 1) := by decide +kernel
theorem dL_law_697 : decode cL_law 697 = .ok (.aload_n 0, 1) := by decide +kernel
theorem dL_law_698 : decode cL_law 698 = .ok (.iload_n 3, 1) := by decide +kernel
theorem dL_law_699 : decode cL_law 699 = .ok (.iconst 2, 1) := by decide +kernel
theorem dL_law_700 : decode cL_law 700 = .ok (.iadd, 1) := by decide +kernel
theorem dL_law_701 : decode cL_law 701 = .ok (.iaload, 1) := by decide +kernel
theorem dL_law_702 : decode cL_law 702 = .ok (.aload_n 0, 1) := by decide +kernel
theorem dL_law_703 : decode cL_law 703 = .ok (.iload_n 3, 1) := by decide +kernel
theorem dL_law_704 : decode cL_law 704 = .ok (.iconst 3, 1) := by decide +kernel
theorem dL_law_705 : decode cL_law 705 = .ok (.iadd, 1) := by decide +kernel
theorem dL_law_706 : decode cL_law 706 = .ok (.iaload, 1) := by decide +kernel
theorem dL_law_707 : decode cL_law 707 = .ok (.aload_n 0, 1) := by decide +kernel
theorem dL_law_708 : decode cL_law 708 = .ok (.iload_n 3, 1) := by decide +kernel
theorem dL_law_709 : decode cL_law 709 = .ok (.iconst 4, 1) := by decide +kernel
theorem dL_law_710 : decode cL_law 710 = .ok (.iadd, 1) := by decide +kernel
theorem dL_law_711 : decode cL_law 711 = .ok (.iaload, 1) := by decide +kernel
theorem dL_law_712 : decode cL_law 712 = .ok (.ifCond .eq 7, 3) := by decide +kernel
theorem dL_law_715 : decode cL_law 715 = .ok (.iconst 1, 1) := by decide +kernel
theorem dL_law_716 : decode cL_law 716 = .ok (.goto 4, 3) := by decide +kernel
theorem dL_law_719 : decode cL_law 719 = .ok (.iconst 0, 1) := by decide +kernel
theorem dL_law_720 : decode cL_law 720 = .ok (.invokevirtual 103, 3) := by decide +kernel
theorem dL_law_723 : decode cL_law 723 = .ok (.aload_n 2, 1) := by decide +kernel
theorem dL_law_724 : decode cL_law 724 = .ok (.aload_n 0, 1) := by decide +kernel
theorem dL_law_725 : decode cL_law 725 = .ok (.iload_n 3, 1) := by decide +kernel
theorem dL_law_726 : decode cL_law 726 = .ok (.iconst 1, 1) := by decide +kernel
theorem dL_law_727 : decode cL_law 727 = .ok (.iadd, 1) := by decide +kernel
theorem dL_law_728 : decode cL_law 728 = .ok (.iaload, 1) := by decide +kernel
theorem dL_law_729 : decode cL_law 729 = .ok (.aload_n 0, 1) := by decide +kernel
theorem dL_law_730 : decode cL_law 730 = .ok (.iload_n 3, 1) := by decide +kernel
theorem dL_law_731 : decode cL_law 731 = .ok (.iconst 2, 1) := by decide +kernel
theorem dL_law_732 : decode cL_law 732 = .ok (.iadd, 1) := by decide +kernel
theorem dL_law_733 : decode cL_law 733 = .ok (.iaload, 1) := by decide +kernel
theorem dL_law_734 : decode cL_law 734 = .ok (.aload_n 0, 1) := by decide +kernel
theorem dL_law_735 : decode cL_law 735 = .ok (.iload_n 3, 1) := by decide +kernel
theorem dL_law_736 : decode cL_law 736 = .ok (.iconst 3, 1) := by decide +kernel
theorem dL_law_737 : decode cL_law 737 = .ok (.iadd, 1) := by decide +kernel
theorem dL_law_738 : decode cL_law 738 = .ok (.iaload, 1) := by decide +kernel
theorem dL_law_739 : decode cL_law 739 = .ok (.aload_n 0, 1) := by decide +kernel
theorem dL_law_740 : decode cL_law 740 = .ok (.iload_n 3, 1) := by decide +kernel
theorem dL_law_741 : decode cL_law 741 = .ok (.iconst 4, 1) := by decide +kernel
theorem dL_law_742 : decode cL_law 742 = .ok (.iadd, 1) := by decide +kernel
theorem dL_law_743 : decode cL_law 743 = .ok (.iaload, 1) := by decide +kernel
theorem dL_law_744 : decode cL_law 744 = .ok (.ifCond .eq 7, 3) := by decide +kernel
theorem dL_law_747 : decode cL_law 747 = .ok (.iconst 1, 1) := by decide +kernel
theorem dL_law_748 : decode cL_law 748 = .ok (.goto 4, 3) := by decide +kernel
theorem dL_law_751 : decode cL_law 751 = .ok (.iconst 0, 1) := by decide +kernel
theorem dL_law_752 : decode cL_law 752 = .ok (.invokevirtual 107, 3) := by decide +kernel
theorem dL_law_755 : decode cL_law 755 = .ok (.if_icmp .eq 151, 3) := by decide +kernel
theorem dL_law_758 : decode cL_law 758 = .ok (.iconst 0, 1) := by decide +kernel
theorem dL_law_759 : decode cL_law 759 = .ok (.ireturn, 1) := by decide +kernel
theorem dL_law_760 : decode cL_law 760 = .ok (.aload_n 1, 1) := by decide +kernel
theorem dL_law_761 : decode cL_law 761 = .ok (.aload_n 0, 1) := by decide +kernel
theorem dL_law_762 : decode cL_law 762 = .ok (.iload_n 3, 1) := by decide +kernel
theorem dL_law_763 : decode cL_law 763 = .ok (.iconst 1, 1) := by decide +kernel
theorem dL_law_764 : decode cL_law 764 = .ok (.iadd, 1) := by decide +kernel
theorem dL_law_765 : decode cL_law 765 = .ok (.iaload, 1) := by decide +kernel
theorem dL_law_766 : decode cL_law 766 = .ok (.i2l, 1) := by decide +kernel
theorem dL_law_767 : decode cL_law 767 = .ok (.bipush 32, 2) := by decide +kernel
theorem dL_law_769 : decode cL_law 769 = .ok (.lshl, 1) := by decide +kernel
theorem dL_law_770 : decode cL_law 770 = .ok (.aload_n 0, 1) := by decide +kernel
theorem dL_law_771 : decode cL_law 771 = .ok (.iload_n 3, 1) := by decide +kernel
theorem dL_law_772 : decode cL_law 772 = .ok (.iconst 2, 1) := by decide +kernel
theorem dL_law_773 : decode cL_law 773 = .ok (.iadd, 1) := by decide +kernel
theorem dL_law_774 : decode cL_law 774 = .ok (.iaload, 1) := by decide +kernel
theorem dL_law_775 : decode cL_law 775 = .ok (.i2l, 1) := by decide +kernel
theorem dL_law_776 : decode cL_law 776 = .ok (.ldc2_w 108, 3) := by decide +kernel
theorem dL_law_779 : decode cL_law 779 = .ok (.land, 1) := by decide +kernel
theorem dL_law_780 : decode cL_law 780 = .ok (.lor, 1) := by decide +kernel
theorem dL_law_781 : decode cL_law 781 = .ok (.invokevirtual 110, 3) := by decide +kernel
theorem dL_law_784 : decode cL_law 784 = .ok (.aload_n 2, 1) := by decide +kernel
theorem dL_law_785 : decode cL_law 785 = .ok (.aload_n 0, 1) := by decide +kernel
theorem dL_law_786 : decode cL_law 786 = .ok (.iload_n 3, 1) := by decide +kernel
theorem dL_law_787 : decode cL_law 787 = .ok (.iconst 1, 1) := by decide +kernel
theorem dL_law_788 : decode cL_law 788 = .ok (.iadd, 1) := by decide +kernel
theorem dL_law_789 : decode cL_law 789 = .ok (.iaload, 1) := by decide +kernel
theorem dL_law_790 : decode cL_law 790 = .ok (.i2l, 1) := by decide +kernel
theorem dL_law_791 : decode cL_law 791 = .ok (.bipush 32, 2) := by decide +kernel
theorem dL_law_793 : decode cL_law 793 = .ok (.lshl, 1) := by decide +kernel
theorem dL_law_794 : decode cL_law 794 = .ok (.aload_n 0, 1) := by decide +kernel
theorem dL_law_795 : decode cL_law 795 = .ok (.iload_n 3, 1) := by decide +kernel
theorem dL_law_796 : decode cL_law 796 = .ok (.iconst 2, 1) := by decide +kernel
theorem dL_law_797 : decode cL_law 797 = .ok (.iadd, 1) := by decide +kernel
theorem dL_law_798 : decode cL_law 798 = .ok (.iaload, 1) := by decide +kernel
theorem dL_law_799 : decode cL_law 799 = .ok (.i2l, 1) := by decide +kernel
theorem dL_law_800 : decode cL_law 800 = .ok (.ldc2_w 108, 3) := by decide +kernel
theorem dL_law_803 : decode cL_law 803 = .ok (.land, 1) := by decide +kernel
theorem dL_law_804 : decode cL_law 804 = .ok (.lor, 1) := by decide +kernel
theorem dL_law_805 : decode cL_law 805 = .ok (.invokevirtual 114, 3) := by decide +kernel
theorem dL_law_808 : decode cL_law 808 = .ok (.lcmp, 1) := by decide +kernel
theorem dL_law_809 : decode cL_law 809 = .ok (.ifCond .eq 97, 3) := by decide +kernel
theorem dL_law_812 : decode cL_law 812 = .ok (.iconst 0, 1) := by decide +kernel
theorem dL_law_813 : decode cL_law 813 = .ok (.ireturn, 1) := by decide +kernel
theorem dL_law_814 : decode cL_law 814 = .ok (.aload_n 1, 1) := by decide +kernel
theorem dL_law_815 : decode cL_law 815 = .ok (.aload_n 0, 1) := by decide +kernel
theorem dL_law_816 : decode cL_law 816 = .ok (.iload_n 3, 1) := by decide +kernel
theorem dL_law_817 : decode cL_law 817 = .ok (.iconst 1, 1) := by decide +kernel
theorem dL_law_818 : decode cL_law 818 = .ok (.iadd, 1) := by decide +kernel
theorem dL_law_819 : decode cL_law 819 = .ok (.iaload, 1) := by decide +kernel
theorem dL_law_820 : decode cL_law 820 = .ok (.invokevirtual 115, 3) := by decide +kernel
theorem dL_law_823 : decode cL_law 823 = .ok (.aload_n 2, 1) := by decide +kernel
theorem dL_law_824 : decode cL_law 824 = .ok (.aload_n 0, 1) := by decide +kernel
theorem dL_law_825 : decode cL_law 825 = .ok (.iload_n 3, 1) := by decide +kernel
theorem dL_law_826 : decode cL_law 826 = .ok (.iconst 1, 1) := by decide +kernel
theorem dL_law_827 : decode cL_law 827 = .ok (.iadd, 1) := by decide +kernel
theorem dL_law_828 : decode cL_law 828 = .ok (.iaload, 1) := by decide +kernel
theorem dL_law_829 : decode cL_law 829 = .ok (.invokevirtual 118, 3) := by decide +kernel
theorem dL_law_832 : decode cL_law 832 = .ok (.if_icmp .eq 74, 3) := by decide +kernel
theorem dL_law_835 : decode cL_law 835 = .ok (.iconst 0, 1) := by decide +kernel
theorem dL_law_836 : decode cL_law 836 = .ok (.ireturn, 1) := by decide +kernel
theorem dL_law_837 : decode cL_law 837 = .ok (.aload_n 1, 1) := by decide +kernel
theorem dL_law_838 : decode cL_law 838 = .ok (.aload_n 0, 1) := by decide +kernel
theorem dL_law_839 : decode cL_law 839 = .ok (.iload_n 3, 1) := by decide +kernel
theorem dL_law_840 : decode cL_law 840 = .ok (.iconst 1, 1) := by decide +kernel
theorem dL_law_841 : decode cL_law 841 = .ok (.iadd, 1) := by decide +kernel
theorem dL_law_842 : decode cL_law 842 = .ok (.iaload, 1) := by decide +kernel
theorem dL_law_843 : decode cL_law 843 = .ok (.invokevirtual 119, 3) := by decide +kernel
theorem dL_law_846 : decode cL_law 846 = .ok (.aload_n 2, 1) := by decide +kernel
theorem dL_law_847 : decode cL_law 847 = .ok (.aload_n 0, 1) := by decide +kernel
theorem dL_law_848 : decode cL_law 848 = .ok (.iload_n 3, 1) := by decide +kernel
theorem dL_law_849 : decode cL_law 849 = .ok (.iconst 1, 1) := by decide +kernel
theorem dL_law_850 : decode cL_law 850 = .ok (.iadd, 1) := by decide +kernel
theorem dL_law_851 : decode cL_law 851 = .ok (.iaload, 1) := by decide +kernel
theorem dL_law_852 : decode cL_law 852 = .ok (.invokevirtual 122, 3) := by decide +kernel
theorem dL_law_855 : decode cL_law 855 = .ok (.if_icmp .eq 51, 3) := by decide +kernel
theorem dL_law_858 : decode cL_law 858 = .ok (.iconst 0, 1) := by decide +kernel
theorem dL_law_859 : decode cL_law 859 = .ok (.ireturn, 1) := by decide +kernel
theorem dL_law_860 : decode cL_law 860 = .ok (.aload_n 1, 1) := by decide +kernel
theorem dL_law_861 : decode cL_law 861 = .ok (.aload_n 0, 1) := by decide +kernel
theorem dL_law_862 : decode cL_law 862 = .ok (.iload_n 3, 1) := by decide +kernel
theorem dL_law_863 : decode cL_law 863 = .ok (.iconst 1, 1) := by decide +kernel
theorem dL_law_864 : decode cL_law 864 = .ok (.iadd, 1) := by decide +kernel
theorem dL_law_865 : decode cL_law 865 = .ok (.iaload, 1) := by decide +kernel
theorem dL_law_866 : decode cL_law 866 = .ok (.invokevirtual 123, 3) := by decide +kernel
theorem dL_law_869 : decode cL_law 869 = .ok (.aload_n 2, 1) := by decide +kernel
theorem dL_law_870 : decode cL_law 870 = .ok (.aload_n 0, 1) := by decide +kernel
theorem dL_law_871 : decode cL_law 871 = .ok (.iload_n 3, 1) := by decide +kernel
theorem dL_law_872 : decode cL_law 872 = .ok (.iconst 1, 1) := by decide +kernel
theorem dL_law_873 : decode cL_law 873 = .ok (.iadd, 1) := by decide +kernel
theorem dL_law_874 : decode cL_law 874 = .ok (.iaload, 1) := by decide +kernel
theorem dL_law_875 : decode cL_law 875 = .ok (.invokevirtual 126, 3) := by decide +kernel
theorem dL_law_878 : decode cL_law 878 = .ok (.if_icmp .eq 28, 3) := by decide +kernel
theorem dL_law_881 : decode cL_law 881 = .ok (.iconst 0, 1) := by decide +kernel
theorem dL_law_882 : decode cL_law 882 = .ok (.ireturn, 1) := by decide +kernel
theorem dL_law_883 : decode cL_law 883 = .ok (.aload_n 1, 1) := by decide +kernel
theorem dL_law_884 : decode cL_law 884 = .ok (.aload_n 0, 1) := by decide +kernel
theorem dL_law_885 : decode cL_law 885 = .ok (.iload_n 3, 1) := by decide +kernel
theorem dL_law_886 : decode cL_law 886 = .ok (.iconst 1, 1) := by decide +kernel
theorem dL_law_887 : decode cL_law 887 = .ok (.iadd, 1) := by decide +kernel
theorem dL_law_888 : decode cL_law 888 = .ok (.iaload, 1) := by decide +kernel
theorem dL_law_889 : decode cL_law 889 = .ok (.invokevirtual 127, 3) := by decide +kernel
theorem dL_law_892 : decode cL_law 892 = .ok (.aload_n 2, 1) := by decide +kernel
theorem dL_law_893 : decode cL_law 893 = .ok (.aload_n 0, 1) := by decide +kernel
theorem dL_law_894 : decode cL_law 894 = .ok (.iload_n 3, 1) := by decide +kernel
theorem dL_law_895 : decode cL_law 895 = .ok (.iconst 1, 1) := by decide +kernel
theorem dL_law_896 : decode cL_law 896 = .ok (.iadd, 1) := by decide +kernel
theorem dL_law_897 : decode cL_law 897 = .ok (.iaload, 1) := by decide +kernel
theorem dL_law_898 : decode cL_law 898 = .ok (.invokevirtual 130, 3) := by decide +kernel
theorem dL_law_901 : decode cL_law 901 = .ok (.if_icmp .eq 5, 3) := by decide +kernel
theorem dL_law_904 : decode cL_law 904 = .ok (.iconst 0, 1) := by decide +kernel
theorem dL_law_905 : decode cL_law 905 = .ok (.ireturn, 1) := by decide +kernel
theorem dL_law_906 : decode cL_law 906 = .ok (.iinc 3 5, 3) := by decide +kernel
theorem dL_law_909 : decode cL_law 909 = .ok (.goto (-891), 3) := by decide +kernel
theorem dL_law_912 : decode cL_law 912 = .ok (.iconst 1, 1) := by decide +kernel
theorem dL_law_913 : decode cL_law 913 = .ok (.ireturn, 1) := by decide +kernel
abbrev vwCl : List vw_C := [(RX0, TX0, 3), (RX2, TX2, 1), (RX4, TX4, 8), (RX5, TX5, 5), (RX7, TX7, 4), (RX8, TX8, 6), (RX9, TX9, 12), (RX10, TX10, 24)]

