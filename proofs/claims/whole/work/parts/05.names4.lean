theorem dX10_laundry_59 : decode cX10_laundry 59 = .ok (.iconst 0, 1) := by decide +kernel
theorem dX10_laundry_60 : decode cX10_laundry 60 = .ok (.iastore, 1) := by decide +kernel
theorem dX10_laundry_61 : decode cX10_laundry 61 = .ok (.iinc 1 1, 3) := by decide +kernel
theorem dX10_laundry_64 : decode cX10_laundry 64 = .ok (.goto (-16), 3) := by decide +kernel
theorem dX10_laundry_67 : decode cX10_laundry 67 = .ok (.aload_n 0, 1) := by decide +kernel
theorem dX10_laundry_68 : decode cX10_laundry 68 = .ok (.getfield 19, 3) := by decide +kernel
theorem dX10_laundry_71 : decode cX10_laundry 71 = .ok (.bipush 15, 2) := by decide +kernel
theorem dX10_laundry_73 : decode cX10_laundry 73 = .ok (.aload_n 0, 1) := by decide +kernel
theorem dX10_laundry_74 : decode cX10_laundry 74 = .ok (.getfield 28, 3) := by decide +kernel
theorem dX10_laundry_77 : decode cX10_laundry 77 = .ok (.iconst 3, 1) := by decide +kernel
theorem dX10_laundry_78 : decode cX10_laundry 78 = .ok (.iaload, 1) := by decide +kernel
theorem dX10_laundry_79 : decode cX10_laundry 79 = .ok (.bipush 48, 2) := by decide +kernel
theorem dX10_laundry_81 : decode cX10_laundry 81 = .ok (.isub, 1) := by decide +kernel
theorem dX10_laundry_82 : decode cX10_laundry 82 = .ok (.iastore, 1) := by decide +kernel
theorem dX10_laundry_83 : decode cX10_laundry 83 = .ok (.iconst 0, 1) := by decide +kernel
theorem dX10_laundry_84 : decode cX10_laundry 84 = .ok (.istore_n 1, 1) := by decide +kernel
theorem dX10_laundry_85 : decode cX10_laundry 85 = .ok (.iload_n 1, 1) := by decide +kernel
theorem dX10_laundry_86 : decode cX10_laundry 86 = .ok (.aload_n 0, 1) := by decide +kernel
theorem dX10_laundry_87 : decode cX10_laundry 87 = .ok (.getfield 101, 3) := by decide +kernel
theorem dX10_laundry_90 : decode cX10_laundry 90 = .ok (.if_icmp .ge 67, 3) := by decide +kernel
theorem dX10_laundry_93 : decode cX10_laundry 93 = .ok (.aload_n 0, 1) := by decide +kernel
theorem dX10_laundry_94 : decode cX10_laundry 94 = .ok (.getfield 19, 3) := by decide +kernel
theorem dX10_laundry_97 : decode cX10_laundry 97 = .ok (.iload_n 1, 1) := by decide +kernel
theorem dX10_laundry_98 : decode cX10_laundry 98 = .ok (.aload_n 0, 1) := by decide +kernel
theorem dX10_laundry_99 : decode cX10_laundry 99 = .ok (.getfield 22, 3) := by decide +kernel
theorem dX10_laundry_102 : decode cX10_laundry 102 = .ok (.iconst 3, 1) := by decide +kernel
theorem dX10_laundry_103 : decode cX10_laundry 103 = .ok (.iload_n 1, 1) := by decide +kernel
theorem dX10_laundry_104 : decode cX10_laundry 104 = .ok (.imul, 1) := by decide +kernel
theorem dX10_laundry_105 : decode cX10_laundry 105 = .ok (.iaload, 1) := by decide +kernel
theorem dX10_laundry_106 : decode cX10_laundry 106 = .ok (.iastore, 1) := by decide +kernel
theorem dX10_laundry_107 : decode cX10_laundry 107 = .ok (.aload_n 0, 1) := by decide +kernel
theorem dX10_laundry_108 : decode cX10_laundry 108 = .ok (.getfield 7, 3) := by decide +kernel
theorem dX10_laundry_111 : decode cX10_laundry 111 = .ok (.iload_n 1, 1) := by decide +kernel
theorem dX10_laundry_112 : decode cX10_laundry 112 = .ok (.aload_n 0, 1) := by decide +kernel
theorem dX10_laundry_113 : decode cX10_laundry 113 = .ok (.getfield 22, 3) := by decide +kernel
theorem dX10_laundry_116 : decode cX10_laundry 116 = .ok (.iconst 3, 1) := by decide +kernel
theorem dX10_laundry_117 : decode cX10_laundry 117 = .ok (.iload_n 1, 1) := by decide +kernel
theorem dX10_laundry_118 : decode cX10_laundry 118 = .ok (.imul, 1) := by decide +kernel
theorem dX10_laundry_119 : decode cX10_laundry 119 = .ok (.iconst 1, 1) := by decide +kernel
theorem dX10_laundry_120 : decode cX10_laundry 120 = .ok (.iadd, 1) := by decide +kernel
theorem dX10_laundry_121 : decode cX10_laundry 121 = .ok (.iaload, 1) := by decide +kernel
theorem dX10_laundry_122 : decode cX10_laundry 122 = .ok (.iastore, 1) := by decide +kernel
theorem dX10_laundry_123 : decode cX10_laundry 123 = .ok (.aload_n 0, 1) := by decide +kernel
theorem dX10_laundry_124 : decode cX10_laundry 124 = .ok (.getfield 13, 3) := by decide +kernel
theorem dX10_laundry_127 : decode cX10_laundry 127 = .ok (.iload_n 1, 1) := by decide +kernel
theorem dX10_laundry_128 : decode cX10_laundry 128 = .ok (.aload_n 0, 1) := by decide +kernel
theorem dX10_laundry_129 : decode cX10_laundry 129 = .ok (.getfield 22, 3) := by decide +kernel
theorem dX10_laundry_132 : decode cX10_laundry 132 = .ok (.iconst 3, 1) := by decide +kernel
theorem dX10_laundry_133 : decode cX10_laundry 133 = .ok (.iload_n 1, 1) := by decide +kernel
theorem dX10_laundry_134 : decode cX10_laundry 134 = .ok (.imul, 1) := by decide +kernel
theorem dX10_laundry_135 : decode cX10_laundry 135 = .ok (.iconst 2, 1) := by decide +kernel
theorem dX10_laundry_136 : decode cX10_laundry 136 = .ok (.iadd, 1) := by decide +kernel
theorem dX10_laundry_137 : decode cX10_laundry 137 = .ok (.iaload, 1) := by decide +kernel
theorem dX10_laundry_138 : decode cX10_laundry 138 = .ok (.iastore, 1) := by decide +kernel
theorem dX10_laundry_139 : decode cX10_laundry 139 = .ok (.aload_n 0, 1) := by decide +kernel
theorem dX10_laundry_140 : decode cX10_laundry 140 = .ok (.getfield 16, 3) := by decide +kernel
theorem dX10_laundry_143 : decode cX10_laundry 143 = .ok (.iload_n 1, 1) := by decide +kernel
theorem dX10_laundry_144 : decode cX10_laundry 144 = .ok (.aload_n 0, 1) := by decide +kernel
theorem dX10_laundry_145 : decode cX10_laundry 145 = .ok (.getfield 25, 3) := by decide +kernel
theorem dX10_laundry_148 : decode cX10_laundry 148 = .ok (.iload_n 1, 1) := by decide +kernel
theorem dX10_laundry_149 : decode cX10_laundry 149 = .ok (.iaload, 1) := by decide +kernel
theorem dX10_laundry_150 : decode cX10_laundry 150 = .ok (.iastore, 1) := by decide +kernel
theorem dX10_laundry_151 : decode cX10_laundry 151 = .ok (.iinc 1 1, 3) := by decide +kernel
theorem dX10_laundry_154 : decode cX10_laundry 154 = .ok (.goto (-69), 3) := by decide +kernel
theorem dX10_laundry_157 : decode cX10_laundry 157 = .ok (.aload_n 0, 1) := by decide +kernel
theorem dX10_laundry_158 : decode cX10_laundry 158 = .ok (.iconst 0, 1) := by decide +kernel
theorem dX10_laundry_159 : decode cX10_laundry 159 = .ok (.putfield 104, 3) := by decide +kernel
theorem dX10_laundry_162 : decode cX10_laundry 162 = .ok (.aload_n 0, 1) := by decide +kernel
theorem dX10_laundry_163 : decode cX10_laundry 163 = .ok (.getfield 43, 3) := by decide +kernel
theorem dX10_laundry_166 : decode cX10_laundry 166 = .ok (.iconst 0, 1) := by decide +kernel
theorem dX10_laundry_167 : decode cX10_laundry 167 = .ok (.iconst 0, 1) := by decide +kernel
theorem dX10_laundry_168 : decode cX10_laundry 168 = .ok (.bastore, 1) := by decide +kernel
theorem dX10_laundry_169 : decode cX10_laundry 169 = .ok (.aload_n 0, 1) := by decide +kernel
theorem dX10_laundry_170 : decode cX10_laundry 170 = .ok (.getfield 43, 3) := by decide +kernel
theorem dX10_laundry_173 : decode cX10_laundry 173 = .ok (.iconst 1, 1) := by decide +kernel
theorem dX10_laundry_174 : decode cX10_laundry 174 = .ok (.iconst 0, 1) := by decide +kernel
theorem dX10_laundry_175 : decode cX10_laundry 175 = .ok (.bastore, 1) := by decide +kernel
theorem dX10_laundry_176 : decode cX10_laundry 176 = .ok (.aload_n 0, 1) := by decide +kernel
theorem dX10_laundry_177 : decode cX10_laundry 177 = .ok (.getfield 101, 3) := by decide +kernel
theorem dX10_laundry_180 : decode cX10_laundry 180 = .ok (.ireturn, 1) := by decide +kernel
set_option maxRecDepth 20000 in
theorem ggX10_isFlag_X10_in : GoodIn wsX10_isFlag wsX10_in := goodIn_r _ [5] (by decide +kernel) (by decide +kernel)
set_option maxRecDepth 20000 in
theorem gX10_isFlag_X10_in : GoodIn wsX10_isFlag (va_wsS RX10 59 yX10_in wsX10_in) := goodIn_app (goodIn_of _ (by decide +kernel)) ggX10_isFlag_X10_in
theorem dX10_isFlag_0 : decode cX10_isFlag 0 = .ok (.iload_n 1, 1) := by decide +kernel
theorem dX10_isFlag_1 : decode cX10_isFlag 1 = .ok (.i2l, 1) := by decide +kernel
theorem dX10_isFlag_2 : decode cX10_isFlag 2 = .ok (.lconst 0, 1) := by decide +kernel
theorem dX10_isFlag_3 : decode cX10_isFlag 3 = .ok (.aload_n 0, 1) := by decide +kernel
theorem dX10_isFlag_4 : decode cX10_isFlag 4 = .ok (.getfield 101, 3) := by decide +kernel
theorem dX10_isFlag_7 : decode cX10_isFlag 7 = .ok (.iconst 1, 1) := by decide +kernel
theorem dX10_isFlag_8 : decode cX10_isFlag 8 = .ok (.isub, 1) := by decide +kernel
theorem dX10_isFlag_9 : decode cX10_isFlag 9 = .ok (.i2l, 1) := by decide +kernel
theorem dX10_isFlag_10 : decode cX10_isFlag 10 = .ok (.invokestatic 59, 3) := by decide +kernel
theorem dX10_isFlag_13 : decode cX10_isFlag 13 = .ok (.ireturn, 1) := by decide +kernel
theorem dX10_areIn_0 : decode cX10_areIn 0 = .ok (.iconst 0, 1) := by decide +kernel
theorem dX10_areIn_1 : decode cX10_areIn 1 = .ok (.istore_n 3, 1) := by decide +kernel
theorem dX10_areIn_2 : decode cX10_areIn 2 = .ok (.iconst 0, 1) := by decide +kernel
theorem dX10_areIn_3 : decode cX10_areIn 3 = .ok (.istore 4, 2) := by decide +kernel
theorem dX10_areIn_5 : decode cX10_areIn 5 = .ok (.iload 4, 2) := by decide +kernel
theorem dX10_areIn_7 : decode cX10_areIn 7 = .ok (.aload_n 0, 1) := by decide +kernel
theorem dX10_areIn_8 : decode cX10_areIn 8 = .ok (.getfield 101, 3) := by decide +kernel
theorem dX10_areIn_11 : decode cX10_areIn 11 = .ok (.if_icmp .ge 38, 3) := by decide +kernel
theorem dX10_areIn_14 : decode cX10_areIn 14 = .ok (.iload_n 3, 1) := by decide +kernel
theorem dX10_areIn_15 : decode cX10_areIn 15 = .ok (.aload_n 0, 1) := by decide +kernel
theorem dX10_areIn_16 : decode cX10_areIn 16 = .ok (.getfield 19, 3) := by decide +kernel
theorem dX10_areIn_19 : decode cX10_areIn 19 = .ok (.bipush 17, 2) := by decide +kernel
theorem dX10_areIn_21 : decode cX10_areIn 21 = .ok (.iload_n 1, 1) := by decide +kernel
theorem dX10_areIn_22 : decode cX10_areIn 22 = .ok (.imul, 1) := by decide +kernel
theorem dX10_areIn_23 : decode cX10_areIn 23 = .ok (.iconst 5, 1) := by decide +kernel
theorem dX10_areIn_24 : decode cX10_areIn 24 = .ok (.iadd, 1) := by decide +kernel
theorem dX10_areIn_25 : decode cX10_areIn 25 = .ok (.iload 4, 2) := by decide +kernel
theorem dX10_areIn_27 : decode cX10_areIn 27 = .ok (.iadd, 1) := by decide +kernel
theorem dX10_areIn_28 : decode cX10_areIn 28 = .ok (.iaload, 1) := by decide +kernel
theorem dX10_areIn_29 : decode cX10_areIn 29 = .ok (.iload_n 2, 1) := by decide +kernel
theorem dX10_areIn_30 : decode cX10_areIn 30 = .ok (.if_icmp .ne 10, 3) := by decide +kernel
theorem dX10_areIn_33 : decode cX10_areIn 33 = .ok (.iconst 1, 1) := by decide +kernel
theorem dX10_areIn_34 : decode cX10_areIn 34 = .ok (.iload 4, 2) := by decide +kernel
theorem dX10_areIn_36 : decode cX10_areIn 36 = .ok (.ishl, 1) := by decide +kernel
theorem dX10_areIn_37 : decode cX10_areIn 37 = .ok (.goto 4, 3) := by decide +kernel
theorem dX10_areIn_40 : decode cX10_areIn 40 = .ok (.iconst 0, 1) := by decide +kernel
theorem dX10_areIn_41 : decode cX10_areIn 41 = .ok (.ior, 1) := by decide +kernel
theorem dX10_areIn_42 : decode cX10_areIn 42 = .ok (.istore_n 3, 1) := by decide +kernel
theorem dX10_areIn_43 : decode cX10_areIn 43 = .ok (.iinc 4 1, 3) := by decide +kernel
theorem dX10_areIn_46 : decode cX10_areIn 46 = .ok (.goto (-41), 3) := by decide +kernel
theorem dX10_areIn_49 : decode cX10_areIn 49 = .ok (.iload_n 3, 1) := by decide +kernel
theorem dX10_areIn_50 : decode cX10_areIn 50 = .ok (.ireturn, 1) := by decide +kernel
set_option maxRecDepth 20000 in
theorem ggX10_free_X10_areIn : GoodIn wsX10_free wsX10_areIn := goodIn_r _ [7, 8, 9, 13, 14, 15, 16, 17, 18, 19, 20, 21, 22, 23, 24, 25, 26, 27, 28, 29, 30, 31, 32, 33, 34, 35, 36] (by decide +kernel) (by decide +kernel)
set_option maxRecDepth 20000 in
theorem gX10_free_X10_areIn : GoodIn wsX10_free (wsV RX10 107 RX10 yX10_areIn wsX10_areIn) := goodIn_app (goodIn_of _ (by decide +kernel)) ggX10_free_X10_areIn
set_option maxRecDepth 20000 in
theorem ggX10_free_X10_ones : GoodIn wsX10_free wsX10_ones := goodIn_r _ [12] (by decide +kernel) (by decide +kernel)
set_option maxRecDepth 20000 in
theorem gX10_free_X10_ones : GoodIn wsX10_free (va_wsS RX10 110 yX10_ones wsX10_ones) := goodIn_app (goodIn_of _ (by decide +kernel)) ggX10_free_X10_ones
theorem dX10_free_0 : decode cX10_free 0 = .ok (.iload_n 2, 1) := by decide +kernel
theorem dX10_free_1 : decode cX10_free 1 = .ok (.iconst 1, 1) := by decide +kernel
theorem dX10_free_2 : decode cX10_free 2 = .ok (.if_icmp .ne 10, 3) := by decide +kernel
theorem dX10_free_5 : decode cX10_free 5 = .ok (.aload_n 0, 1) := by decide +kernel
theorem dX10_free_6 : decode cX10_free 6 = .ok (.getfield 50, 3) := by decide +kernel
theorem dX10_free_9 : decode cX10_free 9 = .ok (.goto 7, 3) := by decide +kernel
theorem dX10_free_12 : decode cX10_free 12 = .ok (.aload_n 0, 1) := by decide +kernel
theorem dX10_free_13 : decode cX10_free 13 = .ok (.getfield 54, 3) := by decide +kernel
theorem dX10_free_16 : decode cX10_free 16 = .ok (.aload_n 0, 1) := by decide +kernel
theorem dX10_free_17 : decode cX10_free 17 = .ok (.iload_n 1, 1) := by decide +kernel
theorem dX10_free_18 : decode cX10_free 18 = .ok (.iload_n 2, 1) := by decide +kernel
theorem dX10_free_19 : decode cX10_free 19 = .ok (.invokevirtual 107, 3) := by decide +kernel
theorem dX10_free_22 : decode cX10_free 22 = .ok (.invokestatic 110, 3) := by decide +kernel
theorem dX10_free_25 : decode cX10_free 25 = .ok (.isub, 1) := by decide +kernel
theorem dX10_free_26 : decode cX10_free 26 = .ok (.ireturn, 1) := by decide +kernel
set_option maxRecDepth 20000 in
theorem ggX10_fights_X10_has : GoodIn wsX10_fights wsX10_has := goodIn_r _ [6] (by decide +kernel) (by decide +kernel)
set_option maxRecDepth 20000 in
theorem gX10_fights_X10_has : GoodIn wsX10_fights (va_wsS RX10 74 yX10_has wsX10_has) := goodIn_app (goodIn_of _ (by decide +kernel)) ggX10_fights_X10_has
set_option maxRecDepth 20000 in
theorem ggX10_fights_X10_ones : GoodIn wsX10_fights wsX10_ones := goodIn_r _ [9] (by decide +kernel) (by decide +kernel)
set_option maxRecDepth 20000 in
theorem gX10_fights_X10_ones : GoodIn wsX10_fights (va_wsS RX10 110 yX10_ones wsX10_ones) := goodIn_app (goodIn_of _ (by decide +kernel)) ggX10_fights_X10_ones
theorem dX10_fights_0 : decode cX10_fights 0 = .ok (.iconst 0, 1) := by decide +kernel
theorem dX10_fights_1 : decode cX10_fights 1 = .ok (.istore_n 2, 1) := by decide +kernel
theorem dX10_fights_2 : decode cX10_fights 2 = .ok (.iconst 0, 1) := by decide +kernel
theorem dX10_fights_3 : decode cX10_fights 3 = .ok (.istore_n 3, 1) := by decide +kernel
theorem dX10_fights_4 : decode cX10_fights 4 = .ok (.iload_n 3, 1) := by decide +kernel
theorem dX10_fights_5 : decode cX10_fights 5 = .ok (.aload_n 0, 1) := by decide +kernel
theorem dX10_fights_6 : decode cX10_fights 6 = .ok (.getfield 101, 3) := by decide +kernel
theorem dX10_fights_9 : decode cX10_fights 9 = .ok (.if_icmp .ge 41, 3) := by decide +kernel
theorem dX10_fights_12 : decode cX10_fights 12 = .ok (.iload_n 2, 1) := by decide +kernel
theorem dX10_fights_13 : decode cX10_fights 13 = .ok (.iload_n 1, 1) := by decide +kernel
theorem dX10_fights_14 : decode cX10_fights 14 = .ok (.iload_n 3, 1) := by decide +kernel
theorem dX10_fights_15 : decode cX10_fights 15 = .ok (.invokestatic 74, 3) := by decide +kernel
theorem dX10_fights_18 : decode cX10_fights 18 = .ok (.ifCond .eq 23, 3) := by decide +kernel
theorem dX10_fights_21 : decode cX10_fights 21 = .ok (.aload_n 0, 1) := by decide +kernel
theorem dX10_fights_22 : decode cX10_fights 22 = .ok (.getfield 16, 3) := by decide +kernel
theorem dX10_fights_25 : decode cX10_fights 25 = .ok (.iload_n 3, 1) := by decide +kernel
theorem dX10_fights_26 : decode cX10_fights 26 = .ok (.iaload, 1) := by decide +kernel
theorem dX10_fights_27 : decode cX10_fights 27 = .ok (.iload_n 1, 1) := by decide +kernel
theorem dX10_fights_28 : decode cX10_fights 28 = .ok (.iand, 1) := by decide +kernel
theorem dX10_fights_29 : decode cX10_fights 29 = .ok (.iconst 1, 1) := by decide +kernel
theorem dX10_fights_30 : decode cX10_fights 30 = .ok (.iload_n 3, 1) := by decide +kernel
theorem dX10_fights_31 : decode cX10_fights 31 = .ok (.ishl, 1) := by decide +kernel
theorem dX10_fights_32 : decode cX10_fights 32 = .ok (.iconst 1, 1) := by decide +kernel
theorem dX10_fights_33 : decode cX10_fights 33 = .ok (.isub, 1) := by decide +kernel
theorem dX10_fights_34 : decode cX10_fights 34 = .ok (.iand, 1) := by decide +kernel
theorem dX10_fights_35 : decode cX10_fights 35 = .ok (.invokestatic 110, 3) := by decide +kernel
theorem dX10_fights_38 : decode cX10_fights 38 = .ok (.goto 4, 3) := by decide +kernel
theorem dX10_fights_41 : decode cX10_fights 41 = .ok (.iconst 0, 1) := by decide +kernel
theorem dX10_fights_42 : decode cX10_fights 42 = .ok (.iadd, 1) := by decide +kernel
theorem dX10_fights_43 : decode cX10_fights 43 = .ok (.istore_n 2, 1) := by decide +kernel
theorem dX10_fights_44 : decode cX10_fights 44 = .ok (.iinc 3 1, 3) := by decide +kernel
theorem dX10_fights_47 : decode cX10_fights 47 = .ok (.goto (-43), 3) := by decide +kernel
theorem dX10_fights_50 : decode cX10_fights 50 = .ok (.iload_n 2, 1) := by decide +kernel
theorem dX10_fights_51 : decode cX10_fights 51 = .ok (.ireturn, 1) := by decide +kernel
theorem dX10_wetOf_0 : decode cX10_wetOf 0 = .ok (.aload_n 0, 1) := by decide +kernel
theorem dX10_wetOf_1 : decode cX10_wetOf 1 = .ok (.getfield 7, 3) := by decide +kernel
theorem dX10_wetOf_4 : decode cX10_wetOf 4 = .ok (.iload_n 1, 1) := by decide +kernel
theorem dX10_wetOf_5 : decode cX10_wetOf 5 = .ok (.iaload, 1) := by decide +kernel
theorem dX10_wetOf_6 : decode cX10_wetOf 6 = .ok (.iconst 1, 1) := by decide +kernel
theorem dX10_wetOf_7 : decode cX10_wetOf 7 = .ok (.if_icmp .ne 8, 3) := by decide +kernel
theorem dX10_wetOf_10 : decode cX10_wetOf 10 = .ok (.bipush 6, 2) := by decide +kernel
theorem dX10_wetOf_12 : decode cX10_wetOf 12 = .ok (.goto 18, 3) := by decide +kernel
theorem dX10_wetOf_15 : decode cX10_wetOf 15 = .ok (.aload_n 0, 1) := by decide +kernel
theorem dX10_wetOf_16 : decode cX10_wetOf 16 = .ok (.getfield 7, 3) := by decide +kernel
theorem dX10_wetOf_19 : decode cX10_wetOf 19 = .ok (.iload_n 1, 1) := by decide +kernel
theorem dX10_wetOf_20 : decode cX10_wetOf 20 = .ok (.iaload, 1) := by decide +kernel
theorem dX10_wetOf_21 : decode cX10_wetOf 21 = .ok (.iconst 2, 1) := by decide +kernel
theorem dX10_wetOf_22 : decode cX10_wetOf 22 = .ok (.if_icmp .ne 7, 3) := by decide +kernel
theorem dX10_wetOf_25 : decode cX10_wetOf 25 = .ok (.iconst 2, 1) := by decide +kernel
theorem dX10_wetOf_26 : decode cX10_wetOf 26 = .ok (.goto 4, 3) := by decide +kernel
theorem dX10_wetOf_29 : decode cX10_wetOf 29 = .ok (.iconst 4, 1) := by decide +kernel
theorem dX10_wetOf_30 : decode cX10_wetOf 30 = .ok (.ireturn, 1) := by decide +kernel
set_option maxRecDepth 20000 in
theorem ggX10_coloursOf_X10_has : GoodIn wsX10_coloursOf wsX10_has := goodIn_r _ [6] (by decide +kernel) (by decide +kernel)
set_option maxRecDepth 20000 in
theorem gX10_coloursOf_X10_has : GoodIn wsX10_coloursOf (va_wsS RX10 74 yX10_has wsX10_has) := goodIn_app (goodIn_of _ (by decide +kernel)) ggX10_coloursOf_X10_has
theorem dX10_coloursOf_0 : decode cX10_coloursOf 0 = .ok (.iconst 0, 1) := by decide +kernel
theorem dX10_coloursOf_1 : decode cX10_coloursOf 1 = .ok (.istore_n 3, 1) := by decide +kernel
theorem dX10_coloursOf_2 : decode cX10_coloursOf 2 = .ok (.iconst 0, 1) := by decide +kernel
theorem dX10_coloursOf_3 : decode cX10_coloursOf 3 = .ok (.istore 4, 2) := by decide +kernel
theorem dX10_coloursOf_5 : decode cX10_coloursOf 5 = .ok (.iload 4, 2) := by decide +kernel
theorem dX10_coloursOf_7 : decode cX10_coloursOf 7 = .ok (.aload_n 0, 1) := by decide +kernel
theorem dX10_coloursOf_8 : decode cX10_coloursOf 8 = .ok (.getfield 101, 3) := by decide +kernel
theorem dX10_coloursOf_11 : decode cX10_coloursOf 11 = .ok (.if_icmp .ge 37, 3) := by decide +kernel
theorem dX10_coloursOf_14 : decode cX10_coloursOf 14 = .ok (.iload_n 3, 1) := by decide +kernel
theorem dX10_coloursOf_15 : decode cX10_coloursOf 15 = .ok (.iload_n 2, 1) := by decide +kernel
theorem dX10_coloursOf_16 : decode cX10_coloursOf 16 = .ok (.iload 4, 2) := by decide +kernel
theorem dX10_coloursOf_18 : decode cX10_coloursOf 18 = .ok (.invokestatic 74, 3) := by decide +kernel
theorem dX10_coloursOf_21 : decode cX10_coloursOf 21 = .ok (.ifCond .eq 18, 3) := by decide +kernel
theorem dX10_coloursOf_24 : decode cX10_coloursOf 24 = .ok (.aload_n 0, 1) := by decide +kernel
theorem dX10_coloursOf_25 : decode cX10_coloursOf 25 = .ok (.getfield 19, 3) := by decide +kernel
theorem dX10_coloursOf_28 : decode cX10_coloursOf 28 = .ok (.bipush 17, 2) := by decide +kernel
theorem dX10_coloursOf_30 : decode cX10_coloursOf 30 = .ok (.iload_n 1, 1) := by decide +kernel
theorem dX10_coloursOf_31 : decode cX10_coloursOf 31 = .ok (.imul, 1) := by decide +kernel
theorem dX10_coloursOf_32 : decode cX10_coloursOf 32 = .ok (.iload 4, 2) := by decide +kernel
theorem dX10_coloursOf_34 : decode cX10_coloursOf 34 = .ok (.iadd, 1) := by decide +kernel
theorem dX10_coloursOf_35 : decode cX10_coloursOf 35 = .ok (.iaload, 1) := by decide +kernel
theorem dX10_coloursOf_36 : decode cX10_coloursOf 36 = .ok (.goto 4, 3) := by decide +kernel
theorem dX10_coloursOf_39 : decode cX10_coloursOf 39 = .ok (.iconst 0, 1) := by decide +kernel
theorem dX10_coloursOf_40 : decode cX10_coloursOf 40 = .ok (.ior, 1) := by decide +kernel
theorem dX10_coloursOf_41 : decode cX10_coloursOf 41 = .ok (.istore_n 3, 1) := by decide +kernel
theorem dX10_coloursOf_42 : decode cX10_coloursOf 42 = .ok (.iinc 4 1, 3) := by decide +kernel
theorem dX10_coloursOf_45 : decode cX10_coloursOf 45 = .ok (.goto (-40), 3) := by decide +kernel
theorem dX10_coloursOf_48 : decode cX10_coloursOf 48 = .ok (.iload_n 3, 1) := by decide +kernel
theorem dX10_coloursOf_49 : decode cX10_coloursOf 49 = .ok (.ireturn, 1) := by decide +kernel
set_option maxRecDepth 20000 in
theorem ggX10_passOn_X10_areIn : GoodIn wsX10_passOn wsX10_areIn := goodIn_r _ [8, 1, 2, 33, 34, 35, 36, 37, 38, 39, 40, 41, 42, 43, 44, 45, 46, 47, 48, 49, 50, 51, 52, 53, 54, 55, 56] (by decide +kernel) (by decide +kernel)
set_option maxRecDepth 20000 in
theorem gX10_passOn_X10_areIn : GoodIn wsX10_passOn (wsV RX10 107 RX10 yX10_areIn wsX10_areIn) := goodIn_app (goodIn_of _ (by decide +kernel)) ggX10_passOn_X10_areIn
set_option maxRecDepth 20000 in
theorem ggX10_passOn_X10_has : GoodIn wsX10_passOn wsX10_has := goodIn_r _ [11] (by decide +kernel) (by decide +kernel)
set_option maxRecDepth 20000 in
theorem gX10_passOn_X10_has : GoodIn wsX10_passOn (va_wsS RX10 74 yX10_has wsX10_has) := goodIn_app (goodIn_of _ (by decide +kernel)) ggX10_passOn_X10_has
set_option maxRecDepth 20000 in
theorem ggX10_passOn_X10_coloursOf : GoodIn wsX10_passOn wsX10_coloursOf := goodIn_r _ [15, 1, 2, 9, 10, 7, 11, 33, 34, 35, 36, 37, 38, 39, 40, 41, 42, 43, 44, 45, 46, 47, 48, 49, 50, 51, 52, 53, 54, 55, 56] (by decide +kernel) (by decide +kernel)
set_option maxRecDepth 20000 in
theorem gX10_passOn_X10_coloursOf : GoodIn wsX10_passOn (wsV RX10 113 RX10 yX10_coloursOf wsX10_coloursOf) := goodIn_app (goodIn_of _ (by decide +kernel)) ggX10_passOn_X10_coloursOf
set_option maxRecDepth 20000 in
theorem ggX10_passOn_X10_hangOn : GoodIn wsX10_passOn wsX10_hangOn := goodIn_r _ [19, 2, 20, 21, 22, 7, 23, 24, 25, 4, 5, 6, 8, 1, 26, 27, 28, 29, 30, 31, 32, 3, 33, 34, 35, 36, 37, 38, 39, 40, 41, 42, 43, 44, 45, 46, 47, 48, 49, 50, 51, 52, 53, 54, 55, 56] (by decide +kernel) (by decide +kernel)
set_option maxRecDepth 20000 in
theorem gX10_passOn_X10_hangOn : GoodIn wsX10_passOn (wsV RX10 116 RX10 yX10_hangOn wsX10_hangOn) := goodIn_app (goodIn_of _ (by decide +kernel)) ggX10_passOn_X10_hangOn
theorem dX10_passOn_0 : decode cX10_passOn 0 = .ok (.bipush 17, 2) := by decide +kernel
theorem dX10_passOn_2 : decode cX10_passOn 2 = .ok (.iload_n 1, 1) := by decide +kernel
theorem dX10_passOn_3 : decode cX10_passOn 3 = .ok (.imul, 1) := by decide +kernel
theorem dX10_passOn_4 : decode cX10_passOn 4 = .ok (.istore_n 2, 1) := by decide +kernel
theorem dX10_passOn_5 : decode cX10_passOn 5 = .ok (.iconst 0, 1) := by decide +kernel
theorem dX10_passOn_6 : decode cX10_passOn 6 = .ok (.istore_n 3, 1) := by decide +kernel
theorem dX10_passOn_7 : decode cX10_passOn 7 = .ok (.iconst 0, 1) := by decide +kernel
theorem dX10_passOn_8 : decode cX10_passOn 8 = .ok (.istore 4, 2) := by decide +kernel
theorem dX10_passOn_10 : decode cX10_passOn 10 = .ok (.iload 4, 2) := by decide +kernel
theorem dX10_passOn_12 : decode cX10_passOn 12 = .ok (.aload_n 0, 1) := by decide +kernel
theorem dX10_passOn_13 : decode cX10_passOn 13 = .ok (.getfield 101, 3) := by decide +kernel
theorem dX10_passOn_16 : decode cX10_passOn 16 = .ok (.if_icmp .ge 110, 3) := by decide +kernel
theorem dX10_passOn_19 : decode cX10_passOn 19 = .ok (.aload_n 0, 1) := by decide +kernel
theorem dX10_passOn_20 : decode cX10_passOn 20 = .ok (.getfield 19, 3) := by decide +kernel
theorem dX10_passOn_23 : decode cX10_passOn 23 = .ok (.iload_n 2, 1) := by decide +kernel
theorem dX10_passOn_24 : decode cX10_passOn 24 = .ok (.iconst 5, 1) := by decide +kernel
theorem dX10_passOn_25 : decode cX10_passOn 25 = .ok (.iadd, 1) := by decide +kernel
theorem dX10_passOn_26 : decode cX10_passOn 26 = .ok (.iload 4, 2) := by decide +kernel
theorem dX10_passOn_28 : decode cX10_passOn 28 = .ok (.iadd, 1) := by decide +kernel
theorem dX10_passOn_29 : decode cX10_passOn 29 = .ok (.iaload, 1) := by decide +kernel
theorem dX10_passOn_30 : decode cX10_passOn 30 = .ok (.iconst 2, 1) := by decide +kernel
theorem dX10_passOn_31 : decode cX10_passOn 31 = .ok (.if_icmp .ne 89, 3) := by decide +kernel
theorem dX10_passOn_34 : decode cX10_passOn 34 = .ok (.aload_n 0, 1) := by decide +kernel
theorem dX10_passOn_35 : decode cX10_passOn 35 = .ok (.getfield 19, 3) := by decide +kernel
theorem dX10_passOn_38 : decode cX10_passOn 38 = .ok (.iload_n 2, 1) := by decide +kernel
theorem dX10_passOn_39 : decode cX10_passOn 39 = .ok (.bipush 10, 2) := by decide +kernel
theorem dX10_passOn_41 : decode cX10_passOn 41 = .ok (.iadd, 1) := by decide +kernel
theorem dX10_passOn_42 : decode cX10_passOn 42 = .ok (.iload 4, 2) := by decide +kernel
theorem dX10_passOn_44 : decode cX10_passOn 44 = .ok (.iadd, 1) := by decide +kernel
theorem dX10_passOn_45 : decode cX10_passOn 45 = .ok (.iaload, 1) := by decide +kernel
theorem dX10_passOn_46 : decode cX10_passOn 46 = .ok (.iconst 1, 1) := by decide +kernel
theorem dX10_passOn_47 : decode cX10_passOn 47 = .ok (.isub, 1) := by decide +kernel
theorem dX10_passOn_48 : decode cX10_passOn 48 = .ok (.aload_n 0, 1) := by decide +kernel
theorem dX10_passOn_49 : decode cX10_passOn 49 = .ok (.getfield 19, 3) := by decide +kernel
theorem dX10_passOn_52 : decode cX10_passOn 52 = .ok (.iload_n 2, 1) := by decide +kernel
theorem dX10_passOn_53 : decode cX10_passOn 53 = .ok (.bipush 15, 2) := by decide +kernel
theorem dX10_passOn_55 : decode cX10_passOn 55 = .ok (.iadd, 1) := by decide +kernel
theorem dX10_passOn_56 : decode cX10_passOn 56 = .ok (.iaload, 1) := by decide +kernel
theorem dX10_passOn_57 : decode cX10_passOn 57 = .ok (.isub, 1) := by decide +kernel
theorem dX10_passOn_58 : decode cX10_passOn 58 = .ok (.istore 5, 2) := by decide +kernel
theorem dX10_passOn_60 : decode cX10_passOn 60 = .ok (.aload_n 0, 1) := by decide +kernel
theorem dX10_passOn_61 : decode cX10_passOn 61 = .ok (.getfield 19, 3) := by decide +kernel
theorem dX10_passOn_64 : decode cX10_passOn 64 = .ok (.iload_n 2, 1) := by decide +kernel
theorem dX10_passOn_65 : decode cX10_passOn 65 = .ok (.bipush 10, 2) := by decide +kernel
theorem dX10_passOn_67 : decode cX10_passOn 67 = .ok (.iadd, 1) := by decide +kernel
theorem dX10_passOn_68 : decode cX10_passOn 68 = .ok (.iload 4, 2) := by decide +kernel
theorem dX10_passOn_70 : decode cX10_passOn 70 = .ok (.iadd, 1) := by decide +kernel
theorem dX10_passOn_71 : decode cX10_passOn 71 = .ok (.iload 5, 2) := by decide +kernel
theorem dX10_passOn_73 : decode cX10_passOn 73 = .ok (.ifCond .ge 7, 3) := by decide +kernel
theorem dX10_passOn_76 : decode cX10_passOn 76 = .ok (.iconst 0, 1) := by decide +kernel
theorem dX10_passOn_77 : decode cX10_passOn 77 = .ok (.goto 5, 3) := by decide +kernel
theorem dX10_passOn_80 : decode cX10_passOn 80 = .ok (.iload 5, 2) := by decide +kernel
theorem dX10_passOn_82 : decode cX10_passOn 82 = .ok (.iastore, 1) := by decide +kernel
theorem dX10_passOn_83 : decode cX10_passOn 83 = .ok (.aload_n 0, 1) := by decide +kernel
theorem dX10_passOn_84 : decode cX10_passOn 84 = .ok (.getfield 19, 3) := by decide +kernel
theorem dX10_passOn_87 : decode cX10_passOn 87 = .ok (.iload_n 2, 1) := by decide +kernel
theorem dX10_passOn_88 : decode cX10_passOn 88 = .ok (.iconst 5, 1) := by decide +kernel
theorem dX10_passOn_89 : decode cX10_passOn 89 = .ok (.iadd, 1) := by decide +kernel
theorem dX10_passOn_90 : decode cX10_passOn 90 = .ok (.iload 4, 2) := by decide +kernel
theorem dX10_passOn_92 : decode cX10_passOn 92 = .ok (.iadd, 1) := by decide +kernel
theorem dX10_passOn_93 : decode cX10_passOn 93 = .ok (.iload 5, 2) := by decide +kernel
theorem dX10_passOn_95 : decode cX10_passOn 95 = .ok (.ifCond .le 7, 3) := by decide +kernel
theorem dX10_passOn_98 : decode cX10_passOn 98 = .ok (.iconst 2, 1) := by decide +kernel
theorem dX10_passOn_99 : decode cX10_passOn 99 = .ok (.goto 4, 3) := by decide +kernel
theorem dX10_passOn_102 : decode cX10_passOn 102 = .ok (.iconst 0, 1) := by decide +kernel
theorem dX10_passOn_103 : decode cX10_passOn 103 = .ok (.iastore, 1) := by decide +kernel
theorem dX10_passOn_104 : decode cX10_passOn 104 = .ok (.iload_n 3, 1) := by decide +kernel
theorem dX10_passOn_105 : decode cX10_passOn 105 = .ok (.iload 5, 2) := by decide +kernel
theorem dX10_passOn_107 : decode cX10_passOn 107 = .ok (.ifCond .le 7, 3) := by decide +kernel
theorem dX10_passOn_110 : decode cX10_passOn 110 = .ok (.iconst 0, 1) := by decide +kernel
theorem dX10_passOn_111 : decode cX10_passOn 111 = .ok (.goto 7, 3) := by decide +kernel
theorem dX10_passOn_114 : decode cX10_passOn 114 = .ok (.iconst 1, 1) := by decide +kernel
theorem dX10_passOn_115 : decode cX10_passOn 115 = .ok (.iload 4, 2) := by decide +kernel
theorem dX10_passOn_117 : decode cX10_passOn 117 = .ok (.ishl, 1) := by decide +kernel
theorem dX10_passOn_118 : decode cX10_passOn 118 = .ok (.ior, 1) := by decide +kernel
theorem dX10_passOn_119 : decode cX10_passOn 119 = .ok (.istore_n 3, 1) := by decide +kernel
theorem dX10_passOn_120 : decode cX10_passOn 120 = .ok (.iinc 4 1, 3) := by decide +kernel
theorem dX10_passOn_123 : decode cX10_passOn 123 = .ok (.goto (-113), 3) := by decide +kernel
theorem dX10_passOn_126 : decode cX10_passOn 126 = .ok (.aload_n 0, 1) := by decide +kernel
theorem dX10_passOn_127 : decode cX10_passOn 127 = .ok (.iload_n 1, 1) := by decide +kernel
theorem dX10_passOn_128 : decode cX10_passOn 128 = .ok (.iconst 1, 1) := by decide +kernel
theorem dX10_passOn_129 : decode cX10_passOn 129 = .ok (.invokevirtual 107, 3) := by decide +kernel
theorem dX10_passOn_132 : decode cX10_passOn 132 = .ok (.istore 4, 2) := by decide +kernel
theorem dX10_passOn_134 : decode cX10_passOn 134 = .ok (.iconst 0, 1) := by decide +kernel
theorem dX10_passOn_135 : decode cX10_passOn 135 = .ok (.istore 5, 2) := by decide +kernel
theorem dX10_passOn_137 : decode cX10_passOn 137 = .ok (.iconst 0, 1) := by decide +kernel
theorem dX10_passOn_138 : decode cX10_passOn 138 = .ok (.istore 6, 2) := by decide +kernel
theorem dX10_passOn_140 : decode cX10_passOn 140 = .ok (.iload 6, 2) := by decide +kernel
theorem dX10_passOn_142 : decode cX10_passOn 142 = .ok (.aload_n 0, 1) := by decide +kernel
theorem dX10_passOn_143 : decode cX10_passOn 143 = .ok (.getfield 101, 3) := by decide +kernel
theorem dX10_passOn_146 : decode cX10_passOn 146 = .ok (.if_icmp .ge 43, 3) := by decide +kernel
theorem dX10_passOn_149 : decode cX10_passOn 149 = .ok (.iload 5, 2) := by decide +kernel
theorem dX10_passOn_151 : decode cX10_passOn 151 = .ok (.iload 4, 2) := by decide +kernel
theorem dX10_passOn_153 : decode cX10_passOn 153 = .ok (.iload 6, 2) := by decide +kernel
theorem dX10_passOn_155 : decode cX10_passOn 155 = .ok (.invokestatic 74, 3) := by decide +kernel
theorem dX10_passOn_158 : decode cX10_passOn 158 = .ok (.ifCond .eq 21, 3) := by decide +kernel
theorem dX10_passOn_161 : decode cX10_passOn 161 = .ok (.aload_n 0, 1) := by decide +kernel
theorem dX10_passOn_162 : decode cX10_passOn 162 = .ok (.getfield 7, 3) := by decide +kernel
theorem dX10_passOn_165 : decode cX10_passOn 165 = .ok (.iload 6, 2) := by decide +kernel
theorem dX10_passOn_167 : decode cX10_passOn 167 = .ok (.iaload, 1) := by decide +kernel
theorem dX10_passOn_168 : decode cX10_passOn 168 = .ok (.iconst 3, 1) := by decide +kernel
theorem dX10_passOn_169 : decode cX10_passOn 169 = .ok (.if_icmp .ne 10, 3) := by decide +kernel
theorem dX10_passOn_172 : decode cX10_passOn 172 = .ok (.iconst 1, 1) := by decide +kernel
theorem dX10_passOn_173 : decode cX10_passOn 173 = .ok (.iload 6, 2) := by decide +kernel
theorem dX10_passOn_175 : decode cX10_passOn 175 = .ok (.ishl, 1) := by decide +kernel
theorem dX10_passOn_176 : decode cX10_passOn 176 = .ok (.goto 4, 3) := by decide +kernel
theorem dX10_passOn_179 : decode cX10_passOn 179 = .ok (.iconst 0, 1) := by decide +kernel
theorem dX10_passOn_180 : decode cX10_passOn 180 = .ok (.ior, 1) := by decide +kernel
theorem dX10_passOn_181 : decode cX10_passOn 181 = .ok (.istore 5, 2) := by decide +kernel
theorem dX10_passOn_183 : decode cX10_passOn 183 = .ok (.iinc 6 1, 3) := by decide +kernel
theorem dX10_passOn_186 : decode cX10_passOn 186 = .ok (.goto (-46), 3) := by decide +kernel
theorem dX10_passOn_189 : decode cX10_passOn 189 = .ok (.aload_n 0, 1) := by decide +kernel
theorem dX10_passOn_190 : decode cX10_passOn 190 = .ok (.iload_n 1, 1) := by decide +kernel
theorem dX10_passOn_191 : decode cX10_passOn 191 = .ok (.iload 5, 2) := by decide +kernel
theorem dX10_passOn_193 : decode cX10_passOn 193 = .ok (.invokevirtual 113, 3) := by decide +kernel
theorem dX10_passOn_196 : decode cX10_passOn 196 = .ok (.istore 6, 2) := by decide +kernel
theorem dX10_passOn_198 : decode cX10_passOn 198 = .ok (.iconst 0, 1) := by decide +kernel
theorem dX10_passOn_199 : decode cX10_passOn 199 = .ok (.istore 7, 2) := by decide +kernel
theorem dX10_passOn_201 : decode cX10_passOn 201 = .ok (.iload 7, 2) := by decide +kernel
theorem dX10_passOn_203 : decode cX10_passOn 203 = .ok (.aload_n 0, 1) := by decide +kernel
theorem dX10_passOn_204 : decode cX10_passOn 204 = .ok (.getfield 101, 3) := by decide +kernel
theorem dX10_passOn_207 : decode cX10_passOn 207 = .ok (.if_icmp .ge 75, 3) := by decide +kernel
theorem dX10_passOn_210 : decode cX10_passOn 210 = .ok (.iload 4, 2) := by decide +kernel
theorem dX10_passOn_212 : decode cX10_passOn 212 = .ok (.iload 7, 2) := by decide +kernel
theorem dX10_passOn_214 : decode cX10_passOn 214 = .ok (.invokestatic 74, 3) := by decide +kernel
theorem dX10_passOn_217 : decode cX10_passOn 217 = .ok (.ifCond .eq 59, 3) := by decide +kernel
theorem dX10_passOn_220 : decode cX10_passOn 220 = .ok (.aload_n 0, 1) := by decide +kernel
theorem dX10_passOn_221 : decode cX10_passOn 221 = .ok (.getfield 19, 3) := by decide +kernel
theorem dX10_passOn_224 : decode cX10_passOn 224 = .ok (.iload_n 2, 1) := by decide +kernel
theorem dX10_passOn_225 : decode cX10_passOn 225 = .ok (.iload 7, 2) := by decide +kernel
theorem dX10_passOn_227 : decode cX10_passOn 227 = .ok (.iadd, 1) := by decide +kernel
theorem dX10_passOn_228 : decode cX10_passOn 228 = .ok (.dup2, 1) := by decide +kernel
theorem dX10_passOn_229 : decode cX10_passOn 229 = .ok (.iaload, 1) := by decide +kernel
theorem dX10_passOn_230 : decode cX10_passOn 230 = .ok (.iload 6, 2) := by decide +kernel
theorem dX10_passOn_232 : decode cX10_passOn 232 = .ok (.ior, 1) := by decide +kernel
theorem dX10_passOn_233 : decode cX10_passOn 233 = .ok (.iastore, 1) := by decide +kernel
theorem dX10_passOn_234 : decode cX10_passOn 234 = .ok (.aload_n 0, 1) := by decide +kernel
theorem dX10_passOn_235 : decode cX10_passOn 235 = .ok (.getfield 19, 3) := by decide +kernel
theorem dX10_passOn_238 : decode cX10_passOn 238 = .ok (.iload_n 2, 1) := by decide +kernel
theorem dX10_passOn_239 : decode cX10_passOn 239 = .ok (.bipush 10, 2) := by decide +kernel
theorem dX10_passOn_241 : decode cX10_passOn 241 = .ok (.iadd, 1) := by decide +kernel
theorem dX10_passOn_242 : decode cX10_passOn 242 = .ok (.iload 7, 2) := by decide +kernel
theorem dX10_passOn_244 : decode cX10_passOn 244 = .ok (.iadd, 1) := by decide +kernel
theorem dX10_passOn_245 : decode cX10_passOn 245 = .ok (.dup2, 1) := by decide +kernel
theorem dX10_passOn_246 : decode cX10_passOn 246 = .ok (.iaload, 1) := by decide +kernel
theorem dX10_passOn_247 : decode cX10_passOn 247 = .ok (.aload_n 0, 1) := by decide +kernel
theorem dX10_passOn_248 : decode cX10_passOn 248 = .ok (.getfield 19, 3) := by decide +kernel
theorem dX10_passOn_251 : decode cX10_passOn 251 = .ok (.iload_n 2, 1) := by decide +kernel
theorem dX10_passOn_252 : decode cX10_passOn 252 = .ok (.bipush 10, 2) := by decide +kernel
theorem dX10_passOn_254 : decode cX10_passOn 254 = .ok (.iadd, 1) := by decide +kernel
theorem dX10_passOn_255 : decode cX10_passOn 255 = .ok (.iload 7, 2) := by decide +kernel
theorem dX10_passOn_257 : decode cX10_passOn 257 = .ok (.iadd, 1) := by decide +kernel
theorem dX10_passOn_258 : decode cX10_passOn 258 = .ok (.iaload, 1) := by decide +kernel
theorem dX10_passOn_259 : decode cX10_passOn 259 = .ok (.ifCond .le 7, 3) := by decide +kernel
theorem dX10_passOn_262 : decode cX10_passOn 262 = .ok (.iconst 1, 1) := by decide +kernel
theorem dX10_passOn_263 : decode cX10_passOn 263 = .ok (.goto 4, 3) := by decide +kernel
theorem dX10_passOn_266 : decode cX10_passOn 266 = .ok (.iconst 0, 1) := by decide +kernel
theorem dX10_passOn_267 : decode cX10_passOn 267 = .ok (.isub, 1) := by decide +kernel
theorem dX10_passOn_268 : decode cX10_passOn 268 = .ok (.iastore, 1) := by decide +kernel
theorem dX10_passOn_269 : decode cX10_passOn 269 = .ok (.aload_n 0, 1) := by decide +kernel
theorem dX10_passOn_270 : decode cX10_passOn 270 = .ok (.iload_n 1, 1) := by decide +kernel
theorem dX10_passOn_271 : decode cX10_passOn 271 = .ok (.iload 7, 2) := by decide +kernel
theorem dX10_passOn_273 : decode cX10_passOn 273 = .ok (.invokevirtual 116, 3) := by decide +kernel
theorem dX10_passOn_276 : decode cX10_passOn 276 = .ok (.iinc 7 1, 3) := by decide +kernel
theorem dX10_passOn_279 : decode cX10_passOn 279 = .ok (.goto (-78), 3) := by decide +kernel
theorem dX10_passOn_282 : decode cX10_passOn 282 = .ok (.aload_n 0, 1) := by decide +kernel
theorem dX10_passOn_283 : decode cX10_passOn 283 = .ok (.getfield 19, 3) := by decide +kernel
theorem dX10_passOn_286 : decode cX10_passOn 286 = .ok (.iload_n 2, 1) := by decide +kernel
theorem dX10_passOn_287 : decode cX10_passOn 287 = .ok (.bipush 16, 2) := by decide +kernel
theorem dX10_passOn_289 : decode cX10_passOn 289 = .ok (.iadd, 1) := by decide +kernel
theorem dX10_passOn_290 : decode cX10_passOn 290 = .ok (.dup2, 1) := by decide +kernel
theorem dX10_passOn_291 : decode cX10_passOn 291 = .ok (.iaload, 1) := by decide +kernel
theorem dX10_passOn_292 : decode cX10_passOn 292 = .ok (.iconst 1, 1) := by decide +kernel
theorem dX10_passOn_293 : decode cX10_passOn 293 = .ok (.iadd, 1) := by decide +kernel
theorem dX10_passOn_294 : decode cX10_passOn 294 = .ok (.iastore, 1) := by decide +kernel
theorem dX10_passOn_295 : decode cX10_passOn 295 = .ok (.iload_n 3, 1) := by decide +kernel
theorem dX10_passOn_296 : decode cX10_passOn 296 = .ok (.ireturn, 1) := by decide +kernel
set_option maxRecDepth 20000 in
theorem ggX10_hangOn_X10_free : GoodIn wsX10_hangOn wsX10_free := goodIn_r _ [6, 7, 8, 9, 10, 11, 5, 12, 13, 1, 14, 15, 16, 22, 23, 24, 25, 26, 27, 28, 29, 30, 31, 32, 33, 34, 35, 36, 37, 38, 39, 40, 41, 42, 43, 44, 45] (by decide +kernel) (by decide +kernel)
set_option maxRecDepth 20000 in
theorem gX10_hangOn_X10_free : GoodIn wsX10_hangOn (wsV RX10 120 RX10 yX10_free wsX10_free) := goodIn_app (goodIn_of _ (by decide +kernel)) ggX10_hangOn_X10_free
set_option maxRecDepth 20000 in
theorem ggX10_hangOn_X10_wetOf : GoodIn wsX10_hangOn wsX10_wetOf := goodIn_r _ [20, 21, 22, 23, 24, 25, 26, 27, 28, 29, 30, 31, 32, 33, 34, 35, 36, 37, 38, 39, 40, 41, 42, 43, 44, 45] (by decide +kernel) (by decide +kernel)
set_option maxRecDepth 20000 in
theorem gX10_hangOn_X10_wetOf : GoodIn wsX10_hangOn (wsV RX10 123 RX10 yX10_wetOf wsX10_wetOf) := goodIn_app (goodIn_of _ (by decide +kernel)) ggX10_hangOn_X10_wetOf
theorem dX10_hangOn_0 : decode cX10_hangOn 0 = .ok (.aload_n 0, 1) := by decide +kernel
theorem dX10_hangOn_1 : decode cX10_hangOn 1 = .ok (.getfield 19, 3) := by decide +kernel
theorem dX10_hangOn_4 : decode cX10_hangOn 4 = .ok (.bipush 17, 2) := by decide +kernel
theorem dX10_hangOn_6 : decode cX10_hangOn 6 = .ok (.iload_n 1, 1) := by decide +kernel
theorem dX10_hangOn_7 : decode cX10_hangOn 7 = .ok (.imul, 1) := by decide +kernel
theorem dX10_hangOn_8 : decode cX10_hangOn 8 = .ok (.bipush 10, 2) := by decide +kernel
theorem dX10_hangOn_10 : decode cX10_hangOn 10 = .ok (.iadd, 1) := by decide +kernel
theorem dX10_hangOn_11 : decode cX10_hangOn 11 = .ok (.iload_n 2, 1) := by decide +kernel
theorem dX10_hangOn_12 : decode cX10_hangOn 12 = .ok (.iadd, 1) := by decide +kernel
theorem dX10_hangOn_13 : decode cX10_hangOn 13 = .ok (.iaload, 1) := by decide +kernel
theorem dX10_hangOn_14 : decode cX10_hangOn 14 = .ok (.ifCond .ne 45, 3) := by decide +kernel
theorem dX10_hangOn_17 : decode cX10_hangOn 17 = .ok (.aload_n 0, 1) := by decide +kernel
theorem dX10_hangOn_18 : decode cX10_hangOn 18 = .ok (.iload_n 1, 1) := by decide +kernel
theorem dX10_hangOn_19 : decode cX10_hangOn 19 = .ok (.iconst 2, 1) := by decide +kernel
theorem dX10_hangOn_20 : decode cX10_hangOn 20 = .ok (.invokevirtual 120, 3) := by decide +kernel
theorem dX10_hangOn_23 : decode cX10_hangOn 23 = .ok (.ifCond .le 36, 3) := by decide +kernel
theorem dX10_hangOn_26 : decode cX10_hangOn 26 = .ok (.aload_n 0, 1) := by decide +kernel
theorem dX10_hangOn_27 : decode cX10_hangOn 27 = .ok (.getfield 19, 3) := by decide +kernel
theorem dX10_hangOn_30 : decode cX10_hangOn 30 = .ok (.bipush 17, 2) := by decide +kernel
theorem dX10_hangOn_32 : decode cX10_hangOn 32 = .ok (.iload_n 1, 1) := by decide +kernel
theorem dX10_hangOn_33 : decode cX10_hangOn 33 = .ok (.imul, 1) := by decide +kernel
theorem dX10_hangOn_34 : decode cX10_hangOn 34 = .ok (.iconst 5, 1) := by decide +kernel
theorem dX10_hangOn_35 : decode cX10_hangOn 35 = .ok (.iadd, 1) := by decide +kernel
theorem dX10_hangOn_36 : decode cX10_hangOn 36 = .ok (.iload_n 2, 1) := by decide +kernel
theorem dX10_hangOn_37 : decode cX10_hangOn 37 = .ok (.iadd, 1) := by decide +kernel
theorem dX10_hangOn_38 : decode cX10_hangOn 38 = .ok (.iconst 2, 1) := by decide +kernel
theorem dX10_hangOn_39 : decode cX10_hangOn 39 = .ok (.iastore, 1) := by decide +kernel
theorem dX10_hangOn_40 : decode cX10_hangOn 40 = .ok (.aload_n 0, 1) := by decide +kernel
theorem dX10_hangOn_41 : decode cX10_hangOn 41 = .ok (.getfield 19, 3) := by decide +kernel
theorem dX10_hangOn_44 : decode cX10_hangOn 44 = .ok (.bipush 17, 2) := by decide +kernel
theorem dX10_hangOn_46 : decode cX10_hangOn 46 = .ok (.iload_n 1, 1) := by decide +kernel
theorem dX10_hangOn_47 : decode cX10_hangOn 47 = .ok (.imul, 1) := by decide +kernel
theorem dX10_hangOn_48 : decode cX10_hangOn 48 = .ok (.bipush 10, 2) := by decide +kernel
theorem dX10_hangOn_50 : decode cX10_hangOn 50 = .ok (.iadd, 1) := by decide +kernel
theorem dX10_hangOn_51 : decode cX10_hangOn 51 = .ok (.iload_n 2, 1) := by decide +kernel
theorem dX10_hangOn_52 : decode cX10_hangOn 52 = .ok (.iadd, 1) := by decide +kernel
theorem dX10_hangOn_53 : decode cX10_hangOn 53 = .ok (.aload_n 0, 1) := by decide +kernel
theorem dX10_hangOn_54 : decode cX10_hangOn 54 = .ok (.iload_n 2, 1) := by decide +kernel
theorem dX10_hangOn_55 : decode cX10_hangOn 55 = .ok (.invokevirtual 123, 3) := by decide +kernel
theorem dX10_hangOn_58 : decode cX10_hangOn 58 = .ok (.iastore, 1) := by decide +kernel
theorem dX10_hangOn_59 : decode cX10_hangOn 59 = .ok (.return_, 1) := by decide +kernel
set_option maxRecDepth 20000 in
theorem ggX10_canSend_X10_isFlag : GoodIn wsX10_canSend wsX10_isFlag := goodIn_r _ [6, 7, 8, 9, 5, 10, 24, 25, 26, 27, 28, 29, 30, 31, 32, 33, 34, 35, 36, 37, 38, 39, 40, 41, 42, 43, 44, 45, 46, 47] (by decide +kernel) (by decide +kernel)
set_option maxRecDepth 20000 in
theorem gX10_canSend_X10_isFlag : GoodIn wsX10_canSend (wsV RX10 126 RX10 yX10_isFlag wsX10_isFlag) := goodIn_app (goodIn_of _ (by decide +kernel)) ggX10_canSend_X10_isFlag
set_option maxRecDepth 20000 in
theorem ggX10_canSend_X10_free : GoodIn wsX10_canSend wsX10_free := goodIn_r _ [14, 15, 16, 17, 18, 19, 5, 20, 7, 1, 21, 22, 23, 24, 25, 26, 27, 28, 29, 30, 31, 32, 33, 34, 35, 36, 37, 38, 39, 40, 41, 42, 43, 44, 45, 46, 47] (by decide +kernel) (by decide +kernel)
set_option maxRecDepth 20000 in
theorem gX10_canSend_X10_free : GoodIn wsX10_canSend (wsV RX10 120 RX10 yX10_free wsX10_free) := goodIn_app (goodIn_of _ (by decide +kernel)) ggX10_canSend_X10_free
theorem dX10_canSend_0 : decode cX10_canSend 0 = .ok (.aload_n 0, 1) := by decide +kernel
theorem dX10_canSend_1 : decode cX10_canSend 1 = .ok (.iload_n 2, 1) := by decide +kernel
theorem dX10_canSend_2 : decode cX10_canSend 2 = .ok (.invokevirtual 126, 3) := by decide +kernel
theorem dX10_canSend_5 : decode cX10_canSend 5 = .ok (.ifCond .eq 32, 3) := by decide +kernel
theorem dX10_canSend_8 : decode cX10_canSend 8 = .ok (.aload_n 0, 1) := by decide +kernel
theorem dX10_canSend_9 : decode cX10_canSend 9 = .ok (.getfield 19, 3) := by decide +kernel
theorem dX10_canSend_12 : decode cX10_canSend 12 = .ok (.bipush 17, 2) := by decide +kernel
theorem dX10_canSend_14 : decode cX10_canSend 14 = .ok (.iload_n 1, 1) := by decide +kernel
theorem dX10_canSend_15 : decode cX10_canSend 15 = .ok (.imul, 1) := by decide +kernel
theorem dX10_canSend_16 : decode cX10_canSend 16 = .ok (.iconst 5, 1) := by decide +kernel
theorem dX10_canSend_17 : decode cX10_canSend 17 = .ok (.iadd, 1) := by decide +kernel
theorem dX10_canSend_18 : decode cX10_canSend 18 = .ok (.iload_n 2, 1) := by decide +kernel
theorem dX10_canSend_19 : decode cX10_canSend 19 = .ok (.iadd, 1) := by decide +kernel
theorem dX10_canSend_20 : decode cX10_canSend 20 = .ok (.iaload, 1) := by decide +kernel
theorem dX10_canSend_21 : decode cX10_canSend 21 = .ok (.ifCond .ne 16, 3) := by decide +kernel
theorem dX10_canSend_24 : decode cX10_canSend 24 = .ok (.aload_n 0, 1) := by decide +kernel
theorem dX10_canSend_25 : decode cX10_canSend 25 = .ok (.iload_n 1, 1) := by decide +kernel
theorem dX10_canSend_26 : decode cX10_canSend 26 = .ok (.iconst 1, 1) := by decide +kernel
theorem dX10_canSend_27 : decode cX10_canSend 27 = .ok (.invokevirtual 120, 3) := by decide +kernel
theorem dX10_canSend_30 : decode cX10_canSend 30 = .ok (.ifCond .le 7, 3) := by decide +kernel
theorem dX10_canSend_33 : decode cX10_canSend 33 = .ok (.iconst 1, 1) := by decide +kernel
theorem dX10_canSend_34 : decode cX10_canSend 34 = .ok (.goto 4, 3) := by decide +kernel
theorem dX10_canSend_37 : decode cX10_canSend 37 = .ok (.iconst 0, 1) := by decide +kernel
theorem dX10_canSend_38 : decode cX10_canSend 38 = .ok (.ireturn, 1) := by decide +kernel
theorem dX10_sendOn_0 : decode cX10_sendOn 0 = .ok (.aload_n 0, 1) := by decide +kernel
theorem dX10_sendOn_1 : decode cX10_sendOn 1 = .ok (.getfield 19, 3) := by decide +kernel
theorem dX10_sendOn_4 : decode cX10_sendOn 4 = .ok (.bipush 17, 2) := by decide +kernel
theorem dX10_sendOn_6 : decode cX10_sendOn 6 = .ok (.iload_n 1, 1) := by decide +kernel
theorem dX10_sendOn_7 : decode cX10_sendOn 7 = .ok (.imul, 1) := by decide +kernel
theorem dX10_sendOn_8 : decode cX10_sendOn 8 = .ok (.iconst 5, 1) := by decide +kernel
theorem dX10_sendOn_9 : decode cX10_sendOn 9 = .ok (.iadd, 1) := by decide +kernel
theorem dX10_sendOn_10 : decode cX10_sendOn 10 = .ok (.iload_n 2, 1) := by decide +kernel
theorem dX10_sendOn_11 : decode cX10_sendOn 11 = .ok (.iadd, 1) := by decide +kernel
theorem dX10_sendOn_12 : decode cX10_sendOn 12 = .ok (.iconst 1, 1) := by decide +kernel
theorem dX10_sendOn_13 : decode cX10_sendOn 13 = .ok (.iastore, 1) := by decide +kernel
theorem dX10_sendOn_14 : decode cX10_sendOn 14 = .ok (.aload_n 0, 1) := by decide +kernel
theorem dX10_sendOn_15 : decode cX10_sendOn 15 = .ok (.getfield 19, 3) := by decide +kernel
theorem dX10_sendOn_18 : decode cX10_sendOn 18 = .ok (.bipush 17, 2) := by decide +kernel
theorem dX10_sendOn_20 : decode cX10_sendOn 20 = .ok (.iload_n 1, 1) := by decide +kernel
theorem dX10_sendOn_21 : decode cX10_sendOn 21 = .ok (.imul, 1) := by decide +kernel
theorem dX10_sendOn_22 : decode cX10_sendOn 22 = .ok (.bipush 10, 2) := by decide +kernel
theorem dX10_sendOn_24 : decode cX10_sendOn 24 = .ok (.iadd, 1) := by decide +kernel
theorem dX10_sendOn_25 : decode cX10_sendOn 25 = .ok (.iload_n 2, 1) := by decide +kernel
theorem dX10_sendOn_26 : decode cX10_sendOn 26 = .ok (.iadd, 1) := by decide +kernel
theorem dX10_sendOn_27 : decode cX10_sendOn 27 = .ok (.aload_n 0, 1) := by decide +kernel
theorem dX10_sendOn_28 : decode cX10_sendOn 28 = .ok (.getfield 13, 3) := by decide +kernel
theorem dX10_sendOn_31 : decode cX10_sendOn 31 = .ok (.iload_n 2, 1) := by decide +kernel
theorem dX10_sendOn_32 : decode cX10_sendOn 32 = .ok (.iaload, 1) := by decide +kernel
theorem dX10_sendOn_33 : decode cX10_sendOn 33 = .ok (.iastore, 1) := by decide +kernel
theorem dX10_sendOn_34 : decode cX10_sendOn 34 = .ok (.return_, 1) := by decide +kernel
set_option maxRecDepth 20000 in
theorem ggX10_flag_X10_isFlag : GoodIn wsX10_flag wsX10_isFlag := goodIn_r _ [9, 10, 11, 12, 8, 13, 14, 15, 16, 17, 18, 19, 20, 21, 22, 23, 24, 25, 26, 27, 28, 29, 30, 31, 32, 33, 34, 35, 36, 37] (by decide +kernel) (by decide +kernel)
set_option maxRecDepth 20000 in
theorem gX10_flag_X10_isFlag : GoodIn wsX10_flag (wsV RX10 126 RX10 yX10_isFlag wsX10_isFlag) := goodIn_app (goodIn_of _ (by decide +kernel)) ggX10_flag_X10_isFlag
theorem dX10_flag_0 : decode cX10_flag 0 = .ok (.aload_n 0, 1) := by decide +kernel
theorem dX10_flag_1 : decode cX10_flag 1 = .ok (.iload_n 1, 1) := by decide +kernel
theorem dX10_flag_2 : decode cX10_flag 2 = .ok (.invokevirtual 126, 3) := by decide +kernel
theorem dX10_flag_5 : decode cX10_flag 5 = .ok (.ifCond .ne 5, 3) := by decide +kernel
theorem dX10_flag_8 : decode cX10_flag 8 = .ok (.iconst (-1), 1) := by decide +kernel
theorem dX10_flag_9 : decode cX10_flag 9 = .ok (.ireturn, 1) := by decide +kernel
theorem dX10_flag_10 : decode cX10_flag 10 = .ok (.iload_n 2, 1) := by decide +kernel
theorem dX10_flag_11 : decode cX10_flag 11 = .ok (.tableswitch 84 0 5 #[37, 44, 51, 58, 67, 77], 37) := by decide +kernel
theorem dX10_flag_48 : decode cX10_flag 48 = .ok (.aload_n 0, 1) := by decide +kernel
theorem dX10_flag_49 : decode cX10_flag 49 = .ok (.getfield 19, 3) := by decide +kernel
theorem dX10_flag_52 : decode cX10_flag 52 = .ok (.iload_n 1, 1) := by decide +kernel
theorem dX10_flag_53 : decode cX10_flag 53 = .ok (.iaload, 1) := by decide +kernel
theorem dX10_flag_54 : decode cX10_flag 54 = .ok (.ireturn, 1) := by decide +kernel
theorem dX10_flag_55 : decode cX10_flag 55 = .ok (.aload_n 0, 1) := by decide +kernel
theorem dX10_flag_56 : decode cX10_flag 56 = .ok (.getfield 7, 3) := by decide +kernel
theorem dX10_flag_59 : decode cX10_flag 59 = .ok (.iload_n 1, 1) := by decide +kernel
theorem dX10_flag_60 : decode cX10_flag 60 = .ok (.iaload, 1) := by decide +kernel
theorem dX10_flag_61 : decode cX10_flag 61 = .ok (.ireturn, 1) := by decide +kernel
theorem dX10_flag_62 : decode cX10_flag 62 = .ok (.aload_n 0, 1) := by decide +kernel
theorem dX10_flag_63 : decode cX10_flag 63 = .ok (.getfield 13, 3) := by decide +kernel
theorem dX10_flag_66 : decode cX10_flag 66 = .ok (.iload_n 1, 1) := by decide +kernel
theorem dX10_flag_67 : decode cX10_flag 67 = .ok (.iaload, 1) := by decide +kernel
theorem dX10_flag_68 : decode cX10_flag 68 = .ok (.ireturn, 1) := by decide +kernel
theorem dX10_flag_69 : decode cX10_flag 69 = .ok (.aload_n 0, 1) := by decide +kernel
theorem dX10_flag_70 : decode cX10_flag 70 = .ok (.getfield 19, 3) := by decide +kernel
theorem dX10_flag_73 : decode cX10_flag 73 = .ok (.iconst 5, 1) := by decide +kernel
theorem dX10_flag_74 : decode cX10_flag 74 = .ok (.iload_n 1, 1) := by decide +kernel
theorem dX10_flag_75 : decode cX10_flag 75 = .ok (.iadd, 1) := by decide +kernel
theorem dX10_flag_76 : decode cX10_flag 76 = .ok (.iaload, 1) := by decide +kernel
theorem dX10_flag_77 : decode cX10_flag 77 = .ok (.ireturn, 1) := by decide +kernel
theorem dX10_flag_78 : decode cX10_flag 78 = .ok (.aload_n 0, 1) := by decide +kernel
theorem dX10_flag_79 : decode cX10_flag 79 = .ok (.getfield 19, 3) := by decide +kernel
theorem dX10_flag_82 : decode cX10_flag 82 = .ok (.bipush 10, 2) := by decide +kernel
theorem dX10_flag_84 : decode cX10_flag 84 = .ok (.iload_n 1, 1) := by decide +kernel
theorem dX10_flag_85 : decode cX10_flag 85 = .ok (.iadd, 1) := by decide +kernel
theorem dX10_flag_86 : decode cX10_flag 86 = .ok (.iaload, 1) := by decide +kernel
theorem dX10_flag_87 : decode cX10_flag 87 = .ok (.ireturn, 1) := by decide +kernel
theorem dX10_flag_88 : decode cX10_flag 88 = .ok (.aload_n 0, 1) := by decide +kernel
theorem dX10_flag_89 : decode cX10_flag 89 = .ok (.getfield 16, 3) := by decide +kernel
theorem dX10_flag_92 : decode cX10_flag 92 = .ok (.iload_n 1, 1) := by decide +kernel
theorem dX10_flag_93 : decode cX10_flag 93 = .ok (.iaload, 1) := by decide +kernel
theorem dX10_flag_94 : decode cX10_flag 94 = .ok (.ireturn, 1) := by decide +kernel
theorem dX10_flag_95 : decode cX10_flag 95 = .ok (.bipush (-2), 2) := by decide +kernel
theorem dX10_flag_97 : decode cX10_flag 97 = .ok (.ireturn, 1) := by decide +kernel
theorem dX10_keepAct_0 : decode cX10_keepAct 0 = .ok (.iconst 0, 1) := by decide +kernel
theorem dX10_keepAct_1 : decode cX10_keepAct 1 = .ok (.istore_n 1, 1) := by decide +kernel
theorem dX10_keepAct_2 : decode cX10_keepAct 2 = .ok (.iload_n 1, 1) := by decide +kernel
theorem dX10_keepAct_3 : decode cX10_keepAct 3 = .ok (.bipush 17, 2) := by decide +kernel
theorem dX10_keepAct_5 : decode cX10_keepAct 5 = .ok (.if_icmp .ge 29, 3) := by decide +kernel
theorem dX10_keepAct_8 : decode cX10_keepAct 8 = .ok (.aload_n 0, 1) := by decide +kernel
theorem dX10_keepAct_9 : decode cX10_keepAct 9 = .ok (.getfield 31, 3) := by decide +kernel
theorem dX10_keepAct_12 : decode cX10_keepAct 12 = .ok (.bipush 17, 2) := by decide +kernel
theorem dX10_keepAct_14 : decode cX10_keepAct 14 = .ok (.aload_n 0, 1) := by decide +kernel
theorem dX10_keepAct_15 : decode cX10_keepAct 15 = .ok (.getfield 130, 3) := by decide +kernel
theorem dX10_keepAct_18 : decode cX10_keepAct 18 = .ok (.imul, 1) := by decide +kernel
theorem dX10_keepAct_19 : decode cX10_keepAct 19 = .ok (.iload_n 1, 1) := by decide +kernel
theorem dX10_keepAct_20 : decode cX10_keepAct 20 = .ok (.iadd, 1) := by decide +kernel
theorem dX10_keepAct_21 : decode cX10_keepAct 21 = .ok (.aload_n 0, 1) := by decide +kernel
theorem dX10_keepAct_22 : decode cX10_keepAct 22 = .ok (.getfield 19, 3) := by decide +kernel
theorem dX10_keepAct_25 : decode cX10_keepAct 25 = .ok (.iload_n 1, 1) := by decide +kernel
theorem dX10_keepAct_26 : decode cX10_keepAct 26 = .ok (.iaload, 1) := by decide +kernel
theorem dX10_keepAct_27 : decode cX10_keepAct 27 = .ok (.iastore, 1) := by decide +kernel
theorem dX10_keepAct_28 : decode cX10_keepAct 28 = .ok (.iinc 1 1, 3) := by decide +kernel
theorem dX10_keepAct_31 : decode cX10_keepAct 31 = .ok (.goto (-29), 3) := by decide +kernel
theorem dX10_keepAct_34 : decode cX10_keepAct 34 = .ok (.aload_n 0, 1) := by decide +kernel
theorem dX10_keepAct_35 : decode cX10_keepAct 35 = .ok (.aload_n 0, 1) := by decide +kernel
theorem dX10_keepAct_36 : decode cX10_keepAct 36 = .ok (.getfield 130, 3) := by decide +kernel
theorem dX10_keepAct_39 : decode cX10_keepAct 39 = .ok (.iconst 1, 1) := by decide +kernel
theorem dX10_keepAct_40 : decode cX10_keepAct 40 = .ok (.iadd, 1) := by decide +kernel
theorem dX10_keepAct_41 : decode cX10_keepAct 41 = .ok (.bipush 14, 2) := by decide +kernel
theorem dX10_keepAct_43 : decode cX10_keepAct 43 = .ok (.irem, 1) := by decide +kernel
theorem dX10_keepAct_44 : decode cX10_keepAct 44 = .ok (.putfield 130, 3) := by decide +kernel
theorem dX10_keepAct_47 : decode cX10_keepAct 47 = .ok (.aload_n 0, 1) := by decide +kernel
theorem dX10_keepAct_48 : decode cX10_keepAct 48 = .ok (.aload_n 0, 1) := by decide +kernel
theorem dX10_keepAct_49 : decode cX10_keepAct 49 = .ok (.getfield 104, 3) := by decide +kernel
theorem dX10_keepAct_52 : decode cX10_keepAct 52 = .ok (.bipush 14, 2) := by decide +kernel
theorem dX10_keepAct_54 : decode cX10_keepAct 54 = .ok (.if_icmp .ge 12, 3) := by decide +kernel
theorem dX10_keepAct_57 : decode cX10_keepAct 57 = .ok (.aload_n 0, 1) := by decide +kernel
theorem dX10_keepAct_58 : decode cX10_keepAct 58 = .ok (.getfield 104, 3) := by decide +kernel
theorem dX10_keepAct_61 : decode cX10_keepAct 61 = .ok (.iconst 1, 1) := by decide +kernel
theorem dX10_keepAct_62 : decode cX10_keepAct 62 = .ok (.iadd, 1) := by decide +kernel
theorem dX10_keepAct_63 : decode cX10_keepAct 63 = .ok (.goto 5, 3) := by decide +kernel
theorem dX10_keepAct_66 : decode cX10_keepAct 66 = .ok (.bipush 14, 2) := by decide +kernel
theorem dX10_keepAct_68 : decode cX10_keepAct 68 = .ok (.putfield 104, 3) := by decide +kernel
theorem dX10_keepAct_71 : decode cX10_keepAct 71 = .ok (.return_, 1) := by decide +kernel
set_option maxRecDepth 20000 in
theorem ggX10_send_X10_isFlag : GoodIn wsX10_send wsX10_isFlag := goodIn_r _ [5, 6, 7, 8, 4, 9, 40, 41, 42, 43, 44, 45, 46, 47, 48, 49, 50, 51, 52, 53, 54, 55, 56, 57, 58, 59, 60, 61, 62, 63] (by decide +kernel) (by decide +kernel)
set_option maxRecDepth 20000 in
theorem gX10_send_X10_isFlag : GoodIn wsX10_send (wsV RX10 126 RX10 yX10_isFlag wsX10_isFlag) := goodIn_app (goodIn_of _ (by decide +kernel)) ggX10_send_X10_isFlag
set_option maxRecDepth 20000 in
theorem ggX10_send_X10_canSend : GoodIn wsX10_send wsX10_canSend := goodIn_r _ [13, 14, 1, 2, 3, 4, 5, 6, 7, 8, 9, 15, 16, 17, 18, 19, 20, 21, 22, 23, 24, 25, 26, 27, 40, 41, 42, 43, 44, 45, 46, 47, 48, 49, 50, 51, 52, 53, 54, 55, 56, 57, 58, 59, 60, 61, 62, 63] (by decide +kernel) (by decide +kernel)
set_option maxRecDepth 20000 in
theorem gX10_send_X10_canSend : GoodIn wsX10_send (wsV RX10 133 RX10 yX10_canSend wsX10_canSend) := goodIn_app (goodIn_of _ (by decide +kernel)) ggX10_send_X10_canSend
set_option maxRecDepth 20000 in
theorem ggX10_send_X10_keepAct : GoodIn wsX10_send wsX10_keepAct := goodIn_r _ [31, 32, 33, 14, 34, 40, 41, 42, 43, 44, 45, 46, 47, 48, 49, 50, 51, 52, 53, 54, 55, 56, 57, 58, 59, 60, 61, 62, 63] (by decide +kernel) (by decide +kernel)
set_option maxRecDepth 20000 in
theorem gX10_send_X10_keepAct : GoodIn wsX10_send (wsV RX10 136 RX10 yX10_keepAct wsX10_keepAct) := goodIn_app (goodIn_of _ (by decide +kernel)) ggX10_send_X10_keepAct
set_option maxRecDepth 20000 in
theorem ggX10_send_X10_sendOn : GoodIn wsX10_send wsX10_sendOn := goodIn_r _ [38, 14, 39, 40, 41, 42, 43, 44, 45, 46, 47, 48, 49, 50, 51, 52, 53, 54, 55, 56, 57, 58, 59, 60, 61, 62, 63] (by decide +kernel) (by decide +kernel)
set_option maxRecDepth 20000 in
theorem gX10_send_X10_sendOn : GoodIn wsX10_send (wsV RX10 139 RX10 yX10_sendOn wsX10_sendOn) := goodIn_app (goodIn_of _ (by decide +kernel)) ggX10_send_X10_sendOn
set_option maxRecDepth 20000 in
theorem ggX10_send_X10_free : GoodIn wsX10_send wsX10_free := goodIn_r _ [18, 19, 20, 21, 22, 23, 4, 24, 6, 14, 25, 26, 27, 40, 41, 42, 43, 44, 45, 46, 47, 48, 49, 50, 51, 52, 53, 54, 55, 56, 57, 58, 59, 60, 61, 62, 63] (by decide +kernel) (by decide +kernel)
set_option maxRecDepth 20000 in
theorem gX10_send_X10_free : GoodIn wsX10_send (wsV RX10 120 RX10 yX10_free wsX10_free) := goodIn_app (goodIn_of _ (by decide +kernel)) ggX10_send_X10_free
theorem dX10_send_0 : decode cX10_send 0 = .ok (.aload_n 0, 1) := by decide +kernel
theorem dX10_send_1 : decode cX10_send 1 = .ok (.iload_n 1, 1) := by decide +kernel
theorem dX10_send_2 : decode cX10_send 2 = .ok (.invokevirtual 126, 3) := by decide +kernel
theorem dX10_send_5 : decode cX10_send 5 = .ok (.ifCond .ne 5, 3) := by decide +kernel
theorem dX10_send_8 : decode cX10_send 8 = .ok (.iconst (-1), 1) := by decide +kernel
theorem dX10_send_9 : decode cX10_send 9 = .ok (.ireturn, 1) := by decide +kernel
theorem dX10_send_10 : decode cX10_send 10 = .ok (.aload_n 0, 1) := by decide +kernel
theorem dX10_send_11 : decode cX10_send 11 = .ok (.iconst 0, 1) := by decide +kernel
theorem dX10_send_12 : decode cX10_send 12 = .ok (.iload_n 1, 1) := by decide +kernel
theorem dX10_send_13 : decode cX10_send 13 = .ok (.invokevirtual 133, 3) := by decide +kernel
theorem dX10_send_16 : decode cX10_send 16 = .ok (.ifCond .ne 6, 3) := by decide +kernel
theorem dX10_send_19 : decode cX10_send 19 = .ok (.bipush (-3), 2) := by decide +kernel
theorem dX10_send_21 : decode cX10_send 21 = .ok (.ireturn, 1) := by decide +kernel
theorem dX10_send_22 : decode cX10_send 22 = .ok (.aload_n 0, 1) := by decide +kernel
theorem dX10_send_23 : decode cX10_send 23 = .ok (.invokevirtual 136, 3) := by decide +kernel
theorem dX10_send_26 : decode cX10_send 26 = .ok (.aload_n 0, 1) := by decide +kernel
theorem dX10_send_27 : decode cX10_send 27 = .ok (.iconst 0, 1) := by decide +kernel
theorem dX10_send_28 : decode cX10_send 28 = .ok (.iload_n 1, 1) := by decide +kernel
theorem dX10_send_29 : decode cX10_send 29 = .ok (.invokevirtual 139, 3) := by decide +kernel
theorem dX10_send_32 : decode cX10_send 32 = .ok (.aload_n 0, 1) := by decide +kernel
theorem dX10_send_33 : decode cX10_send 33 = .ok (.iconst 0, 1) := by decide +kernel
theorem dX10_send_34 : decode cX10_send 34 = .ok (.iconst 1, 1) := by decide +kernel
theorem dX10_send_35 : decode cX10_send 35 = .ok (.invokevirtual 120, 3) := by decide +kernel
theorem dX10_send_38 : decode cX10_send 38 = .ok (.ireturn, 1) := by decide +kernel
theorem dX10_pullOn_0 : decode cX10_pullOn 0 = .ok (.aload_n 0, 1) := by decide +kernel
theorem dX10_pullOn_1 : decode cX10_pullOn 1 = .ok (.getfield 19, 3) := by decide +kernel
theorem dX10_pullOn_4 : decode cX10_pullOn 4 = .ok (.bipush 17, 2) := by decide +kernel
theorem dX10_pullOn_6 : decode cX10_pullOn 6 = .ok (.iload_n 1, 1) := by decide +kernel
theorem dX10_pullOn_7 : decode cX10_pullOn 7 = .ok (.imul, 1) := by decide +kernel
theorem dX10_pullOn_8 : decode cX10_pullOn 8 = .ok (.iconst 5, 1) := by decide +kernel
theorem dX10_pullOn_9 : decode cX10_pullOn 9 = .ok (.iadd, 1) := by decide +kernel
theorem dX10_pullOn_10 : decode cX10_pullOn 10 = .ok (.iload_n 2, 1) := by decide +kernel
theorem dX10_pullOn_11 : decode cX10_pullOn 11 = .ok (.iadd, 1) := by decide +kernel
theorem dX10_pullOn_12 : decode cX10_pullOn 12 = .ok (.iconst 0, 1) := by decide +kernel
theorem dX10_pullOn_13 : decode cX10_pullOn 13 = .ok (.iastore, 1) := by decide +kernel
theorem dX10_pullOn_14 : decode cX10_pullOn 14 = .ok (.aload_n 0, 1) := by decide +kernel
theorem dX10_pullOn_15 : decode cX10_pullOn 15 = .ok (.getfield 19, 3) := by decide +kernel
theorem dX10_pullOn_18 : decode cX10_pullOn 18 = .ok (.bipush 17, 2) := by decide +kernel
theorem dX10_pullOn_20 : decode cX10_pullOn 20 = .ok (.iload_n 1, 1) := by decide +kernel
theorem dX10_pullOn_21 : decode cX10_pullOn 21 = .ok (.imul, 1) := by decide +kernel
theorem dX10_pullOn_22 : decode cX10_pullOn 22 = .ok (.bipush 10, 2) := by decide +kernel
theorem dX10_pullOn_24 : decode cX10_pullOn 24 = .ok (.iadd, 1) := by decide +kernel
theorem dX10_pullOn_25 : decode cX10_pullOn 25 = .ok (.iload_n 2, 1) := by decide +kernel
theorem dX10_pullOn_26 : decode cX10_pullOn 26 = .ok (.iadd, 1) := by decide +kernel
theorem dX10_pullOn_27 : decode cX10_pullOn 27 = .ok (.iconst 0, 1) := by decide +kernel
theorem dX10_pullOn_28 : decode cX10_pullOn 28 = .ok (.iastore, 1) := by decide +kernel
theorem dX10_pullOn_29 : decode cX10_pullOn 29 = .ok (.return_, 1) := by decide +kernel
set_option maxRecDepth 20000 in
theorem ggX10_pull_X10_isFlag : GoodIn wsX10_pull wsX10_isFlag := goodIn_r _ [6, 7, 8, 9, 5, 10, 22, 23, 24, 25, 26, 27, 28, 29, 30, 31, 32, 33, 34, 35, 36, 37, 38, 39, 40, 41, 42, 43, 44, 45] (by decide +kernel) (by decide +kernel)
set_option maxRecDepth 20000 in
theorem gX10_pull_X10_isFlag : GoodIn wsX10_pull (wsV RX10 126 RX10 yX10_isFlag wsX10_isFlag) := goodIn_app (goodIn_of _ (by decide +kernel)) ggX10_pull_X10_isFlag
set_option maxRecDepth 20000 in
theorem ggX10_pull_X10_keepAct : GoodIn wsX10_pull wsX10_keepAct := goodIn_r _ [14, 15, 16, 1, 17, 22, 23, 24, 25, 26, 27, 28, 29, 30, 31, 32, 33, 34, 35, 36, 37, 38, 39, 40, 41, 42, 43, 44, 45] (by decide +kernel) (by decide +kernel)
set_option maxRecDepth 20000 in
theorem gX10_pull_X10_keepAct : GoodIn wsX10_pull (wsV RX10 136 RX10 yX10_keepAct wsX10_keepAct) := goodIn_app (goodIn_of _ (by decide +kernel)) ggX10_pull_X10_keepAct
set_option maxRecDepth 20000 in
theorem ggX10_pull_X10_pullOn : GoodIn wsX10_pull wsX10_pullOn := goodIn_r _ [21, 1, 22, 23, 24, 25, 26, 27, 28, 29, 30, 31, 32, 33, 34, 35, 36, 37, 38, 39, 40, 41, 42, 43, 44, 45] (by decide +kernel) (by decide +kernel)
set_option maxRecDepth 20000 in
theorem gX10_pull_X10_pullOn : GoodIn wsX10_pull (wsV RX10 142 RX10 yX10_pullOn wsX10_pullOn) := goodIn_app (goodIn_of _ (by decide +kernel)) ggX10_pull_X10_pullOn
theorem dX10_pull_0 : decode cX10_pull 0 = .ok (.aload_n 0, 1) := by decide +kernel
theorem dX10_pull_1 : decode cX10_pull 1 = .ok (.iload_n 1, 1) := by decide +kernel
theorem dX10_pull_2 : decode cX10_pull 2 = .ok (.invokevirtual 126, 3) := by decide +kernel
theorem dX10_pull_5 : decode cX10_pull 5 = .ok (.ifCond .ne 5, 3) := by decide +kernel
theorem dX10_pull_8 : decode cX10_pull 8 = .ok (.iconst (-1), 1) := by decide +kernel
theorem dX10_pull_9 : decode cX10_pull 9 = .ok (.ireturn, 1) := by decide +kernel
theorem dX10_pull_10 : decode cX10_pull 10 = .ok (.aload_n 0, 1) := by decide +kernel
theorem dX10_pull_11 : decode cX10_pull 11 = .ok (.getfield 19, 3) := by decide +kernel
theorem dX10_pull_14 : decode cX10_pull 14 = .ok (.iconst 5, 1) := by decide +kernel
theorem dX10_pull_15 : decode cX10_pull 15 = .ok (.iload_n 1, 1) := by decide +kernel
theorem dX10_pull_16 : decode cX10_pull 16 = .ok (.iadd, 1) := by decide +kernel
theorem dX10_pull_17 : decode cX10_pull 17 = .ok (.iaload, 1) := by decide +kernel
theorem dX10_pull_18 : decode cX10_pull 18 = .ok (.istore_n 2, 1) := by decide +kernel
theorem dX10_pull_19 : decode cX10_pull 19 = .ok (.iload_n 2, 1) := by decide +kernel
theorem dX10_pull_20 : decode cX10_pull 20 = .ok (.ifCond .ne 6, 3) := by decide +kernel
theorem dX10_pull_23 : decode cX10_pull 23 = .ok (.bipush (-3), 2) := by decide +kernel
theorem dX10_pull_25 : decode cX10_pull 25 = .ok (.ireturn, 1) := by decide +kernel
theorem dX10_pull_26 : decode cX10_pull 26 = .ok (.aload_n 0, 1) := by decide +kernel
theorem dX10_pull_27 : decode cX10_pull 27 = .ok (.invokevirtual 136, 3) := by decide +kernel
theorem dX10_pull_30 : decode cX10_pull 30 = .ok (.aload_n 0, 1) := by decide +kernel
theorem dX10_pull_31 : decode cX10_pull 31 = .ok (.iconst 0, 1) := by decide +kernel
theorem dX10_pull_32 : decode cX10_pull 32 = .ok (.iload_n 1, 1) := by decide +kernel
theorem dX10_pull_33 : decode cX10_pull 33 = .ok (.invokevirtual 142, 3) := by decide +kernel
theorem dX10_pull_36 : decode cX10_pull 36 = .ok (.iload_n 2, 1) := by decide +kernel
theorem dX10_pull_37 : decode cX10_pull 37 = .ok (.ireturn, 1) := by decide +kernel
set_option maxRecDepth 20000 in
theorem ggX10_hour_X10_keepAct : GoodIn wsX10_hour wsX10_keepAct := goodIn_r _ [5, 6, 7, 8, 9, 44, 45, 46, 47, 48, 49, 50, 51, 52, 53, 54, 55, 56, 57, 58, 59, 60, 61, 62, 63, 64, 65, 66, 67] (by decide +kernel) (by decide +kernel)
set_option maxRecDepth 20000 in
theorem gX10_hour_X10_keepAct : GoodIn wsX10_hour (wsV RX10 136 RX10 yX10_keepAct wsX10_keepAct) := goodIn_app (goodIn_of _ (by decide +kernel)) ggX10_hour_X10_keepAct
set_option maxRecDepth 20000 in
theorem ggX10_hour_X10_passOn : GoodIn wsX10_hour wsX10_passOn := goodIn_r _ [13, 14, 8, 15, 16, 17, 18, 4, 19, 20, 21, 22, 23, 24, 25, 26, 27, 28, 29, 30, 31, 32, 33, 34, 35, 36, 37, 38, 39, 40, 41, 42, 43, 44, 45, 46, 47, 48, 49, 50, 51, 52, 53, 54, 55, 56, 57, 58, 59, 60, 61, 62, 63, 64, 65, 66, 67] (by decide +kernel) (by decide +kernel)
set_option maxRecDepth 20000 in
theorem gX10_hour_X10_passOn : GoodIn wsX10_hour (wsV RX10 145 RX10 yX10_passOn wsX10_passOn) := goodIn_app (goodIn_of _ (by decide +kernel)) ggX10_hour_X10_passOn
theorem dX10_hour_0 : decode cX10_hour 0 = .ok (.aload_n 0, 1) := by decide +kernel
theorem dX10_hour_1 : decode cX10_hour 1 = .ok (.invokevirtual 136, 3) := by decide +kernel
theorem dX10_hour_4 : decode cX10_hour 4 = .ok (.aload_n 0, 1) := by decide +kernel
theorem dX10_hour_5 : decode cX10_hour 5 = .ok (.iconst 0, 1) := by decide +kernel
theorem dX10_hour_6 : decode cX10_hour 6 = .ok (.invokevirtual 145, 3) := by decide +kernel
theorem dX10_hour_9 : decode cX10_hour 9 = .ok (.ireturn, 1) := by decide +kernel
set_option maxRecDepth 20000 in
theorem ggX10_wind_X10_in : GoodIn wsX10_wind wsX10_in := goodIn_r _ [6] (by decide +kernel) (by decide +kernel)
set_option maxRecDepth 20000 in
theorem gX10_wind_X10_in : GoodIn wsX10_wind (va_wsS RX10 59 yX10_in wsX10_in) := goodIn_app (goodIn_of _ (by decide +kernel)) ggX10_wind_X10_in
set_option maxRecDepth 20000 in
theorem ggX10_wind_X10_keepAct : GoodIn wsX10_wind wsX10_keepAct := goodIn_r _ [10, 11, 12, 2, 13, 14, 15, 16, 17, 18, 19, 20, 21, 22, 23, 24, 25, 26, 27, 28, 29, 30, 31, 32, 33, 34, 35, 36, 37] (by decide +kernel) (by decide +kernel)
set_option maxRecDepth 20000 in
theorem gX10_wind_X10_keepAct : GoodIn wsX10_wind (wsV RX10 136 RX10 yX10_keepAct wsX10_keepAct) := goodIn_app (goodIn_of _ (by decide +kernel)) ggX10_wind_X10_keepAct
theorem dX10_wind_0 : decode cX10_wind 0 = .ok (.iload_n 1, 1) := by decide +kernel
theorem dX10_wind_1 : decode cX10_wind 1 = .ok (.i2l, 1) := by decide +kernel
theorem dX10_wind_2 : decode cX10_wind 2 = .ok (.lconst 0, 1) := by decide +kernel
theorem dX10_wind_3 : decode cX10_wind 3 = .ok (.ldc2_w 148, 3) := by decide +kernel
theorem dX10_wind_6 : decode cX10_wind 6 = .ok (.invokestatic 59, 3) := by decide +kernel
theorem dX10_wind_9 : decode cX10_wind 9 = .ok (.ifCond .ne 6, 3) := by decide +kernel
theorem dX10_wind_12 : decode cX10_wind 12 = .ok (.bipush (-2), 2) := by decide +kernel
theorem dX10_wind_14 : decode cX10_wind 14 = .ok (.ireturn, 1) := by decide +kernel
theorem dX10_wind_15 : decode cX10_wind 15 = .ok (.aload_n 0, 1) := by decide +kernel
theorem dX10_wind_16 : decode cX10_wind 16 = .ok (.getfield 19, 3) := by decide +kernel
theorem dX10_wind_19 : decode cX10_wind 19 = .ok (.bipush 15, 2) := by decide +kernel
theorem dX10_wind_21 : decode cX10_wind 21 = .ok (.iaload, 1) := by decide +kernel
theorem dX10_wind_22 : decode cX10_wind 22 = .ok (.istore_n 2, 1) := by decide +kernel
theorem dX10_wind_23 : decode cX10_wind 23 = .ok (.iload_n 2, 1) := by decide +kernel
theorem dX10_wind_24 : decode cX10_wind 24 = .ok (.iload_n 1, 1) := by decide +kernel
theorem dX10_wind_25 : decode cX10_wind 25 = .ok (.if_icmp .ne 6, 3) := by decide +kernel
theorem dX10_wind_28 : decode cX10_wind 28 = .ok (.bipush (-3), 2) := by decide +kernel
theorem dX10_wind_30 : decode cX10_wind 30 = .ok (.ireturn, 1) := by decide +kernel
theorem dX10_wind_31 : decode cX10_wind 31 = .ok (.aload_n 0, 1) := by decide +kernel
theorem dX10_wind_32 : decode cX10_wind 32 = .ok (.invokevirtual 136, 3) := by decide +kernel
theorem dX10_wind_35 : decode cX10_wind 35 = .ok (.aload_n 0, 1) := by decide +kernel
theorem dX10_wind_36 : decode cX10_wind 36 = .ok (.getfield 19, 3) := by decide +kernel
theorem dX10_wind_39 : decode cX10_wind 39 = .ok (.bipush 15, 2) := by decide +kernel
theorem dX10_wind_41 : decode cX10_wind 41 = .ok (.iload_n 1, 1) := by decide +kernel
theorem dX10_wind_42 : decode cX10_wind 42 = .ok (.iastore, 1) := by decide +kernel
theorem dX10_wind_43 : decode cX10_wind 43 = .ok (.iload_n 2, 1) := by decide +kernel
theorem dX10_wind_44 : decode cX10_wind 44 = .ok (.ireturn, 1) := by decide +kernel
theorem dX10_undo_0 : decode cX10_undo 0 = .ok (.aload_n 0, 1) := by decide +kernel
theorem dX10_undo_1 : decode cX10_undo 1 = .ok (.getfield 104, 3) := by decide +kernel
theorem dX10_undo_4 : decode cX10_undo 4 = .ok (.ifCond .ne 6, 3) := by decide +kernel
theorem dX10_undo_7 : decode cX10_undo 7 = .ok (.bipush (-3), 2) := by decide +kernel
theorem dX10_undo_9 : decode cX10_undo 9 = .ok (.ireturn, 1) := by decide +kernel
theorem dX10_undo_10 : decode cX10_undo 10 = .ok (.aload_n 0, 1) := by decide +kernel
theorem dX10_undo_11 : decode cX10_undo 11 = .ok (.dup, 1) := by decide +kernel
theorem dX10_undo_12 : decode cX10_undo 12 = .ok (.getfield 104, 3) := by decide +kernel
theorem dX10_undo_15 : decode cX10_undo 15 = .ok (.iconst 1, 1) := by decide +kernel
theorem dX10_undo_16 : decode cX10_undo 16 = .ok (.isub, 1) := by decide +kernel
theorem dX10_undo_17 : decode cX10_undo 17 = .ok (.putfield 104, 3) := by decide +kernel
theorem dX10_undo_20 : decode cX10_undo 20 = .ok (.aload_n 0, 1) := by decide +kernel
theorem dX10_undo_21 : decode cX10_undo 21 = .ok (.aload_n 0, 1) := by decide +kernel
theorem dX10_undo_22 : decode cX10_undo 22 = .ok (.getfield 130, 3) := by decide +kernel
theorem dX10_undo_25 : decode cX10_undo 25 = .ok (.bipush 13, 2) := by decide +kernel
theorem dX10_undo_27 : decode cX10_undo 27 = .ok (.iadd, 1) := by decide +kernel
theorem dX10_undo_28 : decode cX10_undo 28 = .ok (.bipush 14, 2) := by decide +kernel
theorem dX10_undo_30 : decode cX10_undo 30 = .ok (.irem, 1) := by decide +kernel
theorem dX10_undo_31 : decode cX10_undo 31 = .ok (.putfield 130, 3) := by decide +kernel
theorem dX10_undo_34 : decode cX10_undo 34 = .ok (.iconst 0, 1) := by decide +kernel
theorem dX10_undo_35 : decode cX10_undo 35 = .ok (.istore_n 1, 1) := by decide +kernel
theorem dX10_undo_36 : decode cX10_undo 36 = .ok (.iload_n 1, 1) := by decide +kernel
theorem dX10_undo_37 : decode cX10_undo 37 = .ok (.bipush 17, 2) := by decide +kernel
theorem dX10_undo_39 : decode cX10_undo 39 = .ok (.if_icmp .ge 29, 3) := by decide +kernel
theorem dX10_undo_42 : decode cX10_undo 42 = .ok (.aload_n 0, 1) := by decide +kernel
theorem dX10_undo_43 : decode cX10_undo 43 = .ok (.getfield 19, 3) := by decide +kernel
theorem dX10_undo_46 : decode cX10_undo 46 = .ok (.iload_n 1, 1) := by decide +kernel
theorem dX10_undo_47 : decode cX10_undo 47 = .ok (.aload_n 0, 1) := by decide +kernel
theorem dX10_undo_48 : decode cX10_undo 48 = .ok (.getfield 31, 3) := by decide +kernel
theorem dX10_undo_51 : decode cX10_undo 51 = .ok (.bipush 17, 2) := by decide +kernel
theorem dX10_undo_53 : decode cX10_undo 53 = .ok (.aload_n 0, 1) := by decide +kernel
theorem dX10_undo_54 : decode cX10_undo 54 = .ok (.getfield 130, 3) := by decide +kernel
theorem dX10_undo_57 : decode cX10_undo 57 = .ok (.imul, 1) := by decide +kernel
theorem dX10_undo_58 : decode cX10_undo 58 = .ok (.iload_n 1, 1) := by decide +kernel
theorem dX10_undo_59 : decode cX10_undo 59 = .ok (.iadd, 1) := by decide +kernel
theorem dX10_undo_60 : decode cX10_undo 60 = .ok (.iaload, 1) := by decide +kernel
theorem dX10_undo_61 : decode cX10_undo 61 = .ok (.iastore, 1) := by decide +kernel
theorem dX10_undo_62 : decode cX10_undo 62 = .ok (.iinc 1 1, 3) := by decide +kernel
theorem dX10_undo_65 : decode cX10_undo 65 = .ok (.goto (-29), 3) := by decide +kernel
theorem dX10_undo_68 : decode cX10_undo 68 = .ok (.aload_n 0, 1) := by decide +kernel
theorem dX10_undo_69 : decode cX10_undo 69 = .ok (.getfield 104, 3) := by decide +kernel
theorem dX10_undo_72 : decode cX10_undo 72 = .ok (.ireturn, 1) := by decide +kernel
theorem dX10_layTrial_0 : decode cX10_layTrial 0 = .ok (.iconst 0, 1) := by decide +kernel
theorem dX10_layTrial_1 : decode cX10_layTrial 1 = .ok (.istore_n 1, 1) := by decide +kernel
theorem dX10_layTrial_2 : decode cX10_layTrial 2 = .ok (.iload_n 1, 1) := by decide +kernel
theorem dX10_layTrial_3 : decode cX10_layTrial 3 = .ok (.bipush 17, 2) := by decide +kernel
theorem dX10_layTrial_5 : decode cX10_layTrial 5 = .ok (.if_icmp .ge 24, 3) := by decide +kernel
theorem dX10_layTrial_8 : decode cX10_layTrial 8 = .ok (.aload_n 0, 1) := by decide +kernel
theorem dX10_layTrial_9 : decode cX10_layTrial 9 = .ok (.getfield 19, 3) := by decide +kernel
theorem dX10_layTrial_12 : decode cX10_layTrial 12 = .ok (.bipush 17, 2) := by decide +kernel
theorem dX10_layTrial_14 : decode cX10_layTrial 14 = .ok (.iload_n 1, 1) := by decide +kernel
theorem dX10_layTrial_15 : decode cX10_layTrial 15 = .ok (.iadd, 1) := by decide +kernel
theorem dX10_layTrial_16 : decode cX10_layTrial 16 = .ok (.aload_n 0, 1) := by decide +kernel
theorem dX10_layTrial_17 : decode cX10_layTrial 17 = .ok (.getfield 19, 3) := by decide +kernel
theorem dX10_layTrial_20 : decode cX10_layTrial 20 = .ok (.iload_n 1, 1) := by decide +kernel
theorem dX10_layTrial_21 : decode cX10_layTrial 21 = .ok (.iaload, 1) := by decide +kernel
theorem dX10_layTrial_22 : decode cX10_layTrial 22 = .ok (.iastore, 1) := by decide +kernel
theorem dX10_layTrial_23 : decode cX10_layTrial 23 = .ok (.iinc 1 1, 3) := by decide +kernel
theorem dX10_layTrial_26 : decode cX10_layTrial 26 = .ok (.goto (-24), 3) := by decide +kernel
theorem dX10_layTrial_29 : decode cX10_layTrial 29 = .ok (.return_, 1) := by decide +kernel
set_option maxRecDepth 20000 in
theorem ggX10_quietOf_X10_areIn : GoodIn wsX10_quietOf wsX10_areIn := goodIn_r _ [5, 6, 7, 42, 43, 44, 45, 46, 47, 48, 49, 50, 51, 52, 53, 54, 55, 56, 57, 58, 59, 60, 61, 62, 63, 64, 65] (by decide +kernel) (by decide +kernel)
set_option maxRecDepth 20000 in
theorem gX10_quietOf_X10_areIn : GoodIn wsX10_quietOf (wsV RX10 107 RX10 yX10_areIn wsX10_areIn) := goodIn_app (goodIn_of _ (by decide +kernel)) ggX10_quietOf_X10_areIn
set_option maxRecDepth 20000 in
theorem ggX10_quietOf_X10_fights : GoodIn wsX10_quietOf wsX10_fights := goodIn_r _ [11, 6, 12, 13, 14, 4, 15, 16, 17, 18, 42, 43, 44, 45, 46, 47, 48, 49, 50, 51, 52, 53, 54, 55, 56, 57, 58, 59, 60, 61, 62, 63, 64, 65] (by decide +kernel) (by decide +kernel)
set_option maxRecDepth 20000 in
theorem gX10_quietOf_X10_fights : GoodIn wsX10_quietOf (wsV RX10 150 RX10 yX10_fights wsX10_fights) := goodIn_app (goodIn_of _ (by decide +kernel)) ggX10_quietOf_X10_fights
set_option maxRecDepth 20000 in
theorem ggX10_quietOf_X10_passOn : GoodIn wsX10_quietOf wsX10_passOn := goodIn_r _ [22, 6, 7, 23, 1, 2, 3, 4, 5, 13, 14, 15, 24, 25, 26, 27, 28, 29, 30, 31, 32, 33, 34, 35, 36, 37, 16, 17, 18, 38, 39, 40, 41, 42, 43, 44, 45, 46, 47, 48, 49, 50, 51, 52, 53, 54, 55, 56, 57, 58, 59, 60, 61, 62, 63, 64, 65] (by decide +kernel) (by decide +kernel)
set_option maxRecDepth 20000 in
theorem gX10_quietOf_X10_passOn : GoodIn wsX10_quietOf (wsV RX10 145 RX10 yX10_passOn wsX10_passOn) := goodIn_app (goodIn_of _ (by decide +kernel)) ggX10_quietOf_X10_passOn
theorem dX10_quietOf_0 : decode cX10_quietOf 0 = .ok (.iconst 0, 1) := by decide +kernel
theorem dX10_quietOf_1 : decode cX10_quietOf 1 = .ok (.istore_n 2, 1) := by decide +kernel
theorem dX10_quietOf_2 : decode cX10_quietOf 2 = .ok (.iload_n 2, 1) := by decide +kernel
theorem dX10_quietOf_3 : decode cX10_quietOf 3 = .ok (.bipush 40, 2) := by decide +kernel
theorem dX10_quietOf_5 : decode cX10_quietOf 5 = .ok (.if_icmp .gt 32, 3) := by decide +kernel
theorem dX10_quietOf_8 : decode cX10_quietOf 8 = .ok (.aload_n 0, 1) := by decide +kernel
theorem dX10_quietOf_9 : decode cX10_quietOf 9 = .ok (.aload_n 0, 1) := by decide +kernel
theorem dX10_quietOf_10 : decode cX10_quietOf 10 = .ok (.iconst 1, 1) := by decide +kernel
theorem dX10_quietOf_11 : decode cX10_quietOf 11 = .ok (.iconst 0, 1) := by decide +kernel
theorem dX10_quietOf_12 : decode cX10_quietOf 12 = .ok (.invokevirtual 107, 3) := by decide +kernel
theorem dX10_quietOf_15 : decode cX10_quietOf 15 = .ok (.iload_n 1, 1) := by decide +kernel
theorem dX10_quietOf_16 : decode cX10_quietOf 16 = .ok (.iand, 1) := by decide +kernel
theorem dX10_quietOf_17 : decode cX10_quietOf 17 = .ok (.invokevirtual 150, 3) := by decide +kernel
theorem dX10_quietOf_20 : decode cX10_quietOf 20 = .ok (.ifCond .le 5, 3) := by decide +kernel
theorem dX10_quietOf_23 : decode cX10_quietOf 23 = .ok (.iload_n 2, 1) := by decide +kernel
theorem dX10_quietOf_24 : decode cX10_quietOf 24 = .ok (.ireturn, 1) := by decide +kernel
theorem dX10_quietOf_25 : decode cX10_quietOf 25 = .ok (.aload_n 0, 1) := by decide +kernel
theorem dX10_quietOf_26 : decode cX10_quietOf 26 = .ok (.iconst 1, 1) := by decide +kernel
theorem dX10_quietOf_27 : decode cX10_quietOf 27 = .ok (.invokevirtual 145, 3) := by decide +kernel
theorem dX10_quietOf_30 : decode cX10_quietOf 30 = .ok (.pop, 1) := by decide +kernel
theorem dX10_quietOf_31 : decode cX10_quietOf 31 = .ok (.iinc 2 1, 3) := by decide +kernel
theorem dX10_quietOf_34 : decode cX10_quietOf 34 = .ok (.goto (-32), 3) := by decide +kernel
theorem dX10_quietOf_37 : decode cX10_quietOf 37 = .ok (.bipush (-9), 2) := by decide +kernel
theorem dX10_quietOf_39 : decode cX10_quietOf 39 = .ok (.ireturn, 1) := by decide +kernel
set_option maxRecDepth 20000 in
theorem ggX10_peace_X10_isFlag : GoodIn wsX10_peace wsX10_isFlag := goodIn_r _ [6, 7, 8, 9, 5, 10, 57, 58, 59, 60, 61, 62, 63, 64, 65, 66, 67, 68, 69, 70, 71, 72, 73, 74, 75, 76, 77, 78, 79, 80] (by decide +kernel) (by decide +kernel)
set_option maxRecDepth 20000 in
theorem gX10_peace_X10_isFlag : GoodIn wsX10_peace (wsV RX10 126 RX10 yX10_isFlag wsX10_isFlag) := goodIn_app (goodIn_of _ (by decide +kernel)) ggX10_peace_X10_isFlag
set_option maxRecDepth 20000 in
theorem ggX10_peace_X10_layTrial : GoodIn wsX10_peace wsX10_layTrial := goodIn_r _ [14, 15, 57, 58, 59, 60, 61, 62, 63, 64, 65, 66, 67, 68, 69, 70, 71, 72, 73, 74, 75, 76, 77, 78, 79, 80] (by decide +kernel) (by decide +kernel)
set_option maxRecDepth 20000 in
theorem gX10_peace_X10_layTrial : GoodIn wsX10_peace (wsV RX10 153 RX10 yX10_layTrial wsX10_layTrial) := goodIn_app (goodIn_of _ (by decide +kernel)) ggX10_peace_X10_layTrial
set_option maxRecDepth 20000 in
theorem ggX10_peace_X10_has : GoodIn wsX10_peace wsX10_has := goodIn_r _ [18] (by decide +kernel) (by decide +kernel)
set_option maxRecDepth 20000 in
theorem gX10_peace_X10_has : GoodIn wsX10_peace (va_wsS RX10 74 yX10_has wsX10_has) := goodIn_app (goodIn_of _ (by decide +kernel)) ggX10_peace_X10_has
set_option maxRecDepth 20000 in
theorem ggX10_peace_X10_quietOf : GoodIn wsX10_peace wsX10_quietOf := goodIn_r _ [22, 23, 24, 25, 5, 26, 7, 15, 27, 28, 29, 30, 1, 16, 17, 18, 31, 32, 33, 34, 35, 36, 37, 38, 39, 40, 41, 42, 43, 44, 45, 46, 47, 48, 49, 50, 51, 52, 53, 54, 55, 56, 57, 58, 59, 60, 61, 62, 63, 64, 65, 66, 67, 68, 69, 70, 71, 72, 73, 74, 75, 76, 77, 78, 79, 80] (by decide +kernel) (by decide +kernel)
set_option maxRecDepth 20000 in
theorem gX10_peace_X10_quietOf : GoodIn wsX10_peace (wsV RX10 156 RX10 yX10_quietOf wsX10_quietOf) := goodIn_app (goodIn_of _ (by decide +kernel)) ggX10_peace_X10_quietOf
theorem dX10_peace_0 : decode cX10_peace 0 = .ok (.aload_n 0, 1) := by decide +kernel
theorem dX10_peace_1 : decode cX10_peace 1 = .ok (.iload_n 1, 1) := by decide +kernel
theorem dX10_peace_2 : decode cX10_peace 2 = .ok (.invokevirtual 126, 3) := by decide +kernel
theorem dX10_peace_5 : decode cX10_peace 5 = .ok (.ifCond .eq 11, 3) := by decide +kernel
theorem dX10_peace_8 : decode cX10_peace 8 = .ok (.aload_n 0, 1) := by decide +kernel
theorem dX10_peace_9 : decode cX10_peace 9 = .ok (.iload_n 2, 1) := by decide +kernel
theorem dX10_peace_10 : decode cX10_peace 10 = .ok (.invokevirtual 126, 3) := by decide +kernel
theorem dX10_peace_13 : decode cX10_peace 13 = .ok (.ifCond .ne 5, 3) := by decide +kernel
theorem dX10_peace_16 : decode cX10_peace 16 = .ok (.iconst (-1), 1) := by decide +kernel
theorem dX10_peace_17 : decode cX10_peace 17 = .ok (.ireturn, 1) := by decide +kernel
theorem dX10_peace_18 : decode cX10_peace 18 = .ok (.iload_n 1, 1) := by decide +kernel
theorem dX10_peace_19 : decode cX10_peace 19 = .ok (.iload_n 2, 1) := by decide +kernel
theorem dX10_peace_20 : decode cX10_peace 20 = .ok (.if_icmp .ne 6, 3) := by decide +kernel
theorem dX10_peace_23 : decode cX10_peace 23 = .ok (.bipush (-2), 2) := by decide +kernel
theorem dX10_peace_25 : decode cX10_peace 25 = .ok (.ireturn, 1) := by decide +kernel
theorem dX10_peace_26 : decode cX10_peace 26 = .ok (.aload_n 0, 1) := by decide +kernel
theorem dX10_peace_27 : decode cX10_peace 27 = .ok (.invokevirtual 153, 3) := by decide +kernel
theorem dX10_peace_30 : decode cX10_peace 30 = .ok (.aload_n 0, 1) := by decide +kernel
theorem dX10_peace_31 : decode cX10_peace 31 = .ok (.getfield 16, 3) := by decide +kernel
theorem dX10_peace_34 : decode cX10_peace 34 = .ok (.iload_n 1, 1) := by decide +kernel
theorem dX10_peace_35 : decode cX10_peace 35 = .ok (.iaload, 1) := by decide +kernel
theorem dX10_peace_36 : decode cX10_peace 36 = .ok (.iload_n 2, 1) := by decide +kernel
theorem dX10_peace_37 : decode cX10_peace 37 = .ok (.invokestatic 74, 3) := by decide +kernel
theorem dX10_peace_40 : decode cX10_peace 40 = .ok (.ifCond .eq 17, 3) := by decide +kernel
theorem dX10_peace_43 : decode cX10_peace 43 = .ok (.aload_n 0, 1) := by decide +kernel
theorem dX10_peace_44 : decode cX10_peace 44 = .ok (.iconst 1, 1) := by decide +kernel
theorem dX10_peace_45 : decode cX10_peace 45 = .ok (.iload_n 1, 1) := by decide +kernel
theorem dX10_peace_46 : decode cX10_peace 46 = .ok (.ishl, 1) := by decide +kernel
theorem dX10_peace_47 : decode cX10_peace 47 = .ok (.iconst 1, 1) := by decide +kernel
theorem dX10_peace_48 : decode cX10_peace 48 = .ok (.iload_n 2, 1) := by decide +kernel
theorem dX10_peace_49 : decode cX10_peace 49 = .ok (.ishl, 1) := by decide +kernel
theorem dX10_peace_50 : decode cX10_peace 50 = .ok (.ior, 1) := by decide +kernel
theorem dX10_peace_51 : decode cX10_peace 51 = .ok (.invokevirtual 156, 3) := by decide +kernel
theorem dX10_peace_54 : decode cX10_peace 54 = .ok (.goto 5, 3) := by decide +kernel
theorem dX10_peace_57 : decode cX10_peace 57 = .ok (.bipush (-9), 2) := by decide +kernel
theorem dX10_peace_59 : decode cX10_peace 59 = .ok (.ireturn, 1) := by decide +kernel
set_option maxRecDepth 20000 in
theorem ggX10_quiet_X10_layTrial : GoodIn wsX10_quiet wsX10_layTrial := goodIn_r _ [5, 6, 50, 51, 52, 53, 54, 55, 56, 57, 58, 59, 60, 61, 62, 63, 64, 65, 66, 67, 68, 69, 70, 71, 72, 73] (by decide +kernel) (by decide +kernel)
set_option maxRecDepth 20000 in
theorem gX10_quiet_X10_layTrial : GoodIn wsX10_quiet (wsV RX10 153 RX10 yX10_layTrial wsX10_layTrial) := goodIn_app (goodIn_of _ (by decide +kernel)) ggX10_quiet_X10_layTrial
set_option maxRecDepth 20000 in
theorem ggX10_quiet_X10_quietOf : GoodIn wsX10_quiet wsX10_quietOf := goodIn_r _ [10, 11, 12, 13, 4, 14, 15, 6, 16, 17, 18, 19, 20, 21, 22, 23, 24, 25, 26, 27, 28, 29, 30, 31, 32, 33, 34, 35, 36, 37, 38, 39, 40, 41, 42, 43, 44, 45, 46, 47, 48, 49, 50, 51, 52, 53, 54, 55, 56, 57, 58, 59, 60, 61, 62, 63, 64, 65, 66, 67, 68, 69, 70, 71, 72, 73] (by decide +kernel) (by decide +kernel)
set_option maxRecDepth 20000 in
theorem gX10_quiet_X10_quietOf : GoodIn wsX10_quiet (wsV RX10 156 RX10 yX10_quietOf wsX10_quietOf) := goodIn_app (goodIn_of _ (by decide +kernel)) ggX10_quiet_X10_quietOf
theorem dX10_quiet_0 : decode cX10_quiet 0 = .ok (.aload_n 0, 1) := by decide +kernel
theorem dX10_quiet_1 : decode cX10_quiet 1 = .ok (.invokevirtual 153, 3) := by decide +kernel
theorem dX10_quiet_4 : decode cX10_quiet 4 = .ok (.aload_n 0, 1) := by decide +kernel
theorem dX10_quiet_5 : decode cX10_quiet 5 = .ok (.bipush 31, 2) := by decide +kernel
theorem dX10_quiet_7 : decode cX10_quiet 7 = .ok (.invokevirtual 156, 3) := by decide +kernel
theorem dX10_quiet_10 : decode cX10_quiet 10 = .ok (.ireturn, 1) := by decide +kernel
set_option maxRecDepth 20000 in
theorem ggX10_quietBy_X10_layTrial : GoodIn wsX10_quietBy wsX10_layTrial := goodIn_r _ [6, 7, 55, 56, 57, 58, 59, 60, 61, 62, 63, 64, 65, 66, 67, 68, 69, 70, 71, 72, 73, 74, 75, 76, 77, 78] (by decide +kernel) (by decide +kernel)
set_option maxRecDepth 20000 in
theorem gX10_quietBy_X10_layTrial : GoodIn wsX10_quietBy (wsV RX10 153 RX10 yX10_layTrial wsX10_layTrial) := goodIn_app (goodIn_of _ (by decide +kernel)) ggX10_quietBy_X10_layTrial
set_option maxRecDepth 20000 in
theorem ggX10_quietBy_X10_has : GoodIn wsX10_quietBy wsX10_has := goodIn_r _ [10] (by decide +kernel) (by decide +kernel)
set_option maxRecDepth 20000 in
theorem gX10_quietBy_X10_has : GoodIn wsX10_quietBy (va_wsS RX10 74 yX10_has wsX10_has) := goodIn_app (goodIn_of _ (by decide +kernel)) ggX10_quietBy_X10_has
set_option maxRecDepth 20000 in
theorem ggX10_quietBy_X10_sendOn : GoodIn wsX10_quietBy wsX10_sendOn := goodIn_r _ [14, 7, 15, 55, 56, 57, 58, 59, 60, 61, 62, 63, 64, 65, 66, 67, 68, 69, 70, 71, 72, 73, 74, 75, 76, 77, 78] (by decide +kernel) (by decide +kernel)
set_option maxRecDepth 20000 in
theorem gX10_quietBy_X10_sendOn : GoodIn wsX10_quietBy (wsV RX10 139 RX10 yX10_sendOn wsX10_sendOn) := goodIn_app (goodIn_of _ (by decide +kernel)) ggX10_quietBy_X10_sendOn
set_option maxRecDepth 20000 in
theorem ggX10_quietBy_X10_quietOf : GoodIn wsX10_quietBy wsX10_quietOf := goodIn_r _ [19, 20, 21, 22, 5, 23, 1, 7, 24, 25, 26, 27, 28, 8, 9, 10, 29, 30, 31, 32, 33, 34, 35, 36, 37, 38, 39, 40, 41, 42, 43, 44, 45, 46, 47, 48, 49, 50, 51, 52, 53, 54, 55, 56, 57, 58, 59, 60, 61, 62, 63, 64, 65, 66, 67, 68, 69, 70, 71, 72, 73, 74, 75, 76, 77, 78] (by decide +kernel) (by decide +kernel)
set_option maxRecDepth 20000 in
theorem gX10_quietBy_X10_quietOf : GoodIn wsX10_quietBy (wsV RX10 156 RX10 yX10_quietOf wsX10_quietOf) := goodIn_app (goodIn_of _ (by decide +kernel)) ggX10_quietBy_X10_quietOf
theorem dX10_quietBy_0 : decode cX10_quietBy 0 = .ok (.aload_n 0, 1) := by decide +kernel
theorem dX10_quietBy_1 : decode cX10_quietBy 1 = .ok (.invokevirtual 153, 3) := by decide +kernel
theorem dX10_quietBy_4 : decode cX10_quietBy 4 = .ok (.iconst 0, 1) := by decide +kernel
theorem dX10_quietBy_5 : decode cX10_quietBy 5 = .ok (.istore_n 2, 1) := by decide +kernel
theorem dX10_quietBy_6 : decode cX10_quietBy 6 = .ok (.iload_n 2, 1) := by decide +kernel
theorem dX10_quietBy_7 : decode cX10_quietBy 7 = .ok (.aload_n 0, 1) := by decide +kernel
theorem dX10_quietBy_8 : decode cX10_quietBy 8 = .ok (.getfield 101, 3) := by decide +kernel
theorem dX10_quietBy_11 : decode cX10_quietBy 11 = .ok (.if_icmp .ge 23, 3) := by decide +kernel
theorem dX10_quietBy_14 : decode cX10_quietBy 14 = .ok (.iload_n 1, 1) := by decide +kernel
theorem dX10_quietBy_15 : decode cX10_quietBy 15 = .ok (.iload_n 2, 1) := by decide +kernel
theorem dX10_quietBy_16 : decode cX10_quietBy 16 = .ok (.invokestatic 74, 3) := by decide +kernel
theorem dX10_quietBy_19 : decode cX10_quietBy 19 = .ok (.ifCond .eq 9, 3) := by decide +kernel
theorem dX10_quietBy_22 : decode cX10_quietBy 22 = .ok (.aload_n 0, 1) := by decide +kernel
theorem dX10_quietBy_23 : decode cX10_quietBy 23 = .ok (.iconst 1, 1) := by decide +kernel
theorem dX10_quietBy_24 : decode cX10_quietBy 24 = .ok (.iload_n 2, 1) := by decide +kernel
theorem dX10_quietBy_25 : decode cX10_quietBy 25 = .ok (.invokevirtual 139, 3) := by decide +kernel
theorem dX10_quietBy_28 : decode cX10_quietBy 28 = .ok (.iinc 2 1, 3) := by decide +kernel
theorem dX10_quietBy_31 : decode cX10_quietBy 31 = .ok (.goto (-25), 3) := by decide +kernel
theorem dX10_quietBy_34 : decode cX10_quietBy 34 = .ok (.aload_n 0, 1) := by decide +kernel
theorem dX10_quietBy_35 : decode cX10_quietBy 35 = .ok (.bipush 31, 2) := by decide +kernel
theorem dX10_quietBy_37 : decode cX10_quietBy 37 = .ok (.invokevirtual 156, 3) := by decide +kernel
theorem dX10_quietBy_40 : decode cX10_quietBy 40 = .ok (.ireturn, 1) := by decide +kernel
set_option maxRecDepth 20000 in
theorem ggX10_sending_X10_areIn : GoodIn wsX10_sending wsX10_areIn := goodIn_r _ [5, 6, 7, 59, 60, 61, 62, 63, 64, 65, 66, 67, 68, 69, 70, 71, 72, 73, 74, 75, 76, 77, 78, 79, 80, 81, 82] (by decide +kernel) (by decide +kernel)
set_option maxRecDepth 20000 in
theorem gX10_sending_X10_areIn : GoodIn wsX10_sending (wsV RX10 107 RX10 yX10_areIn wsX10_areIn) := goodIn_app (goodIn_of _ (by decide +kernel)) ggX10_sending_X10_areIn
set_option maxRecDepth 20000 in
theorem ggX10_sending_X10_quietBy : GoodIn wsX10_sending wsX10_quietBy := goodIn_r _ [11, 6, 12, 13, 14, 4, 15, 7, 16, 17, 18, 19, 20, 21, 22, 23, 24, 25, 26, 27, 1, 2, 3, 5, 28, 29, 30, 31, 32, 33, 34, 35, 36, 37, 38, 39, 40, 41, 42, 43, 44, 45, 46, 47, 48, 49, 50, 51, 52, 53, 54, 55, 56, 57, 58, 59, 60, 61, 62, 63, 64, 65, 66, 67, 68, 69, 70, 71, 72, 73, 74, 75, 76, 77, 78, 79, 80, 81, 82] (by decide +kernel) (by decide +kernel)
set_option maxRecDepth 20000 in
theorem gX10_sending_X10_quietBy : GoodIn wsX10_sending (wsV RX10 159 RX10 yX10_quietBy wsX10_quietBy) := goodIn_app (goodIn_of _ (by decide +kernel)) ggX10_sending_X10_quietBy
set_option maxRecDepth 20000 in
theorem ggX10_sending_X10_ones : GoodIn wsX10_sending wsX10_ones := goodIn_r _ [35] (by decide +kernel) (by decide +kernel)
set_option maxRecDepth 20000 in
theorem gX10_sending_X10_ones : GoodIn wsX10_sending (va_wsS RX10 110 yX10_ones wsX10_ones) := goodIn_app (goodIn_of _ (by decide +kernel)) ggX10_sending_X10_ones
set_option maxRecDepth 20000 in
theorem ggX10_sending_X10_free : GoodIn wsX10_sending wsX10_free := goodIn_r _ [52, 53, 54, 1, 2, 3, 4, 5, 6, 7, 33, 34, 35, 59, 60, 61, 62, 63, 64, 65, 66, 67, 68, 69, 70, 71, 72, 73, 74, 75, 76, 77, 78, 79, 80, 81, 82] (by decide +kernel) (by decide +kernel)
set_option maxRecDepth 20000 in
theorem gX10_sending_X10_free : GoodIn wsX10_sending (wsV RX10 120 RX10 yX10_free wsX10_free) := goodIn_app (goodIn_of _ (by decide +kernel)) ggX10_sending_X10_free
theorem dX10_sending_0 : decode cX10_sending 0 = .ok (.aload_n 0, 1) := by decide +kernel
theorem dX10_sending_1 : decode cX10_sending 1 = .ok (.iconst 0, 1) := by decide +kernel
theorem dX10_sending_2 : decode cX10_sending 2 = .ok (.iconst 0, 1) := by decide +kernel
theorem dX10_sending_3 : decode cX10_sending 3 = .ok (.invokevirtual 107, 3) := by decide +kernel
theorem dX10_sending_6 : decode cX10_sending 6 = .ok (.istore_n 2, 1) := by decide +kernel
theorem dX10_sending_7 : decode cX10_sending 7 = .ok (.iconst 0, 1) := by decide +kernel
theorem dX10_sending_8 : decode cX10_sending 8 = .ok (.istore_n 3, 1) := by decide +kernel
theorem dX10_sending_9 : decode cX10_sending 9 = .ok (.aload_n 0, 1) := by decide +kernel
theorem dX10_sending_10 : decode cX10_sending 10 = .ok (.iconst 0, 1) := by decide +kernel
theorem dX10_sending_11 : decode cX10_sending 11 = .ok (.invokevirtual 159, 3) := by decide +kernel
theorem dX10_sending_14 : decode cX10_sending 14 = .ok (.istore 4, 2) := by decide +kernel
theorem dX10_sending_16 : decode cX10_sending 16 = .ok (.iconst 1, 1) := by decide +kernel
theorem dX10_sending_17 : decode cX10_sending 17 = .ok (.istore 5, 2) := by decide +kernel
theorem dX10_sending_19 : decode cX10_sending 19 = .ok (.iload 5, 2) := by decide +kernel
theorem dX10_sending_21 : decode cX10_sending 21 = .ok (.bipush 32, 2) := by decide +kernel
theorem dX10_sending_23 : decode cX10_sending 23 = .ok (.if_icmp .ge 125, 3) := by decide +kernel
theorem dX10_sending_26 : decode cX10_sending 26 = .ok (.iload 5, 2) := by decide +kernel
theorem dX10_sending_28 : decode cX10_sending 28 = .ok (.iload_n 2, 1) := by decide +kernel
theorem dX10_sending_29 : decode cX10_sending 29 = .ok (.iconst (-1), 1) := by decide +kernel
theorem dX10_sending_30 : decode cX10_sending 30 = .ok (.ixor, 1) := by decide +kernel
theorem dX10_sending_31 : decode cX10_sending 31 = .ok (.iand, 1) := by decide +kernel
theorem dX10_sending_32 : decode cX10_sending 32 = .ok (.ifCond .ne 110, 3) := by decide +kernel
theorem dX10_sending_35 : decode cX10_sending 35 = .ok (.iload 5, 2) := by decide +kernel
theorem dX10_sending_37 : decode cX10_sending 37 = .ok (.invokestatic 110, 3) := by decide +kernel
theorem dX10_sending_40 : decode cX10_sending 40 = .ok (.aload_n 0, 1) := by decide +kernel
theorem dX10_sending_41 : decode cX10_sending 41 = .ok (.iconst 0, 1) := by decide +kernel
theorem dX10_sending_42 : decode cX10_sending 42 = .ok (.iconst 1, 1) := by decide +kernel
theorem dX10_sending_43 : decode cX10_sending 43 = .ok (.invokevirtual 120, 3) := by decide +kernel
theorem dX10_sending_46 : decode cX10_sending 46 = .ok (.if_icmp .gt 96, 3) := by decide +kernel
theorem dX10_sending_49 : decode cX10_sending 49 = .ok (.aload_n 0, 1) := by decide +kernel
theorem dX10_sending_50 : decode cX10_sending 50 = .ok (.iload 5, 2) := by decide +kernel
theorem dX10_sending_52 : decode cX10_sending 52 = .ok (.invokevirtual 159, 3) := by decide +kernel
theorem dX10_sending_55 : decode cX10_sending 55 = .ok (.istore 6, 2) := by decide +kernel
theorem dX10_sending_57 : decode cX10_sending 57 = .ok (.iload 4, 2) := by decide +kernel
theorem dX10_sending_59 : decode cX10_sending 59 = .ok (.bipush (-9), 2) := by decide +kernel
theorem dX10_sending_61 : decode cX10_sending 61 = .ok (.if_icmp .eq 21, 3) := by decide +kernel
theorem dX10_sending_64 : decode cX10_sending 64 = .ok (.iload 6, 2) := by decide +kernel
theorem dX10_sending_66 : decode cX10_sending 66 = .ok (.bipush (-9), 2) := by decide +kernel
theorem dX10_sending_68 : decode cX10_sending 68 = .ok (.if_icmp .eq 10, 3) := by decide +kernel
theorem dX10_sending_71 : decode cX10_sending 71 = .ok (.iload 6, 2) := by decide +kernel
theorem dX10_sending_73 : decode cX10_sending 73 = .ok (.iload 4, 2) := by decide +kernel
theorem dX10_sending_75 : decode cX10_sending 75 = .ok (.if_icmp .le 7, 3) := by decide +kernel
theorem dX10_sending_78 : decode cX10_sending 78 = .ok (.iconst 1, 1) := by decide +kernel
theorem dX10_sending_79 : decode cX10_sending 79 = .ok (.goto 4, 3) := by decide +kernel
theorem dX10_sending_82 : decode cX10_sending 82 = .ok (.iconst 0, 1) := by decide +kernel
theorem dX10_sending_83 : decode cX10_sending 83 = .ok (.istore 7, 2) := by decide +kernel
theorem dX10_sending_85 : decode cX10_sending 85 = .ok (.iload 7, 2) := by decide +kernel
theorem dX10_sending_87 : decode cX10_sending 87 = .ok (.ifCond .ne 22, 3) := by decide +kernel
theorem dX10_sending_90 : decode cX10_sending 90 = .ok (.iload 6, 2) := by decide +kernel
theorem dX10_sending_92 : decode cX10_sending 92 = .ok (.iload 4, 2) := by decide +kernel
theorem dX10_sending_94 : decode cX10_sending 94 = .ok (.if_icmp .ne 19, 3) := by decide +kernel
theorem dX10_sending_97 : decode cX10_sending 97 = .ok (.iload 5, 2) := by decide +kernel
theorem dX10_sending_99 : decode cX10_sending 99 = .ok (.invokestatic 110, 3) := by decide +kernel
theorem dX10_sending_102 : decode cX10_sending 102 = .ok (.iload_n 3, 1) := by decide +kernel
theorem dX10_sending_103 : decode cX10_sending 103 = .ok (.invokestatic 110, 3) := by decide +kernel
theorem dX10_sending_106 : decode cX10_sending 106 = .ok (.if_icmp .ge 7, 3) := by decide +kernel
theorem dX10_sending_109 : decode cX10_sending 109 = .ok (.iconst 1, 1) := by decide +kernel
theorem dX10_sending_110 : decode cX10_sending 110 = .ok (.goto 4, 3) := by decide +kernel
theorem dX10_sending_113 : decode cX10_sending 113 = .ok (.iconst 0, 1) := by decide +kernel
theorem dX10_sending_114 : decode cX10_sending 114 = .ok (.istore 8, 2) := by decide +kernel
theorem dX10_sending_116 : decode cX10_sending 116 = .ok (.iload 8, 2) := by decide +kernel
theorem dX10_sending_118 : decode cX10_sending 118 = .ok (.ifCond .eq 8, 3) := by decide +kernel
theorem dX10_sending_121 : decode cX10_sending 121 = .ok (.iload 5, 2) := by decide +kernel
theorem dX10_sending_123 : decode cX10_sending 123 = .ok (.goto 4, 3) := by decide +kernel
theorem dX10_sending_126 : decode cX10_sending 126 = .ok (.iload_n 3, 1) := by decide +kernel
theorem dX10_sending_127 : decode cX10_sending 127 = .ok (.istore_n 3, 1) := by decide +kernel
theorem dX10_sending_128 : decode cX10_sending 128 = .ok (.iload 8, 2) := by decide +kernel
theorem dX10_sending_130 : decode cX10_sending 130 = .ok (.ifCond .eq 8, 3) := by decide +kernel
theorem dX10_sending_133 : decode cX10_sending 133 = .ok (.iload 6, 2) := by decide +kernel
theorem dX10_sending_135 : decode cX10_sending 135 = .ok (.goto 5, 3) := by decide +kernel
theorem dX10_sending_138 : decode cX10_sending 138 = .ok (.iload 4, 2) := by decide +kernel
theorem dX10_sending_140 : decode cX10_sending 140 = .ok (.istore 4, 2) := by decide +kernel
theorem dX10_sending_142 : decode cX10_sending 142 = .ok (.iinc 5 1, 3) := by decide +kernel
theorem dX10_sending_145 : decode cX10_sending 145 = .ok (.goto (-126), 3) := by decide +kernel
theorem dX10_sending_148 : decode cX10_sending 148 = .ok (.iload_n 1, 1) := by decide +kernel
theorem dX10_sending_149 : decode cX10_sending 149 = .ok (.ifCond .eq 8, 3) := by decide +kernel
theorem dX10_sending_152 : decode cX10_sending 152 = .ok (.iload 4, 2) := by decide +kernel
theorem dX10_sending_154 : decode cX10_sending 154 = .ok (.goto 4, 3) := by decide +kernel
theorem dX10_sending_157 : decode cX10_sending 157 = .ok (.iload_n 3, 1) := by decide +kernel
theorem dX10_sending_158 : decode cX10_sending 158 = .ok (.ireturn, 1) := by decide +kernel
set_option maxRecDepth 20000 in
theorem ggX10_cover_X10_areIn : GoodIn wsX10_cover wsX10_areIn := goodIn_r _ [5, 6, 7, 19, 20, 21, 22, 23, 24, 25, 26, 27, 28, 29, 30, 31, 32, 33, 34, 35, 36, 37, 38, 39, 40, 41, 42] (by decide +kernel) (by decide +kernel)
set_option maxRecDepth 20000 in
theorem gX10_cover_X10_areIn : GoodIn wsX10_cover (wsV RX10 107 RX10 yX10_areIn wsX10_areIn) := goodIn_app (goodIn_of _ (by decide +kernel)) ggX10_cover_X10_areIn
set_option maxRecDepth 20000 in
theorem ggX10_cover_X10_ones : GoodIn wsX10_cover wsX10_ones := goodIn_r _ [10] (by decide +kernel) (by decide +kernel)
set_option maxRecDepth 20000 in
theorem gX10_cover_X10_ones : GoodIn wsX10_cover (va_wsS RX10 110 yX10_ones wsX10_ones) := goodIn_app (goodIn_of _ (by decide +kernel)) ggX10_cover_X10_ones
set_option maxRecDepth 20000 in
theorem ggX10_cover_X10_fights : GoodIn wsX10_cover wsX10_fights := goodIn_r _ [14, 6, 15, 16, 17, 4, 18, 8, 9, 10, 19, 20, 21, 22, 23, 24, 25, 26, 27, 28, 29, 30, 31, 32, 33, 34, 35, 36, 37, 38, 39, 40, 41, 42] (by decide +kernel) (by decide +kernel)
set_option maxRecDepth 20000 in
theorem gX10_cover_X10_fights : GoodIn wsX10_cover (wsV RX10 150 RX10 yX10_fights wsX10_fights) := goodIn_app (goodIn_of _ (by decide +kernel)) ggX10_cover_X10_fights
theorem dX10_cover_0 : decode cX10_cover 0 = .ok (.aload_n 0, 1) := by decide +kernel
theorem dX10_cover_1 : decode cX10_cover 1 = .ok (.iconst 0, 1) := by decide +kernel
theorem dX10_cover_2 : decode cX10_cover 2 = .ok (.iconst 0, 1) := by decide +kernel
theorem dX10_cover_3 : decode cX10_cover 3 = .ok (.invokevirtual 107, 3) := by decide +kernel
theorem dX10_cover_6 : decode cX10_cover 6 = .ok (.istore_n 1, 1) := by decide +kernel
theorem dX10_cover_7 : decode cX10_cover 7 = .ok (.bipush (-9), 2) := by decide +kernel
theorem dX10_cover_9 : decode cX10_cover 9 = .ok (.istore_n 2, 1) := by decide +kernel
theorem dX10_cover_10 : decode cX10_cover 10 = .ok (.iconst 0, 1) := by decide +kernel
theorem dX10_cover_11 : decode cX10_cover 11 = .ok (.istore_n 3, 1) := by decide +kernel
theorem dX10_cover_12 : decode cX10_cover 12 = .ok (.iload_n 3, 1) := by decide +kernel
theorem dX10_cover_13 : decode cX10_cover 13 = .ok (.bipush 32, 2) := by decide +kernel
theorem dX10_cover_15 : decode cX10_cover 15 = .ok (.if_icmp .ge 64, 3) := by decide +kernel
theorem dX10_cover_18 : decode cX10_cover 18 = .ok (.iload_n 2, 1) := by decide +kernel
theorem dX10_cover_19 : decode cX10_cover 19 = .ok (.bipush (-9), 2) := by decide +kernel
theorem dX10_cover_21 : decode cX10_cover 21 = .ok (.if_icmp .eq 14, 3) := by decide +kernel
theorem dX10_cover_24 : decode cX10_cover 24 = .ok (.iload_n 3, 1) := by decide +kernel
theorem dX10_cover_25 : decode cX10_cover 25 = .ok (.invokestatic 110, 3) := by decide +kernel
theorem dX10_cover_28 : decode cX10_cover 28 = .ok (.iload_n 2, 1) := by decide +kernel
theorem dX10_cover_29 : decode cX10_cover 29 = .ok (.invokestatic 110, 3) := by decide +kernel
theorem dX10_cover_32 : decode cX10_cover 32 = .ok (.if_icmp .ge 7, 3) := by decide +kernel
theorem dX10_cover_35 : decode cX10_cover 35 = .ok (.iconst 1, 1) := by decide +kernel
theorem dX10_cover_36 : decode cX10_cover 36 = .ok (.goto 4, 3) := by decide +kernel
theorem dX10_cover_39 : decode cX10_cover 39 = .ok (.iconst 0, 1) := by decide +kernel
theorem dX10_cover_40 : decode cX10_cover 40 = .ok (.istore 4, 2) := by decide +kernel
theorem dX10_cover_42 : decode cX10_cover 42 = .ok (.iload 4, 2) := by decide +kernel
theorem dX10_cover_44 : decode cX10_cover 44 = .ok (.ifCond .eq 27, 3) := by decide +kernel
theorem dX10_cover_47 : decode cX10_cover 47 = .ok (.iload_n 3, 1) := by decide +kernel
theorem dX10_cover_48 : decode cX10_cover 48 = .ok (.iload_n 1, 1) := by decide +kernel
theorem dX10_cover_49 : decode cX10_cover 49 = .ok (.iconst (-1), 1) := by decide +kernel
theorem dX10_cover_50 : decode cX10_cover 50 = .ok (.ixor, 1) := by decide +kernel
theorem dX10_cover_51 : decode cX10_cover 51 = .ok (.iand, 1) := by decide +kernel
theorem dX10_cover_52 : decode cX10_cover 52 = .ok (.ifCond .ne 19, 3) := by decide +kernel
theorem dX10_cover_55 : decode cX10_cover 55 = .ok (.aload_n 0, 1) := by decide +kernel
theorem dX10_cover_56 : decode cX10_cover 56 = .ok (.iload_n 1, 1) := by decide +kernel
theorem dX10_cover_57 : decode cX10_cover 57 = .ok (.iload_n 3, 1) := by decide +kernel
theorem dX10_cover_58 : decode cX10_cover 58 = .ok (.iconst (-1), 1) := by decide +kernel
theorem dX10_cover_59 : decode cX10_cover 59 = .ok (.ixor, 1) := by decide +kernel
theorem dX10_cover_60 : decode cX10_cover 60 = .ok (.iand, 1) := by decide +kernel
theorem dX10_cover_61 : decode cX10_cover 61 = .ok (.invokevirtual 150, 3) := by decide +kernel
theorem dX10_cover_64 : decode cX10_cover 64 = .ok (.ifCond .ne 7, 3) := by decide +kernel
theorem dX10_cover_67 : decode cX10_cover 67 = .ok (.iload_n 3, 1) := by decide +kernel
theorem dX10_cover_68 : decode cX10_cover 68 = .ok (.goto 4, 3) := by decide +kernel
theorem dX10_cover_71 : decode cX10_cover 71 = .ok (.iload_n 2, 1) := by decide +kernel
theorem dX10_cover_72 : decode cX10_cover 72 = .ok (.istore_n 2, 1) := by decide +kernel
theorem dX10_cover_73 : decode cX10_cover 73 = .ok (.iinc 3 1, 3) := by decide +kernel
theorem dX10_cover_76 : decode cX10_cover 76 = .ok (.goto (-64), 3) := by decide +kernel
theorem dX10_cover_79 : decode cX10_cover 79 = .ok (.iload_n 2, 1) := by decide +kernel
theorem dX10_cover_80 : decode cX10_cover 80 = .ok (.ireturn, 1) := by decide +kernel
set_option maxRecDepth 20000 in
theorem ggX10_ran_X10_isFlag : GoodIn wsX10_ran wsX10_isFlag := goodIn_r _ [8, 2, 9, 10, 7, 11, 22, 23, 24, 25, 26, 27, 28, 29, 30, 31, 32, 33, 34, 35, 36, 37, 38, 39, 40, 41, 42, 43, 44, 45] (by decide +kernel) (by decide +kernel)
set_option maxRecDepth 20000 in
theorem gX10_ran_X10_isFlag : GoodIn wsX10_ran (wsV RX10 126 RX10 yX10_isFlag wsX10_isFlag) := goodIn_app (goodIn_of _ (by decide +kernel)) ggX10_ran_X10_isFlag
set_option maxRecDepth 20000 in
theorem ggX10_ran_X10_in : GoodIn wsX10_ran wsX10_in := goodIn_r _ [11] (by decide +kernel) (by decide +kernel)
set_option maxRecDepth 20000 in
theorem gX10_ran_X10_in : GoodIn wsX10_ran (va_wsS RX10 59 yX10_in wsX10_in) := goodIn_app (goodIn_of _ (by decide +kernel)) ggX10_ran_X10_in
set_option maxRecDepth 20000 in
theorem ggX10_ran_X10_has : GoodIn wsX10_ran wsX10_has := goodIn_r _ [14] (by decide +kernel) (by decide +kernel)
set_option maxRecDepth 20000 in
theorem gX10_ran_X10_has : GoodIn wsX10_ran (va_wsS RX10 74 yX10_has wsX10_has) := goodIn_app (goodIn_of _ (by decide +kernel)) ggX10_ran_X10_has
set_option maxRecDepth 20000 in
theorem ggX10_ran_X10_ones : GoodIn wsX10_ran wsX10_ones := goodIn_r _ [17] (by decide +kernel) (by decide +kernel)
set_option maxRecDepth 20000 in
theorem gX10_ran_X10_ones : GoodIn wsX10_ran (va_wsS RX10 110 yX10_ones wsX10_ones) := goodIn_app (goodIn_of _ (by decide +kernel)) ggX10_ran_X10_ones
set_option maxRecDepth 20000 in
theorem ggX10_ran_X10_coloursOf : GoodIn wsX10_ran wsX10_coloursOf := goodIn_r _ [21, 2, 3, 12, 13, 7, 14, 22, 23, 24, 25, 26, 27, 28, 29, 30, 31, 32, 33, 34, 35, 36, 37, 38, 39, 40, 41, 42, 43, 44, 45] (by decide +kernel) (by decide +kernel)
set_option maxRecDepth 20000 in
theorem gX10_ran_X10_coloursOf : GoodIn wsX10_ran (wsV RX10 113 RX10 yX10_coloursOf wsX10_coloursOf) := goodIn_app (goodIn_of _ (by decide +kernel)) ggX10_ran_X10_coloursOf
theorem dX10_ran_0 : decode cX10_ran 0 = .ok (.aload_n 0, 1) := by decide +kernel
theorem dX10_ran_1 : decode cX10_ran 1 = .ok (.iload_n 1, 1) := by decide +kernel
theorem dX10_ran_2 : decode cX10_ran 2 = .ok (.invokevirtual 126, 3) := by decide +kernel
theorem dX10_ran_5 : decode cX10_ran 5 = .ok (.ifCond .ne 5, 3) := by decide +kernel
theorem dX10_ran_8 : decode cX10_ran 8 = .ok (.iconst (-1), 1) := by decide +kernel
theorem dX10_ran_9 : decode cX10_ran 9 = .ok (.ireturn, 1) := by decide +kernel
theorem dX10_ran_10 : decode cX10_ran 10 = .ok (.iload_n 2, 1) := by decide +kernel
theorem dX10_ran_11 : decode cX10_ran 11 = .ok (.i2l, 1) := by decide +kernel
theorem dX10_ran_12 : decode cX10_ran 12 = .ok (.lconst 0, 1) := by decide +kernel
theorem dX10_ran_13 : decode cX10_ran 13 = .ok (.ldc2_w 72, 3) := by decide +kernel
theorem dX10_ran_16 : decode cX10_ran 16 = .ok (.invokestatic 59, 3) := by decide +kernel
theorem dX10_ran_19 : decode cX10_ran 19 = .ok (.ifCond .ne 6, 3) := by decide +kernel
theorem dX10_ran_22 : decode cX10_ran 22 = .ok (.bipush (-2), 2) := by decide +kernel
theorem dX10_ran_24 : decode cX10_ran 24 = .ok (.ireturn, 1) := by decide +kernel
theorem dX10_ran_25 : decode cX10_ran 25 = .ok (.bipush (-9), 2) := by decide +kernel
theorem dX10_ran_27 : decode cX10_ran 27 = .ok (.istore_n 3, 1) := by decide +kernel
theorem dX10_ran_28 : decode cX10_ran 28 = .ok (.iconst 0, 1) := by decide +kernel
theorem dX10_ran_29 : decode cX10_ran 29 = .ok (.istore 4, 2) := by decide +kernel
theorem dX10_ran_31 : decode cX10_ran 31 = .ok (.iload 4, 2) := by decide +kernel
theorem dX10_ran_33 : decode cX10_ran 33 = .ok (.iconst 1, 1) := by decide +kernel
theorem dX10_ran_34 : decode cX10_ran 34 = .ok (.aload_n 0, 1) := by decide +kernel
theorem dX10_ran_35 : decode cX10_ran 35 = .ok (.getfield 101, 3) := by decide +kernel
theorem dX10_ran_38 : decode cX10_ran 38 = .ok (.ishl, 1) := by decide +kernel
theorem dX10_ran_39 : decode cX10_ran 39 = .ok (.if_icmp .ge 73, 3) := by decide +kernel
theorem dX10_ran_42 : decode cX10_ran 42 = .ok (.iload 4, 2) := by decide +kernel
theorem dX10_ran_44 : decode cX10_ran 44 = .ok (.iload_n 1, 1) := by decide +kernel
theorem dX10_ran_45 : decode cX10_ran 45 = .ok (.invokestatic 74, 3) := by decide +kernel
theorem dX10_ran_48 : decode cX10_ran 48 = .ok (.ifCond .ne 25, 3) := by decide +kernel
theorem dX10_ran_51 : decode cX10_ran 51 = .ok (.iload_n 3, 1) := by decide +kernel
theorem dX10_ran_52 : decode cX10_ran 52 = .ok (.bipush (-9), 2) := by decide +kernel
theorem dX10_ran_54 : decode cX10_ran 54 = .ok (.if_icmp .eq 15, 3) := by decide +kernel
theorem dX10_ran_57 : decode cX10_ran 57 = .ok (.iload 4, 2) := by decide +kernel
theorem dX10_ran_59 : decode cX10_ran 59 = .ok (.invokestatic 110, 3) := by decide +kernel
theorem dX10_ran_62 : decode cX10_ran 62 = .ok (.iload_n 3, 1) := by decide +kernel
theorem dX10_ran_63 : decode cX10_ran 63 = .ok (.invokestatic 110, 3) := by decide +kernel
theorem dX10_ran_66 : decode cX10_ran 66 = .ok (.if_icmp .ge 7, 3) := by decide +kernel
theorem dX10_ran_69 : decode cX10_ran 69 = .ok (.iconst 1, 1) := by decide +kernel
theorem dX10_ran_70 : decode cX10_ran 70 = .ok (.goto 4, 3) := by decide +kernel
theorem dX10_ran_73 : decode cX10_ran 73 = .ok (.iconst 0, 1) := by decide +kernel
theorem dX10_ran_74 : decode cX10_ran 74 = .ok (.istore 5, 2) := by decide +kernel
theorem dX10_ran_76 : decode cX10_ran 76 = .ok (.iload 5, 2) := by decide +kernel
theorem dX10_ran_78 : decode cX10_ran 78 = .ok (.ifCond .eq 26, 3) := by decide +kernel
theorem dX10_ran_81 : decode cX10_ran 81 = .ok (.aload_n 0, 1) := by decide +kernel
theorem dX10_ran_82 : decode cX10_ran 82 = .ok (.iconst 0, 1) := by decide +kernel
theorem dX10_ran_83 : decode cX10_ran 83 = .ok (.iload 4, 2) := by decide +kernel
theorem dX10_ran_85 : decode cX10_ran 85 = .ok (.invokevirtual 113, 3) := by decide +kernel
theorem dX10_ran_88 : decode cX10_ran 88 = .ok (.aload_n 0, 1) := by decide +kernel
theorem dX10_ran_89 : decode cX10_ran 89 = .ok (.getfield 19, 3) := by decide +kernel
theorem dX10_ran_92 : decode cX10_ran 92 = .ok (.iload_n 1, 1) := by decide +kernel
theorem dX10_ran_93 : decode cX10_ran 93 = .ok (.iaload, 1) := by decide +kernel
theorem dX10_ran_94 : decode cX10_ran 94 = .ok (.ior, 1) := by decide +kernel
theorem dX10_ran_95 : decode cX10_ran 95 = .ok (.iload_n 2, 1) := by decide +kernel
theorem dX10_ran_96 : decode cX10_ran 96 = .ok (.if_icmp .ne 8, 3) := by decide +kernel
theorem dX10_ran_99 : decode cX10_ran 99 = .ok (.iload 4, 2) := by decide +kernel
theorem dX10_ran_101 : decode cX10_ran 101 = .ok (.goto 4, 3) := by decide +kernel
theorem dX10_ran_104 : decode cX10_ran 104 = .ok (.iload_n 3, 1) := by decide +kernel
theorem dX10_ran_105 : decode cX10_ran 105 = .ok (.istore_n 3, 1) := by decide +kernel
theorem dX10_ran_106 : decode cX10_ran 106 = .ok (.iinc 4 1, 3) := by decide +kernel
theorem dX10_ran_109 : decode cX10_ran 109 = .ok (.goto (-78), 3) := by decide +kernel
theorem dX10_ran_112 : decode cX10_ran 112 = .ok (.iload_n 3, 1) := by decide +kernel
theorem dX10_ran_113 : decode cX10_ran 113 = .ok (.ireturn, 1) := by decide +kernel
theorem dX10_tenTo_0 : decode cX10_tenTo 0 = .ok (.iconst 1, 1) := by decide +kernel
theorem dX10_tenTo_1 : decode cX10_tenTo 1 = .ok (.istore_n 1, 1) := by decide +kernel
theorem dX10_tenTo_2 : decode cX10_tenTo 2 = .ok (.iconst 0, 1) := by decide +kernel
theorem dX10_tenTo_3 : decode cX10_tenTo 3 = .ok (.istore_n 2, 1) := by decide +kernel
theorem dX10_tenTo_4 : decode cX10_tenTo 4 = .ok (.iload_n 2, 1) := by decide +kernel
theorem dX10_tenTo_5 : decode cX10_tenTo 5 = .ok (.iload_n 0, 1) := by decide +kernel
theorem dX10_tenTo_6 : decode cX10_tenTo 6 = .ok (.if_icmp .ge 14, 3) := by decide +kernel
theorem dX10_tenTo_9 : decode cX10_tenTo 9 = .ok (.iload_n 1, 1) := by decide +kernel
theorem dX10_tenTo_10 : decode cX10_tenTo 10 = .ok (.bipush 10, 2) := by decide +kernel
theorem dX10_tenTo_12 : decode cX10_tenTo 12 = .ok (.imul, 1) := by decide +kernel
theorem dX10_tenTo_13 : decode cX10_tenTo 13 = .ok (.istore_n 1, 1) := by decide +kernel
theorem dX10_tenTo_14 : decode cX10_tenTo 14 = .ok (.iinc 2 1, 3) := by decide +kernel
theorem dX10_tenTo_17 : decode cX10_tenTo 17 = .ok (.goto (-13), 3) := by decide +kernel
theorem dX10_tenTo_20 : decode cX10_tenTo 20 = .ok (.iload_n 1, 1) := by decide +kernel
theorem dX10_tenTo_21 : decode cX10_tenTo 21 = .ok (.ireturn, 1) := by decide +kernel
set_option maxRecDepth 20000 in
theorem ggX10_tryThing_X10_passOn : GoodIn wsX10_tryThing wsX10_passOn := goodIn_r _ [6, 7, 1, 8, 9, 10, 11, 5, 12, 13, 14, 15, 16, 17, 18, 19, 20, 21, 22, 23, 24, 25, 26, 27, 28, 29, 30, 31, 32, 33, 34, 35, 36, 57, 58, 59, 60, 61, 62, 63, 64, 65, 66, 67, 68, 69, 70, 71, 72, 73, 74, 75, 76, 77, 78, 79, 80] (by decide +kernel) (by decide +kernel)
set_option maxRecDepth 20000 in
theorem gX10_tryThing_X10_passOn : GoodIn wsX10_tryThing (wsV RX10 145 RX10 yX10_passOn wsX10_passOn) := goodIn_app (goodIn_of _ (by decide +kernel)) ggX10_tryThing_X10_passOn
set_option maxRecDepth 20000 in
theorem ggX10_tryThing_X10_canSend : GoodIn wsX10_tryThing wsX10_canSend := goodIn_r _ [40, 1, 41, 42, 43, 5, 44, 7, 45, 46, 47, 24, 25, 26, 27, 28, 29, 9, 10, 11, 12, 30, 31, 32, 57, 58, 59, 60, 61, 62, 63, 64, 65, 66, 67, 68, 69, 70, 71, 72, 73, 74, 75, 76, 77, 78, 79, 80] (by decide +kernel) (by decide +kernel)
set_option maxRecDepth 20000 in
theorem gX10_tryThing_X10_canSend : GoodIn wsX10_tryThing (wsV RX10 133 RX10 yX10_canSend wsX10_canSend) := goodIn_app (goodIn_of _ (by decide +kernel)) ggX10_tryThing_X10_canSend
set_option maxRecDepth 20000 in
theorem ggX10_tryThing_X10_sendOn : GoodIn wsX10_tryThing wsX10_sendOn := goodIn_r _ [51, 1, 52, 57, 58, 59, 60, 61, 62, 63, 64, 65, 66, 67, 68, 69, 70, 71, 72, 73, 74, 75, 76, 77, 78, 79, 80] (by decide +kernel) (by decide +kernel)
set_option maxRecDepth 20000 in
theorem gX10_tryThing_X10_sendOn : GoodIn wsX10_tryThing (wsV RX10 139 RX10 yX10_sendOn wsX10_sendOn) := goodIn_app (goodIn_of _ (by decide +kernel)) ggX10_tryThing_X10_sendOn
set_option maxRecDepth 20000 in
theorem ggX10_tryThing_X10_isFlag : GoodIn wsX10_tryThing wsX10_isFlag := goodIn_r _ [44, 7, 45, 46, 5, 47, 57, 58, 59, 60, 61, 62, 63, 64, 65, 66, 67, 68, 69, 70, 71, 72, 73, 74, 75, 76, 77, 78, 79, 80] (by decide +kernel) (by decide +kernel)
set_option maxRecDepth 20000 in
theorem gX10_tryThing_X10_isFlag : GoodIn wsX10_tryThing (wsV RX10 126 RX10 yX10_isFlag wsX10_isFlag) := goodIn_app (goodIn_of _ (by decide +kernel)) ggX10_tryThing_X10_isFlag
set_option maxRecDepth 20000 in
theorem ggX10_tryThing_X10_pullOn : GoodIn wsX10_tryThing wsX10_pullOn := goodIn_r _ [56, 1, 57, 58, 59, 60, 61, 62, 63, 64, 65, 66, 67, 68, 69, 70, 71, 72, 73, 74, 75, 76, 77, 78, 79, 80] (by decide +kernel) (by decide +kernel)
set_option maxRecDepth 20000 in
theorem gX10_tryThing_X10_pullOn : GoodIn wsX10_tryThing (wsV RX10 142 RX10 yX10_pullOn wsX10_pullOn) := goodIn_app (goodIn_of _ (by decide +kernel)) ggX10_tryThing_X10_pullOn
theorem dX10_tryThing_0 : decode cX10_tryThing 0 = .ok (.iload_n 1, 1) := by decide +kernel
theorem dX10_tryThing_1 : decode cX10_tryThing 1 = .ok (.ifCond .ne 17, 3) := by decide +kernel
theorem dX10_tryThing_4 : decode cX10_tryThing 4 = .ok (.aload_n 0, 1) := by decide +kernel
theorem dX10_tryThing_5 : decode cX10_tryThing 5 = .ok (.iconst 1, 1) := by decide +kernel
theorem dX10_tryThing_6 : decode cX10_tryThing 6 = .ok (.invokevirtual 145, 3) := by decide +kernel
theorem dX10_tryThing_9 : decode cX10_tryThing 9 = .ok (.ifCond .lt 7, 3) := by decide +kernel
theorem dX10_tryThing_12 : decode cX10_tryThing 12 = .ok (.iconst 1, 1) := by decide +kernel
theorem dX10_tryThing_13 : decode cX10_tryThing 13 = .ok (.goto 4, 3) := by decide +kernel
theorem dX10_tryThing_16 : decode cX10_tryThing 16 = .ok (.iconst 0, 1) := by decide +kernel
theorem dX10_tryThing_17 : decode cX10_tryThing 17 = .ok (.ireturn, 1) := by decide +kernel
theorem dX10_tryThing_18 : decode cX10_tryThing 18 = .ok (.iload_n 1, 1) := by decide +kernel
theorem dX10_tryThing_19 : decode cX10_tryThing 19 = .ok (.bipush 6, 2) := by decide +kernel
theorem dX10_tryThing_21 : decode cX10_tryThing 21 = .ok (.if_icmp .ge 26, 3) := by decide +kernel
theorem dX10_tryThing_24 : decode cX10_tryThing 24 = .ok (.aload_n 0, 1) := by decide +kernel
theorem dX10_tryThing_25 : decode cX10_tryThing 25 = .ok (.iconst 1, 1) := by decide +kernel
theorem dX10_tryThing_26 : decode cX10_tryThing 26 = .ok (.iload_n 1, 1) := by decide +kernel
theorem dX10_tryThing_27 : decode cX10_tryThing 27 = .ok (.iconst 1, 1) := by decide +kernel
theorem dX10_tryThing_28 : decode cX10_tryThing 28 = .ok (.isub, 1) := by decide +kernel
theorem dX10_tryThing_29 : decode cX10_tryThing 29 = .ok (.invokevirtual 133, 3) := by decide +kernel
theorem dX10_tryThing_32 : decode cX10_tryThing 32 = .ok (.istore_n 2, 1) := by decide +kernel
theorem dX10_tryThing_33 : decode cX10_tryThing 33 = .ok (.iload_n 2, 1) := by decide +kernel
theorem dX10_tryThing_34 : decode cX10_tryThing 34 = .ok (.ifCond .eq 11, 3) := by decide +kernel
theorem dX10_tryThing_37 : decode cX10_tryThing 37 = .ok (.aload_n 0, 1) := by decide +kernel
theorem dX10_tryThing_38 : decode cX10_tryThing 38 = .ok (.iconst 1, 1) := by decide +kernel
theorem dX10_tryThing_39 : decode cX10_tryThing 39 = .ok (.iload_n 1, 1) := by decide +kernel
theorem dX10_tryThing_40 : decode cX10_tryThing 40 = .ok (.iconst 1, 1) := by decide +kernel
theorem dX10_tryThing_41 : decode cX10_tryThing 41 = .ok (.isub, 1) := by decide +kernel
theorem dX10_tryThing_42 : decode cX10_tryThing 42 = .ok (.invokevirtual 139, 3) := by decide +kernel
theorem dX10_tryThing_45 : decode cX10_tryThing 45 = .ok (.iload_n 2, 1) := by decide +kernel
theorem dX10_tryThing_46 : decode cX10_tryThing 46 = .ok (.ireturn, 1) := by decide +kernel
theorem dX10_tryThing_47 : decode cX10_tryThing 47 = .ok (.aload_n 0, 1) := by decide +kernel
theorem dX10_tryThing_48 : decode cX10_tryThing 48 = .ok (.iload_n 1, 1) := by decide +kernel
theorem dX10_tryThing_49 : decode cX10_tryThing 49 = .ok (.bipush 6, 2) := by decide +kernel
theorem dX10_tryThing_51 : decode cX10_tryThing 51 = .ok (.isub, 1) := by decide +kernel
theorem dX10_tryThing_52 : decode cX10_tryThing 52 = .ok (.invokevirtual 126, 3) := by decide +kernel
theorem dX10_tryThing_55 : decode cX10_tryThing 55 = .ok (.ifCond .eq 22, 3) := by decide +kernel
theorem dX10_tryThing_58 : decode cX10_tryThing 58 = .ok (.aload_n 0, 1) := by decide +kernel
theorem dX10_tryThing_59 : decode cX10_tryThing 59 = .ok (.getfield 19, 3) := by decide +kernel
theorem dX10_tryThing_62 : decode cX10_tryThing 62 = .ok (.bipush 22, 2) := by decide +kernel
theorem dX10_tryThing_64 : decode cX10_tryThing 64 = .ok (.iload_n 1, 1) := by decide +kernel
theorem dX10_tryThing_65 : decode cX10_tryThing 65 = .ok (.iadd, 1) := by decide +kernel
theorem dX10_tryThing_66 : decode cX10_tryThing 66 = .ok (.bipush 6, 2) := by decide +kernel
theorem dX10_tryThing_68 : decode cX10_tryThing 68 = .ok (.isub, 1) := by decide +kernel
theorem dX10_tryThing_69 : decode cX10_tryThing 69 = .ok (.iaload, 1) := by decide +kernel
theorem dX10_tryThing_70 : decode cX10_tryThing 70 = .ok (.ifCond .eq 7, 3) := by decide +kernel
theorem dX10_tryThing_73 : decode cX10_tryThing 73 = .ok (.iconst 1, 1) := by decide +kernel
theorem dX10_tryThing_74 : decode cX10_tryThing 74 = .ok (.goto 4, 3) := by decide +kernel
theorem dX10_tryThing_77 : decode cX10_tryThing 77 = .ok (.iconst 0, 1) := by decide +kernel
theorem dX10_tryThing_78 : decode cX10_tryThing 78 = .ok (.istore_n 2, 1) := by decide +kernel
theorem dX10_tryThing_79 : decode cX10_tryThing 79 = .ok (.iload_n 2, 1) := by decide +kernel
theorem dX10_tryThing_80 : decode cX10_tryThing 80 = .ok (.ifCond .eq 12, 3) := by decide +kernel
theorem dX10_tryThing_83 : decode cX10_tryThing 83 = .ok (.aload_n 0, 1) := by decide +kernel
theorem dX10_tryThing_84 : decode cX10_tryThing 84 = .ok (.iconst 1, 1) := by decide +kernel
theorem dX10_tryThing_85 : decode cX10_tryThing 85 = .ok (.iload_n 1, 1) := by decide +kernel
theorem dX10_tryThing_86 : decode cX10_tryThing 86 = .ok (.bipush 6, 2) := by decide +kernel
theorem dX10_tryThing_88 : decode cX10_tryThing 88 = .ok (.isub, 1) := by decide +kernel
theorem dX10_tryThing_89 : decode cX10_tryThing 89 = .ok (.invokevirtual 142, 3) := by decide +kernel
theorem dX10_tryThing_92 : decode cX10_tryThing 92 = .ok (.iload_n 2, 1) := by decide +kernel
theorem dX10_tryThing_93 : decode cX10_tryThing 93 = .ok (.ireturn, 1) := by decide +kernel
set_option maxRecDepth 20000 in
theorem ggX10_judge_X10_in : GoodIn wsX10_judge wsX10_in := goodIn_r _ [5] (by decide +kernel) (by decide +kernel)
set_option maxRecDepth 20000 in
theorem gX10_judge_X10_in : GoodIn wsX10_judge (va_wsS RX10 59 yX10_in wsX10_in) := goodIn_app (goodIn_of _ (by decide +kernel)) ggX10_judge_X10_in
set_option maxRecDepth 20000 in
theorem ggX10_judge_X10_tenTo : GoodIn wsX10_judge wsX10_tenTo := goodIn_r _ [8] (by decide +kernel) (by decide +kernel)
set_option maxRecDepth 20000 in
theorem gX10_judge_X10_tenTo : GoodIn wsX10_judge (va_wsS RX10 164 yX10_tenTo wsX10_tenTo) := goodIn_app (goodIn_of _ (by decide +kernel)) ggX10_judge_X10_tenTo
set_option maxRecDepth 20000 in
theorem ggX10_judge_X10_layTrial : GoodIn wsX10_judge wsX10_layTrial := goodIn_r _ [12, 13, 69, 70, 71, 72, 73, 74, 75, 76, 77, 78, 79, 80, 81, 82, 83, 84, 85, 86, 87, 88, 89, 90, 91, 92] (by decide +kernel) (by decide +kernel)
set_option maxRecDepth 20000 in
theorem gX10_judge_X10_layTrial : GoodIn wsX10_judge (wsV RX10 153 RX10 yX10_layTrial wsX10_layTrial) := goodIn_app (goodIn_of _ (by decide +kernel)) ggX10_judge_X10_layTrial
set_option maxRecDepth 20000 in
theorem ggX10_judge_X10_tryThing : GoodIn wsX10_judge wsX10_tryThing := goodIn_r _ [17, 13, 18, 19, 20, 4, 21, 22, 23, 24, 25, 26, 27, 28, 29, 30, 31, 32, 33, 34, 35, 36, 37, 38, 39, 40, 41, 42, 43, 44, 45, 46, 47, 48, 49, 50, 51, 52, 53, 54, 55, 56, 57, 58, 59, 2, 3, 5, 60, 61, 62, 63, 64, 65, 66, 67, 68, 69, 70, 71, 72, 73, 74, 75, 76, 77, 78, 79, 80, 81, 82, 83, 84, 85, 86, 87, 88, 89, 90, 91, 92] (by decide +kernel) (by decide +kernel)
set_option maxRecDepth 20000 in
theorem gX10_judge_X10_tryThing : GoodIn wsX10_judge (wsV RX10 167 RX10 yX10_tryThing wsX10_tryThing) := goodIn_app (goodIn_of _ (by decide +kernel)) ggX10_judge_X10_tryThing
theorem dX10_judge_0 : decode cX10_judge 0 = .ok (.iload_n 1, 1) := by decide +kernel
theorem dX10_judge_1 : decode cX10_judge 1 = .ok (.i2l, 1) := by decide +kernel
theorem dX10_judge_2 : decode cX10_judge 2 = .ok (.lconst 1, 1) := by decide +kernel
theorem dX10_judge_3 : decode cX10_judge 3 = .ok (.ldc2_w 162, 3) := by decide +kernel
theorem dX10_judge_6 : decode cX10_judge 6 = .ok (.invokestatic 59, 3) := by decide +kernel
theorem dX10_judge_9 : decode cX10_judge 9 = .ok (.ifCond .eq 19, 3) := by decide +kernel
theorem dX10_judge_12 : decode cX10_judge 12 = .ok (.iload_n 2, 1) := by decide +kernel
theorem dX10_judge_13 : decode cX10_judge 13 = .ok (.i2l, 1) := by decide +kernel
theorem dX10_judge_14 : decode cX10_judge 14 = .ok (.lconst 0, 1) := by decide +kernel
theorem dX10_judge_15 : decode cX10_judge 15 = .ok (.iload_n 1, 1) := by decide +kernel
theorem dX10_judge_16 : decode cX10_judge 16 = .ok (.invokestatic 164, 3) := by decide +kernel
theorem dX10_judge_19 : decode cX10_judge 19 = .ok (.iconst 1, 1) := by decide +kernel
theorem dX10_judge_20 : decode cX10_judge 20 = .ok (.isub, 1) := by decide +kernel
theorem dX10_judge_21 : decode cX10_judge 21 = .ok (.i2l, 1) := by decide +kernel
theorem dX10_judge_22 : decode cX10_judge 22 = .ok (.invokestatic 59, 3) := by decide +kernel
theorem dX10_judge_25 : decode cX10_judge 25 = .ok (.ifCond .ne 6, 3) := by decide +kernel
theorem dX10_judge_28 : decode cX10_judge 28 = .ok (.bipush (-2), 2) := by decide +kernel
theorem dX10_judge_30 : decode cX10_judge 30 = .ok (.ireturn, 1) := by decide +kernel
theorem dX10_judge_31 : decode cX10_judge 31 = .ok (.aload_n 0, 1) := by decide +kernel
theorem dX10_judge_32 : decode cX10_judge 32 = .ok (.invokevirtual 153, 3) := by decide +kernel
theorem dX10_judge_35 : decode cX10_judge 35 = .ok (.iconst 0, 1) := by decide +kernel
theorem dX10_judge_36 : decode cX10_judge 36 = .ok (.istore_n 3, 1) := by decide +kernel
theorem dX10_judge_37 : decode cX10_judge 37 = .ok (.iload_n 3, 1) := by decide +kernel
theorem dX10_judge_38 : decode cX10_judge 38 = .ok (.iload_n 1, 1) := by decide +kernel
theorem dX10_judge_39 : decode cX10_judge 39 = .ok (.if_icmp .ge 31, 3) := by decide +kernel
theorem dX10_judge_42 : decode cX10_judge 42 = .ok (.aload_n 0, 1) := by decide +kernel
theorem dX10_judge_43 : decode cX10_judge 43 = .ok (.iload_n 2, 1) := by decide +kernel
theorem dX10_judge_44 : decode cX10_judge 44 = .ok (.iload_n 1, 1) := by decide +kernel
theorem dX10_judge_45 : decode cX10_judge 45 = .ok (.iconst 1, 1) := by decide +kernel
theorem dX10_judge_46 : decode cX10_judge 46 = .ok (.isub, 1) := by decide +kernel
theorem dX10_judge_47 : decode cX10_judge 47 = .ok (.iload_n 3, 1) := by decide +kernel
theorem dX10_judge_48 : decode cX10_judge 48 = .ok (.isub, 1) := by decide +kernel
theorem dX10_judge_49 : decode cX10_judge 49 = .ok (.invokestatic 164, 3) := by decide +kernel
theorem dX10_judge_52 : decode cX10_judge 52 = .ok (.idiv, 1) := by decide +kernel
theorem dX10_judge_53 : decode cX10_judge 53 = .ok (.bipush 10, 2) := by decide +kernel
theorem dX10_judge_55 : decode cX10_judge 55 = .ok (.irem, 1) := by decide +kernel
theorem dX10_judge_56 : decode cX10_judge 56 = .ok (.invokevirtual 167, 3) := by decide +kernel
theorem dX10_judge_59 : decode cX10_judge 59 = .ok (.ifCond .ne 5, 3) := by decide +kernel
theorem dX10_judge_62 : decode cX10_judge 62 = .ok (.iload_n 3, 1) := by decide +kernel
theorem dX10_judge_63 : decode cX10_judge 63 = .ok (.ireturn, 1) := by decide +kernel
theorem dX10_judge_64 : decode cX10_judge 64 = .ok (.iinc 3 1, 3) := by decide +kernel
theorem dX10_judge_67 : decode cX10_judge 67 = .ok (.goto (-30), 3) := by decide +kernel
theorem dX10_judge_70 : decode cX10_judge 70 = .ok (.bipush (-9), 2) := by decide +kernel
theorem dX10_judge_72 : decode cX10_judge 72 = .ok (.ireturn, 1) := by decide +kernel
set_option maxRecDepth 20000 in
theorem ggX10_see_X10_isFlag : GoodIn wsX10_see wsX10_isFlag := goodIn_r _ [11, 12, 13, 14, 10, 15, 19, 20, 21, 22, 23, 24, 25, 26, 27, 28, 29, 30, 31, 32, 33, 34, 35, 36, 37, 38, 39, 40, 41, 42] (by decide +kernel) (by decide +kernel)
set_option maxRecDepth 20000 in
theorem gX10_see_X10_isFlag : GoodIn wsX10_see (wsV RX10 126 RX10 yX10_isFlag wsX10_isFlag) := goodIn_app (goodIn_of _ (by decide +kernel)) ggX10_see_X10_isFlag
set_option maxRecDepth 20000 in
theorem ggX10_see_X10_in : GoodIn wsX10_see wsX10_in := goodIn_r _ [15] (by decide +kernel) (by decide +kernel)
set_option maxRecDepth 20000 in
theorem gX10_see_X10_in : GoodIn wsX10_see (va_wsS RX10 59 yX10_in wsX10_in) := goodIn_app (goodIn_of _ (by decide +kernel)) ggX10_see_X10_in
set_option maxRecDepth 20000 in
theorem ggX10_see_X10_has : GoodIn wsX10_see wsX10_has := goodIn_r _ [18] (by decide +kernel) (by decide +kernel)
set_option maxRecDepth 20000 in
theorem gX10_see_X10_has : GoodIn wsX10_see (va_wsS RX10 74 yX10_has wsX10_has) := goodIn_app (goodIn_of _ (by decide +kernel)) ggX10_see_X10_has
theorem dX10_see_0 : decode cX10_see 0 = .ok (.aload_n 0, 1) := by decide +kernel
theorem dX10_see_1 : decode cX10_see 1 = .ok (.iload_n 1, 1) := by decide +kernel
theorem dX10_see_2 : decode cX10_see 2 = .ok (.invokevirtual 126, 3) := by decide +kernel
theorem dX10_see_5 : decode cX10_see 5 = .ok (.ifCond .ne 5, 3) := by decide +kernel
theorem dX10_see_8 : decode cX10_see 8 = .ok (.iconst (-1), 1) := by decide +kernel
theorem dX10_see_9 : decode cX10_see 9 = .ok (.ireturn, 1) := by decide +kernel
theorem dX10_see_10 : decode cX10_see 10 = .ok (.iload_n 2, 1) := by decide +kernel
theorem dX10_see_11 : decode cX10_see 11 = .ok (.i2l, 1) := by decide +kernel
theorem dX10_see_12 : decode cX10_see 12 = .ok (.lconst 0, 1) := by decide +kernel
theorem dX10_see_13 : decode cX10_see 13 = .ok (.ldc2_w 72, 3) := by decide +kernel
theorem dX10_see_16 : decode cX10_see 16 = .ok (.invokestatic 59, 3) := by decide +kernel
theorem dX10_see_19 : decode cX10_see 19 = .ok (.ifCond .eq 23, 3) := by decide +kernel
theorem dX10_see_22 : decode cX10_see 22 = .ok (.iload_n 3, 1) := by decide +kernel
theorem dX10_see_23 : decode cX10_see 23 = .ok (.i2l, 1) := by decide +kernel
theorem dX10_see_24 : decode cX10_see 24 = .ok (.lconst 0, 1) := by decide +kernel
theorem dX10_see_25 : decode cX10_see 25 = .ok (.ldc2_w 170, 3) := by decide +kernel
theorem dX10_see_28 : decode cX10_see 28 = .ok (.invokestatic 59, 3) := by decide +kernel
theorem dX10_see_31 : decode cX10_see 31 = .ok (.ifCond .eq 11, 3) := by decide +kernel
theorem dX10_see_34 : decode cX10_see 34 = .ok (.iload_n 3, 1) := by decide +kernel
theorem dX10_see_35 : decode cX10_see 35 = .ok (.iload_n 1, 1) := by decide +kernel
theorem dX10_see_36 : decode cX10_see 36 = .ok (.invokestatic 74, 3) := by decide +kernel
theorem dX10_see_39 : decode cX10_see 39 = .ok (.ifCond .eq 6, 3) := by decide +kernel
theorem dX10_see_42 : decode cX10_see 42 = .ok (.bipush (-2), 2) := by decide +kernel
theorem dX10_see_44 : decode cX10_see 44 = .ok (.ireturn, 1) := by decide +kernel
theorem dX10_see_45 : decode cX10_see 45 = .ok (.aload_n 0, 1) := by decide +kernel
theorem dX10_see_46 : decode cX10_see 46 = .ok (.getfield 172, 3) := by decide +kernel
theorem dX10_see_49 : decode cX10_see 49 = .ok (.bipush 6, 2) := by decide +kernel
theorem dX10_see_51 : decode cX10_see 51 = .ok (.if_icmp .ne 6, 3) := by decide +kernel
theorem dX10_see_54 : decode cX10_see 54 = .ok (.bipush (-4), 2) := by decide +kernel
theorem dX10_see_56 : decode cX10_see 56 = .ok (.ireturn, 1) := by decide +kernel
theorem dX10_see_57 : decode cX10_see 57 = .ok (.aload_n 0, 1) := by decide +kernel
theorem dX10_see_58 : decode cX10_see 58 = .ok (.getfield 34, 3) := by decide +kernel
theorem dX10_see_61 : decode cX10_see 61 = .ok (.aload_n 0, 1) := by decide +kernel
theorem dX10_see_62 : decode cX10_see 62 = .ok (.getfield 172, 3) := by decide +kernel
theorem dX10_see_65 : decode cX10_see 65 = .ok (.iload_n 1, 1) := by decide +kernel
theorem dX10_see_66 : decode cX10_see 66 = .ok (.iastore, 1) := by decide +kernel
theorem dX10_see_67 : decode cX10_see 67 = .ok (.aload_n 0, 1) := by decide +kernel
theorem dX10_see_68 : decode cX10_see 68 = .ok (.getfield 37, 3) := by decide +kernel
theorem dX10_see_71 : decode cX10_see 71 = .ok (.aload_n 0, 1) := by decide +kernel
theorem dX10_see_72 : decode cX10_see 72 = .ok (.getfield 172, 3) := by decide +kernel
theorem dX10_see_75 : decode cX10_see 75 = .ok (.iload_n 2, 1) := by decide +kernel
theorem dX10_see_76 : decode cX10_see 76 = .ok (.iastore, 1) := by decide +kernel
theorem dX10_see_77 : decode cX10_see 77 = .ok (.aload_n 0, 1) := by decide +kernel
theorem dX10_see_78 : decode cX10_see 78 = .ok (.getfield 40, 3) := by decide +kernel
theorem dX10_see_81 : decode cX10_see 81 = .ok (.aload_n 0, 1) := by decide +kernel
theorem dX10_see_82 : decode cX10_see 82 = .ok (.getfield 172, 3) := by decide +kernel
theorem dX10_see_85 : decode cX10_see 85 = .ok (.iload_n 3, 1) := by decide +kernel
theorem dX10_see_86 : decode cX10_see 86 = .ok (.iastore, 1) := by decide +kernel
theorem dX10_see_87 : decode cX10_see 87 = .ok (.aload_n 0, 1) := by decide +kernel
theorem dX10_see_88 : decode cX10_see 88 = .ok (.dup, 1) := by decide +kernel
theorem dX10_see_89 : decode cX10_see 89 = .ok (.getfield 172, 3) := by decide +kernel
theorem dX10_see_92 : decode cX10_see 92 = .ok (.iconst 1, 1) := by decide +kernel
theorem dX10_see_93 : decode cX10_see 93 = .ok (.iadd, 1) := by decide +kernel
theorem dX10_see_94 : decode cX10_see 94 = .ok (.putfield 172, 3) := by decide +kernel
theorem dX10_see_97 : decode cX10_see 97 = .ok (.aload_n 0, 1) := by decide +kernel
theorem dX10_see_98 : decode cX10_see 98 = .ok (.getfield 172, 3) := by decide +kernel
theorem dX10_see_101 : decode cX10_see 101 = .ok (.ireturn, 1) := by decide +kernel
theorem dX10_unsee_0 : decode cX10_unsee 0 = .ok (.aload_n 0, 1) := by decide +kernel
theorem dX10_unsee_1 : decode cX10_unsee 1 = .ok (.getfield 172, 3) := by decide +kernel
theorem dX10_unsee_4 : decode cX10_unsee 4 = .ok (.istore_n 1, 1) := by decide +kernel
theorem dX10_unsee_5 : decode cX10_unsee 5 = .ok (.aload_n 0, 1) := by decide +kernel
theorem dX10_unsee_6 : decode cX10_unsee 6 = .ok (.iconst 0, 1) := by decide +kernel
theorem dX10_unsee_7 : decode cX10_unsee 7 = .ok (.putfield 172, 3) := by decide +kernel
theorem dX10_unsee_10 : decode cX10_unsee 10 = .ok (.iload_n 1, 1) := by decide +kernel
theorem dX10_unsee_11 : decode cX10_unsee 11 = .ok (.ireturn, 1) := by decide +kernel
set_option maxRecDepth 20000 in
theorem ggX10_mayHave_X10_coloursOf : GoodIn wsX10_mayHave wsX10_coloursOf := goodIn_r _ [10, 4, 11, 12, 13, 9, 14, 15, 16, 17, 18, 19, 20, 21, 22, 23, 24, 25, 26, 27, 28, 29, 30, 31, 32, 33, 34, 35, 36, 37, 38] (by decide +kernel) (by decide +kernel)
set_option maxRecDepth 20000 in
theorem gX10_mayHave_X10_coloursOf : GoodIn wsX10_mayHave (wsV RX10 113 RX10 yX10_coloursOf wsX10_coloursOf) := goodIn_app (goodIn_of _ (by decide +kernel)) ggX10_mayHave_X10_coloursOf
theorem dX10_mayHave_0 : decode cX10_mayHave 0 = .ok (.iconst 1, 1) := by decide +kernel
theorem dX10_mayHave_1 : decode cX10_mayHave 1 = .ok (.istore_n 3, 1) := by decide +kernel
theorem dX10_mayHave_2 : decode cX10_mayHave 2 = .ok (.iconst 0, 1) := by decide +kernel
theorem dX10_mayHave_3 : decode cX10_mayHave 3 = .ok (.istore 4, 2) := by decide +kernel
theorem dX10_mayHave_5 : decode cX10_mayHave 5 = .ok (.iload 4, 2) := by decide +kernel
theorem dX10_mayHave_7 : decode cX10_mayHave 7 = .ok (.aload_n 0, 1) := by decide +kernel
theorem dX10_mayHave_8 : decode cX10_mayHave 8 = .ok (.getfield 172, 3) := by decide +kernel
theorem dX10_mayHave_11 : decode cX10_mayHave 11 = .ok (.if_icmp .ge 82, 3) := by decide +kernel
theorem dX10_mayHave_14 : decode cX10_mayHave 14 = .ok (.aload_n 0, 1) := by decide +kernel
theorem dX10_mayHave_15 : decode cX10_mayHave 15 = .ok (.getfield 34, 3) := by decide +kernel
theorem dX10_mayHave_18 : decode cX10_mayHave 18 = .ok (.iload 4, 2) := by decide +kernel
theorem dX10_mayHave_20 : decode cX10_mayHave 20 = .ok (.iaload, 1) := by decide +kernel
theorem dX10_mayHave_21 : decode cX10_mayHave 21 = .ok (.iload_n 1, 1) := by decide +kernel
theorem dX10_mayHave_22 : decode cX10_mayHave 22 = .ok (.if_icmp .ne 23, 3) := by decide +kernel
theorem dX10_mayHave_25 : decode cX10_mayHave 25 = .ok (.aload_n 0, 1) := by decide +kernel
theorem dX10_mayHave_26 : decode cX10_mayHave 26 = .ok (.getfield 40, 3) := by decide +kernel
theorem dX10_mayHave_29 : decode cX10_mayHave 29 = .ok (.iload 4, 2) := by decide +kernel
theorem dX10_mayHave_31 : decode cX10_mayHave 31 = .ok (.iaload, 1) := by decide +kernel
theorem dX10_mayHave_32 : decode cX10_mayHave 32 = .ok (.iconst 1, 1) := by decide +kernel
theorem dX10_mayHave_33 : decode cX10_mayHave 33 = .ok (.aload_n 0, 1) := by decide +kernel
theorem dX10_mayHave_34 : decode cX10_mayHave 34 = .ok (.getfield 101, 3) := by decide +kernel
theorem dX10_mayHave_37 : decode cX10_mayHave 37 = .ok (.ishl, 1) := by decide +kernel
theorem dX10_mayHave_38 : decode cX10_mayHave 38 = .ok (.if_icmp .ge 7, 3) := by decide +kernel
theorem dX10_mayHave_41 : decode cX10_mayHave 41 = .ok (.iconst 1, 1) := by decide +kernel
theorem dX10_mayHave_42 : decode cX10_mayHave 42 = .ok (.goto 4, 3) := by decide +kernel
theorem dX10_mayHave_45 : decode cX10_mayHave 45 = .ok (.iconst 0, 1) := by decide +kernel
theorem dX10_mayHave_46 : decode cX10_mayHave 46 = .ok (.istore 5, 2) := by decide +kernel
theorem dX10_mayHave_48 : decode cX10_mayHave 48 = .ok (.iload_n 3, 1) := by decide +kernel
theorem dX10_mayHave_49 : decode cX10_mayHave 49 = .ok (.ifCond .eq 36, 3) := by decide +kernel
theorem dX10_mayHave_52 : decode cX10_mayHave 52 = .ok (.iload 5, 2) := by decide +kernel
theorem dX10_mayHave_54 : decode cX10_mayHave 54 = .ok (.ifCond .eq 27, 3) := by decide +kernel
theorem dX10_mayHave_57 : decode cX10_mayHave 57 = .ok (.aload_n 0, 1) := by decide +kernel
theorem dX10_mayHave_58 : decode cX10_mayHave 58 = .ok (.iconst 0, 1) := by decide +kernel
theorem dX10_mayHave_59 : decode cX10_mayHave 59 = .ok (.aload_n 0, 1) := by decide +kernel
theorem dX10_mayHave_60 : decode cX10_mayHave 60 = .ok (.getfield 40, 3) := by decide +kernel
theorem dX10_mayHave_63 : decode cX10_mayHave 63 = .ok (.iload 4, 2) := by decide +kernel
theorem dX10_mayHave_65 : decode cX10_mayHave 65 = .ok (.iaload, 1) := by decide +kernel
theorem dX10_mayHave_66 : decode cX10_mayHave 66 = .ok (.invokevirtual 113, 3) := by decide +kernel
theorem dX10_mayHave_69 : decode cX10_mayHave 69 = .ok (.iload_n 2, 1) := by decide +kernel
theorem dX10_mayHave_70 : decode cX10_mayHave 70 = .ok (.ior, 1) := by decide +kernel
theorem dX10_mayHave_71 : decode cX10_mayHave 71 = .ok (.aload_n 0, 1) := by decide +kernel
theorem dX10_mayHave_72 : decode cX10_mayHave 72 = .ok (.getfield 37, 3) := by decide +kernel
theorem dX10_mayHave_75 : decode cX10_mayHave 75 = .ok (.iload 4, 2) := by decide +kernel
theorem dX10_mayHave_77 : decode cX10_mayHave 77 = .ok (.iaload, 1) := by decide +kernel
theorem dX10_mayHave_78 : decode cX10_mayHave 78 = .ok (.if_icmp .ne 7, 3) := by decide +kernel
theorem dX10_mayHave_81 : decode cX10_mayHave 81 = .ok (.iconst 1, 1) := by decide +kernel
theorem dX10_mayHave_82 : decode cX10_mayHave 82 = .ok (.goto 4, 3) := by decide +kernel
theorem dX10_mayHave_85 : decode cX10_mayHave 85 = .ok (.iconst 0, 1) := by decide +kernel
theorem dX10_mayHave_86 : decode cX10_mayHave 86 = .ok (.istore_n 3, 1) := by decide +kernel
theorem dX10_mayHave_87 : decode cX10_mayHave 87 = .ok (.iinc 4 1, 3) := by decide +kernel
theorem dX10_mayHave_90 : decode cX10_mayHave 90 = .ok (.goto (-85), 3) := by decide +kernel
theorem dX10_mayHave_93 : decode cX10_mayHave 93 = .ok (.iload_n 3, 1) := by decide +kernel
theorem dX10_mayHave_94 : decode cX10_mayHave 94 = .ok (.ireturn, 1) := by decide +kernel
set_option maxRecDepth 20000 in
theorem ggX10_had_X10_isFlag : GoodIn wsX10_had wsX10_isFlag := goodIn_r _ [6, 7, 8, 9, 5, 10, 27, 28, 29, 30, 31, 32, 33, 34, 35, 36, 37, 38, 39, 40, 41, 42, 43, 44, 45, 46, 47, 48, 49, 50] (by decide +kernel) (by decide +kernel)
set_option maxRecDepth 20000 in
theorem gX10_had_X10_isFlag : GoodIn wsX10_had (wsV RX10 126 RX10 yX10_isFlag wsX10_isFlag) := goodIn_app (goodIn_of _ (by decide +kernel)) ggX10_had_X10_isFlag
set_option maxRecDepth 20000 in
theorem ggX10_had_X10_in : GoodIn wsX10_had wsX10_in := goodIn_r _ [10] (by decide +kernel) (by decide +kernel)
set_option maxRecDepth 20000 in
theorem gX10_had_X10_in : GoodIn wsX10_had (va_wsS RX10 59 yX10_in wsX10_in) := goodIn_app (goodIn_of _ (by decide +kernel)) ggX10_had_X10_in
set_option maxRecDepth 20000 in
theorem ggX10_had_X10_mayHave : GoodIn wsX10_had wsX10_mayHave := goodIn_r _ [14, 15, 16, 17, 7, 18, 19, 20, 21, 5, 22, 23, 24, 25, 26, 27, 28, 29, 30, 31, 32, 33, 34, 35, 36, 37, 38, 39, 40, 41, 42, 43, 44, 45, 46, 47, 48, 49, 50] (by decide +kernel) (by decide +kernel)
set_option maxRecDepth 20000 in
theorem gX10_had_X10_mayHave : GoodIn wsX10_had (wsV RX10 175 RX10 yX10_mayHave wsX10_mayHave) := goodIn_app (goodIn_of _ (by decide +kernel)) ggX10_had_X10_mayHave
theorem dX10_had_0 : decode cX10_had 0 = .ok (.aload_n 0, 1) := by decide +kernel
theorem dX10_had_1 : decode cX10_had 1 = .ok (.iload_n 1, 1) := by decide +kernel
theorem dX10_had_2 : decode cX10_had 2 = .ok (.invokevirtual 126, 3) := by decide +kernel
theorem dX10_had_5 : decode cX10_had 5 = .ok (.ifCond .ne 5, 3) := by decide +kernel
theorem dX10_had_8 : decode cX10_had 8 = .ok (.iconst (-1), 1) := by decide +kernel
theorem dX10_had_9 : decode cX10_had 9 = .ok (.ireturn, 1) := by decide +kernel
theorem dX10_had_10 : decode cX10_had 10 = .ok (.iload_n 2, 1) := by decide +kernel
theorem dX10_had_11 : decode cX10_had 11 = .ok (.i2l, 1) := by decide +kernel
theorem dX10_had_12 : decode cX10_had 12 = .ok (.lconst 0, 1) := by decide +kernel
theorem dX10_had_13 : decode cX10_had 13 = .ok (.ldc2_w 148, 3) := by decide +kernel
theorem dX10_had_16 : decode cX10_had 16 = .ok (.invokestatic 59, 3) := by decide +kernel
theorem dX10_had_19 : decode cX10_had 19 = .ok (.ifCond .ne 6, 3) := by decide +kernel
theorem dX10_had_22 : decode cX10_had 22 = .ok (.bipush (-2), 2) := by decide +kernel
theorem dX10_had_24 : decode cX10_had 24 = .ok (.ireturn, 1) := by decide +kernel
theorem dX10_had_25 : decode cX10_had 25 = .ok (.iconst 0, 1) := by decide +kernel
theorem dX10_had_26 : decode cX10_had 26 = .ok (.istore_n 3, 1) := by decide +kernel
theorem dX10_had_27 : decode cX10_had 27 = .ok (.bipush 15, 2) := by decide +kernel
theorem dX10_had_29 : decode cX10_had 29 = .ok (.istore 4, 2) := by decide +kernel
theorem dX10_had_31 : decode cX10_had 31 = .ok (.iconst 0, 1) := by decide +kernel
theorem dX10_had_32 : decode cX10_had 32 = .ok (.istore 5, 2) := by decide +kernel
theorem dX10_had_34 : decode cX10_had 34 = .ok (.iconst 0, 1) := by decide +kernel
theorem dX10_had_35 : decode cX10_had 35 = .ok (.istore 6, 2) := by decide +kernel
theorem dX10_had_37 : decode cX10_had 37 = .ok (.iload 6, 2) := by decide +kernel
theorem dX10_had_39 : decode cX10_had 39 = .ok (.bipush 16, 2) := by decide +kernel
theorem dX10_had_41 : decode cX10_had 41 = .ok (.if_icmp .ge 36, 3) := by decide +kernel
theorem dX10_had_44 : decode cX10_had 44 = .ok (.aload_n 0, 1) := by decide +kernel
theorem dX10_had_45 : decode cX10_had 45 = .ok (.iload_n 1, 1) := by decide +kernel
theorem dX10_had_46 : decode cX10_had 46 = .ok (.iload 6, 2) := by decide +kernel
theorem dX10_had_48 : decode cX10_had 48 = .ok (.invokevirtual 175, 3) := by decide +kernel
theorem dX10_had_51 : decode cX10_had 51 = .ok (.ifCond .eq 20, 3) := by decide +kernel
theorem dX10_had_54 : decode cX10_had 54 = .ok (.iinc 3 1, 3) := by decide +kernel
theorem dX10_had_57 : decode cX10_had 57 = .ok (.iload 4, 2) := by decide +kernel
theorem dX10_had_59 : decode cX10_had 59 = .ok (.iload 6, 2) := by decide +kernel
theorem dX10_had_61 : decode cX10_had 61 = .ok (.iand, 1) := by decide +kernel
theorem dX10_had_62 : decode cX10_had 62 = .ok (.istore 4, 2) := by decide +kernel
theorem dX10_had_64 : decode cX10_had 64 = .ok (.iload 5, 2) := by decide +kernel
theorem dX10_had_66 : decode cX10_had 66 = .ok (.iload 6, 2) := by decide +kernel
theorem dX10_had_68 : decode cX10_had 68 = .ok (.ior, 1) := by decide +kernel
theorem dX10_had_69 : decode cX10_had 69 = .ok (.istore 5, 2) := by decide +kernel
