theorem dX6_gather_102 : decode cX6_gather 102 = .ok (.goto (-39), 3) := by decide +kernel
theorem dX6_gather_105 : decode cX6_gather 105 = .ok (.aload_n 0, 1) := by decide +kernel
theorem dX6_gather_106 : decode cX6_gather 106 = .ok (.iload_n 1, 1) := by decide +kernel
theorem dX6_gather_107 : decode cX6_gather 107 = .ok (.iload_n 3, 1) := by decide +kernel
theorem dX6_gather_108 : decode cX6_gather 108 = .ok (.invokevirtual 114, 3) := by decide +kernel
theorem dX6_gather_111 : decode cX6_gather 111 = .ok (.ireturn, 1) := by decide +kernel
set_option maxRecDepth 20000 in
theorem ggX6_fault_X6_isRow : GoodIn wsX6_fault wsX6_isRow := goodIn_r _ [10, 11, 12, 13, 9, 14] (by decide +kernel) (by decide +kernel)
set_option maxRecDepth 20000 in
theorem gX6_fault_X6_isRow : GoodIn wsX6_fault (va_wsS RX6 97 yX6_isRow wsX6_isRow) := goodIn_app (goodIn_of _ (by decide +kernel)) ggX6_fault_X6_isRow
set_option maxRecDepth 20000 in
theorem ggX6_fault_X6_in : GoodIn wsX6_fault wsX6_in := goodIn_r _ [14] (by decide +kernel) (by decide +kernel)
set_option maxRecDepth 20000 in
theorem gX6_fault_X6_in : GoodIn wsX6_fault (va_wsS RX6 52 yX6_in wsX6_in) := goodIn_app (goodIn_of _ (by decide +kernel)) ggX6_fault_X6_in
set_option maxRecDepth 20000 in
theorem ggX6_fault_X6_becomes : GoodIn wsX6_fault wsX6_becomes := goodIn_r _ [18, 5, 6, 4, 19, 20, 9, 21, 22, 12, 13, 14, 23, 24, 25, 26, 27, 28, 29, 30, 31, 32, 33, 34, 35, 36, 37, 38, 39, 40] (by decide +kernel) (by decide +kernel)
set_option maxRecDepth 20000 in
theorem gX6_fault_X6_becomes : GoodIn wsX6_fault (wsV RX6 114 RX6 yX6_becomes wsX6_becomes) := goodIn_app (goodIn_of _ (by decide +kernel)) ggX6_fault_X6_becomes
theorem dX6_fault_0 : decode cX6_fault 0 = .ok (.iload_n 1, 1) := by decide +kernel
theorem dX6_fault_1 : decode cX6_fault 1 = .ok (.invokestatic 97, 3) := by decide +kernel
theorem dX6_fault_4 : decode cX6_fault 4 = .ok (.ifCond .eq 29, 3) := by decide +kernel
theorem dX6_fault_7 : decode cX6_fault 7 = .ok (.iload_n 2, 1) := by decide +kernel
theorem dX6_fault_8 : decode cX6_fault 8 = .ok (.i2l, 1) := by decide +kernel
theorem dX6_fault_9 : decode cX6_fault 9 = .ok (.ldc2_w 118, 3) := by decide +kernel
theorem dX6_fault_12 : decode cX6_fault 12 = .ok (.ldc2_w 122, 3) := by decide +kernel
theorem dX6_fault_15 : decode cX6_fault 15 = .ok (.invokestatic 52, 3) := by decide +kernel
theorem dX6_fault_18 : decode cX6_fault 18 = .ok (.ifCond .eq 15, 3) := by decide +kernel
theorem dX6_fault_21 : decode cX6_fault 21 = .ok (.iload_n 3, 1) := by decide +kernel
theorem dX6_fault_22 : decode cX6_fault 22 = .ok (.i2l, 1) := by decide +kernel
theorem dX6_fault_23 : decode cX6_fault 23 = .ok (.lconst 0, 1) := by decide +kernel
theorem dX6_fault_24 : decode cX6_fault 24 = .ok (.ldc2_w 71, 3) := by decide +kernel
theorem dX6_fault_27 : decode cX6_fault 27 = .ok (.invokestatic 52, 3) := by decide +kernel
theorem dX6_fault_30 : decode cX6_fault 30 = .ok (.ifCond .ne 6, 3) := by decide +kernel
theorem dX6_fault_33 : decode cX6_fault 33 = .ok (.bipush (-2), 2) := by decide +kernel
theorem dX6_fault_35 : decode cX6_fault 35 = .ok (.ireturn, 1) := by decide +kernel
theorem dX6_fault_36 : decode cX6_fault 36 = .ok (.iload_n 2, 1) := by decide +kernel
theorem dX6_fault_37 : decode cX6_fault 37 = .ok (.iconst 2, 1) := by decide +kernel
theorem dX6_fault_38 : decode cX6_fault 38 = .ok (.idiv, 1) := by decide +kernel
theorem dX6_fault_39 : decode cX6_fault 39 = .ok (.istore 4, 2) := by decide +kernel
theorem dX6_fault_41 : decode cX6_fault 41 = .ok (.iconst 0, 1) := by decide +kernel
theorem dX6_fault_42 : decode cX6_fault 42 = .ok (.istore 5, 2) := by decide +kernel
theorem dX6_fault_44 : decode cX6_fault 44 = .ok (.iconst 0, 1) := by decide +kernel
theorem dX6_fault_45 : decode cX6_fault 45 = .ok (.istore 6, 2) := by decide +kernel
theorem dX6_fault_47 : decode cX6_fault 47 = .ok (.iload 6, 2) := by decide +kernel
theorem dX6_fault_49 : decode cX6_fault 49 = .ok (.aload_n 0, 1) := by decide +kernel
theorem dX6_fault_50 : decode cX6_fault 50 = .ok (.getfield 35, 3) := by decide +kernel
theorem dX6_fault_53 : decode cX6_fault 53 = .ok (.iload_n 1, 1) := by decide +kernel
theorem dX6_fault_54 : decode cX6_fault 54 = .ok (.iaload, 1) := by decide +kernel
theorem dX6_fault_55 : decode cX6_fault 55 = .ok (.if_icmp .ge 29, 3) := by decide +kernel
theorem dX6_fault_58 : decode cX6_fault 58 = .ok (.aload_n 0, 1) := by decide +kernel
theorem dX6_fault_59 : decode cX6_fault 59 = .ok (.getfield 41, 3) := by decide +kernel
theorem dX6_fault_62 : decode cX6_fault 62 = .ok (.iload 6, 2) := by decide +kernel
theorem dX6_fault_64 : decode cX6_fault 64 = .ok (.aload_n 0, 1) := by decide +kernel
theorem dX6_fault_65 : decode cX6_fault 65 = .ok (.getfield 38, 3) := by decide +kernel
theorem dX6_fault_68 : decode cX6_fault 68 = .ok (.sipush 400, 3) := by decide +kernel
theorem dX6_fault_71 : decode cX6_fault 71 = .ok (.iload_n 1, 1) := by decide +kernel
theorem dX6_fault_72 : decode cX6_fault 72 = .ok (.imul, 1) := by decide +kernel
theorem dX6_fault_73 : decode cX6_fault 73 = .ok (.iload 6, 2) := by decide +kernel
theorem dX6_fault_75 : decode cX6_fault 75 = .ok (.iadd, 1) := by decide +kernel
theorem dX6_fault_76 : decode cX6_fault 76 = .ok (.iaload, 1) := by decide +kernel
theorem dX6_fault_77 : decode cX6_fault 77 = .ok (.iastore, 1) := by decide +kernel
theorem dX6_fault_78 : decode cX6_fault 78 = .ok (.iinc 6 1, 3) := by decide +kernel
theorem dX6_fault_81 : decode cX6_fault 81 = .ok (.goto (-34), 3) := by decide +kernel
theorem dX6_fault_84 : decode cX6_fault 84 = .ok (.iconst 0, 1) := by decide +kernel
theorem dX6_fault_85 : decode cX6_fault 85 = .ok (.istore 6, 2) := by decide +kernel
theorem dX6_fault_87 : decode cX6_fault 87 = .ok (.iload 6, 2) := by decide +kernel
theorem dX6_fault_89 : decode cX6_fault 89 = .ok (.iload_n 2, 1) := by decide +kernel
theorem dX6_fault_90 : decode cX6_fault 90 = .ok (.iadd, 1) := by decide +kernel
theorem dX6_fault_91 : decode cX6_fault 91 = .ok (.aload_n 0, 1) := by decide +kernel
theorem dX6_fault_92 : decode cX6_fault 92 = .ok (.getfield 35, 3) := by decide +kernel
theorem dX6_fault_95 : decode cX6_fault 95 = .ok (.iload_n 1, 1) := by decide +kernel
theorem dX6_fault_96 : decode cX6_fault 96 = .ok (.iaload, 1) := by decide +kernel
theorem dX6_fault_97 : decode cX6_fault 97 = .ok (.if_icmp .gt 90, 3) := by decide +kernel
theorem dX6_fault_100 : decode cX6_fault 100 = .ok (.iload 6, 2) := by decide +kernel
theorem dX6_fault_102 : decode cX6_fault 102 = .ok (.istore 7, 2) := by decide +kernel
theorem dX6_fault_104 : decode cX6_fault 104 = .ok (.iload 7, 2) := by decide +kernel
theorem dX6_fault_106 : decode cX6_fault 106 = .ok (.iload 6, 2) := by decide +kernel
theorem dX6_fault_108 : decode cX6_fault 108 = .ok (.iload 4, 2) := by decide +kernel
theorem dX6_fault_110 : decode cX6_fault 110 = .ok (.iadd, 1) := by decide +kernel
theorem dX6_fault_111 : decode cX6_fault 111 = .ok (.if_icmp .ge 67, 3) := by decide +kernel
theorem dX6_fault_114 : decode cX6_fault 114 = .ok (.aload_n 0, 1) := by decide +kernel
theorem dX6_fault_115 : decode cX6_fault 115 = .ok (.getfield 38, 3) := by decide +kernel
theorem dX6_fault_118 : decode cX6_fault 118 = .ok (.sipush 400, 3) := by decide +kernel
theorem dX6_fault_121 : decode cX6_fault 121 = .ok (.iload_n 1, 1) := by decide +kernel
theorem dX6_fault_122 : decode cX6_fault 122 = .ok (.imul, 1) := by decide +kernel
theorem dX6_fault_123 : decode cX6_fault 123 = .ok (.iload 7, 2) := by decide +kernel
theorem dX6_fault_125 : decode cX6_fault 125 = .ok (.iadd, 1) := by decide +kernel
theorem dX6_fault_126 : decode cX6_fault 126 = .ok (.iaload, 1) := by decide +kernel
theorem dX6_fault_127 : decode cX6_fault 127 = .ok (.i2l, 1) := by decide +kernel
theorem dX6_fault_128 : decode cX6_fault 128 = .ok (.iload_n 3, 1) := by decide +kernel
theorem dX6_fault_129 : decode cX6_fault 129 = .ok (.i2l, 1) := by decide +kernel
theorem dX6_fault_130 : decode cX6_fault 130 = .ok (.lmul, 1) := by decide +kernel
theorem dX6_fault_131 : decode cX6_fault 131 = .ok (.ldc2_w 71, 3) := by decide +kernel
theorem dX6_fault_134 : decode cX6_fault 134 = .ok (.ldiv, 1) := by decide +kernel
theorem dX6_fault_135 : decode cX6_fault 135 = .ok (.l2i, 1) := by decide +kernel
theorem dX6_fault_136 : decode cX6_fault 136 = .ok (.istore 8, 2) := by decide +kernel
theorem dX6_fault_138 : decode cX6_fault 138 = .ok (.aload_n 0, 1) := by decide +kernel
theorem dX6_fault_139 : decode cX6_fault 139 = .ok (.getfield 41, 3) := by decide +kernel
theorem dX6_fault_142 : decode cX6_fault 142 = .ok (.iload 7, 2) := by decide +kernel
theorem dX6_fault_144 : decode cX6_fault 144 = .ok (.dup2, 1) := by decide +kernel
theorem dX6_fault_145 : decode cX6_fault 145 = .ok (.iaload, 1) := by decide +kernel
theorem dX6_fault_146 : decode cX6_fault 146 = .ok (.iload 8, 2) := by decide +kernel
theorem dX6_fault_148 : decode cX6_fault 148 = .ok (.isub, 1) := by decide +kernel
theorem dX6_fault_149 : decode cX6_fault 149 = .ok (.iastore, 1) := by decide +kernel
theorem dX6_fault_150 : decode cX6_fault 150 = .ok (.aload_n 0, 1) := by decide +kernel
theorem dX6_fault_151 : decode cX6_fault 151 = .ok (.getfield 41, 3) := by decide +kernel
theorem dX6_fault_154 : decode cX6_fault 154 = .ok (.iload 7, 2) := by decide +kernel
theorem dX6_fault_156 : decode cX6_fault 156 = .ok (.iload 4, 2) := by decide +kernel
theorem dX6_fault_158 : decode cX6_fault 158 = .ok (.iadd, 1) := by decide +kernel
theorem dX6_fault_159 : decode cX6_fault 159 = .ok (.dup2, 1) := by decide +kernel
theorem dX6_fault_160 : decode cX6_fault 160 = .ok (.iaload, 1) := by decide +kernel
theorem dX6_fault_161 : decode cX6_fault 161 = .ok (.iload 8, 2) := by decide +kernel
theorem dX6_fault_163 : decode cX6_fault 163 = .ok (.iadd, 1) := by decide +kernel
theorem dX6_fault_164 : decode cX6_fault 164 = .ok (.iastore, 1) := by decide +kernel
theorem dX6_fault_165 : decode cX6_fault 165 = .ok (.iload 5, 2) := by decide +kernel
theorem dX6_fault_167 : decode cX6_fault 167 = .ok (.iload 8, 2) := by decide +kernel
theorem dX6_fault_169 : decode cX6_fault 169 = .ok (.iadd, 1) := by decide +kernel
theorem dX6_fault_170 : decode cX6_fault 170 = .ok (.istore 5, 2) := by decide +kernel
theorem dX6_fault_172 : decode cX6_fault 172 = .ok (.iinc 7 1, 3) := by decide +kernel
theorem dX6_fault_175 : decode cX6_fault 175 = .ok (.goto (-71), 3) := by decide +kernel
theorem dX6_fault_178 : decode cX6_fault 178 = .ok (.iload 6, 2) := by decide +kernel
theorem dX6_fault_180 : decode cX6_fault 180 = .ok (.iload_n 2, 1) := by decide +kernel
theorem dX6_fault_181 : decode cX6_fault 181 = .ok (.iadd, 1) := by decide +kernel
theorem dX6_fault_182 : decode cX6_fault 182 = .ok (.istore 6, 2) := by decide +kernel
theorem dX6_fault_184 : decode cX6_fault 184 = .ok (.goto (-97), 3) := by decide +kernel
theorem dX6_fault_187 : decode cX6_fault 187 = .ok (.aload_n 0, 1) := by decide +kernel
theorem dX6_fault_188 : decode cX6_fault 188 = .ok (.iload_n 1, 1) := by decide +kernel
theorem dX6_fault_189 : decode cX6_fault 189 = .ok (.aload_n 0, 1) := by decide +kernel
theorem dX6_fault_190 : decode cX6_fault 190 = .ok (.getfield 35, 3) := by decide +kernel
theorem dX6_fault_193 : decode cX6_fault 193 = .ok (.iload_n 1, 1) := by decide +kernel
theorem dX6_fault_194 : decode cX6_fault 194 = .ok (.iaload, 1) := by decide +kernel
theorem dX6_fault_195 : decode cX6_fault 195 = .ok (.invokevirtual 114, 3) := by decide +kernel
theorem dX6_fault_198 : decode cX6_fault 198 = .ok (.ifCond .ge 8, 3) := by decide +kernel
theorem dX6_fault_201 : decode cX6_fault 201 = .ok (.bipush (-6), 2) := by decide +kernel
theorem dX6_fault_203 : decode cX6_fault 203 = .ok (.goto 5, 3) := by decide +kernel
theorem dX6_fault_206 : decode cX6_fault 206 = .ok (.iload 5, 2) := by decide +kernel
theorem dX6_fault_208 : decode cX6_fault 208 = .ok (.ireturn, 1) := by decide +kernel
theorem dX6_sum_0 : decode cX6_sum 0 = .ok (.lconst 0, 1) := by decide +kernel
theorem dX6_sum_1 : decode cX6_sum 1 = .ok (.lstore_n 2, 1) := by decide +kernel
theorem dX6_sum_2 : decode cX6_sum 2 = .ok (.iconst 0, 1) := by decide +kernel
theorem dX6_sum_3 : decode cX6_sum 3 = .ok (.istore 4, 2) := by decide +kernel
theorem dX6_sum_5 : decode cX6_sum 5 = .ok (.iload 4, 2) := by decide +kernel
theorem dX6_sum_7 : decode cX6_sum 7 = .ok (.aload_n 0, 1) := by decide +kernel
theorem dX6_sum_8 : decode cX6_sum 8 = .ok (.getfield 35, 3) := by decide +kernel
theorem dX6_sum_11 : decode cX6_sum 11 = .ok (.iload_n 1, 1) := by decide +kernel
theorem dX6_sum_12 : decode cX6_sum 12 = .ok (.iaload, 1) := by decide +kernel
theorem dX6_sum_13 : decode cX6_sum 13 = .ok (.if_icmp .ge 26, 3) := by decide +kernel
theorem dX6_sum_16 : decode cX6_sum 16 = .ok (.lload_n 2, 1) := by decide +kernel
theorem dX6_sum_17 : decode cX6_sum 17 = .ok (.aload_n 0, 1) := by decide +kernel
theorem dX6_sum_18 : decode cX6_sum 18 = .ok (.getfield 38, 3) := by decide +kernel
theorem dX6_sum_21 : decode cX6_sum 21 = .ok (.sipush 400, 3) := by decide +kernel
theorem dX6_sum_24 : decode cX6_sum 24 = .ok (.iload_n 1, 1) := by decide +kernel
theorem dX6_sum_25 : decode cX6_sum 25 = .ok (.imul, 1) := by decide +kernel
theorem dX6_sum_26 : decode cX6_sum 26 = .ok (.iload 4, 2) := by decide +kernel
theorem dX6_sum_28 : decode cX6_sum 28 = .ok (.iadd, 1) := by decide +kernel
theorem dX6_sum_29 : decode cX6_sum 29 = .ok (.iaload, 1) := by decide +kernel
theorem dX6_sum_30 : decode cX6_sum 30 = .ok (.i2l, 1) := by decide +kernel
theorem dX6_sum_31 : decode cX6_sum 31 = .ok (.ladd, 1) := by decide +kernel
theorem dX6_sum_32 : decode cX6_sum 32 = .ok (.lstore_n 2, 1) := by decide +kernel
theorem dX6_sum_33 : decode cX6_sum 33 = .ok (.iinc 4 1, 3) := by decide +kernel
theorem dX6_sum_36 : decode cX6_sum 36 = .ok (.goto (-31), 3) := by decide +kernel
theorem dX6_sum_39 : decode cX6_sum 39 = .ok (.lload_n 2, 1) := by decide +kernel
theorem dX6_sum_40 : decode cX6_sum 40 = .ok (.lreturn, 1) := by decide +kernel
set_option maxRecDepth 20000 in
theorem ggX6_about_X6_isRow : GoodIn wsX6_about wsX6_isRow := goodIn_r _ [8, 9, 10, 11, 7, 12] (by decide +kernel) (by decide +kernel)
set_option maxRecDepth 20000 in
theorem gX6_about_X6_isRow : GoodIn wsX6_about (va_wsS RX6 97 yX6_isRow wsX6_isRow) := goodIn_app (goodIn_of _ (by decide +kernel)) ggX6_about_X6_isRow
set_option maxRecDepth 20000 in
theorem ggX6_about_X6_in : GoodIn wsX6_about wsX6_in := goodIn_r _ [12] (by decide +kernel) (by decide +kernel)
set_option maxRecDepth 20000 in
theorem gX6_about_X6_in : GoodIn wsX6_about (va_wsS RX6 52 yX6_in wsX6_in) := goodIn_app (goodIn_of _ (by decide +kernel)) ggX6_about_X6_in
set_option maxRecDepth 20000 in
theorem ggX6_about_X6_sum : GoodIn wsX6_about wsX6_sum := goodIn_r _ [16, 3, 4, 17, 18, 19, 20, 21, 22, 23, 24, 25, 26, 27, 28, 29, 30, 31, 32, 33, 34] (by decide +kernel) (by decide +kernel)
set_option maxRecDepth 20000 in
theorem gX6_about_X6_sum : GoodIn wsX6_about (wsV RX6 126 RX6 yX6_sum wsX6_sum) := goodIn_app (goodIn_of _ (by decide +kernel)) ggX6_about_X6_sum
theorem dX6_about_0 : decode cX6_about 0 = .ok (.iload_n 1, 1) := by decide +kernel
theorem dX6_about_1 : decode cX6_about 1 = .ok (.invokestatic 97, 3) := by decide +kernel
theorem dX6_about_4 : decode cX6_about 4 = .ok (.ifCond .eq 15, 3) := by decide +kernel
theorem dX6_about_7 : decode cX6_about 7 = .ok (.iload_n 2, 1) := by decide +kernel
theorem dX6_about_8 : decode cX6_about 8 = .ok (.i2l, 1) := by decide +kernel
theorem dX6_about_9 : decode cX6_about 9 = .ok (.lconst 0, 1) := by decide +kernel
theorem dX6_about_10 : decode cX6_about 10 = .ok (.ldc2_w 118, 3) := by decide +kernel
theorem dX6_about_13 : decode cX6_about 13 = .ok (.invokestatic 52, 3) := by decide +kernel
theorem dX6_about_16 : decode cX6_about 16 = .ok (.ifCond .ne 7, 3) := by decide +kernel
theorem dX6_about_19 : decode cX6_about 19 = .ok (.ldc2_w 124, 3) := by decide +kernel
theorem dX6_about_22 : decode cX6_about 22 = .ok (.lreturn, 1) := by decide +kernel
theorem dX6_about_23 : decode cX6_about 23 = .ok (.iload_n 2, 1) := by decide +kernel
theorem dX6_about_24 : decode cX6_about 24 = .ok (.iconst 2, 1) := by decide +kernel
theorem dX6_about_25 : decode cX6_about 25 = .ok (.if_icmp .ge 23, 3) := by decide +kernel
theorem dX6_about_28 : decode cX6_about 28 = .ok (.iload_n 2, 1) := by decide +kernel
theorem dX6_about_29 : decode cX6_about 29 = .ok (.ifCond .ne 13, 3) := by decide +kernel
theorem dX6_about_32 : decode cX6_about 32 = .ok (.aload_n 0, 1) := by decide +kernel
theorem dX6_about_33 : decode cX6_about 33 = .ok (.getfield 35, 3) := by decide +kernel
theorem dX6_about_36 : decode cX6_about 36 = .ok (.iload_n 1, 1) := by decide +kernel
theorem dX6_about_37 : decode cX6_about 37 = .ok (.iaload, 1) := by decide +kernel
theorem dX6_about_38 : decode cX6_about 38 = .ok (.i2l, 1) := by decide +kernel
theorem dX6_about_39 : decode cX6_about 39 = .ok (.goto 8, 3) := by decide +kernel
theorem dX6_about_42 : decode cX6_about 42 = .ok (.aload_n 0, 1) := by decide +kernel
theorem dX6_about_43 : decode cX6_about 43 = .ok (.iload_n 1, 1) := by decide +kernel
theorem dX6_about_44 : decode cX6_about 44 = .ok (.invokevirtual 126, 3) := by decide +kernel
theorem dX6_about_47 : decode cX6_about 47 = .ok (.lreturn, 1) := by decide +kernel
theorem dX6_about_48 : decode cX6_about 48 = .ok (.lconst 0, 1) := by decide +kernel
theorem dX6_about_49 : decode cX6_about 49 = .ok (.lstore_n 3, 1) := by decide +kernel
theorem dX6_about_50 : decode cX6_about 50 = .ok (.iconst 0, 1) := by decide +kernel
theorem dX6_about_51 : decode cX6_about 51 = .ok (.istore 5, 2) := by decide +kernel
theorem dX6_about_53 : decode cX6_about 53 = .ok (.iload 5, 2) := by decide +kernel
theorem dX6_about_55 : decode cX6_about 55 = .ok (.aload_n 0, 1) := by decide +kernel
theorem dX6_about_56 : decode cX6_about 56 = .ok (.getfield 35, 3) := by decide +kernel
theorem dX6_about_59 : decode cX6_about 59 = .ok (.iload_n 1, 1) := by decide +kernel
theorem dX6_about_60 : decode cX6_about 60 = .ok (.iaload, 1) := by decide +kernel
theorem dX6_about_61 : decode cX6_about 61 = .ok (.if_icmp .ge 41, 3) := by decide +kernel
theorem dX6_about_64 : decode cX6_about 64 = .ok (.lload_n 3, 1) := by decide +kernel
theorem dX6_about_65 : decode cX6_about 65 = .ok (.aload_n 0, 1) := by decide +kernel
theorem dX6_about_66 : decode cX6_about 66 = .ok (.getfield 38, 3) := by decide +kernel
theorem dX6_about_69 : decode cX6_about 69 = .ok (.sipush 400, 3) := by decide +kernel
theorem dX6_about_72 : decode cX6_about 72 = .ok (.iload_n 1, 1) := by decide +kernel
theorem dX6_about_73 : decode cX6_about 73 = .ok (.imul, 1) := by decide +kernel
theorem dX6_about_74 : decode cX6_about 74 = .ok (.iload 5, 2) := by decide +kernel
theorem dX6_about_76 : decode cX6_about 76 = .ok (.iadd, 1) := by decide +kernel
theorem dX6_about_77 : decode cX6_about 77 = .ok (.iaload, 1) := by decide +kernel
theorem dX6_about_78 : decode cX6_about 78 = .ok (.i2l, 1) := by decide +kernel
theorem dX6_about_79 : decode cX6_about 79 = .ok (.aload_n 0, 1) := by decide +kernel
theorem dX6_about_80 : decode cX6_about 80 = .ok (.getfield 38, 3) := by decide +kernel
theorem dX6_about_83 : decode cX6_about 83 = .ok (.sipush 400, 3) := by decide +kernel
theorem dX6_about_86 : decode cX6_about 86 = .ok (.iload_n 1, 1) := by decide +kernel
theorem dX6_about_87 : decode cX6_about 87 = .ok (.imul, 1) := by decide +kernel
theorem dX6_about_88 : decode cX6_about 88 = .ok (.iload 5, 2) := by decide +kernel
theorem dX6_about_90 : decode cX6_about 90 = .ok (.iadd, 1) := by decide +kernel
theorem dX6_about_91 : decode cX6_about 91 = .ok (.iaload, 1) := by decide +kernel
theorem dX6_about_92 : decode cX6_about 92 = .ok (.i2l, 1) := by decide +kernel
theorem dX6_about_93 : decode cX6_about 93 = .ok (.lmul, 1) := by decide +kernel
theorem dX6_about_94 : decode cX6_about 94 = .ok (.ladd, 1) := by decide +kernel
theorem dX6_about_95 : decode cX6_about 95 = .ok (.lstore_n 3, 1) := by decide +kernel
theorem dX6_about_96 : decode cX6_about 96 = .ok (.iinc 5 1, 3) := by decide +kernel
theorem dX6_about_99 : decode cX6_about 99 = .ok (.goto (-46), 3) := by decide +kernel
theorem dX6_about_102 : decode cX6_about 102 = .ok (.aload_n 0, 1) := by decide +kernel
theorem dX6_about_103 : decode cX6_about 103 = .ok (.getfield 35, 3) := by decide +kernel
theorem dX6_about_106 : decode cX6_about 106 = .ok (.iload_n 1, 1) := by decide +kernel
theorem dX6_about_107 : decode cX6_about 107 = .ok (.iaload, 1) := by decide +kernel
theorem dX6_about_108 : decode cX6_about 108 = .ok (.i2l, 1) := by decide +kernel
theorem dX6_about_109 : decode cX6_about 109 = .ok (.lload_n 3, 1) := by decide +kernel
theorem dX6_about_110 : decode cX6_about 110 = .ok (.lmul, 1) := by decide +kernel
theorem dX6_about_111 : decode cX6_about 111 = .ok (.aload_n 0, 1) := by decide +kernel
theorem dX6_about_112 : decode cX6_about 112 = .ok (.iload_n 1, 1) := by decide +kernel
theorem dX6_about_113 : decode cX6_about 113 = .ok (.invokevirtual 126, 3) := by decide +kernel
theorem dX6_about_116 : decode cX6_about 116 = .ok (.aload_n 0, 1) := by decide +kernel
theorem dX6_about_117 : decode cX6_about 117 = .ok (.iload_n 1, 1) := by decide +kernel
theorem dX6_about_118 : decode cX6_about 118 = .ok (.invokevirtual 126, 3) := by decide +kernel
theorem dX6_about_121 : decode cX6_about 121 = .ok (.lmul, 1) := by decide +kernel
theorem dX6_about_122 : decode cX6_about 122 = .ok (.lsub, 1) := by decide +kernel
theorem dX6_about_123 : decode cX6_about 123 = .ok (.lreturn, 1) := by decide +kernel
theorem dX6_waveOf_0 : decode cX6_waveOf 0 = .ok (.aload_n 0, 1) := by decide +kernel
theorem dX6_waveOf_1 : decode cX6_waveOf 1 = .ok (.getfield 35, 3) := by decide +kernel
theorem dX6_waveOf_4 : decode cX6_waveOf 4 = .ok (.iload_n 1, 1) := by decide +kernel
theorem dX6_waveOf_5 : decode cX6_waveOf 5 = .ok (.iaload, 1) := by decide +kernel
theorem dX6_waveOf_6 : decode cX6_waveOf 6 = .ok (.iload_n 2, 1) := by decide +kernel
theorem dX6_waveOf_7 : decode cX6_waveOf 7 = .ok (.idiv, 1) := by decide +kernel
theorem dX6_waveOf_8 : decode cX6_waveOf 8 = .ok (.iload_n 2, 1) := by decide +kernel
theorem dX6_waveOf_9 : decode cX6_waveOf 9 = .ok (.imul, 1) := by decide +kernel
theorem dX6_waveOf_10 : decode cX6_waveOf 10 = .ok (.istore_n 3, 1) := by decide +kernel
theorem dX6_waveOf_11 : decode cX6_waveOf 11 = .ok (.lconst 0, 1) := by decide +kernel
theorem dX6_waveOf_12 : decode cX6_waveOf 12 = .ok (.lstore 4, 2) := by decide +kernel
theorem dX6_waveOf_14 : decode cX6_waveOf 14 = .ok (.lconst 0, 1) := by decide +kernel
theorem dX6_waveOf_15 : decode cX6_waveOf 15 = .ok (.lstore 6, 2) := by decide +kernel
theorem dX6_waveOf_17 : decode cX6_waveOf 17 = .ok (.iconst 0, 1) := by decide +kernel
theorem dX6_waveOf_18 : decode cX6_waveOf 18 = .ok (.istore 8, 2) := by decide +kernel
theorem dX6_waveOf_20 : decode cX6_waveOf 20 = .ok (.iload 8, 2) := by decide +kernel
theorem dX6_waveOf_22 : decode cX6_waveOf 22 = .ok (.iload_n 2, 1) := by decide +kernel
theorem dX6_waveOf_23 : decode cX6_waveOf 23 = .ok (.if_icmp .ge 67, 3) := by decide +kernel
theorem dX6_waveOf_26 : decode cX6_waveOf 26 = .ok (.lconst 0, 1) := by decide +kernel
theorem dX6_waveOf_27 : decode cX6_waveOf 27 = .ok (.lstore 9, 2) := by decide +kernel
theorem dX6_waveOf_29 : decode cX6_waveOf 29 = .ok (.iload 8, 2) := by decide +kernel
theorem dX6_waveOf_31 : decode cX6_waveOf 31 = .ok (.istore 11, 2) := by decide +kernel
theorem dX6_waveOf_33 : decode cX6_waveOf 33 = .ok (.iload 11, 2) := by decide +kernel
theorem dX6_waveOf_35 : decode cX6_waveOf 35 = .ok (.iload_n 3, 1) := by decide +kernel
theorem dX6_waveOf_36 : decode cX6_waveOf 36 = .ok (.if_icmp .ge 31, 3) := by decide +kernel
theorem dX6_waveOf_39 : decode cX6_waveOf 39 = .ok (.lload 9, 2) := by decide +kernel
theorem dX6_waveOf_41 : decode cX6_waveOf 41 = .ok (.aload_n 0, 1) := by decide +kernel
theorem dX6_waveOf_42 : decode cX6_waveOf 42 = .ok (.getfield 38, 3) := by decide +kernel
theorem dX6_waveOf_45 : decode cX6_waveOf 45 = .ok (.sipush 400, 3) := by decide +kernel
theorem dX6_waveOf_48 : decode cX6_waveOf 48 = .ok (.iload_n 1, 1) := by decide +kernel
theorem dX6_waveOf_49 : decode cX6_waveOf 49 = .ok (.imul, 1) := by decide +kernel
theorem dX6_waveOf_50 : decode cX6_waveOf 50 = .ok (.iload 11, 2) := by decide +kernel
theorem dX6_waveOf_52 : decode cX6_waveOf 52 = .ok (.iadd, 1) := by decide +kernel
theorem dX6_waveOf_53 : decode cX6_waveOf 53 = .ok (.iaload, 1) := by decide +kernel
theorem dX6_waveOf_54 : decode cX6_waveOf 54 = .ok (.i2l, 1) := by decide +kernel
theorem dX6_waveOf_55 : decode cX6_waveOf 55 = .ok (.ladd, 1) := by decide +kernel
theorem dX6_waveOf_56 : decode cX6_waveOf 56 = .ok (.lstore 9, 2) := by decide +kernel
theorem dX6_waveOf_58 : decode cX6_waveOf 58 = .ok (.iload 11, 2) := by decide +kernel
theorem dX6_waveOf_60 : decode cX6_waveOf 60 = .ok (.iload_n 2, 1) := by decide +kernel
theorem dX6_waveOf_61 : decode cX6_waveOf 61 = .ok (.iadd, 1) := by decide +kernel
theorem dX6_waveOf_62 : decode cX6_waveOf 62 = .ok (.istore 11, 2) := by decide +kernel
theorem dX6_waveOf_64 : decode cX6_waveOf 64 = .ok (.goto (-31), 3) := by decide +kernel
theorem dX6_waveOf_67 : decode cX6_waveOf 67 = .ok (.lload 4, 2) := by decide +kernel
theorem dX6_waveOf_69 : decode cX6_waveOf 69 = .ok (.lload 9, 2) := by decide +kernel
theorem dX6_waveOf_71 : decode cX6_waveOf 71 = .ok (.lload 9, 2) := by decide +kernel
theorem dX6_waveOf_73 : decode cX6_waveOf 73 = .ok (.lmul, 1) := by decide +kernel
theorem dX6_waveOf_74 : decode cX6_waveOf 74 = .ok (.ladd, 1) := by decide +kernel
theorem dX6_waveOf_75 : decode cX6_waveOf 75 = .ok (.lstore 4, 2) := by decide +kernel
theorem dX6_waveOf_77 : decode cX6_waveOf 77 = .ok (.lload 6, 2) := by decide +kernel
theorem dX6_waveOf_79 : decode cX6_waveOf 79 = .ok (.lload 9, 2) := by decide +kernel
theorem dX6_waveOf_81 : decode cX6_waveOf 81 = .ok (.ladd, 1) := by decide +kernel
theorem dX6_waveOf_82 : decode cX6_waveOf 82 = .ok (.lstore 6, 2) := by decide +kernel
theorem dX6_waveOf_84 : decode cX6_waveOf 84 = .ok (.iinc 8 1, 3) := by decide +kernel
theorem dX6_waveOf_87 : decode cX6_waveOf 87 = .ok (.goto (-67), 3) := by decide +kernel
theorem dX6_waveOf_90 : decode cX6_waveOf 90 = .ok (.iload_n 2, 1) := by decide +kernel
theorem dX6_waveOf_91 : decode cX6_waveOf 91 = .ok (.i2l, 1) := by decide +kernel
theorem dX6_waveOf_92 : decode cX6_waveOf 92 = .ok (.lload 4, 2) := by decide +kernel
theorem dX6_waveOf_94 : decode cX6_waveOf 94 = .ok (.lmul, 1) := by decide +kernel
theorem dX6_waveOf_95 : decode cX6_waveOf 95 = .ok (.lload 6, 2) := by decide +kernel
theorem dX6_waveOf_97 : decode cX6_waveOf 97 = .ok (.lload 6, 2) := by decide +kernel
theorem dX6_waveOf_99 : decode cX6_waveOf 99 = .ok (.lmul, 1) := by decide +kernel
theorem dX6_waveOf_100 : decode cX6_waveOf 100 = .ok (.lsub, 1) := by decide +kernel
theorem dX6_waveOf_101 : decode cX6_waveOf 101 = .ok (.lreturn, 1) := by decide +kernel
set_option maxRecDepth 20000 in
theorem ggX6_wave_X6_isRow : GoodIn wsX6_wave wsX6_isRow := goodIn_r _ [7, 8, 9, 10, 6, 11] (by decide +kernel) (by decide +kernel)
set_option maxRecDepth 20000 in
theorem gX6_wave_X6_isRow : GoodIn wsX6_wave (va_wsS RX6 97 yX6_isRow wsX6_isRow) := goodIn_app (goodIn_of _ (by decide +kernel)) ggX6_wave_X6_isRow
set_option maxRecDepth 20000 in
theorem ggX6_wave_X6_in : GoodIn wsX6_wave wsX6_in := goodIn_r _ [11] (by decide +kernel) (by decide +kernel)
set_option maxRecDepth 20000 in
theorem gX6_wave_X6_in : GoodIn wsX6_wave (va_wsS RX6 52 yX6_in wsX6_in) := goodIn_app (goodIn_of _ (by decide +kernel)) ggX6_wave_X6_in
set_option maxRecDepth 20000 in
theorem ggX6_wave_X6_waveOf : GoodIn wsX6_wave wsX6_waveOf := goodIn_r _ [15, 16, 17, 18, 19, 20, 21, 22, 23, 24, 25, 26, 27, 28, 29, 30, 31, 32, 33, 34, 35] (by decide +kernel) (by decide +kernel)
set_option maxRecDepth 20000 in
theorem gX6_wave_X6_waveOf : GoodIn wsX6_wave (wsV RX6 132 RX6 yX6_waveOf wsX6_waveOf) := goodIn_app (goodIn_of _ (by decide +kernel)) ggX6_wave_X6_waveOf
theorem dX6_wave_0 : decode cX6_wave 0 = .ok (.iload_n 1, 1) := by decide +kernel
theorem dX6_wave_1 : decode cX6_wave 1 = .ok (.invokestatic 97, 3) := by decide +kernel
theorem dX6_wave_4 : decode cX6_wave 4 = .ok (.ifCond .eq 26, 3) := by decide +kernel
theorem dX6_wave_7 : decode cX6_wave 7 = .ok (.iload_n 2, 1) := by decide +kernel
theorem dX6_wave_8 : decode cX6_wave 8 = .ok (.i2l, 1) := by decide +kernel
theorem dX6_wave_9 : decode cX6_wave 9 = .ok (.ldc2_w 118, 3) := by decide +kernel
theorem dX6_wave_12 : decode cX6_wave 12 = .ok (.ldc2_w 130, 3) := by decide +kernel
theorem dX6_wave_15 : decode cX6_wave 15 = .ok (.invokestatic 52, 3) := by decide +kernel
theorem dX6_wave_18 : decode cX6_wave 18 = .ok (.ifCond .eq 12, 3) := by decide +kernel
theorem dX6_wave_21 : decode cX6_wave 21 = .ok (.aload_n 0, 1) := by decide +kernel
theorem dX6_wave_22 : decode cX6_wave 22 = .ok (.iload_n 1, 1) := by decide +kernel
theorem dX6_wave_23 : decode cX6_wave 23 = .ok (.iload_n 2, 1) := by decide +kernel
theorem dX6_wave_24 : decode cX6_wave 24 = .ok (.invokevirtual 132, 3) := by decide +kernel
theorem dX6_wave_27 : decode cX6_wave 27 = .ok (.goto 6, 3) := by decide +kernel
theorem dX6_wave_30 : decode cX6_wave 30 = .ok (.ldc2_w 124, 3) := by decide +kernel
theorem dX6_wave_33 : decode cX6_wave 33 = .ok (.lreturn, 1) := by decide +kernel
theorem dX6_isAbove_0 : decode cX6_isAbove 0 = .ok (.lload_n 0, 1) := by decide +kernel
theorem dX6_isAbove_1 : decode cX6_isAbove 1 = .ok (.lstore 8, 2) := by decide +kernel
theorem dX6_isAbove_3 : decode cX6_isAbove 3 = .ok (.lload_n 2, 1) := by decide +kernel
theorem dX6_isAbove_4 : decode cX6_isAbove 4 = .ok (.lstore 10, 2) := by decide +kernel
theorem dX6_isAbove_6 : decode cX6_isAbove 6 = .ok (.lload 4, 2) := by decide +kernel
theorem dX6_isAbove_8 : decode cX6_isAbove 8 = .ok (.lstore 12, 2) := by decide +kernel
theorem dX6_isAbove_10 : decode cX6_isAbove 10 = .ok (.lload 6, 2) := by decide +kernel
theorem dX6_isAbove_12 : decode cX6_isAbove 12 = .ok (.lstore 14, 2) := by decide +kernel
theorem dX6_isAbove_14 : decode cX6_isAbove 14 = .ok (.iconst 0, 1) := by decide +kernel
theorem dX6_isAbove_15 : decode cX6_isAbove 15 = .ok (.istore 16, 2) := by decide +kernel
theorem dX6_isAbove_17 : decode cX6_isAbove 17 = .ok (.lload 8, 2) := by decide +kernel
theorem dX6_isAbove_19 : decode cX6_isAbove 19 = .ok (.lload 10, 2) := by decide +kernel
theorem dX6_isAbove_21 : decode cX6_isAbove 21 = .ok (.ldiv, 1) := by decide +kernel
theorem dX6_isAbove_22 : decode cX6_isAbove 22 = .ok (.lstore 17, 2) := by decide +kernel
theorem dX6_isAbove_24 : decode cX6_isAbove 24 = .ok (.lload 12, 2) := by decide +kernel
theorem dX6_isAbove_26 : decode cX6_isAbove 26 = .ok (.lload 14, 2) := by decide +kernel
theorem dX6_isAbove_28 : decode cX6_isAbove 28 = .ok (.ldiv, 1) := by decide +kernel
theorem dX6_isAbove_29 : decode cX6_isAbove 29 = .ok (.lstore 19, 2) := by decide +kernel
theorem dX6_isAbove_31 : decode cX6_isAbove 31 = .ok (.lload 17, 2) := by decide +kernel
theorem dX6_isAbove_33 : decode cX6_isAbove 33 = .ok (.lload 19, 2) := by decide +kernel
theorem dX6_isAbove_35 : decode cX6_isAbove 35 = .ok (.lcmp, 1) := by decide +kernel
theorem dX6_isAbove_36 : decode cX6_isAbove 36 = .ok (.ifCond .eq 27, 3) := by decide +kernel
theorem dX6_isAbove_39 : decode cX6_isAbove 39 = .ok (.lload 17, 2) := by decide +kernel
theorem dX6_isAbove_41 : decode cX6_isAbove 41 = .ok (.lload 19, 2) := by decide +kernel
theorem dX6_isAbove_43 : decode cX6_isAbove 43 = .ok (.lcmp, 1) := by decide +kernel
theorem dX6_isAbove_44 : decode cX6_isAbove 44 = .ok (.ifCond .le 7, 3) := by decide +kernel
theorem dX6_isAbove_47 : decode cX6_isAbove 47 = .ok (.iconst 1, 1) := by decide +kernel
theorem dX6_isAbove_48 : decode cX6_isAbove 48 = .ok (.goto 4, 3) := by decide +kernel
theorem dX6_isAbove_51 : decode cX6_isAbove 51 = .ok (.iconst 0, 1) := by decide +kernel
theorem dX6_isAbove_52 : decode cX6_isAbove 52 = .ok (.iload 16, 2) := by decide +kernel
theorem dX6_isAbove_54 : decode cX6_isAbove 54 = .ok (.if_icmp .eq 7, 3) := by decide +kernel
theorem dX6_isAbove_57 : decode cX6_isAbove 57 = .ok (.iconst 1, 1) := by decide +kernel
theorem dX6_isAbove_58 : decode cX6_isAbove 58 = .ok (.goto 4, 3) := by decide +kernel
theorem dX6_isAbove_61 : decode cX6_isAbove 61 = .ok (.iconst 0, 1) := by decide +kernel
theorem dX6_isAbove_62 : decode cX6_isAbove 62 = .ok (.ireturn, 1) := by decide +kernel
theorem dX6_isAbove_63 : decode cX6_isAbove 63 = .ok (.lload 8, 2) := by decide +kernel
theorem dX6_isAbove_65 : decode cX6_isAbove 65 = .ok (.lload 17, 2) := by decide +kernel
theorem dX6_isAbove_67 : decode cX6_isAbove 67 = .ok (.lload 10, 2) := by decide +kernel
theorem dX6_isAbove_69 : decode cX6_isAbove 69 = .ok (.lmul, 1) := by decide +kernel
theorem dX6_isAbove_70 : decode cX6_isAbove 70 = .ok (.lsub, 1) := by decide +kernel
theorem dX6_isAbove_71 : decode cX6_isAbove 71 = .ok (.lstore 21, 2) := by decide +kernel
theorem dX6_isAbove_73 : decode cX6_isAbove 73 = .ok (.lload 12, 2) := by decide +kernel
theorem dX6_isAbove_75 : decode cX6_isAbove 75 = .ok (.lload 19, 2) := by decide +kernel
theorem dX6_isAbove_77 : decode cX6_isAbove 77 = .ok (.lload 14, 2) := by decide +kernel
theorem dX6_isAbove_79 : decode cX6_isAbove 79 = .ok (.lmul, 1) := by decide +kernel
theorem dX6_isAbove_80 : decode cX6_isAbove 80 = .ok (.lsub, 1) := by decide +kernel
theorem dX6_isAbove_81 : decode cX6_isAbove 81 = .ok (.lstore 23, 2) := by decide +kernel
theorem dX6_isAbove_83 : decode cX6_isAbove 83 = .ok (.lload 21, 2) := by decide +kernel
theorem dX6_isAbove_85 : decode cX6_isAbove 85 = .ok (.lconst 0, 1) := by decide +kernel
theorem dX6_isAbove_86 : decode cX6_isAbove 86 = .ok (.lcmp, 1) := by decide +kernel
theorem dX6_isAbove_87 : decode cX6_isAbove 87 = .ok (.ifCond .eq 10, 3) := by decide +kernel
theorem dX6_isAbove_90 : decode cX6_isAbove 90 = .ok (.lload 23, 2) := by decide +kernel
theorem dX6_isAbove_92 : decode cX6_isAbove 92 = .ok (.lconst 0, 1) := by decide +kernel
theorem dX6_isAbove_93 : decode cX6_isAbove 93 = .ok (.lcmp, 1) := by decide +kernel
theorem dX6_isAbove_94 : decode cX6_isAbove 94 = .ok (.ifCond .ne 34, 3) := by decide +kernel
theorem dX6_isAbove_97 : decode cX6_isAbove 97 = .ok (.lload 21, 2) := by decide +kernel
theorem dX6_isAbove_99 : decode cX6_isAbove 99 = .ok (.lload 23, 2) := by decide +kernel
theorem dX6_isAbove_101 : decode cX6_isAbove 101 = .ok (.lcmp, 1) := by decide +kernel
theorem dX6_isAbove_102 : decode cX6_isAbove 102 = .ok (.ifCond .eq 24, 3) := by decide +kernel
theorem dX6_isAbove_105 : decode cX6_isAbove 105 = .ok (.lload 21, 2) := by decide +kernel
theorem dX6_isAbove_107 : decode cX6_isAbove 107 = .ok (.lconst 0, 1) := by decide +kernel
theorem dX6_isAbove_108 : decode cX6_isAbove 108 = .ok (.lcmp, 1) := by decide +kernel
theorem dX6_isAbove_109 : decode cX6_isAbove 109 = .ok (.ifCond .le 7, 3) := by decide +kernel
theorem dX6_isAbove_112 : decode cX6_isAbove 112 = .ok (.iconst 1, 1) := by decide +kernel
theorem dX6_isAbove_113 : decode cX6_isAbove 113 = .ok (.goto 4, 3) := by decide +kernel
theorem dX6_isAbove_116 : decode cX6_isAbove 116 = .ok (.iconst 0, 1) := by decide +kernel
theorem dX6_isAbove_117 : decode cX6_isAbove 117 = .ok (.iload 16, 2) := by decide +kernel
theorem dX6_isAbove_119 : decode cX6_isAbove 119 = .ok (.if_icmp .eq 7, 3) := by decide +kernel
theorem dX6_isAbove_122 : decode cX6_isAbove 122 = .ok (.iconst 1, 1) := by decide +kernel
theorem dX6_isAbove_123 : decode cX6_isAbove 123 = .ok (.goto 4, 3) := by decide +kernel
theorem dX6_isAbove_126 : decode cX6_isAbove 126 = .ok (.iconst 0, 1) := by decide +kernel
theorem dX6_isAbove_127 : decode cX6_isAbove 127 = .ok (.ireturn, 1) := by decide +kernel
theorem dX6_isAbove_128 : decode cX6_isAbove 128 = .ok (.lload 10, 2) := by decide +kernel
theorem dX6_isAbove_130 : decode cX6_isAbove 130 = .ok (.lstore 8, 2) := by decide +kernel
theorem dX6_isAbove_132 : decode cX6_isAbove 132 = .ok (.lload 21, 2) := by decide +kernel
theorem dX6_isAbove_134 : decode cX6_isAbove 134 = .ok (.lstore 10, 2) := by decide +kernel
theorem dX6_isAbove_136 : decode cX6_isAbove 136 = .ok (.lload 14, 2) := by decide +kernel
theorem dX6_isAbove_138 : decode cX6_isAbove 138 = .ok (.lstore 12, 2) := by decide +kernel
theorem dX6_isAbove_140 : decode cX6_isAbove 140 = .ok (.lload 23, 2) := by decide +kernel
theorem dX6_isAbove_142 : decode cX6_isAbove 142 = .ok (.lstore 14, 2) := by decide +kernel
theorem dX6_isAbove_144 : decode cX6_isAbove 144 = .ok (.iload 16, 2) := by decide +kernel
theorem dX6_isAbove_146 : decode cX6_isAbove 146 = .ok (.ifCond .ne 7, 3) := by decide +kernel
theorem dX6_isAbove_149 : decode cX6_isAbove 149 = .ok (.iconst 1, 1) := by decide +kernel
theorem dX6_isAbove_150 : decode cX6_isAbove 150 = .ok (.goto 4, 3) := by decide +kernel
theorem dX6_isAbove_153 : decode cX6_isAbove 153 = .ok (.iconst 0, 1) := by decide +kernel
theorem dX6_isAbove_154 : decode cX6_isAbove 154 = .ok (.istore 16, 2) := by decide +kernel
theorem dX6_isAbove_156 : decode cX6_isAbove 156 = .ok (.goto (-139), 3) := by decide +kernel
set_option maxRecDepth 20000 in
theorem ggX6_greatest_X6_isRow : GoodIn wsX6_greatest wsX6_isRow := goodIn_r _ [7, 8, 9, 10, 6, 11] (by decide +kernel) (by decide +kernel)
set_option maxRecDepth 20000 in
theorem gX6_greatest_X6_isRow : GoodIn wsX6_greatest (va_wsS RX6 97 yX6_isRow wsX6_isRow) := goodIn_app (goodIn_of _ (by decide +kernel)) ggX6_greatest_X6_isRow
set_option maxRecDepth 20000 in
theorem ggX6_greatest_X6_in : GoodIn wsX6_greatest wsX6_in := goodIn_r _ [11] (by decide +kernel) (by decide +kernel)
set_option maxRecDepth 20000 in
theorem gX6_greatest_X6_in : GoodIn wsX6_greatest (va_wsS RX6 52 yX6_in wsX6_in) := goodIn_app (goodIn_of _ (by decide +kernel)) ggX6_greatest_X6_in
set_option maxRecDepth 20000 in
theorem ggX6_greatest_X6_waveOf : GoodIn wsX6_greatest wsX6_waveOf := goodIn_r _ [15, 3, 16, 20, 21, 22, 23, 24, 25, 26, 27, 28, 29, 30, 31, 32, 33, 34, 35, 36, 37] (by decide +kernel) (by decide +kernel)
set_option maxRecDepth 20000 in
theorem gX6_greatest_X6_waveOf : GoodIn wsX6_greatest (wsV RX6 132 RX6 yX6_waveOf wsX6_waveOf) := goodIn_app (goodIn_of _ (by decide +kernel)) ggX6_greatest_X6_waveOf
set_option maxRecDepth 20000 in
theorem ggX6_greatest_X6_isAbove : GoodIn wsX6_greatest wsX6_isAbove := goodIn_r _ [19] (by decide +kernel) (by decide +kernel)
set_option maxRecDepth 20000 in
theorem gX6_greatest_X6_isAbove : GoodIn wsX6_greatest (va_wsS RX6 135 yX6_isAbove wsX6_isAbove) := goodIn_app (goodIn_of _ (by decide +kernel)) ggX6_greatest_X6_isAbove
theorem dX6_greatest_0 : decode cX6_greatest 0 = .ok (.iload_n 1, 1) := by decide +kernel
theorem dX6_greatest_1 : decode cX6_greatest 1 = .ok (.invokestatic 97, 3) := by decide +kernel
theorem dX6_greatest_4 : decode cX6_greatest 4 = .ok (.ifCond .eq 17, 3) := by decide +kernel
theorem dX6_greatest_7 : decode cX6_greatest 7 = .ok (.iload_n 2, 1) := by decide +kernel
theorem dX6_greatest_8 : decode cX6_greatest 8 = .ok (.i2l, 1) := by decide +kernel
theorem dX6_greatest_9 : decode cX6_greatest 9 = .ok (.ldc2_w 118, 3) := by decide +kernel
theorem dX6_greatest_12 : decode cX6_greatest 12 = .ok (.ldc2_w 130, 3) := by decide +kernel
theorem dX6_greatest_15 : decode cX6_greatest 15 = .ok (.invokestatic 52, 3) := by decide +kernel
theorem dX6_greatest_18 : decode cX6_greatest 18 = .ok (.ifCond .ne 6, 3) := by decide +kernel
theorem dX6_greatest_21 : decode cX6_greatest 21 = .ok (.bipush (-2), 2) := by decide +kernel
theorem dX6_greatest_23 : decode cX6_greatest 23 = .ok (.ireturn, 1) := by decide +kernel
theorem dX6_greatest_24 : decode cX6_greatest 24 = .ok (.iconst (-1), 1) := by decide +kernel
theorem dX6_greatest_25 : decode cX6_greatest 25 = .ok (.istore_n 3, 1) := by decide +kernel
theorem dX6_greatest_26 : decode cX6_greatest 26 = .ok (.lconst 0, 1) := by decide +kernel
theorem dX6_greatest_27 : decode cX6_greatest 27 = .ok (.lstore 4, 2) := by decide +kernel
theorem dX6_greatest_29 : decode cX6_greatest 29 = .ok (.lconst 1, 1) := by decide +kernel
theorem dX6_greatest_30 : decode cX6_greatest 30 = .ok (.lstore 6, 2) := by decide +kernel
theorem dX6_greatest_32 : decode cX6_greatest 32 = .ok (.iconst 2, 1) := by decide +kernel
theorem dX6_greatest_33 : decode cX6_greatest 33 = .ok (.istore 8, 2) := by decide +kernel
theorem dX6_greatest_35 : decode cX6_greatest 35 = .ok (.iload 8, 2) := by decide +kernel
theorem dX6_greatest_37 : decode cX6_greatest 37 = .ok (.iload_n 2, 1) := by decide +kernel
theorem dX6_greatest_38 : decode cX6_greatest 38 = .ok (.if_icmp .gt 79, 3) := by decide +kernel
theorem dX6_greatest_41 : decode cX6_greatest 41 = .ok (.iload 8, 2) := by decide +kernel
theorem dX6_greatest_43 : decode cX6_greatest 43 = .ok (.aload_n 0, 1) := by decide +kernel
theorem dX6_greatest_44 : decode cX6_greatest 44 = .ok (.getfield 35, 3) := by decide +kernel
theorem dX6_greatest_47 : decode cX6_greatest 47 = .ok (.iload_n 1, 1) := by decide +kernel
theorem dX6_greatest_48 : decode cX6_greatest 48 = .ok (.iaload, 1) := by decide +kernel
theorem dX6_greatest_49 : decode cX6_greatest 49 = .ok (.iconst 2, 1) := by decide +kernel
theorem dX6_greatest_50 : decode cX6_greatest 50 = .ok (.idiv, 1) := by decide +kernel
theorem dX6_greatest_51 : decode cX6_greatest 51 = .ok (.if_icmp .gt 66, 3) := by decide +kernel
theorem dX6_greatest_54 : decode cX6_greatest 54 = .ok (.aload_n 0, 1) := by decide +kernel
theorem dX6_greatest_55 : decode cX6_greatest 55 = .ok (.iload_n 1, 1) := by decide +kernel
theorem dX6_greatest_56 : decode cX6_greatest 56 = .ok (.iload 8, 2) := by decide +kernel
theorem dX6_greatest_58 : decode cX6_greatest 58 = .ok (.invokevirtual 132, 3) := by decide +kernel
theorem dX6_greatest_61 : decode cX6_greatest 61 = .ok (.lstore 9, 2) := by decide +kernel
theorem dX6_greatest_63 : decode cX6_greatest 63 = .ok (.aload_n 0, 1) := by decide +kernel
theorem dX6_greatest_64 : decode cX6_greatest 64 = .ok (.getfield 35, 3) := by decide +kernel
theorem dX6_greatest_67 : decode cX6_greatest 67 = .ok (.iload_n 1, 1) := by decide +kernel
theorem dX6_greatest_68 : decode cX6_greatest 68 = .ok (.iaload, 1) := by decide +kernel
theorem dX6_greatest_69 : decode cX6_greatest 69 = .ok (.iload 8, 2) := by decide +kernel
theorem dX6_greatest_71 : decode cX6_greatest 71 = .ok (.idiv, 1) := by decide +kernel
theorem dX6_greatest_72 : decode cX6_greatest 72 = .ok (.iload 8, 2) := by decide +kernel
theorem dX6_greatest_74 : decode cX6_greatest 74 = .ok (.imul, 1) := by decide +kernel
theorem dX6_greatest_75 : decode cX6_greatest 75 = .ok (.i2l, 1) := by decide +kernel
theorem dX6_greatest_76 : decode cX6_greatest 76 = .ok (.iload 8, 2) := by decide +kernel
theorem dX6_greatest_78 : decode cX6_greatest 78 = .ok (.i2l, 1) := by decide +kernel
theorem dX6_greatest_79 : decode cX6_greatest 79 = .ok (.lmul, 1) := by decide +kernel
theorem dX6_greatest_80 : decode cX6_greatest 80 = .ok (.lstore 11, 2) := by decide +kernel
theorem dX6_greatest_82 : decode cX6_greatest 82 = .ok (.iload_n 3, 1) := by decide +kernel
theorem dX6_greatest_83 : decode cX6_greatest 83 = .ok (.ifCond .lt 17, 3) := by decide +kernel
theorem dX6_greatest_86 : decode cX6_greatest 86 = .ok (.lload 9, 2) := by decide +kernel
theorem dX6_greatest_88 : decode cX6_greatest 88 = .ok (.lload 11, 2) := by decide +kernel
theorem dX6_greatest_90 : decode cX6_greatest 90 = .ok (.lload 4, 2) := by decide +kernel
theorem dX6_greatest_92 : decode cX6_greatest 92 = .ok (.lload 6, 2) := by decide +kernel
theorem dX6_greatest_94 : decode cX6_greatest 94 = .ok (.invokestatic 135, 3) := by decide +kernel
theorem dX6_greatest_97 : decode cX6_greatest 97 = .ok (.ifCond .eq 14, 3) := by decide +kernel
theorem dX6_greatest_100 : decode cX6_greatest 100 = .ok (.iload 8, 2) := by decide +kernel
theorem dX6_greatest_102 : decode cX6_greatest 102 = .ok (.istore_n 3, 1) := by decide +kernel
theorem dX6_greatest_103 : decode cX6_greatest 103 = .ok (.lload 9, 2) := by decide +kernel
theorem dX6_greatest_105 : decode cX6_greatest 105 = .ok (.lstore 4, 2) := by decide +kernel
theorem dX6_greatest_107 : decode cX6_greatest 107 = .ok (.lload 11, 2) := by decide +kernel
theorem dX6_greatest_109 : decode cX6_greatest 109 = .ok (.lstore 6, 2) := by decide +kernel
theorem dX6_greatest_111 : decode cX6_greatest 111 = .ok (.iinc 8 1, 3) := by decide +kernel
theorem dX6_greatest_114 : decode cX6_greatest 114 = .ok (.goto (-79), 3) := by decide +kernel
theorem dX6_greatest_117 : decode cX6_greatest 117 = .ok (.iload_n 3, 1) := by decide +kernel
theorem dX6_greatest_118 : decode cX6_greatest 118 = .ok (.ireturn, 1) := by decide +kernel
set_option maxRecDepth 20000 in
theorem ggX6_isLaw_X6_in : GoodIn wsX6_isLaw wsX6_in := goodIn_r _ [7] (by decide +kernel) (by decide +kernel)
set_option maxRecDepth 20000 in
theorem gX6_isLaw_X6_in : GoodIn wsX6_isLaw (va_wsS RX6 52 yX6_in wsX6_in) := goodIn_app (goodIn_of _ (by decide +kernel)) ggX6_isLaw_X6_in
theorem dX6_isLaw_0 : decode cX6_isLaw 0 = .ok (.iload_n 0, 1) := by decide +kernel
theorem dX6_isLaw_1 : decode cX6_isLaw 1 = .ok (.i2l, 1) := by decide +kernel
theorem dX6_isLaw_2 : decode cX6_isLaw 2 = .ok (.lconst 1, 1) := by decide +kernel
theorem dX6_isLaw_3 : decode cX6_isLaw 3 = .ok (.ldc2_w 71, 3) := by decide +kernel
theorem dX6_isLaw_6 : decode cX6_isLaw 6 = .ok (.invokestatic 52, 3) := by decide +kernel
theorem dX6_isLaw_9 : decode cX6_isLaw 9 = .ok (.ifCond .eq 31, 3) := by decide +kernel
theorem dX6_isLaw_12 : decode cX6_isLaw 12 = .ok (.iload_n 1, 1) := by decide +kernel
theorem dX6_isLaw_13 : decode cX6_isLaw 13 = .ok (.i2l, 1) := by decide +kernel
theorem dX6_isLaw_14 : decode cX6_isLaw 14 = .ok (.lconst 0, 1) := by decide +kernel
theorem dX6_isLaw_15 : decode cX6_isLaw 15 = .ok (.ldc2_w 104, 3) := by decide +kernel
theorem dX6_isLaw_18 : decode cX6_isLaw 18 = .ok (.invokestatic 52, 3) := by decide +kernel
theorem dX6_isLaw_21 : decode cX6_isLaw 21 = .ok (.ifCond .eq 19, 3) := by decide +kernel
theorem dX6_isLaw_24 : decode cX6_isLaw 24 = .ok (.iload_n 2, 1) := by decide +kernel
theorem dX6_isLaw_25 : decode cX6_isLaw 25 = .ok (.i2l, 1) := by decide +kernel
theorem dX6_isLaw_26 : decode cX6_isLaw 26 = .ok (.lconst 1, 1) := by decide +kernel
theorem dX6_isLaw_27 : decode cX6_isLaw 27 = .ok (.ldc2_w 139, 3) := by decide +kernel
theorem dX6_isLaw_30 : decode cX6_isLaw 30 = .ok (.invokestatic 52, 3) := by decide +kernel
theorem dX6_isLaw_33 : decode cX6_isLaw 33 = .ok (.ifCond .eq 7, 3) := by decide +kernel
theorem dX6_isLaw_36 : decode cX6_isLaw 36 = .ok (.iconst 1, 1) := by decide +kernel
theorem dX6_isLaw_37 : decode cX6_isLaw 37 = .ok (.goto 4, 3) := by decide +kernel
theorem dX6_isLaw_40 : decode cX6_isLaw 40 = .ok (.iconst 0, 1) := by decide +kernel
theorem dX6_isLaw_41 : decode cX6_isLaw 41 = .ok (.ireturn, 1) := by decide +kernel
theorem dX6_run_0 : decode cX6_run 0 = .ok (.iconst 0, 1) := by decide +kernel
theorem dX6_run_1 : decode cX6_run 1 = .ok (.istore 7, 2) := by decide +kernel
theorem dX6_run_3 : decode cX6_run 3 = .ok (.iconst 1, 1) := by decide +kernel
theorem dX6_run_4 : decode cX6_run 4 = .ok (.istore 8, 2) := by decide +kernel
theorem dX6_run_6 : decode cX6_run 6 = .ok (.iload 8, 2) := by decide +kernel
theorem dX6_run_8 : decode cX6_run 8 = .ok (.ifCond .eq 104, 3) := by decide +kernel
theorem dX6_run_11 : decode cX6_run 11 = .ok (.iload_n 2, 1) := by decide +kernel
theorem dX6_run_12 : decode cX6_run 12 = .ok (.iload 7, 2) := by decide +kernel
theorem dX6_run_14 : decode cX6_run 14 = .ok (.iadd, 1) := by decide +kernel
theorem dX6_run_15 : decode cX6_run 15 = .ok (.aload_n 0, 1) := by decide +kernel
theorem dX6_run_16 : decode cX6_run 16 = .ok (.getfield 35, 3) := by decide +kernel
theorem dX6_run_19 : decode cX6_run 19 = .ok (.iload_n 1, 1) := by decide +kernel
theorem dX6_run_20 : decode cX6_run 20 = .ok (.iaload, 1) := by decide +kernel
theorem dX6_run_21 : decode cX6_run 21 = .ok (.if_icmp .ge 91, 3) := by decide +kernel
theorem dX6_run_24 : decode cX6_run 24 = .ok (.ldc2_w 104, 3) := by decide +kernel
theorem dX6_run_27 : decode cX6_run 27 = .ok (.aload_n 0, 1) := by decide +kernel
theorem dX6_run_28 : decode cX6_run 28 = .ok (.getfield 38, 3) := by decide +kernel
theorem dX6_run_31 : decode cX6_run 31 = .ok (.sipush 400, 3) := by decide +kernel
theorem dX6_run_34 : decode cX6_run 34 = .ok (.iload_n 1, 1) := by decide +kernel
theorem dX6_run_35 : decode cX6_run 35 = .ok (.imul, 1) := by decide +kernel
theorem dX6_run_36 : decode cX6_run 36 = .ok (.iload_n 2, 1) := by decide +kernel
theorem dX6_run_37 : decode cX6_run 37 = .ok (.iadd, 1) := by decide +kernel
theorem dX6_run_38 : decode cX6_run 38 = .ok (.iload 7, 2) := by decide +kernel
theorem dX6_run_40 : decode cX6_run 40 = .ok (.iadd, 1) := by decide +kernel
theorem dX6_run_41 : decode cX6_run 41 = .ok (.iaload, 1) := by decide +kernel
theorem dX6_run_42 : decode cX6_run 42 = .ok (.i2l, 1) := by decide +kernel
theorem dX6_run_43 : decode cX6_run 43 = .ok (.lmul, 1) := by decide +kernel
theorem dX6_run_44 : decode cX6_run 44 = .ok (.lstore 9, 2) := by decide +kernel
theorem dX6_run_46 : decode cX6_run 46 = .ok (.iload 5, 2) := by decide +kernel
theorem dX6_run_48 : decode cX6_run 48 = .ok (.ifCond .ne 25, 3) := by decide +kernel
theorem dX6_run_51 : decode cX6_run 51 = .ok (.lload 9, 2) := by decide +kernel
theorem dX6_run_53 : decode cX6_run 53 = .ok (.lload_n 3, 1) := by decide +kernel
theorem dX6_run_54 : decode cX6_run 54 = .ok (.bipush 100, 2) := by decide +kernel
theorem dX6_run_56 : decode cX6_run 56 = .ok (.iload 6, 2) := by decide +kernel
theorem dX6_run_58 : decode cX6_run 58 = .ok (.iadd, 1) := by decide +kernel
theorem dX6_run_59 : decode cX6_run 59 = .ok (.i2l, 1) := by decide +kernel
theorem dX6_run_60 : decode cX6_run 60 = .ok (.lmul, 1) := by decide +kernel
theorem dX6_run_61 : decode cX6_run 61 = .ok (.lcmp, 1) := by decide +kernel
theorem dX6_run_62 : decode cX6_run 62 = .ok (.ifCond .lt 7, 3) := by decide +kernel
theorem dX6_run_65 : decode cX6_run 65 = .ok (.iconst 1, 1) := by decide +kernel
theorem dX6_run_66 : decode cX6_run 66 = .ok (.goto 26, 3) := by decide +kernel
theorem dX6_run_69 : decode cX6_run 69 = .ok (.iconst 0, 1) := by decide +kernel
theorem dX6_run_70 : decode cX6_run 70 = .ok (.goto 22, 3) := by decide +kernel
theorem dX6_run_73 : decode cX6_run 73 = .ok (.lload 9, 2) := by decide +kernel
theorem dX6_run_75 : decode cX6_run 75 = .ok (.lload_n 3, 1) := by decide +kernel
theorem dX6_run_76 : decode cX6_run 76 = .ok (.bipush 100, 2) := by decide +kernel
theorem dX6_run_78 : decode cX6_run 78 = .ok (.iload 6, 2) := by decide +kernel
theorem dX6_run_80 : decode cX6_run 80 = .ok (.isub, 1) := by decide +kernel
theorem dX6_run_81 : decode cX6_run 81 = .ok (.i2l, 1) := by decide +kernel
theorem dX6_run_82 : decode cX6_run 82 = .ok (.lmul, 1) := by decide +kernel
theorem dX6_run_83 : decode cX6_run 83 = .ok (.lcmp, 1) := by decide +kernel
theorem dX6_run_84 : decode cX6_run 84 = .ok (.ifCond .gt 7, 3) := by decide +kernel
theorem dX6_run_87 : decode cX6_run 87 = .ok (.iconst 1, 1) := by decide +kernel
theorem dX6_run_88 : decode cX6_run 88 = .ok (.goto 4, 3) := by decide +kernel
theorem dX6_run_91 : decode cX6_run 91 = .ok (.iconst 0, 1) := by decide +kernel
theorem dX6_run_92 : decode cX6_run 92 = .ok (.istore 8, 2) := by decide +kernel
theorem dX6_run_94 : decode cX6_run 94 = .ok (.iload 7, 2) := by decide +kernel
theorem dX6_run_96 : decode cX6_run 96 = .ok (.iload 8, 2) := by decide +kernel
theorem dX6_run_98 : decode cX6_run 98 = .ok (.ifCond .eq 7, 3) := by decide +kernel
theorem dX6_run_101 : decode cX6_run 101 = .ok (.iconst 1, 1) := by decide +kernel
theorem dX6_run_102 : decode cX6_run 102 = .ok (.goto 4, 3) := by decide +kernel
theorem dX6_run_105 : decode cX6_run 105 = .ok (.iconst 0, 1) := by decide +kernel
theorem dX6_run_106 : decode cX6_run 106 = .ok (.iadd, 1) := by decide +kernel
theorem dX6_run_107 : decode cX6_run 107 = .ok (.istore 7, 2) := by decide +kernel
theorem dX6_run_109 : decode cX6_run 109 = .ok (.goto (-103), 3) := by decide +kernel
theorem dX6_run_112 : decode cX6_run 112 = .ok (.iload 7, 2) := by decide +kernel
theorem dX6_run_114 : decode cX6_run 114 = .ok (.ireturn, 1) := by decide +kernel
set_option maxRecDepth 20000 in
theorem ggX6_places_X6_isRow : GoodIn wsX6_places wsX6_isRow := goodIn_r _ [5, 6, 7, 8, 4, 9] (by decide +kernel) (by decide +kernel)
set_option maxRecDepth 20000 in
theorem gX6_places_X6_isRow : GoodIn wsX6_places (va_wsS RX6 97 yX6_isRow wsX6_isRow) := goodIn_app (goodIn_of _ (by decide +kernel)) ggX6_places_X6_isRow
set_option maxRecDepth 20000 in
theorem ggX6_places_X6_isLaw : GoodIn wsX6_places wsX6_isLaw := goodIn_r _ [12, 13, 14, 15, 7, 8, 4, 9] (by decide +kernel) (by decide +kernel)
set_option maxRecDepth 20000 in
theorem gX6_places_X6_isLaw : GoodIn wsX6_places (va_wsS RX6 141 yX6_isLaw wsX6_isLaw) := goodIn_app (goodIn_of _ (by decide +kernel)) ggX6_places_X6_isLaw
set_option maxRecDepth 20000 in
theorem ggX6_places_X6_in : GoodIn wsX6_places wsX6_in := goodIn_r _ [9] (by decide +kernel) (by decide +kernel)
set_option maxRecDepth 20000 in
theorem gX6_places_X6_in : GoodIn wsX6_places (va_wsS RX6 52 yX6_in wsX6_in) := goodIn_app (goodIn_of _ (by decide +kernel)) ggX6_places_X6_in
set_option maxRecDepth 20000 in
theorem ggX6_places_X6_sum : GoodIn wsX6_places wsX6_sum := goodIn_r _ [19, 1, 20, 25, 26, 27, 28, 29, 30, 31, 32, 33, 34, 35, 36, 37, 38, 39, 40, 41, 42] (by decide +kernel) (by decide +kernel)
set_option maxRecDepth 20000 in
theorem gX6_places_X6_sum : GoodIn wsX6_places (wsV RX6 126 RX6 yX6_sum wsX6_sum) := goodIn_app (goodIn_of _ (by decide +kernel)) ggX6_places_X6_sum
set_option maxRecDepth 20000 in
theorem ggX6_places_X6_run : GoodIn wsX6_places wsX6_run := goodIn_r _ [24, 1, 14, 20, 25, 26, 27, 28, 29, 30, 31, 32, 33, 34, 35, 36, 37, 38, 39, 40, 41, 42] (by decide +kernel) (by decide +kernel)
set_option maxRecDepth 20000 in
theorem gX6_places_X6_run : GoodIn wsX6_places (wsV RX6 145 RX6 yX6_run wsX6_run) := goodIn_app (goodIn_of _ (by decide +kernel)) ggX6_places_X6_run
theorem dX6_places_0 : decode cX6_places 0 = .ok (.iload_n 1, 1) := by decide +kernel
theorem dX6_places_1 : decode cX6_places 1 = .ok (.invokestatic 97, 3) := by decide +kernel
theorem dX6_places_4 : decode cX6_places 4 = .ok (.ifCond .eq 24, 3) := by decide +kernel
theorem dX6_places_7 : decode cX6_places 7 = .ok (.iload_n 2, 1) := by decide +kernel
theorem dX6_places_8 : decode cX6_places 8 = .ok (.iload_n 3, 1) := by decide +kernel
theorem dX6_places_9 : decode cX6_places 9 = .ok (.iload 4, 2) := by decide +kernel
theorem dX6_places_11 : decode cX6_places 11 = .ok (.invokestatic 141, 3) := by decide +kernel
theorem dX6_places_14 : decode cX6_places 14 = .ok (.ifCond .eq 14, 3) := by decide +kernel
theorem dX6_places_17 : decode cX6_places 17 = .ok (.iload 5, 2) := by decide +kernel
theorem dX6_places_19 : decode cX6_places 19 = .ok (.i2l, 1) := by decide +kernel
theorem dX6_places_20 : decode cX6_places 20 = .ok (.lconst 0, 1) := by decide +kernel
theorem dX6_places_21 : decode cX6_places 21 = .ok (.lconst 1, 1) := by decide +kernel
theorem dX6_places_22 : decode cX6_places 22 = .ok (.invokestatic 52, 3) := by decide +kernel
theorem dX6_places_25 : decode cX6_places 25 = .ok (.ifCond .ne 6, 3) := by decide +kernel
theorem dX6_places_28 : decode cX6_places 28 = .ok (.bipush (-2), 2) := by decide +kernel
theorem dX6_places_30 : decode cX6_places 30 = .ok (.ireturn, 1) := by decide +kernel
theorem dX6_places_31 : decode cX6_places 31 = .ok (.aload_n 0, 1) := by decide +kernel
theorem dX6_places_32 : decode cX6_places 32 = .ok (.getfield 35, 3) := by decide +kernel
theorem dX6_places_35 : decode cX6_places 35 = .ok (.iload_n 1, 1) := by decide +kernel
theorem dX6_places_36 : decode cX6_places 36 = .ok (.iaload, 1) := by decide +kernel
theorem dX6_places_37 : decode cX6_places 37 = .ok (.ifCond .ne 7, 3) := by decide +kernel
theorem dX6_places_40 : decode cX6_places 40 = .ok (.lconst 0, 1) := by decide +kernel
theorem dX6_places_41 : decode cX6_places 41 = .ok (.goto 16, 3) := by decide +kernel
theorem dX6_places_44 : decode cX6_places 44 = .ok (.aload_n 0, 1) := by decide +kernel
theorem dX6_places_45 : decode cX6_places 45 = .ok (.iload_n 1, 1) := by decide +kernel
theorem dX6_places_46 : decode cX6_places 46 = .ok (.invokevirtual 126, 3) := by decide +kernel
theorem dX6_places_49 : decode cX6_places 49 = .ok (.aload_n 0, 1) := by decide +kernel
theorem dX6_places_50 : decode cX6_places 50 = .ok (.getfield 35, 3) := by decide +kernel
theorem dX6_places_53 : decode cX6_places 53 = .ok (.iload_n 1, 1) := by decide +kernel
theorem dX6_places_54 : decode cX6_places 54 = .ok (.iaload, 1) := by decide +kernel
theorem dX6_places_55 : decode cX6_places 55 = .ok (.i2l, 1) := by decide +kernel
theorem dX6_places_56 : decode cX6_places 56 = .ok (.ldiv, 1) := by decide +kernel
theorem dX6_places_57 : decode cX6_places 57 = .ok (.lstore 6, 2) := by decide +kernel
theorem dX6_places_59 : decode cX6_places 59 = .ok (.iconst 0, 1) := by decide +kernel
theorem dX6_places_60 : decode cX6_places 60 = .ok (.istore 8, 2) := by decide +kernel
theorem dX6_places_62 : decode cX6_places 62 = .ok (.iconst 0, 1) := by decide +kernel
theorem dX6_places_63 : decode cX6_places 63 = .ok (.istore 9, 2) := by decide +kernel
theorem dX6_places_65 : decode cX6_places 65 = .ok (.iload 9, 2) := by decide +kernel
theorem dX6_places_67 : decode cX6_places 67 = .ok (.aload_n 0, 1) := by decide +kernel
theorem dX6_places_68 : decode cX6_places 68 = .ok (.getfield 35, 3) := by decide +kernel
theorem dX6_places_71 : decode cX6_places 71 = .ok (.iload_n 1, 1) := by decide +kernel
theorem dX6_places_72 : decode cX6_places 72 = .ok (.iaload, 1) := by decide +kernel
theorem dX6_places_73 : decode cX6_places 73 = .ok (.if_icmp .ge 62, 3) := by decide +kernel
theorem dX6_places_76 : decode cX6_places 76 = .ok (.aload_n 0, 1) := by decide +kernel
theorem dX6_places_77 : decode cX6_places 77 = .ok (.iload_n 1, 1) := by decide +kernel
theorem dX6_places_78 : decode cX6_places 78 = .ok (.iload 9, 2) := by decide +kernel
theorem dX6_places_80 : decode cX6_places 80 = .ok (.lload 6, 2) := by decide +kernel
theorem dX6_places_82 : decode cX6_places 82 = .ok (.iload 5, 2) := by decide +kernel
theorem dX6_places_84 : decode cX6_places 84 = .ok (.iload 5, 2) := by decide +kernel
theorem dX6_places_86 : decode cX6_places 86 = .ok (.ifCond .ne 7, 3) := by decide +kernel
theorem dX6_places_89 : decode cX6_places 89 = .ok (.iload_n 2, 1) := by decide +kernel
theorem dX6_places_90 : decode cX6_places 90 = .ok (.goto 4, 3) := by decide +kernel
theorem dX6_places_93 : decode cX6_places 93 = .ok (.iload_n 3, 1) := by decide +kernel
theorem dX6_places_94 : decode cX6_places 94 = .ok (.invokevirtual 145, 3) := by decide +kernel
theorem dX6_places_97 : decode cX6_places 97 = .ok (.istore 10, 2) := by decide +kernel
theorem dX6_places_99 : decode cX6_places 99 = .ok (.iload 8, 2) := by decide +kernel
theorem dX6_places_101 : decode cX6_places 101 = .ok (.iload 10, 2) := by decide +kernel
theorem dX6_places_103 : decode cX6_places 103 = .ok (.iload 4, 2) := by decide +kernel
theorem dX6_places_105 : decode cX6_places 105 = .ok (.if_icmp .lt 7, 3) := by decide +kernel
theorem dX6_places_108 : decode cX6_places 108 = .ok (.iconst 1, 1) := by decide +kernel
theorem dX6_places_109 : decode cX6_places 109 = .ok (.goto 4, 3) := by decide +kernel
theorem dX6_places_112 : decode cX6_places 112 = .ok (.iconst 0, 1) := by decide +kernel
theorem dX6_places_113 : decode cX6_places 113 = .ok (.iadd, 1) := by decide +kernel
theorem dX6_places_114 : decode cX6_places 114 = .ok (.istore 8, 2) := by decide +kernel
theorem dX6_places_116 : decode cX6_places 116 = .ok (.iload 9, 2) := by decide +kernel
theorem dX6_places_118 : decode cX6_places 118 = .ok (.iload 10, 2) := by decide +kernel
theorem dX6_places_120 : decode cX6_places 120 = .ok (.ifCond .le 8, 3) := by decide +kernel
theorem dX6_places_123 : decode cX6_places 123 = .ok (.iload 10, 2) := by decide +kernel
theorem dX6_places_125 : decode cX6_places 125 = .ok (.goto 4, 3) := by decide +kernel
theorem dX6_places_128 : decode cX6_places 128 = .ok (.iconst 1, 1) := by decide +kernel
theorem dX6_places_129 : decode cX6_places 129 = .ok (.iadd, 1) := by decide +kernel
theorem dX6_places_130 : decode cX6_places 130 = .ok (.istore 9, 2) := by decide +kernel
theorem dX6_places_132 : decode cX6_places 132 = .ok (.goto (-67), 3) := by decide +kernel
theorem dX6_places_135 : decode cX6_places 135 = .ok (.iload 8, 2) := by decide +kernel
theorem dX6_places_137 : decode cX6_places 137 = .ok (.ireturn, 1) := by decide +kernel
set_option maxRecDepth 20000 in
theorem ggX6_cleared_X6_isRow : GoodIn wsX6_cleared wsX6_isRow := goodIn_r _ [7, 8, 9, 10, 6, 11] (by decide +kernel) (by decide +kernel)
set_option maxRecDepth 20000 in
theorem gX6_cleared_X6_isRow : GoodIn wsX6_cleared (va_wsS RX6 97 yX6_isRow wsX6_isRow) := goodIn_app (goodIn_of _ (by decide +kernel)) ggX6_cleared_X6_isRow
set_option maxRecDepth 20000 in
theorem ggX6_cleared_X6_isLaw : GoodIn wsX6_cleared wsX6_isLaw := goodIn_r _ [14, 15, 16, 17, 9, 10, 6, 11] (by decide +kernel) (by decide +kernel)
set_option maxRecDepth 20000 in
theorem gX6_cleared_X6_isLaw : GoodIn wsX6_cleared (va_wsS RX6 141 yX6_isLaw wsX6_isLaw) := goodIn_app (goodIn_of _ (by decide +kernel)) ggX6_cleared_X6_isLaw
set_option maxRecDepth 20000 in
theorem ggX6_cleared_X6_sum : GoodIn wsX6_cleared wsX6_sum := goodIn_r _ [21, 1, 3, 34, 35, 36, 37, 38, 39, 40, 41, 42, 43, 44, 45, 46, 47, 48, 49, 50, 51] (by decide +kernel) (by decide +kernel)
set_option maxRecDepth 20000 in
theorem gX6_cleared_X6_sum : GoodIn wsX6_cleared (wsV RX6 126 RX6 yX6_sum wsX6_sum) := goodIn_app (goodIn_of _ (by decide +kernel)) ggX6_cleared_X6_sum
set_option maxRecDepth 20000 in
theorem ggX6_cleared_X6_run : GoodIn wsX6_cleared wsX6_run := goodIn_r _ [25, 1, 16, 3, 34, 35, 36, 37, 38, 39, 40, 41, 42, 43, 44, 45, 46, 47, 48, 49, 50, 51] (by decide +kernel) (by decide +kernel)
set_option maxRecDepth 20000 in
theorem gX6_cleared_X6_run : GoodIn wsX6_cleared (wsV RX6 145 RX6 yX6_run wsX6_run) := goodIn_app (goodIn_of _ (by decide +kernel)) ggX6_cleared_X6_run
set_option maxRecDepth 20000 in
theorem ggX6_cleared_X6_becomes : GoodIn wsX6_cleared wsX6_becomes := goodIn_r _ [29, 2, 3, 1, 30, 31, 6, 32, 33, 9, 10, 11, 34, 35, 36, 37, 38, 39, 40, 41, 42, 43, 44, 45, 46, 47, 48, 49, 50, 51] (by decide +kernel) (by decide +kernel)
set_option maxRecDepth 20000 in
theorem gX6_cleared_X6_becomes : GoodIn wsX6_cleared (wsV RX6 114 RX6 yX6_becomes wsX6_becomes) := goodIn_app (goodIn_of _ (by decide +kernel)) ggX6_cleared_X6_becomes
theorem dX6_cleared_0 : decode cX6_cleared 0 = .ok (.iload_n 1, 1) := by decide +kernel
theorem dX6_cleared_1 : decode cX6_cleared 1 = .ok (.invokestatic 97, 3) := by decide +kernel
theorem dX6_cleared_4 : decode cX6_cleared 4 = .ok (.ifCond .eq 13, 3) := by decide +kernel
theorem dX6_cleared_7 : decode cX6_cleared 7 = .ok (.iload_n 2, 1) := by decide +kernel
theorem dX6_cleared_8 : decode cX6_cleared 8 = .ok (.iload_n 3, 1) := by decide +kernel
theorem dX6_cleared_9 : decode cX6_cleared 9 = .ok (.iload 4, 2) := by decide +kernel
theorem dX6_cleared_11 : decode cX6_cleared 11 = .ok (.invokestatic 141, 3) := by decide +kernel
theorem dX6_cleared_14 : decode cX6_cleared 14 = .ok (.ifCond .ne 6, 3) := by decide +kernel
theorem dX6_cleared_17 : decode cX6_cleared 17 = .ok (.bipush (-2), 2) := by decide +kernel
theorem dX6_cleared_19 : decode cX6_cleared 19 = .ok (.ireturn, 1) := by decide +kernel
theorem dX6_cleared_20 : decode cX6_cleared 20 = .ok (.aload_n 0, 1) := by decide +kernel
theorem dX6_cleared_21 : decode cX6_cleared 21 = .ok (.getfield 35, 3) := by decide +kernel
theorem dX6_cleared_24 : decode cX6_cleared 24 = .ok (.iload_n 1, 1) := by decide +kernel
theorem dX6_cleared_25 : decode cX6_cleared 25 = .ok (.iaload, 1) := by decide +kernel
theorem dX6_cleared_26 : decode cX6_cleared 26 = .ok (.ifCond .ne 7, 3) := by decide +kernel
theorem dX6_cleared_29 : decode cX6_cleared 29 = .ok (.lconst 0, 1) := by decide +kernel
theorem dX6_cleared_30 : decode cX6_cleared 30 = .ok (.goto 16, 3) := by decide +kernel
theorem dX6_cleared_33 : decode cX6_cleared 33 = .ok (.aload_n 0, 1) := by decide +kernel
theorem dX6_cleared_34 : decode cX6_cleared 34 = .ok (.iload_n 1, 1) := by decide +kernel
theorem dX6_cleared_35 : decode cX6_cleared 35 = .ok (.invokevirtual 126, 3) := by decide +kernel
theorem dX6_cleared_38 : decode cX6_cleared 38 = .ok (.aload_n 0, 1) := by decide +kernel
theorem dX6_cleared_39 : decode cX6_cleared 39 = .ok (.getfield 35, 3) := by decide +kernel
theorem dX6_cleared_42 : decode cX6_cleared 42 = .ok (.iload_n 1, 1) := by decide +kernel
theorem dX6_cleared_43 : decode cX6_cleared 43 = .ok (.iaload, 1) := by decide +kernel
theorem dX6_cleared_44 : decode cX6_cleared 44 = .ok (.i2l, 1) := by decide +kernel
theorem dX6_cleared_45 : decode cX6_cleared 45 = .ok (.ldiv, 1) := by decide +kernel
theorem dX6_cleared_46 : decode cX6_cleared 46 = .ok (.lstore 5, 2) := by decide +kernel
theorem dX6_cleared_48 : decode cX6_cleared 48 = .ok (.iconst 0, 1) := by decide +kernel
theorem dX6_cleared_49 : decode cX6_cleared 49 = .ok (.istore 7, 2) := by decide +kernel
theorem dX6_cleared_51 : decode cX6_cleared 51 = .ok (.iconst 0, 1) := by decide +kernel
theorem dX6_cleared_52 : decode cX6_cleared 52 = .ok (.istore 8, 2) := by decide +kernel
theorem dX6_cleared_54 : decode cX6_cleared 54 = .ok (.iconst 0, 1) := by decide +kernel
theorem dX6_cleared_55 : decode cX6_cleared 55 = .ok (.istore 9, 2) := by decide +kernel
theorem dX6_cleared_57 : decode cX6_cleared 57 = .ok (.iconst 0, 1) := by decide +kernel
theorem dX6_cleared_58 : decode cX6_cleared 58 = .ok (.istore 10, 2) := by decide +kernel
theorem dX6_cleared_60 : decode cX6_cleared 60 = .ok (.iload 10, 2) := by decide +kernel
theorem dX6_cleared_62 : decode cX6_cleared 62 = .ok (.aload_n 0, 1) := by decide +kernel
theorem dX6_cleared_63 : decode cX6_cleared 63 = .ok (.getfield 35, 3) := by decide +kernel
theorem dX6_cleared_66 : decode cX6_cleared 66 = .ok (.iload_n 1, 1) := by decide +kernel
theorem dX6_cleared_67 : decode cX6_cleared 67 = .ok (.iaload, 1) := by decide +kernel
theorem dX6_cleared_68 : decode cX6_cleared 68 = .ok (.if_icmp .ge 113, 3) := by decide +kernel
theorem dX6_cleared_71 : decode cX6_cleared 71 = .ok (.aload_n 0, 1) := by decide +kernel
theorem dX6_cleared_72 : decode cX6_cleared 72 = .ok (.iload_n 1, 1) := by decide +kernel
theorem dX6_cleared_73 : decode cX6_cleared 73 = .ok (.iload 10, 2) := by decide +kernel
theorem dX6_cleared_75 : decode cX6_cleared 75 = .ok (.lload 5, 2) := by decide +kernel
theorem dX6_cleared_77 : decode cX6_cleared 77 = .ok (.iconst 0, 1) := by decide +kernel
theorem dX6_cleared_78 : decode cX6_cleared 78 = .ok (.iload_n 2, 1) := by decide +kernel
theorem dX6_cleared_79 : decode cX6_cleared 79 = .ok (.invokevirtual 145, 3) := by decide +kernel
theorem dX6_cleared_82 : decode cX6_cleared 82 = .ok (.istore 11, 2) := by decide +kernel
theorem dX6_cleared_84 : decode cX6_cleared 84 = .ok (.iload 11, 2) := by decide +kernel
theorem dX6_cleared_86 : decode cX6_cleared 86 = .ok (.iload 4, 2) := by decide +kernel
theorem dX6_cleared_88 : decode cX6_cleared 88 = .ok (.if_icmp .lt 8, 3) := by decide +kernel
theorem dX6_cleared_91 : decode cX6_cleared 91 = .ok (.iload 11, 2) := by decide +kernel
theorem dX6_cleared_93 : decode cX6_cleared 93 = .ok (.goto 14, 3) := by decide +kernel
theorem dX6_cleared_96 : decode cX6_cleared 96 = .ok (.aload_n 0, 1) := by decide +kernel
theorem dX6_cleared_97 : decode cX6_cleared 97 = .ok (.iload_n 1, 1) := by decide +kernel
theorem dX6_cleared_98 : decode cX6_cleared 98 = .ok (.iload 10, 2) := by decide +kernel
theorem dX6_cleared_100 : decode cX6_cleared 100 = .ok (.lload 5, 2) := by decide +kernel
theorem dX6_cleared_102 : decode cX6_cleared 102 = .ok (.iconst 1, 1) := by decide +kernel
theorem dX6_cleared_103 : decode cX6_cleared 103 = .ok (.iload_n 3, 1) := by decide +kernel
theorem dX6_cleared_104 : decode cX6_cleared 104 = .ok (.invokevirtual 145, 3) := by decide +kernel
theorem dX6_cleared_107 : decode cX6_cleared 107 = .ok (.istore 11, 2) := by decide +kernel
theorem dX6_cleared_109 : decode cX6_cleared 109 = .ok (.iload 11, 2) := by decide +kernel
theorem dX6_cleared_111 : decode cX6_cleared 111 = .ok (.iload 4, 2) := by decide +kernel
theorem dX6_cleared_113 : decode cX6_cleared 113 = .ok (.if_icmp .lt 16, 3) := by decide +kernel
theorem dX6_cleared_116 : decode cX6_cleared 116 = .ok (.iconst 1, 1) := by decide +kernel
theorem dX6_cleared_117 : decode cX6_cleared 117 = .ok (.istore 9, 2) := by decide +kernel
theorem dX6_cleared_119 : decode cX6_cleared 119 = .ok (.iload 10, 2) := by decide +kernel
theorem dX6_cleared_121 : decode cX6_cleared 121 = .ok (.iload 11, 2) := by decide +kernel
theorem dX6_cleared_123 : decode cX6_cleared 123 = .ok (.iadd, 1) := by decide +kernel
theorem dX6_cleared_124 : decode cX6_cleared 124 = .ok (.istore 10, 2) := by decide +kernel
theorem dX6_cleared_126 : decode cX6_cleared 126 = .ok (.goto 52, 3) := by decide +kernel
theorem dX6_cleared_129 : decode cX6_cleared 129 = .ok (.iload 8, 2) := by decide +kernel
theorem dX6_cleared_131 : decode cX6_cleared 131 = .ok (.iload 9, 2) := by decide +kernel
theorem dX6_cleared_133 : decode cX6_cleared 133 = .ok (.ifCond .eq 12, 3) := by decide +kernel
theorem dX6_cleared_136 : decode cX6_cleared 136 = .ok (.iload 7, 2) := by decide +kernel
theorem dX6_cleared_138 : decode cX6_cleared 138 = .ok (.ifCond .le 7, 3) := by decide +kernel
theorem dX6_cleared_141 : decode cX6_cleared 141 = .ok (.iconst 1, 1) := by decide +kernel
theorem dX6_cleared_142 : decode cX6_cleared 142 = .ok (.goto 4, 3) := by decide +kernel
theorem dX6_cleared_145 : decode cX6_cleared 145 = .ok (.iconst 0, 1) := by decide +kernel
theorem dX6_cleared_146 : decode cX6_cleared 146 = .ok (.iadd, 1) := by decide +kernel
theorem dX6_cleared_147 : decode cX6_cleared 147 = .ok (.istore 8, 2) := by decide +kernel
theorem dX6_cleared_149 : decode cX6_cleared 149 = .ok (.iconst 0, 1) := by decide +kernel
theorem dX6_cleared_150 : decode cX6_cleared 150 = .ok (.istore 9, 2) := by decide +kernel
theorem dX6_cleared_152 : decode cX6_cleared 152 = .ok (.aload_n 0, 1) := by decide +kernel
theorem dX6_cleared_153 : decode cX6_cleared 153 = .ok (.getfield 41, 3) := by decide +kernel
theorem dX6_cleared_156 : decode cX6_cleared 156 = .ok (.iload 7, 2) := by decide +kernel
theorem dX6_cleared_158 : decode cX6_cleared 158 = .ok (.aload_n 0, 1) := by decide +kernel
theorem dX6_cleared_159 : decode cX6_cleared 159 = .ok (.getfield 38, 3) := by decide +kernel
theorem dX6_cleared_162 : decode cX6_cleared 162 = .ok (.sipush 400, 3) := by decide +kernel
theorem dX6_cleared_165 : decode cX6_cleared 165 = .ok (.iload_n 1, 1) := by decide +kernel
theorem dX6_cleared_166 : decode cX6_cleared 166 = .ok (.imul, 1) := by decide +kernel
theorem dX6_cleared_167 : decode cX6_cleared 167 = .ok (.iload 10, 2) := by decide +kernel
theorem dX6_cleared_169 : decode cX6_cleared 169 = .ok (.iadd, 1) := by decide +kernel
theorem dX6_cleared_170 : decode cX6_cleared 170 = .ok (.iaload, 1) := by decide +kernel
theorem dX6_cleared_171 : decode cX6_cleared 171 = .ok (.iastore, 1) := by decide +kernel
theorem dX6_cleared_172 : decode cX6_cleared 172 = .ok (.iinc 7 1, 3) := by decide +kernel
theorem dX6_cleared_175 : decode cX6_cleared 175 = .ok (.iinc 10 1, 3) := by decide +kernel
theorem dX6_cleared_178 : decode cX6_cleared 178 = .ok (.goto (-118), 3) := by decide +kernel
theorem dX6_cleared_181 : decode cX6_cleared 181 = .ok (.aload_n 0, 1) := by decide +kernel
theorem dX6_cleared_182 : decode cX6_cleared 182 = .ok (.iload_n 1, 1) := by decide +kernel
theorem dX6_cleared_183 : decode cX6_cleared 183 = .ok (.iload 7, 2) := by decide +kernel
theorem dX6_cleared_185 : decode cX6_cleared 185 = .ok (.invokevirtual 114, 3) := by decide +kernel
theorem dX6_cleared_188 : decode cX6_cleared 188 = .ok (.istore 11, 2) := by decide +kernel
theorem dX6_cleared_190 : decode cX6_cleared 190 = .ok (.iload 8, 2) := by decide +kernel
theorem dX6_cleared_192 : decode cX6_cleared 192 = .ok (.ireturn, 1) := by decide +kernel
set_option maxRecDepth 20000 in
theorem ggX6_bale_X6_in : GoodIn wsX6_bale wsX6_in := goodIn_r _ [8] (by decide +kernel) (by decide +kernel)
set_option maxRecDepth 20000 in
theorem gX6_bale_X6_in : GoodIn wsX6_bale (va_wsS RX6 52 yX6_in wsX6_in) := goodIn_app (goodIn_of _ (by decide +kernel)) ggX6_bale_X6_in
theorem dX6_bale_0 : decode cX6_bale 0 = .ok (.iload_n 1, 1) := by decide +kernel
theorem dX6_bale_1 : decode cX6_bale 1 = .ok (.i2l, 1) := by decide +kernel
theorem dX6_bale_2 : decode cX6_bale 2 = .ok (.lconst 0, 1) := by decide +kernel
theorem dX6_bale_3 : decode cX6_bale 3 = .ok (.ldc2_w 50, 3) := by decide +kernel
theorem dX6_bale_6 : decode cX6_bale 6 = .ok (.invokestatic 52, 3) := by decide +kernel
theorem dX6_bale_9 : decode cX6_bale 9 = .ok (.ifCond .ne 6, 3) := by decide +kernel
theorem dX6_bale_12 : decode cX6_bale 12 = .ok (.bipush (-2), 2) := by decide +kernel
theorem dX6_bale_14 : decode cX6_bale 14 = .ok (.ireturn, 1) := by decide +kernel
theorem dX6_bale_15 : decode cX6_bale 15 = .ok (.aload_n 0, 1) := by decide +kernel
theorem dX6_bale_16 : decode cX6_bale 16 = .ok (.getfield 149, 3) := by decide +kernel
theorem dX6_bale_19 : decode cX6_bale 19 = .ok (.bipush 12, 2) := by decide +kernel
theorem dX6_bale_21 : decode cX6_bale 21 = .ok (.if_icmp .ne 6, 3) := by decide +kernel
theorem dX6_bale_24 : decode cX6_bale 24 = .ok (.bipush (-4), 2) := by decide +kernel
theorem dX6_bale_26 : decode cX6_bale 26 = .ok (.ireturn, 1) := by decide +kernel
theorem dX6_bale_27 : decode cX6_bale 27 = .ok (.aload_n 0, 1) := by decide +kernel
theorem dX6_bale_28 : decode cX6_bale 28 = .ok (.getfield 44, 3) := by decide +kernel
theorem dX6_bale_31 : decode cX6_bale 31 = .ok (.aload_n 0, 1) := by decide +kernel
theorem dX6_bale_32 : decode cX6_bale 32 = .ok (.getfield 149, 3) := by decide +kernel
theorem dX6_bale_35 : decode cX6_bale 35 = .ok (.iload_n 1, 1) := by decide +kernel
theorem dX6_bale_36 : decode cX6_bale 36 = .ok (.iastore, 1) := by decide +kernel
theorem dX6_bale_37 : decode cX6_bale 37 = .ok (.aload_n 0, 1) := by decide +kernel
theorem dX6_bale_38 : decode cX6_bale 38 = .ok (.dup, 1) := by decide +kernel
theorem dX6_bale_39 : decode cX6_bale 39 = .ok (.getfield 149, 3) := by decide +kernel
theorem dX6_bale_42 : decode cX6_bale 42 = .ok (.iconst 1, 1) := by decide +kernel
theorem dX6_bale_43 : decode cX6_bale 43 = .ok (.iadd, 1) := by decide +kernel
theorem dX6_bale_44 : decode cX6_bale 44 = .ok (.putfield 149, 3) := by decide +kernel
theorem dX6_bale_47 : decode cX6_bale 47 = .ok (.aload_n 0, 1) := by decide +kernel
theorem dX6_bale_48 : decode cX6_bale 48 = .ok (.iconst 0, 1) := by decide +kernel
theorem dX6_bale_49 : decode cX6_bale 49 = .ok (.putfield 152, 3) := by decide +kernel
theorem dX6_bale_52 : decode cX6_bale 52 = .ok (.aload_n 0, 1) := by decide +kernel
theorem dX6_bale_53 : decode cX6_bale 53 = .ok (.getfield 149, 3) := by decide +kernel
theorem dX6_bale_56 : decode cX6_bale 56 = .ok (.iconst 1, 1) := by decide +kernel
theorem dX6_bale_57 : decode cX6_bale 57 = .ok (.isub, 1) := by decide +kernel
theorem dX6_bale_58 : decode cX6_bale 58 = .ok (.ireturn, 1) := by decide +kernel
theorem dX6_clearBales_0 : decode cX6_clearBales 0 = .ok (.aload_n 0, 1) := by decide +kernel
theorem dX6_clearBales_1 : decode cX6_clearBales 1 = .ok (.getfield 149, 3) := by decide +kernel
theorem dX6_clearBales_4 : decode cX6_clearBales 4 = .ok (.istore_n 1, 1) := by decide +kernel
theorem dX6_clearBales_5 : decode cX6_clearBales 5 = .ok (.aload_n 0, 1) := by decide +kernel
theorem dX6_clearBales_6 : decode cX6_clearBales 6 = .ok (.iconst 0, 1) := by decide +kernel
theorem dX6_clearBales_7 : decode cX6_clearBales 7 = .ok (.putfield 149, 3) := by decide +kernel
theorem dX6_clearBales_10 : decode cX6_clearBales 10 = .ok (.aload_n 0, 1) := by decide +kernel
theorem dX6_clearBales_11 : decode cX6_clearBales 11 = .ok (.iconst 0, 1) := by decide +kernel
theorem dX6_clearBales_12 : decode cX6_clearBales 12 = .ok (.putfield 152, 3) := by decide +kernel
theorem dX6_clearBales_15 : decode cX6_clearBales 15 = .ok (.iload_n 1, 1) := by decide +kernel
theorem dX6_clearBales_16 : decode cX6_clearBales 16 = .ok (.ireturn, 1) := by decide +kernel
theorem dX6_nextBale_0 : decode cX6_nextBale 0 = .ok (.iload_n 1, 1) := by decide +kernel
theorem dX6_nextBale_1 : decode cX6_nextBale 1 = .ok (.istore_n 3, 1) := by decide +kernel
theorem dX6_nextBale_2 : decode cX6_nextBale 2 = .ok (.iconst 1, 1) := by decide +kernel
theorem dX6_nextBale_3 : decode cX6_nextBale 3 = .ok (.istore 4, 2) := by decide +kernel
theorem dX6_nextBale_5 : decode cX6_nextBale 5 = .ok (.iload 4, 2) := by decide +kernel
theorem dX6_nextBale_7 : decode cX6_nextBale 7 = .ok (.ifCond .eq 68, 3) := by decide +kernel
theorem dX6_nextBale_10 : decode cX6_nextBale 10 = .ok (.iload_n 3, 1) := by decide +kernel
theorem dX6_nextBale_11 : decode cX6_nextBale 11 = .ok (.aload_n 0, 1) := by decide +kernel
theorem dX6_nextBale_12 : decode cX6_nextBale 12 = .ok (.getfield 149, 3) := by decide +kernel
theorem dX6_nextBale_15 : decode cX6_nextBale 15 = .ok (.if_icmp .ge 60, 3) := by decide +kernel
theorem dX6_nextBale_18 : decode cX6_nextBale 18 = .ok (.iconst 0, 1) := by decide +kernel
theorem dX6_nextBale_19 : decode cX6_nextBale 19 = .ok (.istore 4, 2) := by decide +kernel
theorem dX6_nextBale_21 : decode cX6_nextBale 21 = .ok (.iconst 0, 1) := by decide +kernel
theorem dX6_nextBale_22 : decode cX6_nextBale 22 = .ok (.istore 5, 2) := by decide +kernel
theorem dX6_nextBale_24 : decode cX6_nextBale 24 = .ok (.iload 5, 2) := by decide +kernel
theorem dX6_nextBale_26 : decode cX6_nextBale 26 = .ok (.iload_n 2, 1) := by decide +kernel
theorem dX6_nextBale_27 : decode cX6_nextBale 27 = .ok (.if_icmp .ge 32, 3) := by decide +kernel
theorem dX6_nextBale_30 : decode cX6_nextBale 30 = .ok (.iload 4, 2) := by decide +kernel
theorem dX6_nextBale_32 : decode cX6_nextBale 32 = .ok (.ifCond .ne 14, 3) := by decide +kernel
theorem dX6_nextBale_35 : decode cX6_nextBale 35 = .ok (.aload_n 0, 1) := by decide +kernel
theorem dX6_nextBale_36 : decode cX6_nextBale 36 = .ok (.getfield 47, 3) := by decide +kernel
theorem dX6_nextBale_39 : decode cX6_nextBale 39 = .ok (.iload 5, 2) := by decide +kernel
theorem dX6_nextBale_41 : decode cX6_nextBale 41 = .ok (.iaload, 1) := by decide +kernel
theorem dX6_nextBale_42 : decode cX6_nextBale 42 = .ok (.iload_n 3, 1) := by decide +kernel
theorem dX6_nextBale_43 : decode cX6_nextBale 43 = .ok (.if_icmp .ne 7, 3) := by decide +kernel
theorem dX6_nextBale_46 : decode cX6_nextBale 46 = .ok (.iconst 1, 1) := by decide +kernel
theorem dX6_nextBale_47 : decode cX6_nextBale 47 = .ok (.goto 4, 3) := by decide +kernel
theorem dX6_nextBale_50 : decode cX6_nextBale 50 = .ok (.iconst 0, 1) := by decide +kernel
theorem dX6_nextBale_51 : decode cX6_nextBale 51 = .ok (.istore 4, 2) := by decide +kernel
theorem dX6_nextBale_53 : decode cX6_nextBale 53 = .ok (.iinc 5 1, 3) := by decide +kernel
theorem dX6_nextBale_56 : decode cX6_nextBale 56 = .ok (.goto (-32), 3) := by decide +kernel
theorem dX6_nextBale_59 : decode cX6_nextBale 59 = .ok (.iload_n 3, 1) := by decide +kernel
theorem dX6_nextBale_60 : decode cX6_nextBale 60 = .ok (.iload 4, 2) := by decide +kernel
theorem dX6_nextBale_62 : decode cX6_nextBale 62 = .ok (.ifCond .eq 7, 3) := by decide +kernel
theorem dX6_nextBale_65 : decode cX6_nextBale 65 = .ok (.iconst 1, 1) := by decide +kernel
theorem dX6_nextBale_66 : decode cX6_nextBale 66 = .ok (.goto 4, 3) := by decide +kernel
theorem dX6_nextBale_69 : decode cX6_nextBale 69 = .ok (.iconst 0, 1) := by decide +kernel
theorem dX6_nextBale_70 : decode cX6_nextBale 70 = .ok (.iadd, 1) := by decide +kernel
theorem dX6_nextBale_71 : decode cX6_nextBale 71 = .ok (.istore_n 3, 1) := by decide +kernel
theorem dX6_nextBale_72 : decode cX6_nextBale 72 = .ok (.goto (-67), 3) := by decide +kernel
theorem dX6_nextBale_75 : decode cX6_nextBale 75 = .ok (.iload_n 3, 1) := by decide +kernel
theorem dX6_nextBale_76 : decode cX6_nextBale 76 = .ok (.ireturn, 1) := by decide +kernel
set_option maxRecDepth 20000 in
theorem ggX6_isWhole_X6_in : GoodIn wsX6_isWhole wsX6_in := goodIn_r _ [6] (by decide +kernel) (by decide +kernel)
set_option maxRecDepth 20000 in
theorem gX6_isWhole_X6_in : GoodIn wsX6_isWhole (va_wsS RX6 52 yX6_in wsX6_in) := goodIn_app (goodIn_of _ (by decide +kernel)) ggX6_isWhole_X6_in
theorem dX6_isWhole_0 : decode cX6_isWhole 0 = .ok (.iconst 0, 1) := by decide +kernel
theorem dX6_isWhole_1 : decode cX6_isWhole 1 = .ok (.istore 5, 2) := by decide +kernel
theorem dX6_isWhole_3 : decode cX6_isWhole 3 = .ok (.iload_n 1, 1) := by decide +kernel
theorem dX6_isWhole_4 : decode cX6_isWhole 4 = .ok (.iload_n 2, 1) := by decide +kernel
theorem dX6_isWhole_5 : decode cX6_isWhole 5 = .ok (.isub, 1) := by decide +kernel
theorem dX6_isWhole_6 : decode cX6_isWhole 6 = .ok (.iconst 1, 1) := by decide +kernel
theorem dX6_isWhole_7 : decode cX6_isWhole 7 = .ok (.iadd, 1) := by decide +kernel
theorem dX6_isWhole_8 : decode cX6_isWhole 8 = .ok (.istore 6, 2) := by decide +kernel
theorem dX6_isWhole_10 : decode cX6_isWhole 10 = .ok (.iload 6, 2) := by decide +kernel
theorem dX6_isWhole_12 : decode cX6_isWhole 12 = .ok (.iload_n 1, 1) := by decide +kernel
theorem dX6_isWhole_13 : decode cX6_isWhole 13 = .ok (.if_icmp .gt 26, 3) := by decide +kernel
theorem dX6_isWhole_16 : decode cX6_isWhole 16 = .ok (.iload 5, 2) := by decide +kernel
theorem dX6_isWhole_18 : decode cX6_isWhole 18 = .ok (.aload_n 0, 1) := by decide +kernel
theorem dX6_isWhole_19 : decode cX6_isWhole 19 = .ok (.getfield 44, 3) := by decide +kernel
theorem dX6_isWhole_22 : decode cX6_isWhole 22 = .ok (.aload_n 0, 1) := by decide +kernel
theorem dX6_isWhole_23 : decode cX6_isWhole 23 = .ok (.getfield 47, 3) := by decide +kernel
theorem dX6_isWhole_26 : decode cX6_isWhole 26 = .ok (.iload 6, 2) := by decide +kernel
theorem dX6_isWhole_28 : decode cX6_isWhole 28 = .ok (.iaload, 1) := by decide +kernel
theorem dX6_isWhole_29 : decode cX6_isWhole 29 = .ok (.iaload, 1) := by decide +kernel
theorem dX6_isWhole_30 : decode cX6_isWhole 30 = .ok (.iadd, 1) := by decide +kernel
theorem dX6_isWhole_31 : decode cX6_isWhole 31 = .ok (.istore 5, 2) := by decide +kernel
theorem dX6_isWhole_33 : decode cX6_isWhole 33 = .ok (.iinc 6 1, 3) := by decide +kernel
theorem dX6_isWhole_36 : decode cX6_isWhole 36 = .ok (.goto (-26), 3) := by decide +kernel
theorem dX6_isWhole_39 : decode cX6_isWhole 39 = .ok (.iload 5, 2) := by decide +kernel
theorem dX6_isWhole_41 : decode cX6_isWhole 41 = .ok (.i2l, 1) := by decide +kernel
theorem dX6_isWhole_42 : decode cX6_isWhole 42 = .ok (.iload_n 2, 1) := by decide +kernel
theorem dX6_isWhole_43 : decode cX6_isWhole 43 = .ok (.iload_n 3, 1) := by decide +kernel
theorem dX6_isWhole_44 : decode cX6_isWhole 44 = .ok (.imul, 1) := by decide +kernel
theorem dX6_isWhole_45 : decode cX6_isWhole 45 = .ok (.i2l, 1) := by decide +kernel
theorem dX6_isWhole_46 : decode cX6_isWhole 46 = .ok (.iload_n 2, 1) := by decide +kernel
theorem dX6_isWhole_47 : decode cX6_isWhole 47 = .ok (.iload 4, 2) := by decide +kernel
theorem dX6_isWhole_49 : decode cX6_isWhole 49 = .ok (.imul, 1) := by decide +kernel
theorem dX6_isWhole_50 : decode cX6_isWhole 50 = .ok (.i2l, 1) := by decide +kernel
theorem dX6_isWhole_51 : decode cX6_isWhole 51 = .ok (.invokestatic 52, 3) := by decide +kernel
theorem dX6_isWhole_54 : decode cX6_isWhole 54 = .ok (.ireturn, 1) := by decide +kernel
set_option maxRecDepth 20000 in
theorem ggX6_plan_X6_in : GoodIn wsX6_plan wsX6_in := goodIn_r _ [12] (by decide +kernel) (by decide +kernel)
set_option maxRecDepth 20000 in
theorem gX6_plan_X6_in : GoodIn wsX6_plan (va_wsS RX6 52 yX6_in wsX6_in) := goodIn_app (goodIn_of _ (by decide +kernel)) ggX6_plan_X6_in
set_option maxRecDepth 20000 in
theorem ggX6_plan_X6_nextBale : GoodIn wsX6_plan wsX6_nextBale := goodIn_r _ [16, 4, 7, 22, 23, 24, 25, 26, 27, 28, 29, 30, 31, 32, 33, 34, 35, 36, 37, 38, 39] (by decide +kernel) (by decide +kernel)
set_option maxRecDepth 20000 in
theorem gX6_plan_X6_nextBale : GoodIn wsX6_plan (wsV RX6 163 RX6 yX6_nextBale wsX6_nextBale) := goodIn_app (goodIn_of _ (by decide +kernel)) ggX6_plan_X6_nextBale
set_option maxRecDepth 20000 in
theorem ggX6_plan_X6_isWhole : GoodIn wsX6_plan wsX6_isWhole := goodIn_r _ [20, 21, 7, 9, 10, 11, 12, 22, 23, 24, 25, 26, 27, 28, 29, 30, 31, 32, 33, 34, 35, 36, 37, 38, 39] (by decide +kernel) (by decide +kernel)
set_option maxRecDepth 20000 in
theorem gX6_plan_X6_isWhole : GoodIn wsX6_plan (wsV RX6 167 RX6 yX6_isWhole wsX6_isWhole) := goodIn_app (goodIn_of _ (by decide +kernel)) ggX6_plan_X6_isWhole
theorem dX6_plan_0 : decode cX6_plan 0 = .ok (.iload_n 1, 1) := by decide +kernel
theorem dX6_plan_1 : decode cX6_plan 1 = .ok (.i2l, 1) := by decide +kernel
theorem dX6_plan_2 : decode cX6_plan 2 = .ok (.lconst 1, 1) := by decide +kernel
theorem dX6_plan_3 : decode cX6_plan 3 = .ok (.ldc2_w 155, 3) := by decide +kernel
theorem dX6_plan_6 : decode cX6_plan 6 = .ok (.invokestatic 52, 3) := by decide +kernel
theorem dX6_plan_9 : decode cX6_plan 9 = .ok (.ifCond .eq 28, 3) := by decide +kernel
theorem dX6_plan_12 : decode cX6_plan 12 = .ok (.iload_n 2, 1) := by decide +kernel
theorem dX6_plan_13 : decode cX6_plan 13 = .ok (.i2l, 1) := by decide +kernel
theorem dX6_plan_14 : decode cX6_plan 14 = .ok (.lconst 0, 1) := by decide +kernel
theorem dX6_plan_15 : decode cX6_plan 15 = .ok (.ldc2_w 50, 3) := by decide +kernel
theorem dX6_plan_18 : decode cX6_plan 18 = .ok (.invokestatic 52, 3) := by decide +kernel
theorem dX6_plan_21 : decode cX6_plan 21 = .ok (.ifCond .eq 16, 3) := by decide +kernel
theorem dX6_plan_24 : decode cX6_plan 24 = .ok (.iload_n 3, 1) := by decide +kernel
theorem dX6_plan_25 : decode cX6_plan 25 = .ok (.i2l, 1) := by decide +kernel
theorem dX6_plan_26 : decode cX6_plan 26 = .ok (.iload_n 2, 1) := by decide +kernel
theorem dX6_plan_27 : decode cX6_plan 27 = .ok (.i2l, 1) := by decide +kernel
theorem dX6_plan_28 : decode cX6_plan 28 = .ok (.ldc2_w 50, 3) := by decide +kernel
theorem dX6_plan_31 : decode cX6_plan 31 = .ok (.invokestatic 52, 3) := by decide +kernel
theorem dX6_plan_34 : decode cX6_plan 34 = .ok (.ifCond .ne 6, 3) := by decide +kernel
theorem dX6_plan_37 : decode cX6_plan 37 = .ok (.bipush (-2), 2) := by decide +kernel
theorem dX6_plan_39 : decode cX6_plan 39 = .ok (.ireturn, 1) := by decide +kernel
theorem dX6_plan_40 : decode cX6_plan 40 = .ok (.aload_n 0, 1) := by decide +kernel
theorem dX6_plan_41 : decode cX6_plan 41 = .ok (.iconst 0, 1) := by decide +kernel
theorem dX6_plan_42 : decode cX6_plan 42 = .ok (.putfield 152, 3) := by decide +kernel
theorem dX6_plan_45 : decode cX6_plan 45 = .ok (.aload_n 0, 1) := by decide +kernel
theorem dX6_plan_46 : decode cX6_plan 46 = .ok (.getfield 149, 3) := by decide +kernel
theorem dX6_plan_49 : decode cX6_plan 49 = .ok (.iload_n 1, 1) := by decide +kernel
theorem dX6_plan_50 : decode cX6_plan 50 = .ok (.irem, 1) := by decide +kernel
theorem dX6_plan_51 : decode cX6_plan 51 = .ok (.ifCond .eq 6, 3) := by decide +kernel
theorem dX6_plan_54 : decode cX6_plan 54 = .ok (.bipush (-3), 2) := by decide +kernel
theorem dX6_plan_56 : decode cX6_plan 56 = .ok (.ireturn, 1) := by decide +kernel
theorem dX6_plan_57 : decode cX6_plan 57 = .ok (.aload_n 0, 1) := by decide +kernel
theorem dX6_plan_58 : decode cX6_plan 58 = .ok (.iconst 0, 1) := by decide +kernel
theorem dX6_plan_59 : decode cX6_plan 59 = .ok (.putfield 157, 3) := by decide +kernel
theorem dX6_plan_62 : decode cX6_plan 62 = .ok (.aload_n 0, 1) := by decide +kernel
theorem dX6_plan_63 : decode cX6_plan 63 = .ok (.iload_n 1, 1) := by decide +kernel
theorem dX6_plan_64 : decode cX6_plan 64 = .ok (.putfield 160, 3) := by decide +kernel
theorem dX6_plan_67 : decode cX6_plan 67 = .ok (.iconst 0, 1) := by decide +kernel
theorem dX6_plan_68 : decode cX6_plan 68 = .ok (.istore 4, 2) := by decide +kernel
theorem dX6_plan_70 : decode cX6_plan 70 = .ok (.iconst 0, 1) := by decide +kernel
theorem dX6_plan_71 : decode cX6_plan 71 = .ok (.istore 5, 2) := by decide +kernel
theorem dX6_plan_73 : decode cX6_plan 73 = .ok (.iload 4, 2) := by decide +kernel
theorem dX6_plan_75 : decode cX6_plan 75 = .ok (.ifCond .lt 221, 3) := by decide +kernel
theorem dX6_plan_78 : decode cX6_plan 78 = .ok (.iload 4, 2) := by decide +kernel
theorem dX6_plan_80 : decode cX6_plan 80 = .ok (.aload_n 0, 1) := by decide +kernel
theorem dX6_plan_81 : decode cX6_plan 81 = .ok (.getfield 149, 3) := by decide +kernel
theorem dX6_plan_84 : decode cX6_plan 84 = .ok (.if_icmp .ge 212, 3) := by decide +kernel
theorem dX6_plan_87 : decode cX6_plan 87 = .ok (.iload 4, 2) := by decide +kernel
theorem dX6_plan_89 : decode cX6_plan 89 = .ok (.iload_n 1, 1) := by decide +kernel
theorem dX6_plan_90 : decode cX6_plan 90 = .ok (.irem, 1) := by decide +kernel
theorem dX6_plan_91 : decode cX6_plan 91 = .ok (.ifCond .ne 7, 3) := by decide +kernel
theorem dX6_plan_94 : decode cX6_plan 94 = .ok (.iconst 1, 1) := by decide +kernel
theorem dX6_plan_95 : decode cX6_plan 95 = .ok (.goto 4, 3) := by decide +kernel
theorem dX6_plan_98 : decode cX6_plan 98 = .ok (.iconst 0, 1) := by decide +kernel
theorem dX6_plan_99 : decode cX6_plan 99 = .ok (.istore 6, 2) := by decide +kernel
theorem dX6_plan_101 : decode cX6_plan 101 = .ok (.iload 6, 2) := by decide +kernel
theorem dX6_plan_103 : decode cX6_plan 103 = .ok (.ifCond .eq 15, 3) := by decide +kernel
theorem dX6_plan_106 : decode cX6_plan 106 = .ok (.iload 5, 2) := by decide +kernel
theorem dX6_plan_108 : decode cX6_plan 108 = .ok (.ifCond .le 10, 3) := by decide +kernel
theorem dX6_plan_111 : decode cX6_plan 111 = .ok (.aload_n 0, 1) := by decide +kernel
theorem dX6_plan_112 : decode cX6_plan 112 = .ok (.getfield 149, 3) := by decide +kernel
theorem dX6_plan_115 : decode cX6_plan 115 = .ok (.goto 20, 3) := by decide +kernel
theorem dX6_plan_118 : decode cX6_plan 118 = .ok (.aload_n 0, 1) := by decide +kernel
theorem dX6_plan_119 : decode cX6_plan 119 = .ok (.iload 6, 2) := by decide +kernel
theorem dX6_plan_121 : decode cX6_plan 121 = .ok (.ifCond .eq 7, 3) := by decide +kernel
theorem dX6_plan_124 : decode cX6_plan 124 = .ok (.iconst 0, 1) := by decide +kernel
theorem dX6_plan_125 : decode cX6_plan 125 = .ok (.goto 5, 3) := by decide +kernel
theorem dX6_plan_128 : decode cX6_plan 128 = .ok (.iload 5, 2) := by decide +kernel
theorem dX6_plan_130 : decode cX6_plan 130 = .ok (.iload 4, 2) := by decide +kernel
theorem dX6_plan_132 : decode cX6_plan 132 = .ok (.invokevirtual 163, 3) := by decide +kernel
theorem dX6_plan_135 : decode cX6_plan 135 = .ok (.istore 7, 2) := by decide +kernel
theorem dX6_plan_137 : decode cX6_plan 137 = .ok (.iload 7, 2) := by decide +kernel
theorem dX6_plan_139 : decode cX6_plan 139 = .ok (.aload_n 0, 1) := by decide +kernel
theorem dX6_plan_140 : decode cX6_plan 140 = .ok (.getfield 149, 3) := by decide +kernel
theorem dX6_plan_143 : decode cX6_plan 143 = .ok (.if_icmp .ne 29, 3) := by decide +kernel
theorem dX6_plan_146 : decode cX6_plan 146 = .ok (.iinc 4 (-1), 3) := by decide +kernel
theorem dX6_plan_149 : decode cX6_plan 149 = .ok (.iload 4, 2) := by decide +kernel
theorem dX6_plan_151 : decode cX6_plan 151 = .ok (.ifCond .lt 15, 3) := by decide +kernel
theorem dX6_plan_154 : decode cX6_plan 154 = .ok (.aload_n 0, 1) := by decide +kernel
theorem dX6_plan_155 : decode cX6_plan 155 = .ok (.getfield 47, 3) := by decide +kernel
theorem dX6_plan_158 : decode cX6_plan 158 = .ok (.iload 4, 2) := by decide +kernel
theorem dX6_plan_160 : decode cX6_plan 160 = .ok (.iaload, 1) := by decide +kernel
theorem dX6_plan_161 : decode cX6_plan 161 = .ok (.iconst 1, 1) := by decide +kernel
theorem dX6_plan_162 : decode cX6_plan 162 = .ok (.iadd, 1) := by decide +kernel
theorem dX6_plan_163 : decode cX6_plan 163 = .ok (.goto 4, 3) := by decide +kernel
theorem dX6_plan_166 : decode cX6_plan 166 = .ok (.iconst 0, 1) := by decide +kernel
theorem dX6_plan_167 : decode cX6_plan 167 = .ok (.istore 5, 2) := by decide +kernel
theorem dX6_plan_169 : decode cX6_plan 169 = .ok (.goto 124, 3) := by decide +kernel
theorem dX6_plan_172 : decode cX6_plan 172 = .ok (.iload 6, 2) := by decide +kernel
theorem dX6_plan_174 : decode cX6_plan 174 = .ok (.ifCond .ne 15, 3) := by decide +kernel
theorem dX6_plan_177 : decode cX6_plan 177 = .ok (.aload_n 0, 1) := by decide +kernel
theorem dX6_plan_178 : decode cX6_plan 178 = .ok (.getfield 157, 3) := by decide +kernel
theorem dX6_plan_181 : decode cX6_plan 181 = .ok (.ldc 166, 2) := by decide +kernel
theorem dX6_plan_183 : decode cX6_plan 183 = .ok (.if_icmp .ne 6, 3) := by decide +kernel
theorem dX6_plan_186 : decode cX6_plan 186 = .ok (.bipush (-5), 2) := by decide +kernel
theorem dX6_plan_188 : decode cX6_plan 188 = .ok (.ireturn, 1) := by decide +kernel
theorem dX6_plan_189 : decode cX6_plan 189 = .ok (.aload_n 0, 1) := by decide +kernel
theorem dX6_plan_190 : decode cX6_plan 190 = .ok (.dup, 1) := by decide +kernel
theorem dX6_plan_191 : decode cX6_plan 191 = .ok (.getfield 157, 3) := by decide +kernel
theorem dX6_plan_194 : decode cX6_plan 194 = .ok (.iload 6, 2) := by decide +kernel
theorem dX6_plan_196 : decode cX6_plan 196 = .ok (.ifCond .eq 7, 3) := by decide +kernel
theorem dX6_plan_199 : decode cX6_plan 199 = .ok (.iconst 0, 1) := by decide +kernel
theorem dX6_plan_200 : decode cX6_plan 200 = .ok (.goto 4, 3) := by decide +kernel
theorem dX6_plan_203 : decode cX6_plan 203 = .ok (.iconst 1, 1) := by decide +kernel
theorem dX6_plan_204 : decode cX6_plan 204 = .ok (.iadd, 1) := by decide +kernel
theorem dX6_plan_205 : decode cX6_plan 205 = .ok (.putfield 157, 3) := by decide +kernel
theorem dX6_plan_208 : decode cX6_plan 208 = .ok (.aload_n 0, 1) := by decide +kernel
theorem dX6_plan_209 : decode cX6_plan 209 = .ok (.getfield 47, 3) := by decide +kernel
theorem dX6_plan_212 : decode cX6_plan 212 = .ok (.iload 4, 2) := by decide +kernel
theorem dX6_plan_214 : decode cX6_plan 214 = .ok (.iload 7, 2) := by decide +kernel
theorem dX6_plan_216 : decode cX6_plan 216 = .ok (.iastore, 1) := by decide +kernel
theorem dX6_plan_217 : decode cX6_plan 217 = .ok (.iload 4, 2) := by decide +kernel
theorem dX6_plan_219 : decode cX6_plan 219 = .ok (.iload_n 1, 1) := by decide +kernel
theorem dX6_plan_220 : decode cX6_plan 220 = .ok (.irem, 1) := by decide +kernel
theorem dX6_plan_221 : decode cX6_plan 221 = .ok (.iload_n 1, 1) := by decide +kernel
theorem dX6_plan_222 : decode cX6_plan 222 = .ok (.iconst 1, 1) := by decide +kernel
theorem dX6_plan_223 : decode cX6_plan 223 = .ok (.isub, 1) := by decide +kernel
theorem dX6_plan_224 : decode cX6_plan 224 = .ok (.if_icmp .lt 15, 3) := by decide +kernel
theorem dX6_plan_227 : decode cX6_plan 227 = .ok (.aload_n 0, 1) := by decide +kernel
theorem dX6_plan_228 : decode cX6_plan 228 = .ok (.iload 4, 2) := by decide +kernel
theorem dX6_plan_230 : decode cX6_plan 230 = .ok (.iload_n 1, 1) := by decide +kernel
theorem dX6_plan_231 : decode cX6_plan 231 = .ok (.iload_n 2, 1) := by decide +kernel
theorem dX6_plan_232 : decode cX6_plan 232 = .ok (.iload_n 3, 1) := by decide +kernel
theorem dX6_plan_233 : decode cX6_plan 233 = .ok (.invokevirtual 167, 3) := by decide +kernel
theorem dX6_plan_236 : decode cX6_plan 236 = .ok (.ifCond .eq 7, 3) := by decide +kernel
theorem dX6_plan_239 : decode cX6_plan 239 = .ok (.iconst 1, 1) := by decide +kernel
theorem dX6_plan_240 : decode cX6_plan 240 = .ok (.goto 4, 3) := by decide +kernel
theorem dX6_plan_243 : decode cX6_plan 243 = .ok (.iconst 0, 1) := by decide +kernel
theorem dX6_plan_244 : decode cX6_plan 244 = .ok (.istore 8, 2) := by decide +kernel
theorem dX6_plan_246 : decode cX6_plan 246 = .ok (.iload 8, 2) := by decide +kernel
theorem dX6_plan_248 : decode cX6_plan 248 = .ok (.ifCond .eq 24, 3) := by decide +kernel
theorem dX6_plan_251 : decode cX6_plan 251 = .ok (.iload 4, 2) := by decide +kernel
theorem dX6_plan_253 : decode cX6_plan 253 = .ok (.iload_n 1, 1) := by decide +kernel
