theorem dX3_init_0 : decode cX3_init 0 = .ok (.aload_n 0, 1) := by decide +kernel
theorem dX3_init_1 : decode cX3_init 1 = .ok (.invokespecial 3, 3) := by decide +kernel
theorem dX3_init_4 : decode cX3_init 4 = .ok (.aload_n 0, 1) := by decide +kernel
theorem dX3_init_5 : decode cX3_init 5 = .ok (.sipush 400, 3) := by decide +kernel
theorem dX3_init_8 : decode cX3_init 8 = .ok (.newarray .int, 2) := by decide +kernel
theorem dX3_init_10 : decode cX3_init 10 = .ok (.putfield 11, 3) := by decide +kernel
theorem dX3_init_13 : decode cX3_init 13 = .ok (.return_, 1) := by decide +kernel
set_option maxRecDepth 20000 in
theorem ggX3_addCell_X5_within : GoodIn wsX3_addCell wsX5_within := goodIn_r _ [6] (by decide +kernel) (by decide +kernel)
set_option maxRecDepth 20000 in
theorem gX3_addCell_X5_within_n17 : GoodIn wsX3_addCell (wsX5_within) := ggX3_addCell_X5_within
theorem dX3_addCell_0 : decode cX3_addCell 0 = .ok (.iload_n 1, 1) := by decide +kernel
theorem dX3_addCell_1 : decode cX3_addCell 1 = .ok (.i2l, 1) := by decide +kernel
theorem dX3_addCell_2 : decode cX3_addCell 2 = .ok (.lconst 0, 1) := by decide +kernel
theorem dX3_addCell_3 : decode cX3_addCell 3 = .ok (.ldc2_w 15, 3) := by decide +kernel
theorem dX3_addCell_6 : decode cX3_addCell 6 = .ok (.invokestatic 17, 3) := by decide +kernel
theorem dX3_addCell_9 : decode cX3_addCell 9 = .ok (.ifCond .ne 6, 3) := by decide +kernel
theorem dX3_addCell_12 : decode cX3_addCell 12 = .ok (.bipush (-2), 2) := by decide +kernel
theorem dX3_addCell_14 : decode cX3_addCell 14 = .ok (.ireturn, 1) := by decide +kernel
theorem dX3_addCell_15 : decode cX3_addCell 15 = .ok (.aload_n 0, 1) := by decide +kernel
theorem dX3_addCell_16 : decode cX3_addCell 16 = .ok (.getfield 21, 3) := by decide +kernel
theorem dX3_addCell_19 : decode cX3_addCell 19 = .ok (.sipush 400, 3) := by decide +kernel
theorem dX3_addCell_22 : decode cX3_addCell 22 = .ok (.if_icmp .lt 6, 3) := by decide +kernel
theorem dX3_addCell_25 : decode cX3_addCell 25 = .ok (.bipush (-4), 2) := by decide +kernel
theorem dX3_addCell_27 : decode cX3_addCell 27 = .ok (.ireturn, 1) := by decide +kernel
theorem dX3_addCell_28 : decode cX3_addCell 28 = .ok (.aload_n 0, 1) := by decide +kernel
theorem dX3_addCell_29 : decode cX3_addCell 29 = .ok (.getfield 11, 3) := by decide +kernel
theorem dX3_addCell_32 : decode cX3_addCell 32 = .ok (.aload_n 0, 1) := by decide +kernel
theorem dX3_addCell_33 : decode cX3_addCell 33 = .ok (.getfield 21, 3) := by decide +kernel
theorem dX3_addCell_36 : decode cX3_addCell 36 = .ok (.iload_n 1, 1) := by decide +kernel
theorem dX3_addCell_37 : decode cX3_addCell 37 = .ok (.iastore, 1) := by decide +kernel
theorem dX3_addCell_38 : decode cX3_addCell 38 = .ok (.aload_n 0, 1) := by decide +kernel
theorem dX3_addCell_39 : decode cX3_addCell 39 = .ok (.dup, 1) := by decide +kernel
theorem dX3_addCell_40 : decode cX3_addCell 40 = .ok (.getfield 21, 3) := by decide +kernel
theorem dX3_addCell_43 : decode cX3_addCell 43 = .ok (.iconst 1, 1) := by decide +kernel
theorem dX3_addCell_44 : decode cX3_addCell 44 = .ok (.iadd, 1) := by decide +kernel
theorem dX3_addCell_45 : decode cX3_addCell 45 = .ok (.putfield 21, 3) := by decide +kernel
theorem dX3_addCell_48 : decode cX3_addCell 48 = .ok (.aload_n 0, 1) := by decide +kernel
theorem dX3_addCell_49 : decode cX3_addCell 49 = .ok (.getfield 21, 3) := by decide +kernel
theorem dX3_addCell_52 : decode cX3_addCell 52 = .ok (.ireturn, 1) := by decide +kernel
set_option maxRecDepth 20000 in
theorem ggX3_addDrawn_X5_within : GoodIn wsX3_addDrawn wsX5_within := goodIn_r _ [10] (by decide +kernel) (by decide +kernel)
set_option maxRecDepth 20000 in
theorem gX3_addDrawn_X5_within_n17 : GoodIn wsX3_addDrawn (wsX5_within) := ggX3_addDrawn_X5_within
theorem dX3_addDrawn_0 : decode cX3_addDrawn 0 = .ok (.iload_n 1, 1) := by decide +kernel
theorem dX3_addDrawn_1 : decode cX3_addDrawn 1 = .ok (.i2l, 1) := by decide +kernel
theorem dX3_addDrawn_2 : decode cX3_addDrawn 2 = .ok (.lconst 1, 1) := by decide +kernel
theorem dX3_addDrawn_3 : decode cX3_addDrawn 3 = .ok (.ldc2_w 25, 3) := by decide +kernel
theorem dX3_addDrawn_6 : decode cX3_addDrawn 6 = .ok (.invokestatic 17, 3) := by decide +kernel
theorem dX3_addDrawn_9 : decode cX3_addDrawn 9 = .ok (.ifCond .eq 31, 3) := by decide +kernel
theorem dX3_addDrawn_12 : decode cX3_addDrawn 12 = .ok (.iload_n 2, 1) := by decide +kernel
theorem dX3_addDrawn_13 : decode cX3_addDrawn 13 = .ok (.i2l, 1) := by decide +kernel
theorem dX3_addDrawn_14 : decode cX3_addDrawn 14 = .ok (.lconst 0, 1) := by decide +kernel
theorem dX3_addDrawn_15 : decode cX3_addDrawn 15 = .ok (.ldc2_w 27, 3) := by decide +kernel
theorem dX3_addDrawn_18 : decode cX3_addDrawn 18 = .ok (.invokestatic 17, 3) := by decide +kernel
theorem dX3_addDrawn_21 : decode cX3_addDrawn 21 = .ok (.ifCond .eq 19, 3) := by decide +kernel
theorem dX3_addDrawn_24 : decode cX3_addDrawn 24 = .ok (.iload_n 3, 1) := by decide +kernel
theorem dX3_addDrawn_25 : decode cX3_addDrawn 25 = .ok (.i2l, 1) := by decide +kernel
theorem dX3_addDrawn_26 : decode cX3_addDrawn 26 = .ok (.lconst 0, 1) := by decide +kernel
theorem dX3_addDrawn_27 : decode cX3_addDrawn 27 = .ok (.iload_n 2, 1) := by decide +kernel
theorem dX3_addDrawn_28 : decode cX3_addDrawn 28 = .ok (.i2l, 1) := by decide +kernel
theorem dX3_addDrawn_29 : decode cX3_addDrawn 29 = .ok (.invokestatic 17, 3) := by decide +kernel
theorem dX3_addDrawn_32 : decode cX3_addDrawn 32 = .ok (.ifCond .eq 8, 3) := by decide +kernel
theorem dX3_addDrawn_35 : decode cX3_addDrawn 35 = .ok (.iload 4, 2) := by decide +kernel
theorem dX3_addDrawn_37 : decode cX3_addDrawn 37 = .ok (.ifCond .ge 6, 3) := by decide +kernel
theorem dX3_addDrawn_40 : decode cX3_addDrawn 40 = .ok (.bipush (-2), 2) := by decide +kernel
theorem dX3_addDrawn_42 : decode cX3_addDrawn 42 = .ok (.ireturn, 1) := by decide +kernel
theorem dX3_addDrawn_43 : decode cX3_addDrawn 43 = .ok (.aload_n 0, 1) := by decide +kernel
theorem dX3_addDrawn_44 : decode cX3_addDrawn 44 = .ok (.getfield 21, 3) := by decide +kernel
theorem dX3_addDrawn_47 : decode cX3_addDrawn 47 = .ok (.iload_n 1, 1) := by decide +kernel
theorem dX3_addDrawn_48 : decode cX3_addDrawn 48 = .ok (.iadd, 1) := by decide +kernel
theorem dX3_addDrawn_49 : decode cX3_addDrawn 49 = .ok (.sipush 400, 3) := by decide +kernel
theorem dX3_addDrawn_52 : decode cX3_addDrawn 52 = .ok (.if_icmp .le 6, 3) := by decide +kernel
theorem dX3_addDrawn_55 : decode cX3_addDrawn 55 = .ok (.bipush (-4), 2) := by decide +kernel
theorem dX3_addDrawn_57 : decode cX3_addDrawn 57 = .ok (.ireturn, 1) := by decide +kernel
theorem dX3_addDrawn_58 : decode cX3_addDrawn 58 = .ok (.iload 4, 2) := by decide +kernel
theorem dX3_addDrawn_60 : decode cX3_addDrawn 60 = .ok (.istore 5, 2) := by decide +kernel
theorem dX3_addDrawn_62 : decode cX3_addDrawn 62 = .ok (.iconst 0, 1) := by decide +kernel
theorem dX3_addDrawn_63 : decode cX3_addDrawn 63 = .ok (.istore 6, 2) := by decide +kernel
theorem dX3_addDrawn_65 : decode cX3_addDrawn 65 = .ok (.iload 6, 2) := by decide +kernel
theorem dX3_addDrawn_67 : decode cX3_addDrawn 67 = .ok (.iload_n 1, 1) := by decide +kernel
theorem dX3_addDrawn_68 : decode cX3_addDrawn 68 = .ok (.if_icmp .ge 50, 3) := by decide +kernel
theorem dX3_addDrawn_71 : decode cX3_addDrawn 71 = .ok (.iload 5, 2) := by decide +kernel
theorem dX3_addDrawn_73 : decode cX3_addDrawn 73 = .ok (.ldc 29, 2) := by decide +kernel
theorem dX3_addDrawn_75 : decode cX3_addDrawn 75 = .ok (.imul, 1) := by decide +kernel
theorem dX3_addDrawn_76 : decode cX3_addDrawn 76 = .ok (.sipush 12345, 3) := by decide +kernel
theorem dX3_addDrawn_79 : decode cX3_addDrawn 79 = .ok (.iadd, 1) := by decide +kernel
theorem dX3_addDrawn_80 : decode cX3_addDrawn 80 = .ok (.ldc 30, 2) := by decide +kernel
theorem dX3_addDrawn_82 : decode cX3_addDrawn 82 = .ok (.iand, 1) := by decide +kernel
theorem dX3_addDrawn_83 : decode cX3_addDrawn 83 = .ok (.istore 5, 2) := by decide +kernel
theorem dX3_addDrawn_85 : decode cX3_addDrawn 85 = .ok (.aload_n 0, 1) := by decide +kernel
theorem dX3_addDrawn_86 : decode cX3_addDrawn 86 = .ok (.getfield 11, 3) := by decide +kernel
theorem dX3_addDrawn_89 : decode cX3_addDrawn 89 = .ok (.aload_n 0, 1) := by decide +kernel
theorem dX3_addDrawn_90 : decode cX3_addDrawn 90 = .ok (.getfield 21, 3) := by decide +kernel
theorem dX3_addDrawn_93 : decode cX3_addDrawn 93 = .ok (.iload 6, 2) := by decide +kernel
theorem dX3_addDrawn_95 : decode cX3_addDrawn 95 = .ok (.iadd, 1) := by decide +kernel
theorem dX3_addDrawn_96 : decode cX3_addDrawn 96 = .ok (.iload_n 2, 1) := by decide +kernel
theorem dX3_addDrawn_97 : decode cX3_addDrawn 97 = .ok (.iload 5, 2) := by decide +kernel
theorem dX3_addDrawn_99 : decode cX3_addDrawn 99 = .ok (.ldc 31, 2) := by decide +kernel
theorem dX3_addDrawn_101 : decode cX3_addDrawn 101 = .ok (.idiv, 1) := by decide +kernel
theorem dX3_addDrawn_102 : decode cX3_addDrawn 102 = .ok (.iconst 2, 1) := by decide +kernel
theorem dX3_addDrawn_103 : decode cX3_addDrawn 103 = .ok (.iload_n 3, 1) := by decide +kernel
theorem dX3_addDrawn_104 : decode cX3_addDrawn 104 = .ok (.imul, 1) := by decide +kernel
theorem dX3_addDrawn_105 : decode cX3_addDrawn 105 = .ok (.iconst 1, 1) := by decide +kernel
theorem dX3_addDrawn_106 : decode cX3_addDrawn 106 = .ok (.iadd, 1) := by decide +kernel
theorem dX3_addDrawn_107 : decode cX3_addDrawn 107 = .ok (.irem, 1) := by decide +kernel
theorem dX3_addDrawn_108 : decode cX3_addDrawn 108 = .ok (.iadd, 1) := by decide +kernel
theorem dX3_addDrawn_109 : decode cX3_addDrawn 109 = .ok (.iload_n 3, 1) := by decide +kernel
theorem dX3_addDrawn_110 : decode cX3_addDrawn 110 = .ok (.isub, 1) := by decide +kernel
theorem dX3_addDrawn_111 : decode cX3_addDrawn 111 = .ok (.iastore, 1) := by decide +kernel
theorem dX3_addDrawn_112 : decode cX3_addDrawn 112 = .ok (.iinc 6 1, 3) := by decide +kernel
theorem dX3_addDrawn_115 : decode cX3_addDrawn 115 = .ok (.goto (-50), 3) := by decide +kernel
theorem dX3_addDrawn_118 : decode cX3_addDrawn 118 = .ok (.aload_n 0, 1) := by decide +kernel
theorem dX3_addDrawn_119 : decode cX3_addDrawn 119 = .ok (.dup, 1) := by decide +kernel
theorem dX3_addDrawn_120 : decode cX3_addDrawn 120 = .ok (.getfield 21, 3) := by decide +kernel
theorem dX3_addDrawn_123 : decode cX3_addDrawn 123 = .ok (.iload_n 1, 1) := by decide +kernel
theorem dX3_addDrawn_124 : decode cX3_addDrawn 124 = .ok (.iadd, 1) := by decide +kernel
theorem dX3_addDrawn_125 : decode cX3_addDrawn 125 = .ok (.putfield 21, 3) := by decide +kernel
theorem dX3_addDrawn_128 : decode cX3_addDrawn 128 = .ok (.aload_n 0, 1) := by decide +kernel
theorem dX3_addDrawn_129 : decode cX3_addDrawn 129 = .ok (.getfield 21, 3) := by decide +kernel
theorem dX3_addDrawn_132 : decode cX3_addDrawn 132 = .ok (.ireturn, 1) := by decide +kernel
theorem dX3_removeAll_0 : decode cX3_removeAll 0 = .ok (.aload_n 0, 1) := by decide +kernel
theorem dX3_removeAll_1 : decode cX3_removeAll 1 = .ok (.getfield 21, 3) := by decide +kernel
theorem dX3_removeAll_4 : decode cX3_removeAll 4 = .ok (.istore_n 1, 1) := by decide +kernel
theorem dX3_removeAll_5 : decode cX3_removeAll 5 = .ok (.aload_n 0, 1) := by decide +kernel
theorem dX3_removeAll_6 : decode cX3_removeAll 6 = .ok (.iconst 0, 1) := by decide +kernel
theorem dX3_removeAll_7 : decode cX3_removeAll 7 = .ok (.putfield 21, 3) := by decide +kernel
theorem dX3_removeAll_10 : decode cX3_removeAll 10 = .ok (.iload_n 1, 1) := by decide +kernel
theorem dX3_removeAll_11 : decode cX3_removeAll 11 = .ok (.ireturn, 1) := by decide +kernel
set_option maxRecDepth 20000 in
theorem ggX3_massAt_X5_within : GoodIn wsX3_massAt wsX5_within := goodIn_r _ [5] (by decide +kernel) (by decide +kernel)
set_option maxRecDepth 20000 in
theorem gX3_massAt_X5_within_n17 : GoodIn wsX3_massAt (wsX5_within) := ggX3_massAt_X5_within
theorem dX3_massAt_0 : decode cX3_massAt 0 = .ok (.iload_n 1, 1) := by decide +kernel
theorem dX3_massAt_1 : decode cX3_massAt 1 = .ok (.i2l, 1) := by decide +kernel
theorem dX3_massAt_2 : decode cX3_massAt 2 = .ok (.lconst 0, 1) := by decide +kernel
theorem dX3_massAt_3 : decode cX3_massAt 3 = .ok (.aload_n 0, 1) := by decide +kernel
theorem dX3_massAt_4 : decode cX3_massAt 4 = .ok (.getfield 21, 3) := by decide +kernel
theorem dX3_massAt_7 : decode cX3_massAt 7 = .ok (.iconst 1, 1) := by decide +kernel
theorem dX3_massAt_8 : decode cX3_massAt 8 = .ok (.isub, 1) := by decide +kernel
theorem dX3_massAt_9 : decode cX3_massAt 9 = .ok (.i2l, 1) := by decide +kernel
theorem dX3_massAt_10 : decode cX3_massAt 10 = .ok (.invokestatic 17, 3) := by decide +kernel
theorem dX3_massAt_13 : decode cX3_massAt 13 = .ok (.ifCond .eq 12, 3) := by decide +kernel
theorem dX3_massAt_16 : decode cX3_massAt 16 = .ok (.aload_n 0, 1) := by decide +kernel
theorem dX3_massAt_17 : decode cX3_massAt 17 = .ok (.getfield 11, 3) := by decide +kernel
theorem dX3_massAt_20 : decode cX3_massAt 20 = .ok (.iload_n 1, 1) := by decide +kernel
theorem dX3_massAt_21 : decode cX3_massAt 21 = .ok (.iaload, 1) := by decide +kernel
theorem dX3_massAt_22 : decode cX3_massAt 22 = .ok (.goto 4, 3) := by decide +kernel
theorem dX3_massAt_25 : decode cX3_massAt 25 = .ok (.iconst (-1), 1) := by decide +kernel
theorem dX3_massAt_26 : decode cX3_massAt 26 = .ok (.ireturn, 1) := by decide +kernel
theorem dX3_addRow_0 : decode cX3_addRow 0 = .ok (.aload_n 1, 1) := by decide +kernel
theorem dX3_addRow_1 : decode cX3_addRow 1 = .ok (.getfield 21, 3) := by decide +kernel
theorem dX3_addRow_4 : decode cX3_addRow 4 = .ok (.aload_n 0, 1) := by decide +kernel
theorem dX3_addRow_5 : decode cX3_addRow 5 = .ok (.getfield 21, 3) := by decide +kernel
theorem dX3_addRow_8 : decode cX3_addRow 8 = .ok (.if_icmp .eq 6, 3) := by decide +kernel
theorem dX3_addRow_11 : decode cX3_addRow 11 = .ok (.bipush (-3), 2) := by decide +kernel
theorem dX3_addRow_13 : decode cX3_addRow 13 = .ok (.ireturn, 1) := by decide +kernel
theorem dX3_addRow_14 : decode cX3_addRow 14 = .ok (.iconst 0, 1) := by decide +kernel
theorem dX3_addRow_15 : decode cX3_addRow 15 = .ok (.istore_n 2, 1) := by decide +kernel
theorem dX3_addRow_16 : decode cX3_addRow 16 = .ok (.iload_n 2, 1) := by decide +kernel
theorem dX3_addRow_17 : decode cX3_addRow 17 = .ok (.aload_n 0, 1) := by decide +kernel
theorem dX3_addRow_18 : decode cX3_addRow 18 = .ok (.getfield 21, 3) := by decide +kernel
theorem dX3_addRow_21 : decode cX3_addRow 21 = .ok (.if_icmp .ge 30, 3) := by decide +kernel
theorem dX3_addRow_24 : decode cX3_addRow 24 = .ok (.aload_n 0, 1) := by decide +kernel
theorem dX3_addRow_25 : decode cX3_addRow 25 = .ok (.getfield 11, 3) := by decide +kernel
theorem dX3_addRow_28 : decode cX3_addRow 28 = .ok (.iload_n 2, 1) := by decide +kernel
theorem dX3_addRow_29 : decode cX3_addRow 29 = .ok (.iaload, 1) := by decide +kernel
theorem dX3_addRow_30 : decode cX3_addRow 30 = .ok (.aload_n 1, 1) := by decide +kernel
theorem dX3_addRow_31 : decode cX3_addRow 31 = .ok (.getfield 11, 3) := by decide +kernel
theorem dX3_addRow_34 : decode cX3_addRow 34 = .ok (.iload_n 2, 1) := by decide +kernel
theorem dX3_addRow_35 : decode cX3_addRow 35 = .ok (.iaload, 1) := by decide +kernel
theorem dX3_addRow_36 : decode cX3_addRow 36 = .ok (.iadd, 1) := by decide +kernel
theorem dX3_addRow_37 : decode cX3_addRow 37 = .ok (.ldc 32, 2) := by decide +kernel
theorem dX3_addRow_39 : decode cX3_addRow 39 = .ok (.if_icmp .le 6, 3) := by decide +kernel
theorem dX3_addRow_42 : decode cX3_addRow 42 = .ok (.bipush (-6), 2) := by decide +kernel
theorem dX3_addRow_44 : decode cX3_addRow 44 = .ok (.ireturn, 1) := by decide +kernel
theorem dX3_addRow_45 : decode cX3_addRow 45 = .ok (.iinc 2 1, 3) := by decide +kernel
theorem dX3_addRow_48 : decode cX3_addRow 48 = .ok (.goto (-32), 3) := by decide +kernel
theorem dX3_addRow_51 : decode cX3_addRow 51 = .ok (.iconst 0, 1) := by decide +kernel
theorem dX3_addRow_52 : decode cX3_addRow 52 = .ok (.istore_n 2, 1) := by decide +kernel
theorem dX3_addRow_53 : decode cX3_addRow 53 = .ok (.iload_n 2, 1) := by decide +kernel
theorem dX3_addRow_54 : decode cX3_addRow 54 = .ok (.aload_n 0, 1) := by decide +kernel
theorem dX3_addRow_55 : decode cX3_addRow 55 = .ok (.getfield 21, 3) := by decide +kernel
theorem dX3_addRow_58 : decode cX3_addRow 58 = .ok (.if_icmp .ge 24, 3) := by decide +kernel
theorem dX3_addRow_61 : decode cX3_addRow 61 = .ok (.aload_n 0, 1) := by decide +kernel
theorem dX3_addRow_62 : decode cX3_addRow 62 = .ok (.getfield 11, 3) := by decide +kernel
theorem dX3_addRow_65 : decode cX3_addRow 65 = .ok (.iload_n 2, 1) := by decide +kernel
theorem dX3_addRow_66 : decode cX3_addRow 66 = .ok (.dup2, 1) := by decide +kernel
theorem dX3_addRow_67 : decode cX3_addRow 67 = .ok (.iaload, 1) := by decide +kernel
theorem dX3_addRow_68 : decode cX3_addRow 68 = .ok (.aload_n 1, 1) := by decide +kernel
theorem dX3_addRow_69 : decode cX3_addRow 69 = .ok (.getfield 11, 3) := by decide +kernel
theorem dX3_addRow_72 : decode cX3_addRow 72 = .ok (.iload_n 2, 1) := by decide +kernel
theorem dX3_addRow_73 : decode cX3_addRow 73 = .ok (.iaload, 1) := by decide +kernel
theorem dX3_addRow_74 : decode cX3_addRow 74 = .ok (.iadd, 1) := by decide +kernel
theorem dX3_addRow_75 : decode cX3_addRow 75 = .ok (.iastore, 1) := by decide +kernel
theorem dX3_addRow_76 : decode cX3_addRow 76 = .ok (.iinc 2 1, 3) := by decide +kernel
theorem dX3_addRow_79 : decode cX3_addRow 79 = .ok (.goto (-26), 3) := by decide +kernel
theorem dX3_addRow_82 : decode cX3_addRow 82 = .ok (.aload_n 0, 1) := by decide +kernel
theorem dX3_addRow_83 : decode cX3_addRow 83 = .ok (.getfield 21, 3) := by decide +kernel
theorem dX3_addRow_86 : decode cX3_addRow 86 = .ok (.ireturn, 1) := by decide +kernel
set_option maxRecDepth 20000 in
theorem ggX3_stretchBy_X5_within : GoodIn wsX3_stretchBy wsX5_within := goodIn_r _ [7] (by decide +kernel) (by decide +kernel)
set_option maxRecDepth 20000 in
theorem gX3_stretchBy_X5_within_n17 : GoodIn wsX3_stretchBy (wsX5_within) := ggX3_stretchBy_X5_within
theorem dX3_stretchBy_0 : decode cX3_stretchBy 0 = .ok (.iload_n 1, 1) := by decide +kernel
theorem dX3_stretchBy_1 : decode cX3_stretchBy 1 = .ok (.i2l, 1) := by decide +kernel
theorem dX3_stretchBy_2 : decode cX3_stretchBy 2 = .ok (.ldc2_w 33, 3) := by decide +kernel
theorem dX3_stretchBy_5 : decode cX3_stretchBy 5 = .ok (.ldc2_w 35, 3) := by decide +kernel
theorem dX3_stretchBy_8 : decode cX3_stretchBy 8 = .ok (.invokestatic 17, 3) := by decide +kernel
theorem dX3_stretchBy_11 : decode cX3_stretchBy 11 = .ok (.ifCond .ne 6, 3) := by decide +kernel
theorem dX3_stretchBy_14 : decode cX3_stretchBy 14 = .ok (.bipush (-2), 2) := by decide +kernel
theorem dX3_stretchBy_16 : decode cX3_stretchBy 16 = .ok (.ireturn, 1) := by decide +kernel
theorem dX3_stretchBy_17 : decode cX3_stretchBy 17 = .ok (.aload_n 0, 1) := by decide +kernel
theorem dX3_stretchBy_18 : decode cX3_stretchBy 18 = .ok (.getfield 21, 3) := by decide +kernel
theorem dX3_stretchBy_21 : decode cX3_stretchBy 21 = .ok (.iload_n 1, 1) := by decide +kernel
theorem dX3_stretchBy_22 : decode cX3_stretchBy 22 = .ok (.imul, 1) := by decide +kernel
theorem dX3_stretchBy_23 : decode cX3_stretchBy 23 = .ok (.sipush 400, 3) := by decide +kernel
theorem dX3_stretchBy_26 : decode cX3_stretchBy 26 = .ok (.if_icmp .le 6, 3) := by decide +kernel
theorem dX3_stretchBy_29 : decode cX3_stretchBy 29 = .ok (.bipush (-4), 2) := by decide +kernel
theorem dX3_stretchBy_31 : decode cX3_stretchBy 31 = .ok (.ireturn, 1) := by decide +kernel
theorem dX3_stretchBy_32 : decode cX3_stretchBy 32 = .ok (.aload_n 0, 1) := by decide +kernel
theorem dX3_stretchBy_33 : decode cX3_stretchBy 33 = .ok (.getfield 21, 3) := by decide +kernel
theorem dX3_stretchBy_36 : decode cX3_stretchBy 36 = .ok (.iconst 1, 1) := by decide +kernel
theorem dX3_stretchBy_37 : decode cX3_stretchBy 37 = .ok (.isub, 1) := by decide +kernel
theorem dX3_stretchBy_38 : decode cX3_stretchBy 38 = .ok (.istore_n 2, 1) := by decide +kernel
theorem dX3_stretchBy_39 : decode cX3_stretchBy 39 = .ok (.iload_n 2, 1) := by decide +kernel
theorem dX3_stretchBy_40 : decode cX3_stretchBy 40 = .ok (.ifCond .lt 68, 3) := by decide +kernel
theorem dX3_stretchBy_43 : decode cX3_stretchBy 43 = .ok (.aload_n 0, 1) := by decide +kernel
theorem dX3_stretchBy_44 : decode cX3_stretchBy 44 = .ok (.getfield 11, 3) := by decide +kernel
theorem dX3_stretchBy_47 : decode cX3_stretchBy 47 = .ok (.iload_n 2, 1) := by decide +kernel
theorem dX3_stretchBy_48 : decode cX3_stretchBy 48 = .ok (.iaload, 1) := by decide +kernel
theorem dX3_stretchBy_49 : decode cX3_stretchBy 49 = .ok (.iload_n 1, 1) := by decide +kernel
theorem dX3_stretchBy_50 : decode cX3_stretchBy 50 = .ok (.idiv, 1) := by decide +kernel
theorem dX3_stretchBy_51 : decode cX3_stretchBy 51 = .ok (.istore_n 3, 1) := by decide +kernel
theorem dX3_stretchBy_52 : decode cX3_stretchBy 52 = .ok (.aload_n 0, 1) := by decide +kernel
theorem dX3_stretchBy_53 : decode cX3_stretchBy 53 = .ok (.getfield 11, 3) := by decide +kernel
theorem dX3_stretchBy_56 : decode cX3_stretchBy 56 = .ok (.iload_n 2, 1) := by decide +kernel
theorem dX3_stretchBy_57 : decode cX3_stretchBy 57 = .ok (.iaload, 1) := by decide +kernel
theorem dX3_stretchBy_58 : decode cX3_stretchBy 58 = .ok (.iload_n 1, 1) := by decide +kernel
theorem dX3_stretchBy_59 : decode cX3_stretchBy 59 = .ok (.irem, 1) := by decide +kernel
theorem dX3_stretchBy_60 : decode cX3_stretchBy 60 = .ok (.istore 4, 2) := by decide +kernel
theorem dX3_stretchBy_62 : decode cX3_stretchBy 62 = .ok (.iconst 0, 1) := by decide +kernel
theorem dX3_stretchBy_63 : decode cX3_stretchBy 63 = .ok (.istore 5, 2) := by decide +kernel
theorem dX3_stretchBy_65 : decode cX3_stretchBy 65 = .ok (.iload 5, 2) := by decide +kernel
theorem dX3_stretchBy_67 : decode cX3_stretchBy 67 = .ok (.iload_n 1, 1) := by decide +kernel
theorem dX3_stretchBy_68 : decode cX3_stretchBy 68 = .ok (.if_icmp .ge 34, 3) := by decide +kernel
theorem dX3_stretchBy_71 : decode cX3_stretchBy 71 = .ok (.aload_n 0, 1) := by decide +kernel
theorem dX3_stretchBy_72 : decode cX3_stretchBy 72 = .ok (.getfield 11, 3) := by decide +kernel
theorem dX3_stretchBy_75 : decode cX3_stretchBy 75 = .ok (.iload_n 2, 1) := by decide +kernel
theorem dX3_stretchBy_76 : decode cX3_stretchBy 76 = .ok (.iload_n 1, 1) := by decide +kernel
theorem dX3_stretchBy_77 : decode cX3_stretchBy 77 = .ok (.imul, 1) := by decide +kernel
theorem dX3_stretchBy_78 : decode cX3_stretchBy 78 = .ok (.iload 5, 2) := by decide +kernel
theorem dX3_stretchBy_80 : decode cX3_stretchBy 80 = .ok (.iadd, 1) := by decide +kernel
theorem dX3_stretchBy_81 : decode cX3_stretchBy 81 = .ok (.iload 5, 2) := by decide +kernel
theorem dX3_stretchBy_83 : decode cX3_stretchBy 83 = .ok (.iload 4, 2) := by decide +kernel
theorem dX3_stretchBy_85 : decode cX3_stretchBy 85 = .ok (.if_icmp .ge 9, 3) := by decide +kernel
theorem dX3_stretchBy_88 : decode cX3_stretchBy 88 = .ok (.iload_n 3, 1) := by decide +kernel
theorem dX3_stretchBy_89 : decode cX3_stretchBy 89 = .ok (.iconst 1, 1) := by decide +kernel
theorem dX3_stretchBy_90 : decode cX3_stretchBy 90 = .ok (.iadd, 1) := by decide +kernel
theorem dX3_stretchBy_91 : decode cX3_stretchBy 91 = .ok (.goto 4, 3) := by decide +kernel
theorem dX3_stretchBy_94 : decode cX3_stretchBy 94 = .ok (.iload_n 3, 1) := by decide +kernel
theorem dX3_stretchBy_95 : decode cX3_stretchBy 95 = .ok (.iastore, 1) := by decide +kernel
theorem dX3_stretchBy_96 : decode cX3_stretchBy 96 = .ok (.iinc 5 1, 3) := by decide +kernel
theorem dX3_stretchBy_99 : decode cX3_stretchBy 99 = .ok (.goto (-34), 3) := by decide +kernel
theorem dX3_stretchBy_102 : decode cX3_stretchBy 102 = .ok (.iinc 2 (-1), 3) := by decide +kernel
theorem dX3_stretchBy_105 : decode cX3_stretchBy 105 = .ok (.goto (-66), 3) := by decide +kernel
theorem dX3_stretchBy_108 : decode cX3_stretchBy 108 = .ok (.aload_n 0, 1) := by decide +kernel
theorem dX3_stretchBy_109 : decode cX3_stretchBy 109 = .ok (.dup, 1) := by decide +kernel
theorem dX3_stretchBy_110 : decode cX3_stretchBy 110 = .ok (.getfield 21, 3) := by decide +kernel
theorem dX3_stretchBy_113 : decode cX3_stretchBy 113 = .ok (.iload_n 1, 1) := by decide +kernel
theorem dX3_stretchBy_114 : decode cX3_stretchBy 114 = .ok (.imul, 1) := by decide +kernel
theorem dX3_stretchBy_115 : decode cX3_stretchBy 115 = .ok (.putfield 21, 3) := by decide +kernel
theorem dX3_stretchBy_118 : decode cX3_stretchBy 118 = .ok (.aload_n 0, 1) := by decide +kernel
theorem dX3_stretchBy_119 : decode cX3_stretchBy 119 = .ok (.getfield 21, 3) := by decide +kernel
theorem dX3_stretchBy_122 : decode cX3_stretchBy 122 = .ok (.ireturn, 1) := by decide +kernel
set_option maxRecDepth 20000 in
theorem ggX3_gatherBy_X5_within : GoodIn wsX3_gatherBy wsX5_within := goodIn_r _ [8] (by decide +kernel) (by decide +kernel)
set_option maxRecDepth 20000 in
theorem gX3_gatherBy_X5_within_n17 : GoodIn wsX3_gatherBy (wsX5_within) := ggX3_gatherBy_X5_within
set_option maxRecDepth 20000 in
theorem ggX3_gatherBy_X3_sumOf : GoodIn wsX3_gatherBy wsX3_sumOf := goodIn_r _ [13, 3, 14, 15, 16, 17, 5, 18, 19] (by decide +kernel) (by decide +kernel)
set_option maxRecDepth 20000 in
theorem gX3_gatherBy_X3_sumOf : GoodIn wsX3_gatherBy (wsV RX3 39 RX3 yX3_sumOf wsX3_sumOf) := goodIn_app (goodIn_of _ (by decide +kernel)) ggX3_gatherBy_X3_sumOf
theorem dX3_gatherBy_0 : decode cX3_gatherBy 0 = .ok (.iload_n 1, 1) := by decide +kernel
theorem dX3_gatherBy_1 : decode cX3_gatherBy 1 = .ok (.i2l, 1) := by decide +kernel
theorem dX3_gatherBy_2 : decode cX3_gatherBy 2 = .ok (.ldc2_w 33, 3) := by decide +kernel
theorem dX3_gatherBy_5 : decode cX3_gatherBy 5 = .ok (.ldc2_w 37, 3) := by decide +kernel
theorem dX3_gatherBy_8 : decode cX3_gatherBy 8 = .ok (.invokestatic 17, 3) := by decide +kernel
theorem dX3_gatherBy_11 : decode cX3_gatherBy 11 = .ok (.ifCond .ne 6, 3) := by decide +kernel
theorem dX3_gatherBy_14 : decode cX3_gatherBy 14 = .ok (.bipush (-2), 2) := by decide +kernel
theorem dX3_gatherBy_16 : decode cX3_gatherBy 16 = .ok (.ireturn, 1) := by decide +kernel
theorem dX3_gatherBy_17 : decode cX3_gatherBy 17 = .ok (.iconst 0, 1) := by decide +kernel
theorem dX3_gatherBy_18 : decode cX3_gatherBy 18 = .ok (.istore_n 2, 1) := by decide +kernel
theorem dX3_gatherBy_19 : decode cX3_gatherBy 19 = .ok (.iload_n 2, 1) := by decide +kernel
theorem dX3_gatherBy_20 : decode cX3_gatherBy 20 = .ok (.aload_n 0, 1) := by decide +kernel
theorem dX3_gatherBy_21 : decode cX3_gatherBy 21 = .ok (.getfield 21, 3) := by decide +kernel
theorem dX3_gatherBy_24 : decode cX3_gatherBy 24 = .ok (.if_icmp .ge 24, 3) := by decide +kernel
theorem dX3_gatherBy_27 : decode cX3_gatherBy 27 = .ok (.aload_n 0, 1) := by decide +kernel
theorem dX3_gatherBy_28 : decode cX3_gatherBy 28 = .ok (.iload_n 2, 1) := by decide +kernel
theorem dX3_gatherBy_29 : decode cX3_gatherBy 29 = .ok (.iload_n 1, 1) := by decide +kernel
theorem dX3_gatherBy_30 : decode cX3_gatherBy 30 = .ok (.invokevirtual 39, 3) := by decide +kernel
theorem dX3_gatherBy_33 : decode cX3_gatherBy 33 = .ok (.ldc 32, 2) := by decide +kernel
theorem dX3_gatherBy_35 : decode cX3_gatherBy 35 = .ok (.if_icmp .le 6, 3) := by decide +kernel
theorem dX3_gatherBy_38 : decode cX3_gatherBy 38 = .ok (.bipush (-6), 2) := by decide +kernel
theorem dX3_gatherBy_40 : decode cX3_gatherBy 40 = .ok (.ireturn, 1) := by decide +kernel
theorem dX3_gatherBy_41 : decode cX3_gatherBy 41 = .ok (.iload_n 2, 1) := by decide +kernel
theorem dX3_gatherBy_42 : decode cX3_gatherBy 42 = .ok (.iload_n 1, 1) := by decide +kernel
theorem dX3_gatherBy_43 : decode cX3_gatherBy 43 = .ok (.iadd, 1) := by decide +kernel
theorem dX3_gatherBy_44 : decode cX3_gatherBy 44 = .ok (.istore_n 2, 1) := by decide +kernel
theorem dX3_gatherBy_45 : decode cX3_gatherBy 45 = .ok (.goto (-26), 3) := by decide +kernel
theorem dX3_gatherBy_48 : decode cX3_gatherBy 48 = .ok (.iconst 0, 1) := by decide +kernel
theorem dX3_gatherBy_49 : decode cX3_gatherBy 49 = .ok (.istore_n 2, 1) := by decide +kernel
theorem dX3_gatherBy_50 : decode cX3_gatherBy 50 = .ok (.iconst 0, 1) := by decide +kernel
theorem dX3_gatherBy_51 : decode cX3_gatherBy 51 = .ok (.istore_n 3, 1) := by decide +kernel
theorem dX3_gatherBy_52 : decode cX3_gatherBy 52 = .ok (.iload_n 3, 1) := by decide +kernel
theorem dX3_gatherBy_53 : decode cX3_gatherBy 53 = .ok (.aload_n 0, 1) := by decide +kernel
theorem dX3_gatherBy_54 : decode cX3_gatherBy 54 = .ok (.getfield 21, 3) := by decide +kernel
theorem dX3_gatherBy_57 : decode cX3_gatherBy 57 = .ok (.if_icmp .ge 25, 3) := by decide +kernel
theorem dX3_gatherBy_60 : decode cX3_gatherBy 60 = .ok (.aload_n 0, 1) := by decide +kernel
theorem dX3_gatherBy_61 : decode cX3_gatherBy 61 = .ok (.getfield 11, 3) := by decide +kernel
theorem dX3_gatherBy_64 : decode cX3_gatherBy 64 = .ok (.iload_n 2, 1) := by decide +kernel
theorem dX3_gatherBy_65 : decode cX3_gatherBy 65 = .ok (.aload_n 0, 1) := by decide +kernel
theorem dX3_gatherBy_66 : decode cX3_gatherBy 66 = .ok (.iload_n 3, 1) := by decide +kernel
theorem dX3_gatherBy_67 : decode cX3_gatherBy 67 = .ok (.iload_n 1, 1) := by decide +kernel
theorem dX3_gatherBy_68 : decode cX3_gatherBy 68 = .ok (.invokevirtual 39, 3) := by decide +kernel
theorem dX3_gatherBy_71 : decode cX3_gatherBy 71 = .ok (.iastore, 1) := by decide +kernel
theorem dX3_gatherBy_72 : decode cX3_gatherBy 72 = .ok (.iinc 2 1, 3) := by decide +kernel
theorem dX3_gatherBy_75 : decode cX3_gatherBy 75 = .ok (.iload_n 3, 1) := by decide +kernel
theorem dX3_gatherBy_76 : decode cX3_gatherBy 76 = .ok (.iload_n 1, 1) := by decide +kernel
theorem dX3_gatherBy_77 : decode cX3_gatherBy 77 = .ok (.iadd, 1) := by decide +kernel
theorem dX3_gatherBy_78 : decode cX3_gatherBy 78 = .ok (.istore_n 3, 1) := by decide +kernel
theorem dX3_gatherBy_79 : decode cX3_gatherBy 79 = .ok (.goto (-27), 3) := by decide +kernel
theorem dX3_gatherBy_82 : decode cX3_gatherBy 82 = .ok (.aload_n 0, 1) := by decide +kernel
theorem dX3_gatherBy_83 : decode cX3_gatherBy 83 = .ok (.iload_n 2, 1) := by decide +kernel
theorem dX3_gatherBy_84 : decode cX3_gatherBy 84 = .ok (.putfield 21, 3) := by decide +kernel
theorem dX3_gatherBy_87 : decode cX3_gatherBy 87 = .ok (.aload_n 0, 1) := by decide +kernel
theorem dX3_gatherBy_88 : decode cX3_gatherBy 88 = .ok (.getfield 21, 3) := by decide +kernel
theorem dX3_gatherBy_91 : decode cX3_gatherBy 91 = .ok (.ireturn, 1) := by decide +kernel
set_option maxRecDepth 20000 in
theorem ggX3_faultBy_X5_within : GoodIn wsX3_faultBy wsX5_within := goodIn_r _ [9] (by decide +kernel) (by decide +kernel)
set_option maxRecDepth 20000 in
theorem gX3_faultBy_X5_within_n17 : GoodIn wsX3_faultBy (wsX5_within) := ggX3_faultBy_X5_within
set_option maxRecDepth 20000 in
theorem ggX3_faultBy_X3_given : GoodIn wsX3_faultBy wsX3_given := goodIn_r _ [14, 5, 3, 15, 16] (by decide +kernel) (by decide +kernel)
set_option maxRecDepth 20000 in
theorem gX3_faultBy_X3_given : GoodIn wsX3_faultBy (wsV RX3 47 RX3 yX3_given wsX3_given) := goodIn_app (goodIn_of _ (by decide +kernel)) ggX3_faultBy_X3_given
theorem dX3_faultBy_0 : decode cX3_faultBy 0 = .ok (.iload_n 1, 1) := by decide +kernel
theorem dX3_faultBy_1 : decode cX3_faultBy 1 = .ok (.i2l, 1) := by decide +kernel
theorem dX3_faultBy_2 : decode cX3_faultBy 2 = .ok (.ldc2_w 33, 3) := by decide +kernel
theorem dX3_faultBy_5 : decode cX3_faultBy 5 = .ok (.ldc2_w 43, 3) := by decide +kernel
theorem dX3_faultBy_8 : decode cX3_faultBy 8 = .ok (.invokestatic 17, 3) := by decide +kernel
theorem dX3_faultBy_11 : decode cX3_faultBy 11 = .ok (.ifCond .eq 15, 3) := by decide +kernel
theorem dX3_faultBy_14 : decode cX3_faultBy 14 = .ok (.iload_n 2, 1) := by decide +kernel
theorem dX3_faultBy_15 : decode cX3_faultBy 15 = .ok (.i2l, 1) := by decide +kernel
theorem dX3_faultBy_16 : decode cX3_faultBy 16 = .ok (.lconst 0, 1) := by decide +kernel
theorem dX3_faultBy_17 : decode cX3_faultBy 17 = .ok (.ldc2_w 45, 3) := by decide +kernel
theorem dX3_faultBy_20 : decode cX3_faultBy 20 = .ok (.invokestatic 17, 3) := by decide +kernel
theorem dX3_faultBy_23 : decode cX3_faultBy 23 = .ok (.ifCond .ne 6, 3) := by decide +kernel
theorem dX3_faultBy_26 : decode cX3_faultBy 26 = .ok (.bipush (-2), 2) := by decide +kernel
theorem dX3_faultBy_28 : decode cX3_faultBy 28 = .ok (.ireturn, 1) := by decide +kernel
theorem dX3_faultBy_29 : decode cX3_faultBy 29 = .ok (.iload_n 1, 1) := by decide +kernel
theorem dX3_faultBy_30 : decode cX3_faultBy 30 = .ok (.iconst 2, 1) := by decide +kernel
theorem dX3_faultBy_31 : decode cX3_faultBy 31 = .ok (.idiv, 1) := by decide +kernel
theorem dX3_faultBy_32 : decode cX3_faultBy 32 = .ok (.istore_n 3, 1) := by decide +kernel
theorem dX3_faultBy_33 : decode cX3_faultBy 33 = .ok (.iconst 0, 1) := by decide +kernel
theorem dX3_faultBy_34 : decode cX3_faultBy 34 = .ok (.istore 4, 2) := by decide +kernel
theorem dX3_faultBy_36 : decode cX3_faultBy 36 = .ok (.iload 4, 2) := by decide +kernel
theorem dX3_faultBy_38 : decode cX3_faultBy 38 = .ok (.iload_n 1, 1) := by decide +kernel
theorem dX3_faultBy_39 : decode cX3_faultBy 39 = .ok (.iadd, 1) := by decide +kernel
theorem dX3_faultBy_40 : decode cX3_faultBy 40 = .ok (.aload_n 0, 1) := by decide +kernel
theorem dX3_faultBy_41 : decode cX3_faultBy 41 = .ok (.getfield 21, 3) := by decide +kernel
theorem dX3_faultBy_44 : decode cX3_faultBy 44 = .ok (.if_icmp .gt 56, 3) := by decide +kernel
theorem dX3_faultBy_47 : decode cX3_faultBy 47 = .ok (.iload 4, 2) := by decide +kernel
theorem dX3_faultBy_49 : decode cX3_faultBy 49 = .ok (.istore 5, 2) := by decide +kernel
theorem dX3_faultBy_51 : decode cX3_faultBy 51 = .ok (.iload 5, 2) := by decide +kernel
theorem dX3_faultBy_53 : decode cX3_faultBy 53 = .ok (.iload 4, 2) := by decide +kernel
theorem dX3_faultBy_55 : decode cX3_faultBy 55 = .ok (.iload_n 3, 1) := by decide +kernel
theorem dX3_faultBy_56 : decode cX3_faultBy 56 = .ok (.iadd, 1) := by decide +kernel
theorem dX3_faultBy_57 : decode cX3_faultBy 57 = .ok (.if_icmp .ge 34, 3) := by decide +kernel
theorem dX3_faultBy_60 : decode cX3_faultBy 60 = .ok (.aload_n 0, 1) := by decide +kernel
theorem dX3_faultBy_61 : decode cX3_faultBy 61 = .ok (.getfield 11, 3) := by decide +kernel
theorem dX3_faultBy_64 : decode cX3_faultBy 64 = .ok (.iload 5, 2) := by decide +kernel
theorem dX3_faultBy_66 : decode cX3_faultBy 66 = .ok (.iload_n 3, 1) := by decide +kernel
theorem dX3_faultBy_67 : decode cX3_faultBy 67 = .ok (.iadd, 1) := by decide +kernel
theorem dX3_faultBy_68 : decode cX3_faultBy 68 = .ok (.iaload, 1) := by decide +kernel
theorem dX3_faultBy_69 : decode cX3_faultBy 69 = .ok (.aload_n 0, 1) := by decide +kernel
theorem dX3_faultBy_70 : decode cX3_faultBy 70 = .ok (.iload 5, 2) := by decide +kernel
theorem dX3_faultBy_72 : decode cX3_faultBy 72 = .ok (.iload_n 2, 1) := by decide +kernel
theorem dX3_faultBy_73 : decode cX3_faultBy 73 = .ok (.invokevirtual 47, 3) := by decide +kernel
theorem dX3_faultBy_76 : decode cX3_faultBy 76 = .ok (.iadd, 1) := by decide +kernel
theorem dX3_faultBy_77 : decode cX3_faultBy 77 = .ok (.ldc 32, 2) := by decide +kernel
theorem dX3_faultBy_79 : decode cX3_faultBy 79 = .ok (.if_icmp .le 6, 3) := by decide +kernel
theorem dX3_faultBy_82 : decode cX3_faultBy 82 = .ok (.bipush (-6), 2) := by decide +kernel
theorem dX3_faultBy_84 : decode cX3_faultBy 84 = .ok (.ireturn, 1) := by decide +kernel
theorem dX3_faultBy_85 : decode cX3_faultBy 85 = .ok (.iinc 5 1, 3) := by decide +kernel
theorem dX3_faultBy_88 : decode cX3_faultBy 88 = .ok (.goto (-37), 3) := by decide +kernel
theorem dX3_faultBy_91 : decode cX3_faultBy 91 = .ok (.iload 4, 2) := by decide +kernel
theorem dX3_faultBy_93 : decode cX3_faultBy 93 = .ok (.iload_n 1, 1) := by decide +kernel
theorem dX3_faultBy_94 : decode cX3_faultBy 94 = .ok (.iadd, 1) := by decide +kernel
theorem dX3_faultBy_95 : decode cX3_faultBy 95 = .ok (.istore 4, 2) := by decide +kernel
theorem dX3_faultBy_97 : decode cX3_faultBy 97 = .ok (.goto (-61), 3) := by decide +kernel
theorem dX3_faultBy_100 : decode cX3_faultBy 100 = .ok (.iconst 0, 1) := by decide +kernel
theorem dX3_faultBy_101 : decode cX3_faultBy 101 = .ok (.istore 4, 2) := by decide +kernel
theorem dX3_faultBy_103 : decode cX3_faultBy 103 = .ok (.iconst 0, 1) := by decide +kernel
theorem dX3_faultBy_104 : decode cX3_faultBy 104 = .ok (.istore 5, 2) := by decide +kernel
theorem dX3_faultBy_106 : decode cX3_faultBy 106 = .ok (.iload 5, 2) := by decide +kernel
theorem dX3_faultBy_108 : decode cX3_faultBy 108 = .ok (.iload_n 1, 1) := by decide +kernel
theorem dX3_faultBy_109 : decode cX3_faultBy 109 = .ok (.iadd, 1) := by decide +kernel
theorem dX3_faultBy_110 : decode cX3_faultBy 110 = .ok (.aload_n 0, 1) := by decide +kernel
theorem dX3_faultBy_111 : decode cX3_faultBy 111 = .ok (.getfield 21, 3) := by decide +kernel
theorem dX3_faultBy_114 : decode cX3_faultBy 114 = .ok (.if_icmp .gt 73, 3) := by decide +kernel
theorem dX3_faultBy_117 : decode cX3_faultBy 117 = .ok (.iload 5, 2) := by decide +kernel
theorem dX3_faultBy_119 : decode cX3_faultBy 119 = .ok (.istore 6, 2) := by decide +kernel
theorem dX3_faultBy_121 : decode cX3_faultBy 121 = .ok (.iload 6, 2) := by decide +kernel
theorem dX3_faultBy_123 : decode cX3_faultBy 123 = .ok (.iload 5, 2) := by decide +kernel
theorem dX3_faultBy_125 : decode cX3_faultBy 125 = .ok (.iload_n 3, 1) := by decide +kernel
theorem dX3_faultBy_126 : decode cX3_faultBy 126 = .ok (.iadd, 1) := by decide +kernel
theorem dX3_faultBy_127 : decode cX3_faultBy 127 = .ok (.if_icmp .ge 51, 3) := by decide +kernel
theorem dX3_faultBy_130 : decode cX3_faultBy 130 = .ok (.aload_n 0, 1) := by decide +kernel
theorem dX3_faultBy_131 : decode cX3_faultBy 131 = .ok (.iload 6, 2) := by decide +kernel
theorem dX3_faultBy_133 : decode cX3_faultBy 133 = .ok (.iload_n 2, 1) := by decide +kernel
theorem dX3_faultBy_134 : decode cX3_faultBy 134 = .ok (.invokevirtual 47, 3) := by decide +kernel
theorem dX3_faultBy_137 : decode cX3_faultBy 137 = .ok (.istore 7, 2) := by decide +kernel
theorem dX3_faultBy_139 : decode cX3_faultBy 139 = .ok (.aload_n 0, 1) := by decide +kernel
theorem dX3_faultBy_140 : decode cX3_faultBy 140 = .ok (.getfield 11, 3) := by decide +kernel
theorem dX3_faultBy_143 : decode cX3_faultBy 143 = .ok (.iload 6, 2) := by decide +kernel
theorem dX3_faultBy_145 : decode cX3_faultBy 145 = .ok (.dup2, 1) := by decide +kernel
theorem dX3_faultBy_146 : decode cX3_faultBy 146 = .ok (.iaload, 1) := by decide +kernel
theorem dX3_faultBy_147 : decode cX3_faultBy 147 = .ok (.iload 7, 2) := by decide +kernel
theorem dX3_faultBy_149 : decode cX3_faultBy 149 = .ok (.isub, 1) := by decide +kernel
theorem dX3_faultBy_150 : decode cX3_faultBy 150 = .ok (.iastore, 1) := by decide +kernel
theorem dX3_faultBy_151 : decode cX3_faultBy 151 = .ok (.aload_n 0, 1) := by decide +kernel
theorem dX3_faultBy_152 : decode cX3_faultBy 152 = .ok (.getfield 11, 3) := by decide +kernel
theorem dX3_faultBy_155 : decode cX3_faultBy 155 = .ok (.iload 6, 2) := by decide +kernel
theorem dX3_faultBy_157 : decode cX3_faultBy 157 = .ok (.iload_n 3, 1) := by decide +kernel
theorem dX3_faultBy_158 : decode cX3_faultBy 158 = .ok (.iadd, 1) := by decide +kernel
theorem dX3_faultBy_159 : decode cX3_faultBy 159 = .ok (.dup2, 1) := by decide +kernel
theorem dX3_faultBy_160 : decode cX3_faultBy 160 = .ok (.iaload, 1) := by decide +kernel
theorem dX3_faultBy_161 : decode cX3_faultBy 161 = .ok (.iload 7, 2) := by decide +kernel
theorem dX3_faultBy_163 : decode cX3_faultBy 163 = .ok (.iadd, 1) := by decide +kernel
theorem dX3_faultBy_164 : decode cX3_faultBy 164 = .ok (.iastore, 1) := by decide +kernel
theorem dX3_faultBy_165 : decode cX3_faultBy 165 = .ok (.iload 4, 2) := by decide +kernel
theorem dX3_faultBy_167 : decode cX3_faultBy 167 = .ok (.iload 7, 2) := by decide +kernel
theorem dX3_faultBy_169 : decode cX3_faultBy 169 = .ok (.iadd, 1) := by decide +kernel
theorem dX3_faultBy_170 : decode cX3_faultBy 170 = .ok (.istore 4, 2) := by decide +kernel
theorem dX3_faultBy_172 : decode cX3_faultBy 172 = .ok (.iinc 6 1, 3) := by decide +kernel
theorem dX3_faultBy_175 : decode cX3_faultBy 175 = .ok (.goto (-54), 3) := by decide +kernel
theorem dX3_faultBy_178 : decode cX3_faultBy 178 = .ok (.iload 5, 2) := by decide +kernel
theorem dX3_faultBy_180 : decode cX3_faultBy 180 = .ok (.iload_n 1, 1) := by decide +kernel
theorem dX3_faultBy_181 : decode cX3_faultBy 181 = .ok (.iadd, 1) := by decide +kernel
theorem dX3_faultBy_182 : decode cX3_faultBy 182 = .ok (.istore 5, 2) := by decide +kernel
theorem dX3_faultBy_184 : decode cX3_faultBy 184 = .ok (.goto (-78), 3) := by decide +kernel
theorem dX3_faultBy_187 : decode cX3_faultBy 187 = .ok (.iload 4, 2) := by decide +kernel
theorem dX3_faultBy_189 : decode cX3_faultBy 189 = .ok (.ireturn, 1) := by decide +kernel
set_option maxRecDepth 20000 in
theorem ggX3_measure_X3_sumOf : GoodIn wsX3_measure wsX3_sumOf := goodIn_r _ [7, 1, 8, 9, 10, 11, 12, 17, 18] (by decide +kernel) (by decide +kernel)
set_option maxRecDepth 20000 in
theorem gX3_measure_X3_sumOf : GoodIn wsX3_measure (wsV RX3 39 RX3 yX3_sumOf wsX3_sumOf) := goodIn_app (goodIn_of _ (by decide +kernel)) ggX3_measure_X3_sumOf
set_option maxRecDepth 20000 in
theorem ggX3_measure_X3_unevenness : GoodIn wsX3_measure wsX3_unevenness := goodIn_r _ [16, 1, 12, 3, 4, 5, 6, 7, 8, 9, 10, 11, 17, 18] (by decide +kernel) (by decide +kernel)
set_option maxRecDepth 20000 in
theorem gX3_measure_X3_unevenness : GoodIn wsX3_measure (wsV RX3 50 RX3 yX3_unevenness wsX3_unevenness) := goodIn_app (goodIn_of _ (by decide +kernel)) ggX3_measure_X3_unevenness
theorem dX3_measure_0 : decode cX3_measure 0 = .ok (.iload_n 1, 1) := by decide +kernel
theorem dX3_measure_1 : decode cX3_measure 1 = .ok (.tableswitch 49 0 2 #[27, 33, 44], 27) := by decide +kernel
theorem dX3_measure_28 : decode cX3_measure 28 = .ok (.aload_n 0, 1) := by decide +kernel
theorem dX3_measure_29 : decode cX3_measure 29 = .ok (.getfield 21, 3) := by decide +kernel
theorem dX3_measure_32 : decode cX3_measure 32 = .ok (.i2l, 1) := by decide +kernel
theorem dX3_measure_33 : decode cX3_measure 33 = .ok (.lreturn, 1) := by decide +kernel
theorem dX3_measure_34 : decode cX3_measure 34 = .ok (.aload_n 0, 1) := by decide +kernel
theorem dX3_measure_35 : decode cX3_measure 35 = .ok (.iconst 0, 1) := by decide +kernel
theorem dX3_measure_36 : decode cX3_measure 36 = .ok (.aload_n 0, 1) := by decide +kernel
theorem dX3_measure_37 : decode cX3_measure 37 = .ok (.getfield 21, 3) := by decide +kernel
theorem dX3_measure_40 : decode cX3_measure 40 = .ok (.invokevirtual 39, 3) := by decide +kernel
theorem dX3_measure_43 : decode cX3_measure 43 = .ok (.i2l, 1) := by decide +kernel
theorem dX3_measure_44 : decode cX3_measure 44 = .ok (.lreturn, 1) := by decide +kernel
theorem dX3_measure_45 : decode cX3_measure 45 = .ok (.aload_n 0, 1) := by decide +kernel
theorem dX3_measure_46 : decode cX3_measure 46 = .ok (.invokevirtual 50, 3) := by decide +kernel
theorem dX3_measure_49 : decode cX3_measure 49 = .ok (.lreturn, 1) := by decide +kernel
theorem dX3_measure_50 : decode cX3_measure 50 = .ok (.ldc2_w 54, 3) := by decide +kernel
theorem dX3_measure_53 : decode cX3_measure 53 = .ok (.lreturn, 1) := by decide +kernel
set_option maxRecDepth 20000 in
theorem ggX3_waveAt_X5_within : GoodIn wsX3_waveAt wsX5_within := goodIn_r _ [8] (by decide +kernel) (by decide +kernel)
set_option maxRecDepth 20000 in
theorem gX3_waveAt_X5_within_n17 : GoodIn wsX3_waveAt (wsX5_within) := ggX3_waveAt_X5_within
theorem dX3_waveAt_0 : decode cX3_waveAt 0 = .ok (.iload_n 1, 1) := by decide +kernel
theorem dX3_waveAt_1 : decode cX3_waveAt 1 = .ok (.i2l, 1) := by decide +kernel
theorem dX3_waveAt_2 : decode cX3_waveAt 2 = .ok (.ldc2_w 33, 3) := by decide +kernel
theorem dX3_waveAt_5 : decode cX3_waveAt 5 = .ok (.ldc2_w 56, 3) := by decide +kernel
theorem dX3_waveAt_8 : decode cX3_waveAt 8 = .ok (.invokestatic 17, 3) := by decide +kernel
theorem dX3_waveAt_11 : decode cX3_waveAt 11 = .ok (.ifCond .ne 7, 3) := by decide +kernel
theorem dX3_waveAt_14 : decode cX3_waveAt 14 = .ok (.ldc2_w 54, 3) := by decide +kernel
theorem dX3_waveAt_17 : decode cX3_waveAt 17 = .ok (.lreturn, 1) := by decide +kernel
theorem dX3_waveAt_18 : decode cX3_waveAt 18 = .ok (.aload_n 0, 1) := by decide +kernel
theorem dX3_waveAt_19 : decode cX3_waveAt 19 = .ok (.getfield 21, 3) := by decide +kernel
theorem dX3_waveAt_22 : decode cX3_waveAt 22 = .ok (.iload_n 1, 1) := by decide +kernel
theorem dX3_waveAt_23 : decode cX3_waveAt 23 = .ok (.idiv, 1) := by decide +kernel
theorem dX3_waveAt_24 : decode cX3_waveAt 24 = .ok (.iload_n 1, 1) := by decide +kernel
theorem dX3_waveAt_25 : decode cX3_waveAt 25 = .ok (.imul, 1) := by decide +kernel
theorem dX3_waveAt_26 : decode cX3_waveAt 26 = .ok (.istore_n 2, 1) := by decide +kernel
theorem dX3_waveAt_27 : decode cX3_waveAt 27 = .ok (.lconst 0, 1) := by decide +kernel
theorem dX3_waveAt_28 : decode cX3_waveAt 28 = .ok (.lstore_n 3, 1) := by decide +kernel
theorem dX3_waveAt_29 : decode cX3_waveAt 29 = .ok (.lconst 0, 1) := by decide +kernel
theorem dX3_waveAt_30 : decode cX3_waveAt 30 = .ok (.lstore 5, 2) := by decide +kernel
theorem dX3_waveAt_32 : decode cX3_waveAt 32 = .ok (.iconst 0, 1) := by decide +kernel
theorem dX3_waveAt_33 : decode cX3_waveAt 33 = .ok (.istore 7, 2) := by decide +kernel
theorem dX3_waveAt_35 : decode cX3_waveAt 35 = .ok (.iload 7, 2) := by decide +kernel
theorem dX3_waveAt_37 : decode cX3_waveAt 37 = .ok (.iload_n 1, 1) := by decide +kernel
theorem dX3_waveAt_38 : decode cX3_waveAt 38 = .ok (.if_icmp .ge 59, 3) := by decide +kernel
theorem dX3_waveAt_41 : decode cX3_waveAt 41 = .ok (.lconst 0, 1) := by decide +kernel
theorem dX3_waveAt_42 : decode cX3_waveAt 42 = .ok (.lstore 8, 2) := by decide +kernel
theorem dX3_waveAt_44 : decode cX3_waveAt 44 = .ok (.iload 7, 2) := by decide +kernel
theorem dX3_waveAt_46 : decode cX3_waveAt 46 = .ok (.istore 10, 2) := by decide +kernel
theorem dX3_waveAt_48 : decode cX3_waveAt 48 = .ok (.iload 10, 2) := by decide +kernel
theorem dX3_waveAt_50 : decode cX3_waveAt 50 = .ok (.iload_n 2, 1) := by decide +kernel
theorem dX3_waveAt_51 : decode cX3_waveAt 51 = .ok (.if_icmp .ge 25, 3) := by decide +kernel
theorem dX3_waveAt_54 : decode cX3_waveAt 54 = .ok (.lload 8, 2) := by decide +kernel
theorem dX3_waveAt_56 : decode cX3_waveAt 56 = .ok (.aload_n 0, 1) := by decide +kernel
theorem dX3_waveAt_57 : decode cX3_waveAt 57 = .ok (.getfield 11, 3) := by decide +kernel
theorem dX3_waveAt_60 : decode cX3_waveAt 60 = .ok (.iload 10, 2) := by decide +kernel
theorem dX3_waveAt_62 : decode cX3_waveAt 62 = .ok (.iaload, 1) := by decide +kernel
theorem dX3_waveAt_63 : decode cX3_waveAt 63 = .ok (.i2l, 1) := by decide +kernel
theorem dX3_waveAt_64 : decode cX3_waveAt 64 = .ok (.ladd, 1) := by decide +kernel
theorem dX3_waveAt_65 : decode cX3_waveAt 65 = .ok (.lstore 8, 2) := by decide +kernel
theorem dX3_waveAt_67 : decode cX3_waveAt 67 = .ok (.iload 10, 2) := by decide +kernel
theorem dX3_waveAt_69 : decode cX3_waveAt 69 = .ok (.iload_n 1, 1) := by decide +kernel
theorem dX3_waveAt_70 : decode cX3_waveAt 70 = .ok (.iadd, 1) := by decide +kernel
theorem dX3_waveAt_71 : decode cX3_waveAt 71 = .ok (.istore 10, 2) := by decide +kernel
theorem dX3_waveAt_73 : decode cX3_waveAt 73 = .ok (.goto (-25), 3) := by decide +kernel
theorem dX3_waveAt_76 : decode cX3_waveAt 76 = .ok (.lload_n 3, 1) := by decide +kernel
theorem dX3_waveAt_77 : decode cX3_waveAt 77 = .ok (.lload 8, 2) := by decide +kernel
theorem dX3_waveAt_79 : decode cX3_waveAt 79 = .ok (.ladd, 1) := by decide +kernel
theorem dX3_waveAt_80 : decode cX3_waveAt 80 = .ok (.lstore_n 3, 1) := by decide +kernel
theorem dX3_waveAt_81 : decode cX3_waveAt 81 = .ok (.lload 5, 2) := by decide +kernel
theorem dX3_waveAt_83 : decode cX3_waveAt 83 = .ok (.lload 8, 2) := by decide +kernel
theorem dX3_waveAt_85 : decode cX3_waveAt 85 = .ok (.lload 8, 2) := by decide +kernel
theorem dX3_waveAt_87 : decode cX3_waveAt 87 = .ok (.lmul, 1) := by decide +kernel
theorem dX3_waveAt_88 : decode cX3_waveAt 88 = .ok (.ladd, 1) := by decide +kernel
theorem dX3_waveAt_89 : decode cX3_waveAt 89 = .ok (.lstore 5, 2) := by decide +kernel
theorem dX3_waveAt_91 : decode cX3_waveAt 91 = .ok (.iinc 7 1, 3) := by decide +kernel
theorem dX3_waveAt_94 : decode cX3_waveAt 94 = .ok (.goto (-59), 3) := by decide +kernel
theorem dX3_waveAt_97 : decode cX3_waveAt 97 = .ok (.iload_n 1, 1) := by decide +kernel
theorem dX3_waveAt_98 : decode cX3_waveAt 98 = .ok (.i2l, 1) := by decide +kernel
theorem dX3_waveAt_99 : decode cX3_waveAt 99 = .ok (.lload 5, 2) := by decide +kernel
theorem dX3_waveAt_101 : decode cX3_waveAt 101 = .ok (.lmul, 1) := by decide +kernel
theorem dX3_waveAt_102 : decode cX3_waveAt 102 = .ok (.lload_n 3, 1) := by decide +kernel
theorem dX3_waveAt_103 : decode cX3_waveAt 103 = .ok (.lload_n 3, 1) := by decide +kernel
theorem dX3_waveAt_104 : decode cX3_waveAt 104 = .ok (.lmul, 1) := by decide +kernel
theorem dX3_waveAt_105 : decode cX3_waveAt 105 = .ok (.lsub, 1) := by decide +kernel
theorem dX3_waveAt_106 : decode cX3_waveAt 106 = .ok (.lreturn, 1) := by decide +kernel
set_option maxRecDepth 20000 in
theorem ggX3_greatestUpTo_X5_within : GoodIn wsX3_greatestUpTo wsX5_within := goodIn_r _ [6] (by decide +kernel) (by decide +kernel)
set_option maxRecDepth 20000 in
theorem gX3_greatestUpTo_X5_within_n17 : GoodIn wsX3_greatestUpTo (wsX5_within) := ggX3_greatestUpTo_X5_within
set_option maxRecDepth 20000 in
theorem ggX3_greatestUpTo_X3_waveAt : GoodIn wsX3_greatestUpTo wsX3_waveAt := goodIn_r _ [11, 1, 2, 12, 3, 13, 4, 5, 6, 17, 18] (by decide +kernel) (by decide +kernel)
set_option maxRecDepth 20000 in
theorem gX3_greatestUpTo_X3_waveAt : GoodIn wsX3_greatestUpTo (wsV RX3 58 RX3 yX3_waveAt wsX3_waveAt) := goodIn_app (goodIn_of _ (by decide +kernel)) ggX3_greatestUpTo_X3_waveAt
set_option maxRecDepth 20000 in
theorem ggX3_greatestUpTo_X3_isGreater : GoodIn wsX3_greatestUpTo wsX3_isGreater := goodIn_r _ [16] (by decide +kernel) (by decide +kernel)
set_option maxRecDepth 20000 in
theorem gX3_greatestUpTo_X3_isGreater : GoodIn wsX3_greatestUpTo (va_wsS RX3 62 yX3_isGreater wsX3_isGreater) := goodIn_app (goodIn_of _ (by decide +kernel)) ggX3_greatestUpTo_X3_isGreater
theorem dX3_greatestUpTo_0 : decode cX3_greatestUpTo 0 = .ok (.iload_n 1, 1) := by decide +kernel
theorem dX3_greatestUpTo_1 : decode cX3_greatestUpTo 1 = .ok (.i2l, 1) := by decide +kernel
theorem dX3_greatestUpTo_2 : decode cX3_greatestUpTo 2 = .ok (.ldc2_w 33, 3) := by decide +kernel
theorem dX3_greatestUpTo_5 : decode cX3_greatestUpTo 5 = .ok (.ldc2_w 56, 3) := by decide +kernel
theorem dX3_greatestUpTo_8 : decode cX3_greatestUpTo 8 = .ok (.invokestatic 17, 3) := by decide +kernel
theorem dX3_greatestUpTo_11 : decode cX3_greatestUpTo 11 = .ok (.ifCond .ne 6, 3) := by decide +kernel
theorem dX3_greatestUpTo_14 : decode cX3_greatestUpTo 14 = .ok (.bipush (-2), 2) := by decide +kernel
theorem dX3_greatestUpTo_16 : decode cX3_greatestUpTo 16 = .ok (.ireturn, 1) := by decide +kernel
theorem dX3_greatestUpTo_17 : decode cX3_greatestUpTo 17 = .ok (.iconst (-1), 1) := by decide +kernel
theorem dX3_greatestUpTo_18 : decode cX3_greatestUpTo 18 = .ok (.istore_n 2, 1) := by decide +kernel
theorem dX3_greatestUpTo_19 : decode cX3_greatestUpTo 19 = .ok (.lconst 0, 1) := by decide +kernel
theorem dX3_greatestUpTo_20 : decode cX3_greatestUpTo 20 = .ok (.lstore_n 3, 1) := by decide +kernel
theorem dX3_greatestUpTo_21 : decode cX3_greatestUpTo 21 = .ok (.lconst 1, 1) := by decide +kernel
theorem dX3_greatestUpTo_22 : decode cX3_greatestUpTo 22 = .ok (.lstore 5, 2) := by decide +kernel
theorem dX3_greatestUpTo_24 : decode cX3_greatestUpTo 24 = .ok (.iconst 2, 1) := by decide +kernel
theorem dX3_greatestUpTo_25 : decode cX3_greatestUpTo 25 = .ok (.istore 7, 2) := by decide +kernel
theorem dX3_greatestUpTo_27 : decode cX3_greatestUpTo 27 = .ok (.iload 7, 2) := by decide +kernel
theorem dX3_greatestUpTo_29 : decode cX3_greatestUpTo 29 = .ok (.iload_n 1, 1) := by decide +kernel
theorem dX3_greatestUpTo_30 : decode cX3_greatestUpTo 30 = .ok (.if_icmp .gt 73, 3) := by decide +kernel
theorem dX3_greatestUpTo_33 : decode cX3_greatestUpTo 33 = .ok (.iconst 2, 1) := by decide +kernel
theorem dX3_greatestUpTo_34 : decode cX3_greatestUpTo 34 = .ok (.iload 7, 2) := by decide +kernel
theorem dX3_greatestUpTo_36 : decode cX3_greatestUpTo 36 = .ok (.imul, 1) := by decide +kernel
theorem dX3_greatestUpTo_37 : decode cX3_greatestUpTo 37 = .ok (.aload_n 0, 1) := by decide +kernel
theorem dX3_greatestUpTo_38 : decode cX3_greatestUpTo 38 = .ok (.getfield 21, 3) := by decide +kernel
theorem dX3_greatestUpTo_41 : decode cX3_greatestUpTo 41 = .ok (.if_icmp .gt 62, 3) := by decide +kernel
theorem dX3_greatestUpTo_44 : decode cX3_greatestUpTo 44 = .ok (.aload_n 0, 1) := by decide +kernel
theorem dX3_greatestUpTo_45 : decode cX3_greatestUpTo 45 = .ok (.iload 7, 2) := by decide +kernel
theorem dX3_greatestUpTo_47 : decode cX3_greatestUpTo 47 = .ok (.invokevirtual 58, 3) := by decide +kernel
theorem dX3_greatestUpTo_50 : decode cX3_greatestUpTo 50 = .ok (.lstore 8, 2) := by decide +kernel
theorem dX3_greatestUpTo_52 : decode cX3_greatestUpTo 52 = .ok (.aload_n 0, 1) := by decide +kernel
theorem dX3_greatestUpTo_53 : decode cX3_greatestUpTo 53 = .ok (.getfield 21, 3) := by decide +kernel
theorem dX3_greatestUpTo_56 : decode cX3_greatestUpTo 56 = .ok (.iload 7, 2) := by decide +kernel
theorem dX3_greatestUpTo_58 : decode cX3_greatestUpTo 58 = .ok (.idiv, 1) := by decide +kernel
theorem dX3_greatestUpTo_59 : decode cX3_greatestUpTo 59 = .ok (.iload 7, 2) := by decide +kernel
theorem dX3_greatestUpTo_61 : decode cX3_greatestUpTo 61 = .ok (.imul, 1) := by decide +kernel
theorem dX3_greatestUpTo_62 : decode cX3_greatestUpTo 62 = .ok (.i2l, 1) := by decide +kernel
theorem dX3_greatestUpTo_63 : decode cX3_greatestUpTo 63 = .ok (.iload 7, 2) := by decide +kernel
theorem dX3_greatestUpTo_65 : decode cX3_greatestUpTo 65 = .ok (.i2l, 1) := by decide +kernel
theorem dX3_greatestUpTo_66 : decode cX3_greatestUpTo 66 = .ok (.lmul, 1) := by decide +kernel
theorem dX3_greatestUpTo_67 : decode cX3_greatestUpTo 67 = .ok (.lstore 10, 2) := by decide +kernel
theorem dX3_greatestUpTo_69 : decode cX3_greatestUpTo 69 = .ok (.iload_n 2, 1) := by decide +kernel
theorem dX3_greatestUpTo_70 : decode cX3_greatestUpTo 70 = .ok (.iconst (-1), 1) := by decide +kernel
theorem dX3_greatestUpTo_71 : decode cX3_greatestUpTo 71 = .ok (.if_icmp .eq 16, 3) := by decide +kernel
theorem dX3_greatestUpTo_74 : decode cX3_greatestUpTo 74 = .ok (.lload 8, 2) := by decide +kernel
theorem dX3_greatestUpTo_76 : decode cX3_greatestUpTo 76 = .ok (.lload 10, 2) := by decide +kernel
theorem dX3_greatestUpTo_78 : decode cX3_greatestUpTo 78 = .ok (.lload_n 3, 1) := by decide +kernel
theorem dX3_greatestUpTo_79 : decode cX3_greatestUpTo 79 = .ok (.lload 5, 2) := by decide +kernel
theorem dX3_greatestUpTo_81 : decode cX3_greatestUpTo 81 = .ok (.invokestatic 62, 3) := by decide +kernel
theorem dX3_greatestUpTo_84 : decode cX3_greatestUpTo 84 = .ok (.ifCond .eq 13, 3) := by decide +kernel
theorem dX3_greatestUpTo_87 : decode cX3_greatestUpTo 87 = .ok (.iload 7, 2) := by decide +kernel
theorem dX3_greatestUpTo_89 : decode cX3_greatestUpTo 89 = .ok (.istore_n 2, 1) := by decide +kernel
theorem dX3_greatestUpTo_90 : decode cX3_greatestUpTo 90 = .ok (.lload 8, 2) := by decide +kernel
theorem dX3_greatestUpTo_92 : decode cX3_greatestUpTo 92 = .ok (.lstore_n 3, 1) := by decide +kernel
theorem dX3_greatestUpTo_93 : decode cX3_greatestUpTo 93 = .ok (.lload 10, 2) := by decide +kernel
theorem dX3_greatestUpTo_95 : decode cX3_greatestUpTo 95 = .ok (.lstore 5, 2) := by decide +kernel
theorem dX3_greatestUpTo_97 : decode cX3_greatestUpTo 97 = .ok (.iinc 7 1, 3) := by decide +kernel
theorem dX3_greatestUpTo_100 : decode cX3_greatestUpTo 100 = .ok (.goto (-73), 3) := by decide +kernel
theorem dX3_greatestUpTo_103 : decode cX3_greatestUpTo 103 = .ok (.iload_n 2, 1) := by decide +kernel
theorem dX3_greatestUpTo_104 : decode cX3_greatestUpTo 104 = .ok (.ireturn, 1) := by decide +kernel
set_option maxRecDepth 20000 in
theorem ggX3_countPlaces_X3_isLaw : GoodIn wsX3_countPlaces wsX3_isLaw := goodIn_r _ [9, 10, 11, 12, 13, 14, 15] (by decide +kernel) (by decide +kernel)
set_option maxRecDepth 20000 in
theorem gX3_countPlaces_X3_isLaw : GoodIn wsX3_countPlaces (va_wsS RX3 66 yX3_isLaw wsX3_isLaw) := goodIn_app (goodIn_of _ (by decide +kernel)) ggX3_countPlaces_X3_isLaw
set_option maxRecDepth 20000 in
theorem ggX3_countPlaces_X5_within : GoodIn wsX3_countPlaces wsX5_within := goodIn_r _ [15] (by decide +kernel) (by decide +kernel)
set_option maxRecDepth 20000 in
theorem gX3_countPlaces_X5_within_n17 : GoodIn wsX3_countPlaces (wsX5_within) := ggX3_countPlaces_X5_within
set_option maxRecDepth 20000 in
theorem ggX3_countPlaces_X3_mean : GoodIn wsX3_countPlaces wsX3_mean := goodIn_r _ [19, 1, 20, 21, 22, 8, 23, 24, 25, 4, 26, 27, 32, 33] (by decide +kernel) (by decide +kernel)
set_option maxRecDepth 20000 in
theorem gX3_countPlaces_X3_mean : GoodIn wsX3_countPlaces (wsV RX3 70 RX3 yX3_mean wsX3_mean) := goodIn_app (goodIn_of _ (by decide +kernel)) ggX3_countPlaces_X3_mean
set_option maxRecDepth 20000 in
theorem ggX3_countPlaces_X3_runFrom : GoodIn wsX3_countPlaces wsX3_runFrom := goodIn_r _ [31, 1, 27, 11, 32, 33] (by decide +kernel) (by decide +kernel)
set_option maxRecDepth 20000 in
theorem gX3_countPlaces_X3_runFrom : GoodIn wsX3_countPlaces (wsV RX3 73 RX3 yX3_runFrom wsX3_runFrom) := goodIn_app (goodIn_of _ (by decide +kernel)) ggX3_countPlaces_X3_runFrom
theorem dX3_countPlaces_0 : decode cX3_countPlaces 0 = .ok (.iload_n 1, 1) := by decide +kernel
theorem dX3_countPlaces_1 : decode cX3_countPlaces 1 = .ok (.iload_n 2, 1) := by decide +kernel
theorem dX3_countPlaces_2 : decode cX3_countPlaces 2 = .ok (.iload_n 3, 1) := by decide +kernel
theorem dX3_countPlaces_3 : decode cX3_countPlaces 3 = .ok (.invokestatic 66, 3) := by decide +kernel
theorem dX3_countPlaces_6 : decode cX3_countPlaces 6 = .ok (.ifCond .eq 14, 3) := by decide +kernel
theorem dX3_countPlaces_9 : decode cX3_countPlaces 9 = .ok (.iload 4, 2) := by decide +kernel
theorem dX3_countPlaces_11 : decode cX3_countPlaces 11 = .ok (.i2l, 1) := by decide +kernel
theorem dX3_countPlaces_12 : decode cX3_countPlaces 12 = .ok (.lconst 0, 1) := by decide +kernel
theorem dX3_countPlaces_13 : decode cX3_countPlaces 13 = .ok (.lconst 1, 1) := by decide +kernel
theorem dX3_countPlaces_14 : decode cX3_countPlaces 14 = .ok (.invokestatic 17, 3) := by decide +kernel
theorem dX3_countPlaces_17 : decode cX3_countPlaces 17 = .ok (.ifCond .ne 6, 3) := by decide +kernel
theorem dX3_countPlaces_20 : decode cX3_countPlaces 20 = .ok (.bipush (-2), 2) := by decide +kernel
theorem dX3_countPlaces_22 : decode cX3_countPlaces 22 = .ok (.ireturn, 1) := by decide +kernel
theorem dX3_countPlaces_23 : decode cX3_countPlaces 23 = .ok (.iload 4, 2) := by decide +kernel
theorem dX3_countPlaces_25 : decode cX3_countPlaces 25 = .ok (.ifCond .ne 7, 3) := by decide +kernel
theorem dX3_countPlaces_28 : decode cX3_countPlaces 28 = .ok (.iconst 1, 1) := by decide +kernel
theorem dX3_countPlaces_29 : decode cX3_countPlaces 29 = .ok (.goto 4, 3) := by decide +kernel
theorem dX3_countPlaces_32 : decode cX3_countPlaces 32 = .ok (.iconst 0, 1) := by decide +kernel
theorem dX3_countPlaces_33 : decode cX3_countPlaces 33 = .ok (.istore 5, 2) := by decide +kernel
theorem dX3_countPlaces_35 : decode cX3_countPlaces 35 = .ok (.aload_n 0, 1) := by decide +kernel
theorem dX3_countPlaces_36 : decode cX3_countPlaces 36 = .ok (.invokevirtual 70, 3) := by decide +kernel
theorem dX3_countPlaces_39 : decode cX3_countPlaces 39 = .ok (.iload 5, 2) := by decide +kernel
theorem dX3_countPlaces_41 : decode cX3_countPlaces 41 = .ok (.ifCond .eq 10, 3) := by decide +kernel
theorem dX3_countPlaces_44 : decode cX3_countPlaces 44 = .ok (.bipush 100, 2) := by decide +kernel
theorem dX3_countPlaces_46 : decode cX3_countPlaces 46 = .ok (.iload_n 1, 1) := by decide +kernel
theorem dX3_countPlaces_47 : decode cX3_countPlaces 47 = .ok (.iadd, 1) := by decide +kernel
theorem dX3_countPlaces_48 : decode cX3_countPlaces 48 = .ok (.goto 7, 3) := by decide +kernel
theorem dX3_countPlaces_51 : decode cX3_countPlaces 51 = .ok (.bipush 100, 2) := by decide +kernel
theorem dX3_countPlaces_53 : decode cX3_countPlaces 53 = .ok (.iload_n 2, 1) := by decide +kernel
theorem dX3_countPlaces_54 : decode cX3_countPlaces 54 = .ok (.isub, 1) := by decide +kernel
theorem dX3_countPlaces_55 : decode cX3_countPlaces 55 = .ok (.i2l, 1) := by decide +kernel
theorem dX3_countPlaces_56 : decode cX3_countPlaces 56 = .ok (.lmul, 1) := by decide +kernel
theorem dX3_countPlaces_57 : decode cX3_countPlaces 57 = .ok (.lstore 6, 2) := by decide +kernel
theorem dX3_countPlaces_59 : decode cX3_countPlaces 59 = .ok (.iconst 0, 1) := by decide +kernel
theorem dX3_countPlaces_60 : decode cX3_countPlaces 60 = .ok (.istore 8, 2) := by decide +kernel
theorem dX3_countPlaces_62 : decode cX3_countPlaces 62 = .ok (.iconst 0, 1) := by decide +kernel
theorem dX3_countPlaces_63 : decode cX3_countPlaces 63 = .ok (.istore 10, 2) := by decide +kernel
theorem dX3_countPlaces_65 : decode cX3_countPlaces 65 = .ok (.iload 10, 2) := by decide +kernel
theorem dX3_countPlaces_67 : decode cX3_countPlaces 67 = .ok (.aload_n 0, 1) := by decide +kernel
theorem dX3_countPlaces_68 : decode cX3_countPlaces 68 = .ok (.getfield 21, 3) := by decide +kernel
theorem dX3_countPlaces_71 : decode cX3_countPlaces 71 = .ok (.if_icmp .ge 38, 3) := by decide +kernel
theorem dX3_countPlaces_74 : decode cX3_countPlaces 74 = .ok (.aload_n 0, 1) := by decide +kernel
theorem dX3_countPlaces_75 : decode cX3_countPlaces 75 = .ok (.iload 10, 2) := by decide +kernel
theorem dX3_countPlaces_77 : decode cX3_countPlaces 77 = .ok (.lload 6, 2) := by decide +kernel
theorem dX3_countPlaces_79 : decode cX3_countPlaces 79 = .ok (.iload 5, 2) := by decide +kernel
theorem dX3_countPlaces_81 : decode cX3_countPlaces 81 = .ok (.invokevirtual 73, 3) := by decide +kernel
theorem dX3_countPlaces_84 : decode cX3_countPlaces 84 = .ok (.istore 9, 2) := by decide +kernel
theorem dX3_countPlaces_86 : decode cX3_countPlaces 86 = .ok (.iload 9, 2) := by decide +kernel
theorem dX3_countPlaces_88 : decode cX3_countPlaces 88 = .ok (.iload_n 3, 1) := by decide +kernel
theorem dX3_countPlaces_89 : decode cX3_countPlaces 89 = .ok (.if_icmp .lt 6, 3) := by decide +kernel
theorem dX3_countPlaces_92 : decode cX3_countPlaces 92 = .ok (.iinc 8 1, 3) := by decide +kernel
theorem dX3_countPlaces_95 : decode cX3_countPlaces 95 = .ok (.iload 10, 2) := by decide +kernel
theorem dX3_countPlaces_97 : decode cX3_countPlaces 97 = .ok (.iload 9, 2) := by decide +kernel
theorem dX3_countPlaces_99 : decode cX3_countPlaces 99 = .ok (.iconst 1, 1) := by decide +kernel
theorem dX3_countPlaces_100 : decode cX3_countPlaces 100 = .ok (.invokestatic 77, 3) := by decide +kernel
theorem dX3_countPlaces_103 : decode cX3_countPlaces 103 = .ok (.iadd, 1) := by decide +kernel
theorem dX3_countPlaces_104 : decode cX3_countPlaces 104 = .ok (.istore 10, 2) := by decide +kernel
theorem dX3_countPlaces_106 : decode cX3_countPlaces 106 = .ok (.goto (-41), 3) := by decide +kernel
theorem dX3_countPlaces_109 : decode cX3_countPlaces 109 = .ok (.iload 8, 2) := by decide +kernel
theorem dX3_countPlaces_111 : decode cX3_countPlaces 111 = .ok (.ireturn, 1) := by decide +kernel
set_option maxRecDepth 20000 in
theorem ggX3_removePlaces_X3_isLaw : GoodIn wsX3_removePlaces wsX3_isLaw := goodIn_r _ [10, 11, 12, 13, 14, 15, 16] (by decide +kernel) (by decide +kernel)
set_option maxRecDepth 20000 in
theorem gX3_removePlaces_X3_isLaw : GoodIn wsX3_removePlaces (va_wsS RX3 66 yX3_isLaw wsX3_isLaw) := goodIn_app (goodIn_of _ (by decide +kernel)) ggX3_removePlaces_X3_isLaw
set_option maxRecDepth 20000 in
theorem ggX3_removePlaces_X3_mean : GoodIn wsX3_removePlaces wsX3_mean := goodIn_r _ [20, 1, 21, 22, 23, 9, 24, 25, 26, 5, 27, 2, 36, 37] (by decide +kernel) (by decide +kernel)
set_option maxRecDepth 20000 in
theorem gX3_removePlaces_X3_mean : GoodIn wsX3_removePlaces (wsV RX3 70 RX3 yX3_mean wsX3_mean) := goodIn_app (goodIn_of _ (by decide +kernel)) ggX3_removePlaces_X3_mean
set_option maxRecDepth 20000 in
theorem ggX3_removePlaces_X3_placeFrom : GoodIn wsX3_removePlaces wsX3_placeFrom := goodIn_r _ [31, 32, 33, 34, 9, 35, 1, 2, 12, 36, 37] (by decide +kernel) (by decide +kernel)
set_option maxRecDepth 20000 in
theorem gX3_removePlaces_X3_placeFrom : GoodIn wsX3_removePlaces (wsV RX3 82 RX3 yX3_placeFrom wsX3_placeFrom) := goodIn_app (goodIn_of _ (by decide +kernel)) ggX3_removePlaces_X3_placeFrom
theorem dX3_removePlaces_0 : decode cX3_removePlaces 0 = .ok (.iload_n 1, 1) := by decide +kernel
theorem dX3_removePlaces_1 : decode cX3_removePlaces 1 = .ok (.iload_n 2, 1) := by decide +kernel
theorem dX3_removePlaces_2 : decode cX3_removePlaces 2 = .ok (.iload_n 3, 1) := by decide +kernel
theorem dX3_removePlaces_3 : decode cX3_removePlaces 3 = .ok (.invokestatic 66, 3) := by decide +kernel
theorem dX3_removePlaces_6 : decode cX3_removePlaces 6 = .ok (.ifCond .ne 6, 3) := by decide +kernel
theorem dX3_removePlaces_9 : decode cX3_removePlaces 9 = .ok (.bipush (-2), 2) := by decide +kernel
theorem dX3_removePlaces_11 : decode cX3_removePlaces 11 = .ok (.ireturn, 1) := by decide +kernel
theorem dX3_removePlaces_12 : decode cX3_removePlaces 12 = .ok (.aload_n 0, 1) := by decide +kernel
theorem dX3_removePlaces_13 : decode cX3_removePlaces 13 = .ok (.invokevirtual 70, 3) := by decide +kernel
theorem dX3_removePlaces_16 : decode cX3_removePlaces 16 = .ok (.bipush 100, 2) := by decide +kernel
theorem dX3_removePlaces_18 : decode cX3_removePlaces 18 = .ok (.iload_n 1, 1) := by decide +kernel
theorem dX3_removePlaces_19 : decode cX3_removePlaces 19 = .ok (.iadd, 1) := by decide +kernel
theorem dX3_removePlaces_20 : decode cX3_removePlaces 20 = .ok (.i2l, 1) := by decide +kernel
theorem dX3_removePlaces_21 : decode cX3_removePlaces 21 = .ok (.lmul, 1) := by decide +kernel
theorem dX3_removePlaces_22 : decode cX3_removePlaces 22 = .ok (.lstore 4, 2) := by decide +kernel
theorem dX3_removePlaces_24 : decode cX3_removePlaces 24 = .ok (.aload_n 0, 1) := by decide +kernel
theorem dX3_removePlaces_25 : decode cX3_removePlaces 25 = .ok (.invokevirtual 70, 3) := by decide +kernel
theorem dX3_removePlaces_28 : decode cX3_removePlaces 28 = .ok (.bipush 100, 2) := by decide +kernel
theorem dX3_removePlaces_30 : decode cX3_removePlaces 30 = .ok (.iload_n 2, 1) := by decide +kernel
theorem dX3_removePlaces_31 : decode cX3_removePlaces 31 = .ok (.isub, 1) := by decide +kernel
theorem dX3_removePlaces_32 : decode cX3_removePlaces 32 = .ok (.i2l, 1) := by decide +kernel
theorem dX3_removePlaces_33 : decode cX3_removePlaces 33 = .ok (.lmul, 1) := by decide +kernel
theorem dX3_removePlaces_34 : decode cX3_removePlaces 34 = .ok (.lstore 6, 2) := by decide +kernel
theorem dX3_removePlaces_36 : decode cX3_removePlaces 36 = .ok (.iconst 0, 1) := by decide +kernel
theorem dX3_removePlaces_37 : decode cX3_removePlaces 37 = .ok (.istore 8, 2) := by decide +kernel
theorem dX3_removePlaces_39 : decode cX3_removePlaces 39 = .ok (.iconst 0, 1) := by decide +kernel
theorem dX3_removePlaces_40 : decode cX3_removePlaces 40 = .ok (.istore 9, 2) := by decide +kernel
theorem dX3_removePlaces_42 : decode cX3_removePlaces 42 = .ok (.iconst 0, 1) := by decide +kernel
theorem dX3_removePlaces_43 : decode cX3_removePlaces 43 = .ok (.istore 10, 2) := by decide +kernel
theorem dX3_removePlaces_45 : decode cX3_removePlaces 45 = .ok (.iconst 0, 1) := by decide +kernel
theorem dX3_removePlaces_46 : decode cX3_removePlaces 46 = .ok (.istore 12, 2) := by decide +kernel
theorem dX3_removePlaces_48 : decode cX3_removePlaces 48 = .ok (.iload 12, 2) := by decide +kernel
theorem dX3_removePlaces_50 : decode cX3_removePlaces 50 = .ok (.aload_n 0, 1) := by decide +kernel
theorem dX3_removePlaces_51 : decode cX3_removePlaces 51 = .ok (.getfield 21, 3) := by decide +kernel
theorem dX3_removePlaces_54 : decode cX3_removePlaces 54 = .ok (.if_icmp .ge 84, 3) := by decide +kernel
theorem dX3_removePlaces_57 : decode cX3_removePlaces 57 = .ok (.aload_n 0, 1) := by decide +kernel
theorem dX3_removePlaces_58 : decode cX3_removePlaces 58 = .ok (.iload 12, 2) := by decide +kernel
theorem dX3_removePlaces_60 : decode cX3_removePlaces 60 = .ok (.lload 4, 2) := by decide +kernel
theorem dX3_removePlaces_62 : decode cX3_removePlaces 62 = .ok (.lload 6, 2) := by decide +kernel
theorem dX3_removePlaces_64 : decode cX3_removePlaces 64 = .ok (.iload_n 3, 1) := by decide +kernel
theorem dX3_removePlaces_65 : decode cX3_removePlaces 65 = .ok (.invokevirtual 82, 3) := by decide +kernel
theorem dX3_removePlaces_68 : decode cX3_removePlaces 68 = .ok (.istore 11, 2) := by decide +kernel
theorem dX3_removePlaces_70 : decode cX3_removePlaces 70 = .ok (.iload 11, 2) := by decide +kernel
theorem dX3_removePlaces_72 : decode cX3_removePlaces 72 = .ok (.ifCond .ne 40, 3) := by decide +kernel
theorem dX3_removePlaces_75 : decode cX3_removePlaces 75 = .ok (.iload 9, 2) := by decide +kernel
theorem dX3_removePlaces_77 : decode cX3_removePlaces 77 = .ok (.iload 10, 2) := by decide +kernel
theorem dX3_removePlaces_79 : decode cX3_removePlaces 79 = .ok (.ifCond .eq 12, 3) := by decide +kernel
theorem dX3_removePlaces_82 : decode cX3_removePlaces 82 = .ok (.iload 8, 2) := by decide +kernel
theorem dX3_removePlaces_84 : decode cX3_removePlaces 84 = .ok (.ifCond .le 7, 3) := by decide +kernel
theorem dX3_removePlaces_87 : decode cX3_removePlaces 87 = .ok (.iconst 1, 1) := by decide +kernel
theorem dX3_removePlaces_88 : decode cX3_removePlaces 88 = .ok (.goto 4, 3) := by decide +kernel
theorem dX3_removePlaces_91 : decode cX3_removePlaces 91 = .ok (.iconst 0, 1) := by decide +kernel
theorem dX3_removePlaces_92 : decode cX3_removePlaces 92 = .ok (.iadd, 1) := by decide +kernel
theorem dX3_removePlaces_93 : decode cX3_removePlaces 93 = .ok (.istore 9, 2) := by decide +kernel
theorem dX3_removePlaces_95 : decode cX3_removePlaces 95 = .ok (.aload_n 0, 1) := by decide +kernel
theorem dX3_removePlaces_96 : decode cX3_removePlaces 96 = .ok (.getfield 11, 3) := by decide +kernel
theorem dX3_removePlaces_99 : decode cX3_removePlaces 99 = .ok (.iload 8, 2) := by decide +kernel
theorem dX3_removePlaces_101 : decode cX3_removePlaces 101 = .ok (.aload_n 0, 1) := by decide +kernel
theorem dX3_removePlaces_102 : decode cX3_removePlaces 102 = .ok (.getfield 11, 3) := by decide +kernel
theorem dX3_removePlaces_105 : decode cX3_removePlaces 105 = .ok (.iload 12, 2) := by decide +kernel
theorem dX3_removePlaces_107 : decode cX3_removePlaces 107 = .ok (.iaload, 1) := by decide +kernel
theorem dX3_removePlaces_108 : decode cX3_removePlaces 108 = .ok (.iastore, 1) := by decide +kernel
theorem dX3_removePlaces_109 : decode cX3_removePlaces 109 = .ok (.iinc 8 1, 3) := by decide +kernel
theorem dX3_removePlaces_112 : decode cX3_removePlaces 112 = .ok (.iload 11, 2) := by decide +kernel
theorem dX3_removePlaces_114 : decode cX3_removePlaces 114 = .ok (.ifCond .le 7, 3) := by decide +kernel
theorem dX3_removePlaces_117 : decode cX3_removePlaces 117 = .ok (.iconst 1, 1) := by decide +kernel
theorem dX3_removePlaces_118 : decode cX3_removePlaces 118 = .ok (.goto 4, 3) := by decide +kernel
theorem dX3_removePlaces_121 : decode cX3_removePlaces 121 = .ok (.iconst 0, 1) := by decide +kernel
theorem dX3_removePlaces_122 : decode cX3_removePlaces 122 = .ok (.istore 10, 2) := by decide +kernel
theorem dX3_removePlaces_124 : decode cX3_removePlaces 124 = .ok (.iload 12, 2) := by decide +kernel
theorem dX3_removePlaces_126 : decode cX3_removePlaces 126 = .ok (.iload 11, 2) := by decide +kernel
theorem dX3_removePlaces_128 : decode cX3_removePlaces 128 = .ok (.iconst 1, 1) := by decide +kernel
theorem dX3_removePlaces_129 : decode cX3_removePlaces 129 = .ok (.invokestatic 77, 3) := by decide +kernel
theorem dX3_removePlaces_132 : decode cX3_removePlaces 132 = .ok (.iadd, 1) := by decide +kernel
theorem dX3_removePlaces_133 : decode cX3_removePlaces 133 = .ok (.istore 12, 2) := by decide +kernel
theorem dX3_removePlaces_135 : decode cX3_removePlaces 135 = .ok (.goto (-87), 3) := by decide +kernel
theorem dX3_removePlaces_138 : decode cX3_removePlaces 138 = .ok (.aload_n 0, 1) := by decide +kernel
theorem dX3_removePlaces_139 : decode cX3_removePlaces 139 = .ok (.iload 8, 2) := by decide +kernel
theorem dX3_removePlaces_141 : decode cX3_removePlaces 141 = .ok (.putfield 21, 3) := by decide +kernel
theorem dX3_removePlaces_144 : decode cX3_removePlaces 144 = .ok (.iload 9, 2) := by decide +kernel
theorem dX3_removePlaces_146 : decode cX3_removePlaces 146 = .ok (.ireturn, 1) := by decide +kernel
theorem dX3_mixInto_0 : decode cX3_mixInto 0 = .ok (.lload_n 1, 1) := by decide +kernel
theorem dX3_mixInto_1 : decode cX3_mixInto 1 = .ok (.lstore_n 3, 1) := by decide +kernel
theorem dX3_mixInto_2 : decode cX3_mixInto 2 = .ok (.iconst 0, 1) := by decide +kernel
theorem dX3_mixInto_3 : decode cX3_mixInto 3 = .ok (.istore 5, 2) := by decide +kernel
theorem dX3_mixInto_5 : decode cX3_mixInto 5 = .ok (.iload 5, 2) := by decide +kernel
theorem dX3_mixInto_7 : decode cX3_mixInto 7 = .ok (.aload_n 0, 1) := by decide +kernel
theorem dX3_mixInto_8 : decode cX3_mixInto 8 = .ok (.getfield 21, 3) := by decide +kernel
theorem dX3_mixInto_11 : decode cX3_mixInto 11 = .ok (.if_icmp .ge 24, 3) := by decide +kernel
theorem dX3_mixInto_14 : decode cX3_mixInto 14 = .ok (.ldc2_w 86, 3) := by decide +kernel
theorem dX3_mixInto_17 : decode cX3_mixInto 17 = .ok (.lload_n 3, 1) := by decide +kernel
theorem dX3_mixInto_18 : decode cX3_mixInto 18 = .ok (.lmul, 1) := by decide +kernel
theorem dX3_mixInto_19 : decode cX3_mixInto 19 = .ok (.aload_n 0, 1) := by decide +kernel
theorem dX3_mixInto_20 : decode cX3_mixInto 20 = .ok (.getfield 11, 3) := by decide +kernel
theorem dX3_mixInto_23 : decode cX3_mixInto 23 = .ok (.iload 5, 2) := by decide +kernel
theorem dX3_mixInto_25 : decode cX3_mixInto 25 = .ok (.iaload, 1) := by decide +kernel
theorem dX3_mixInto_26 : decode cX3_mixInto 26 = .ok (.i2l, 1) := by decide +kernel
theorem dX3_mixInto_27 : decode cX3_mixInto 27 = .ok (.ladd, 1) := by decide +kernel
theorem dX3_mixInto_28 : decode cX3_mixInto 28 = .ok (.lstore_n 3, 1) := by decide +kernel
theorem dX3_mixInto_29 : decode cX3_mixInto 29 = .ok (.iinc 5 1, 3) := by decide +kernel
theorem dX3_mixInto_32 : decode cX3_mixInto 32 = .ok (.goto (-27), 3) := by decide +kernel
theorem dX3_mixInto_35 : decode cX3_mixInto 35 = .ok (.lload_n 3, 1) := by decide +kernel
theorem dX3_mixInto_36 : decode cX3_mixInto 36 = .ok (.lreturn, 1) := by decide +kernel
theorem dX3_sumOf_0 : decode cX3_sumOf 0 = .ok (.iload_n 1, 1) := by decide +kernel
theorem dX3_sumOf_1 : decode cX3_sumOf 1 = .ok (.iload_n 2, 1) := by decide +kernel
theorem dX3_sumOf_2 : decode cX3_sumOf 2 = .ok (.iadd, 1) := by decide +kernel
theorem dX3_sumOf_3 : decode cX3_sumOf 3 = .ok (.aload_n 0, 1) := by decide +kernel
theorem dX3_sumOf_4 : decode cX3_sumOf 4 = .ok (.getfield 21, 3) := by decide +kernel
theorem dX3_sumOf_7 : decode cX3_sumOf 7 = .ok (.invokestatic 88, 3) := by decide +kernel
theorem dX3_sumOf_10 : decode cX3_sumOf 10 = .ok (.istore_n 3, 1) := by decide +kernel
theorem dX3_sumOf_11 : decode cX3_sumOf 11 = .ok (.iconst 0, 1) := by decide +kernel
theorem dX3_sumOf_12 : decode cX3_sumOf 12 = .ok (.istore 4, 2) := by decide +kernel
theorem dX3_sumOf_14 : decode cX3_sumOf 14 = .ok (.iload_n 1, 1) := by decide +kernel
theorem dX3_sumOf_15 : decode cX3_sumOf 15 = .ok (.istore 5, 2) := by decide +kernel
theorem dX3_sumOf_17 : decode cX3_sumOf 17 = .ok (.iload 5, 2) := by decide +kernel
theorem dX3_sumOf_19 : decode cX3_sumOf 19 = .ok (.iload_n 3, 1) := by decide +kernel
theorem dX3_sumOf_20 : decode cX3_sumOf 20 = .ok (.if_icmp .ge 21, 3) := by decide +kernel
theorem dX3_sumOf_23 : decode cX3_sumOf 23 = .ok (.iload 4, 2) := by decide +kernel
theorem dX3_sumOf_25 : decode cX3_sumOf 25 = .ok (.aload_n 0, 1) := by decide +kernel
theorem dX3_sumOf_26 : decode cX3_sumOf 26 = .ok (.getfield 11, 3) := by decide +kernel
theorem dX3_sumOf_29 : decode cX3_sumOf 29 = .ok (.iload 5, 2) := by decide +kernel
theorem dX3_sumOf_31 : decode cX3_sumOf 31 = .ok (.iaload, 1) := by decide +kernel
theorem dX3_sumOf_32 : decode cX3_sumOf 32 = .ok (.iadd, 1) := by decide +kernel
theorem dX3_sumOf_33 : decode cX3_sumOf 33 = .ok (.istore 4, 2) := by decide +kernel
theorem dX3_sumOf_35 : decode cX3_sumOf 35 = .ok (.iinc 5 1, 3) := by decide +kernel
theorem dX3_sumOf_38 : decode cX3_sumOf 38 = .ok (.goto (-21), 3) := by decide +kernel
theorem dX3_sumOf_41 : decode cX3_sumOf 41 = .ok (.iload 4, 2) := by decide +kernel
theorem dX3_sumOf_43 : decode cX3_sumOf 43 = .ok (.ireturn, 1) := by decide +kernel
theorem dX3_given_0 : decode cX3_given 0 = .ok (.aload_n 0, 1) := by decide +kernel
theorem dX3_given_1 : decode cX3_given 1 = .ok (.getfield 11, 3) := by decide +kernel
theorem dX3_given_4 : decode cX3_given 4 = .ok (.iload_n 1, 1) := by decide +kernel
theorem dX3_given_5 : decode cX3_given 5 = .ok (.iaload, 1) := by decide +kernel
theorem dX3_given_6 : decode cX3_given 6 = .ok (.i2l, 1) := by decide +kernel
theorem dX3_given_7 : decode cX3_given 7 = .ok (.iload_n 2, 1) := by decide +kernel
theorem dX3_given_8 : decode cX3_given 8 = .ok (.i2l, 1) := by decide +kernel
theorem dX3_given_9 : decode cX3_given 9 = .ok (.lmul, 1) := by decide +kernel
theorem dX3_given_10 : decode cX3_given 10 = .ok (.ldc2_w 45, 3) := by decide +kernel
theorem dX3_given_13 : decode cX3_given 13 = .ok (.ldiv, 1) := by decide +kernel
theorem dX3_given_14 : decode cX3_given 14 = .ok (.l2i, 1) := by decide +kernel
theorem dX3_given_15 : decode cX3_given 15 = .ok (.ireturn, 1) := by decide +kernel
set_option maxRecDepth 20000 in
theorem ggX3_unevenness_X3_sumOf : GoodIn wsX3_unevenness wsX3_sumOf := goodIn_r _ [7, 1, 8, 9, 10, 11, 2, 12, 13] (by decide +kernel) (by decide +kernel)
set_option maxRecDepth 20000 in
theorem gX3_unevenness_X3_sumOf : GoodIn wsX3_unevenness (wsV RX3 39 RX3 yX3_sumOf wsX3_sumOf) := goodIn_app (goodIn_of _ (by decide +kernel)) ggX3_unevenness_X3_sumOf
theorem dX3_unevenness_0 : decode cX3_unevenness 0 = .ok (.lconst 0, 1) := by decide +kernel
theorem dX3_unevenness_1 : decode cX3_unevenness 1 = .ok (.lstore_n 1, 1) := by decide +kernel
theorem dX3_unevenness_2 : decode cX3_unevenness 2 = .ok (.iconst 0, 1) := by decide +kernel
theorem dX3_unevenness_3 : decode cX3_unevenness 3 = .ok (.istore_n 3, 1) := by decide +kernel
theorem dX3_unevenness_4 : decode cX3_unevenness 4 = .ok (.iload_n 3, 1) := by decide +kernel
theorem dX3_unevenness_5 : decode cX3_unevenness 5 = .ok (.aload_n 0, 1) := by decide +kernel
theorem dX3_unevenness_6 : decode cX3_unevenness 6 = .ok (.getfield 21, 3) := by decide +kernel
theorem dX3_unevenness_9 : decode cX3_unevenness 9 = .ok (.if_icmp .ge 27, 3) := by decide +kernel
theorem dX3_unevenness_12 : decode cX3_unevenness 12 = .ok (.lload_n 1, 1) := by decide +kernel
theorem dX3_unevenness_13 : decode cX3_unevenness 13 = .ok (.aload_n 0, 1) := by decide +kernel
theorem dX3_unevenness_14 : decode cX3_unevenness 14 = .ok (.getfield 11, 3) := by decide +kernel
theorem dX3_unevenness_17 : decode cX3_unevenness 17 = .ok (.iload_n 3, 1) := by decide +kernel
theorem dX3_unevenness_18 : decode cX3_unevenness 18 = .ok (.iaload, 1) := by decide +kernel
theorem dX3_unevenness_19 : decode cX3_unevenness 19 = .ok (.i2l, 1) := by decide +kernel
theorem dX3_unevenness_20 : decode cX3_unevenness 20 = .ok (.aload_n 0, 1) := by decide +kernel
theorem dX3_unevenness_21 : decode cX3_unevenness 21 = .ok (.getfield 11, 3) := by decide +kernel
theorem dX3_unevenness_24 : decode cX3_unevenness 24 = .ok (.iload_n 3, 1) := by decide +kernel
theorem dX3_unevenness_25 : decode cX3_unevenness 25 = .ok (.iaload, 1) := by decide +kernel
theorem dX3_unevenness_26 : decode cX3_unevenness 26 = .ok (.i2l, 1) := by decide +kernel
theorem dX3_unevenness_27 : decode cX3_unevenness 27 = .ok (.lmul, 1) := by decide +kernel
theorem dX3_unevenness_28 : decode cX3_unevenness 28 = .ok (.ladd, 1) := by decide +kernel
theorem dX3_unevenness_29 : decode cX3_unevenness 29 = .ok (.lstore_n 1, 1) := by decide +kernel
theorem dX3_unevenness_30 : decode cX3_unevenness 30 = .ok (.iinc 3 1, 3) := by decide +kernel
theorem dX3_unevenness_33 : decode cX3_unevenness 33 = .ok (.goto (-29), 3) := by decide +kernel
theorem dX3_unevenness_36 : decode cX3_unevenness 36 = .ok (.aload_n 0, 1) := by decide +kernel
theorem dX3_unevenness_37 : decode cX3_unevenness 37 = .ok (.iconst 0, 1) := by decide +kernel
theorem dX3_unevenness_38 : decode cX3_unevenness 38 = .ok (.aload_n 0, 1) := by decide +kernel
theorem dX3_unevenness_39 : decode cX3_unevenness 39 = .ok (.getfield 21, 3) := by decide +kernel
theorem dX3_unevenness_42 : decode cX3_unevenness 42 = .ok (.invokevirtual 39, 3) := by decide +kernel
theorem dX3_unevenness_45 : decode cX3_unevenness 45 = .ok (.i2l, 1) := by decide +kernel
theorem dX3_unevenness_46 : decode cX3_unevenness 46 = .ok (.lstore_n 3, 1) := by decide +kernel
theorem dX3_unevenness_47 : decode cX3_unevenness 47 = .ok (.aload_n 0, 1) := by decide +kernel
theorem dX3_unevenness_48 : decode cX3_unevenness 48 = .ok (.getfield 21, 3) := by decide +kernel
theorem dX3_unevenness_51 : decode cX3_unevenness 51 = .ok (.i2l, 1) := by decide +kernel
theorem dX3_unevenness_52 : decode cX3_unevenness 52 = .ok (.lload_n 1, 1) := by decide +kernel
theorem dX3_unevenness_53 : decode cX3_unevenness 53 = .ok (.lmul, 1) := by decide +kernel
theorem dX3_unevenness_54 : decode cX3_unevenness 54 = .ok (.lload_n 3, 1) := by decide +kernel
theorem dX3_unevenness_55 : decode cX3_unevenness 55 = .ok (.lload_n 3, 1) := by decide +kernel
theorem dX3_unevenness_56 : decode cX3_unevenness 56 = .ok (.lmul, 1) := by decide +kernel
theorem dX3_unevenness_57 : decode cX3_unevenness 57 = .ok (.lsub, 1) := by decide +kernel
theorem dX3_unevenness_58 : decode cX3_unevenness 58 = .ok (.lreturn, 1) := by decide +kernel
theorem dX3_isGreater_0 : decode cX3_isGreater 0 = .ok (.lload_n 2, 1) := by decide +kernel
theorem dX3_isGreater_1 : decode cX3_isGreater 1 = .ok (.lconst 0, 1) := by decide +kernel
theorem dX3_isGreater_2 : decode cX3_isGreater 2 = .ok (.lcmp, 1) := by decide +kernel
theorem dX3_isGreater_3 : decode cX3_isGreater 3 = .ok (.ifCond .le 10, 3) := by decide +kernel
theorem dX3_isGreater_6 : decode cX3_isGreater 6 = .ok (.lload 6, 2) := by decide +kernel
theorem dX3_isGreater_8 : decode cX3_isGreater 8 = .ok (.lconst 0, 1) := by decide +kernel
theorem dX3_isGreater_9 : decode cX3_isGreater 9 = .ok (.lcmp, 1) := by decide +kernel
theorem dX3_isGreater_10 : decode cX3_isGreater 10 = .ok (.ifCond .gt 5, 3) := by decide +kernel
theorem dX3_isGreater_13 : decode cX3_isGreater 13 = .ok (.iconst 0, 1) := by decide +kernel
theorem dX3_isGreater_14 : decode cX3_isGreater 14 = .ok (.ireturn, 1) := by decide +kernel
theorem dX3_isGreater_15 : decode cX3_isGreater 15 = .ok (.lload_n 0, 1) := by decide +kernel
theorem dX3_isGreater_16 : decode cX3_isGreater 16 = .ok (.lload_n 2, 1) := by decide +kernel
theorem dX3_isGreater_17 : decode cX3_isGreater 17 = .ok (.ldiv, 1) := by decide +kernel
theorem dX3_isGreater_18 : decode cX3_isGreater 18 = .ok (.lload 4, 2) := by decide +kernel
theorem dX3_isGreater_20 : decode cX3_isGreater 20 = .ok (.lload 6, 2) := by decide +kernel
theorem dX3_isGreater_22 : decode cX3_isGreater 22 = .ok (.ldiv, 1) := by decide +kernel
theorem dX3_isGreater_23 : decode cX3_isGreater 23 = .ok (.lcmp, 1) := by decide +kernel
theorem dX3_isGreater_24 : decode cX3_isGreater 24 = .ok (.ifCond .eq 21, 3) := by decide +kernel
theorem dX3_isGreater_27 : decode cX3_isGreater 27 = .ok (.lload_n 0, 1) := by decide +kernel
theorem dX3_isGreater_28 : decode cX3_isGreater 28 = .ok (.lload_n 2, 1) := by decide +kernel
theorem dX3_isGreater_29 : decode cX3_isGreater 29 = .ok (.ldiv, 1) := by decide +kernel
theorem dX3_isGreater_30 : decode cX3_isGreater 30 = .ok (.lload 4, 2) := by decide +kernel
theorem dX3_isGreater_32 : decode cX3_isGreater 32 = .ok (.lload 6, 2) := by decide +kernel
theorem dX3_isGreater_34 : decode cX3_isGreater 34 = .ok (.ldiv, 1) := by decide +kernel
theorem dX3_isGreater_35 : decode cX3_isGreater 35 = .ok (.lcmp, 1) := by decide +kernel
theorem dX3_isGreater_36 : decode cX3_isGreater 36 = .ok (.ifCond .le 7, 3) := by decide +kernel
theorem dX3_isGreater_39 : decode cX3_isGreater 39 = .ok (.iconst 1, 1) := by decide +kernel
theorem dX3_isGreater_40 : decode cX3_isGreater 40 = .ok (.goto 4, 3) := by decide +kernel
theorem dX3_isGreater_43 : decode cX3_isGreater 43 = .ok (.iconst 0, 1) := by decide +kernel
theorem dX3_isGreater_44 : decode cX3_isGreater 44 = .ok (.ireturn, 1) := by decide +kernel
theorem dX3_isGreater_45 : decode cX3_isGreater 45 = .ok (.lload_n 0, 1) := by decide +kernel
theorem dX3_isGreater_46 : decode cX3_isGreater 46 = .ok (.lload_n 2, 1) := by decide +kernel
theorem dX3_isGreater_47 : decode cX3_isGreater 47 = .ok (.lrem, 1) := by decide +kernel
theorem dX3_isGreater_48 : decode cX3_isGreater 48 = .ok (.lload 6, 2) := by decide +kernel
theorem dX3_isGreater_50 : decode cX3_isGreater 50 = .ok (.lmul, 1) := by decide +kernel
theorem dX3_isGreater_51 : decode cX3_isGreater 51 = .ok (.lload 4, 2) := by decide +kernel
theorem dX3_isGreater_53 : decode cX3_isGreater 53 = .ok (.lload 6, 2) := by decide +kernel
theorem dX3_isGreater_55 : decode cX3_isGreater 55 = .ok (.lrem, 1) := by decide +kernel
theorem dX3_isGreater_56 : decode cX3_isGreater 56 = .ok (.lload_n 2, 1) := by decide +kernel
theorem dX3_isGreater_57 : decode cX3_isGreater 57 = .ok (.lmul, 1) := by decide +kernel
theorem dX3_isGreater_58 : decode cX3_isGreater 58 = .ok (.lcmp, 1) := by decide +kernel
theorem dX3_isGreater_59 : decode cX3_isGreater 59 = .ok (.ifCond .le 7, 3) := by decide +kernel
theorem dX3_isGreater_62 : decode cX3_isGreater 62 = .ok (.iconst 1, 1) := by decide +kernel
theorem dX3_isGreater_63 : decode cX3_isGreater 63 = .ok (.goto 4, 3) := by decide +kernel
theorem dX3_isGreater_66 : decode cX3_isGreater 66 = .ok (.iconst 0, 1) := by decide +kernel
theorem dX3_isGreater_67 : decode cX3_isGreater 67 = .ok (.ireturn, 1) := by decide +kernel
set_option maxRecDepth 20000 in
theorem ggX3_isLaw_X5_within : GoodIn wsX3_isLaw wsX5_within := goodIn_r _ [6] (by decide +kernel) (by decide +kernel)
set_option maxRecDepth 20000 in
theorem gX3_isLaw_X5_within_n17 : GoodIn wsX3_isLaw (wsX5_within) := ggX3_isLaw_X5_within
theorem dX3_isLaw_0 : decode cX3_isLaw 0 = .ok (.iload_n 0, 1) := by decide +kernel
theorem dX3_isLaw_1 : decode cX3_isLaw 1 = .ok (.i2l, 1) := by decide +kernel
theorem dX3_isLaw_2 : decode cX3_isLaw 2 = .ok (.lconst 1, 1) := by decide +kernel
theorem dX3_isLaw_3 : decode cX3_isLaw 3 = .ok (.ldc2_w 45, 3) := by decide +kernel
theorem dX3_isLaw_6 : decode cX3_isLaw 6 = .ok (.invokestatic 17, 3) := by decide +kernel
theorem dX3_isLaw_9 : decode cX3_isLaw 9 = .ok (.ifCond .eq 31, 3) := by decide +kernel
theorem dX3_isLaw_12 : decode cX3_isLaw 12 = .ok (.iload_n 1, 1) := by decide +kernel
theorem dX3_isLaw_13 : decode cX3_isLaw 13 = .ok (.i2l, 1) := by decide +kernel
theorem dX3_isLaw_14 : decode cX3_isLaw 14 = .ok (.lconst 0, 1) := by decide +kernel
theorem dX3_isLaw_15 : decode cX3_isLaw 15 = .ok (.ldc2_w 25, 3) := by decide +kernel
theorem dX3_isLaw_18 : decode cX3_isLaw 18 = .ok (.invokestatic 17, 3) := by decide +kernel
theorem dX3_isLaw_21 : decode cX3_isLaw 21 = .ok (.ifCond .eq 19, 3) := by decide +kernel
theorem dX3_isLaw_24 : decode cX3_isLaw 24 = .ok (.iload_n 2, 1) := by decide +kernel
theorem dX3_isLaw_25 : decode cX3_isLaw 25 = .ok (.i2l, 1) := by decide +kernel
theorem dX3_isLaw_26 : decode cX3_isLaw 26 = .ok (.lconst 1, 1) := by decide +kernel
theorem dX3_isLaw_27 : decode cX3_isLaw 27 = .ok (.ldc2_w 91, 3) := by decide +kernel
theorem dX3_isLaw_30 : decode cX3_isLaw 30 = .ok (.invokestatic 17, 3) := by decide +kernel
theorem dX3_isLaw_33 : decode cX3_isLaw 33 = .ok (.ifCond .eq 7, 3) := by decide +kernel
theorem dX3_isLaw_36 : decode cX3_isLaw 36 = .ok (.iconst 1, 1) := by decide +kernel
theorem dX3_isLaw_37 : decode cX3_isLaw 37 = .ok (.goto 4, 3) := by decide +kernel
theorem dX3_isLaw_40 : decode cX3_isLaw 40 = .ok (.iconst 0, 1) := by decide +kernel
theorem dX3_isLaw_41 : decode cX3_isLaw 41 = .ok (.ireturn, 1) := by decide +kernel
set_option maxRecDepth 20000 in
theorem ggX3_mean_X3_sumOf : GoodIn wsX3_mean wsX3_sumOf := goodIn_r _ [6, 1, 7, 8, 9, 10, 11, 12, 13] (by decide +kernel) (by decide +kernel)
set_option maxRecDepth 20000 in
theorem gX3_mean_X3_sumOf : GoodIn wsX3_mean (wsV RX3 39 RX3 yX3_sumOf wsX3_sumOf) := goodIn_app (goodIn_of _ (by decide +kernel)) ggX3_mean_X3_sumOf
theorem dX3_mean_0 : decode cX3_mean 0 = .ok (.aload_n 0, 1) := by decide +kernel
theorem dX3_mean_1 : decode cX3_mean 1 = .ok (.getfield 21, 3) := by decide +kernel
theorem dX3_mean_4 : decode cX3_mean 4 = .ok (.ifCond .le 21, 3) := by decide +kernel
theorem dX3_mean_7 : decode cX3_mean 7 = .ok (.aload_n 0, 1) := by decide +kernel
theorem dX3_mean_8 : decode cX3_mean 8 = .ok (.iconst 0, 1) := by decide +kernel
theorem dX3_mean_9 : decode cX3_mean 9 = .ok (.aload_n 0, 1) := by decide +kernel
theorem dX3_mean_10 : decode cX3_mean 10 = .ok (.getfield 21, 3) := by decide +kernel
theorem dX3_mean_13 : decode cX3_mean 13 = .ok (.invokevirtual 39, 3) := by decide +kernel
theorem dX3_mean_16 : decode cX3_mean 16 = .ok (.aload_n 0, 1) := by decide +kernel
theorem dX3_mean_17 : decode cX3_mean 17 = .ok (.getfield 21, 3) := by decide +kernel
theorem dX3_mean_20 : decode cX3_mean 20 = .ok (.idiv, 1) := by decide +kernel
theorem dX3_mean_21 : decode cX3_mean 21 = .ok (.i2l, 1) := by decide +kernel
theorem dX3_mean_22 : decode cX3_mean 22 = .ok (.goto 4, 3) := by decide +kernel
theorem dX3_mean_25 : decode cX3_mean 25 = .ok (.lconst 0, 1) := by decide +kernel
theorem dX3_mean_26 : decode cX3_mean 26 = .ok (.lreturn, 1) := by decide +kernel
set_option maxRecDepth 20000 in
theorem ggX3_placeFrom_X3_runFrom : GoodIn wsX3_placeFrom wsX3_runFrom := goodIn_r _ [5, 6, 7, 8, 9, 10] (by decide +kernel) (by decide +kernel)
set_option maxRecDepth 20000 in
theorem gX3_placeFrom_X3_runFrom : GoodIn wsX3_placeFrom (wsV RX3 73 RX3 yX3_runFrom wsX3_runFrom) := goodIn_app (goodIn_of _ (by decide +kernel)) ggX3_placeFrom_X3_runFrom
theorem dX3_placeFrom_0 : decode cX3_placeFrom 0 = .ok (.aload_n 0, 1) := by decide +kernel
theorem dX3_placeFrom_1 : decode cX3_placeFrom 1 = .ok (.iload_n 1, 1) := by decide +kernel
theorem dX3_placeFrom_2 : decode cX3_placeFrom 2 = .ok (.lload_n 2, 1) := by decide +kernel
theorem dX3_placeFrom_3 : decode cX3_placeFrom 3 = .ok (.iconst 1, 1) := by decide +kernel
theorem dX3_placeFrom_4 : decode cX3_placeFrom 4 = .ok (.invokevirtual 73, 3) := by decide +kernel
theorem dX3_placeFrom_7 : decode cX3_placeFrom 7 = .ok (.istore 7, 2) := by decide +kernel
theorem dX3_placeFrom_9 : decode cX3_placeFrom 9 = .ok (.iload 7, 2) := by decide +kernel
theorem dX3_placeFrom_11 : decode cX3_placeFrom 11 = .ok (.iload 6, 2) := by decide +kernel
theorem dX3_placeFrom_13 : decode cX3_placeFrom 13 = .ok (.if_icmp .lt 6, 3) := by decide +kernel
theorem dX3_placeFrom_16 : decode cX3_placeFrom 16 = .ok (.iload 7, 2) := by decide +kernel
theorem dX3_placeFrom_18 : decode cX3_placeFrom 18 = .ok (.ireturn, 1) := by decide +kernel
theorem dX3_placeFrom_19 : decode cX3_placeFrom 19 = .ok (.aload_n 0, 1) := by decide +kernel
theorem dX3_placeFrom_20 : decode cX3_placeFrom 20 = .ok (.iload_n 1, 1) := by decide +kernel
theorem dX3_placeFrom_21 : decode cX3_placeFrom 21 = .ok (.lload 4, 2) := by decide +kernel
theorem dX3_placeFrom_23 : decode cX3_placeFrom 23 = .ok (.iconst 0, 1) := by decide +kernel
theorem dX3_placeFrom_24 : decode cX3_placeFrom 24 = .ok (.invokevirtual 73, 3) := by decide +kernel
theorem dX3_placeFrom_27 : decode cX3_placeFrom 27 = .ok (.istore 8, 2) := by decide +kernel
theorem dX3_placeFrom_29 : decode cX3_placeFrom 29 = .ok (.iload 8, 2) := by decide +kernel
theorem dX3_placeFrom_31 : decode cX3_placeFrom 31 = .ok (.iload 6, 2) := by decide +kernel
theorem dX3_placeFrom_33 : decode cX3_placeFrom 33 = .ok (.if_icmp .lt 8, 3) := by decide +kernel
theorem dX3_placeFrom_36 : decode cX3_placeFrom 36 = .ok (.iload 8, 2) := by decide +kernel
theorem dX3_placeFrom_38 : decode cX3_placeFrom 38 = .ok (.goto 4, 3) := by decide +kernel
theorem dX3_placeFrom_41 : decode cX3_placeFrom 41 = .ok (.iconst 0, 1) := by decide +kernel
theorem dX3_placeFrom_42 : decode cX3_placeFrom 42 = .ok (.ireturn, 1) := by decide +kernel
theorem dX3_runFrom_0 : decode cX3_runFrom 0 = .ok (.iload_n 1, 1) := by decide +kernel
theorem dX3_runFrom_1 : decode cX3_runFrom 1 = .ok (.istore 5, 2) := by decide +kernel
theorem dX3_runFrom_3 : decode cX3_runFrom 3 = .ok (.iload 5, 2) := by decide +kernel
theorem dX3_runFrom_5 : decode cX3_runFrom 5 = .ok (.aload_n 0, 1) := by decide +kernel
theorem dX3_runFrom_6 : decode cX3_runFrom 6 = .ok (.getfield 21, 3) := by decide +kernel
theorem dX3_runFrom_9 : decode cX3_runFrom 9 = .ok (.if_icmp .ge 51, 3) := by decide +kernel
theorem dX3_runFrom_12 : decode cX3_runFrom 12 = .ok (.iload 4, 2) := by decide +kernel
theorem dX3_runFrom_14 : decode cX3_runFrom 14 = .ok (.ifCond .eq 23, 3) := by decide +kernel
theorem dX3_runFrom_17 : decode cX3_runFrom 17 = .ok (.aload_n 0, 1) := by decide +kernel
theorem dX3_runFrom_18 : decode cX3_runFrom 18 = .ok (.getfield 11, 3) := by decide +kernel
theorem dX3_runFrom_21 : decode cX3_runFrom 21 = .ok (.iload 5, 2) := by decide +kernel
theorem dX3_runFrom_23 : decode cX3_runFrom 23 = .ok (.iaload, 1) := by decide +kernel
theorem dX3_runFrom_24 : decode cX3_runFrom 24 = .ok (.i2l, 1) := by decide +kernel
theorem dX3_runFrom_25 : decode cX3_runFrom 25 = .ok (.ldc2_w 25, 3) := by decide +kernel
theorem dX3_runFrom_28 : decode cX3_runFrom 28 = .ok (.lmul, 1) := by decide +kernel
theorem dX3_runFrom_29 : decode cX3_runFrom 29 = .ok (.lload_n 2, 1) := by decide +kernel
theorem dX3_runFrom_30 : decode cX3_runFrom 30 = .ok (.lcmp, 1) := by decide +kernel
theorem dX3_runFrom_31 : decode cX3_runFrom 31 = .ok (.ifCond .lt 29, 3) := by decide +kernel
theorem dX3_runFrom_34 : decode cX3_runFrom 34 = .ok (.goto 20, 3) := by decide +kernel
theorem dX3_runFrom_37 : decode cX3_runFrom 37 = .ok (.aload_n 0, 1) := by decide +kernel
theorem dX3_runFrom_38 : decode cX3_runFrom 38 = .ok (.getfield 11, 3) := by decide +kernel
theorem dX3_runFrom_41 : decode cX3_runFrom 41 = .ok (.iload 5, 2) := by decide +kernel
theorem dX3_runFrom_43 : decode cX3_runFrom 43 = .ok (.iaload, 1) := by decide +kernel
theorem dX3_runFrom_44 : decode cX3_runFrom 44 = .ok (.i2l, 1) := by decide +kernel
theorem dX3_runFrom_45 : decode cX3_runFrom 45 = .ok (.ldc2_w 25, 3) := by decide +kernel
theorem dX3_runFrom_48 : decode cX3_runFrom 48 = .ok (.lmul, 1) := by decide +kernel
theorem dX3_runFrom_49 : decode cX3_runFrom 49 = .ok (.lload_n 2, 1) := by decide +kernel
theorem dX3_runFrom_50 : decode cX3_runFrom 50 = .ok (.lcmp, 1) := by decide +kernel
theorem dX3_runFrom_51 : decode cX3_runFrom 51 = .ok (.ifCond .gt 9, 3) := by decide +kernel
theorem dX3_runFrom_54 : decode cX3_runFrom 54 = .ok (.iinc 5 1, 3) := by decide +kernel
theorem dX3_runFrom_57 : decode cX3_runFrom 57 = .ok (.goto (-54), 3) := by decide +kernel
theorem dX3_runFrom_60 : decode cX3_runFrom 60 = .ok (.iload 5, 2) := by decide +kernel
theorem dX3_runFrom_62 : decode cX3_runFrom 62 = .ok (.iload_n 1, 1) := by decide +kernel
theorem dX3_runFrom_63 : decode cX3_runFrom 63 = .ok (.isub, 1) := by decide +kernel
theorem dX3_runFrom_64 : decode cX3_runFrom 64 = .ok (.ireturn, 1) := by decide +kernel
