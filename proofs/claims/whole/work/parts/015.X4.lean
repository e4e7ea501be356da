theorem dX4_init_0 : decode cX4_init 0 = .ok (.aload_n 0, 1) := by decide +kernel
theorem dX4_init_1 : decode cX4_init 1 = .ok (.invokespecial 3, 3) := by decide +kernel
theorem dX4_init_4 : decode cX4_init 4 = .ok (.aload_n 0, 1) := by decide +kernel
theorem dX4_init_5 : decode cX4_init 5 = .ok (.iconst 1, 1) := by decide +kernel
theorem dX4_init_6 : decode cX4_init 6 = .ok (.putfield 9, 3) := by decide +kernel
theorem dX4_init_9 : decode cX4_init 9 = .ok (.aload_n 0, 1) := by decide +kernel
theorem dX4_init_10 : decode cX4_init 10 = .ok (.bipush 12, 2) := by decide +kernel
theorem dX4_init_12 : decode cX4_init 12 = .ok (.newarray .int, 2) := by decide +kernel
theorem dX4_init_14 : decode cX4_init 14 = .ok (.putfield 15, 3) := by decide +kernel
theorem dX4_init_17 : decode cX4_init 17 = .ok (.aload_n 0, 1) := by decide +kernel
theorem dX4_init_18 : decode cX4_init 18 = .ok (.bipush 12, 2) := by decide +kernel
theorem dX4_init_20 : decode cX4_init 20 = .ok (.newarray .int, 2) := by decide +kernel
theorem dX4_init_22 : decode cX4_init 22 = .ok (.putfield 19, 3) := by decide +kernel
theorem dX4_init_25 : decode cX4_init 25 = .ok (.return_, 1) := by decide +kernel
set_option maxRecDepth 20000 in
theorem ggX4_addBale_X5_within : GoodIn wsX4_addBale wsX5_within := goodIn_r _ [7] (by decide +kernel) (by decide +kernel)
set_option maxRecDepth 20000 in
theorem gX4_addBale_X5_within_n24 : GoodIn wsX4_addBale (wsX5_within) := ggX4_addBale_X5_within
theorem dX4_addBale_0 : decode cX4_addBale 0 = .ok (.iload_n 1, 1) := by decide +kernel
theorem dX4_addBale_1 : decode cX4_addBale 1 = .ok (.i2l, 1) := by decide +kernel
theorem dX4_addBale_2 : decode cX4_addBale 2 = .ok (.lconst 0, 1) := by decide +kernel
theorem dX4_addBale_3 : decode cX4_addBale 3 = .ok (.ldc2_w 22, 3) := by decide +kernel
theorem dX4_addBale_6 : decode cX4_addBale 6 = .ok (.invokestatic 24, 3) := by decide +kernel
theorem dX4_addBale_9 : decode cX4_addBale 9 = .ok (.ifCond .ne 6, 3) := by decide +kernel
theorem dX4_addBale_12 : decode cX4_addBale 12 = .ok (.bipush (-2), 2) := by decide +kernel
theorem dX4_addBale_14 : decode cX4_addBale 14 = .ok (.ireturn, 1) := by decide +kernel
theorem dX4_addBale_15 : decode cX4_addBale 15 = .ok (.aload_n 0, 1) := by decide +kernel
theorem dX4_addBale_16 : decode cX4_addBale 16 = .ok (.getfield 28, 3) := by decide +kernel
theorem dX4_addBale_19 : decode cX4_addBale 19 = .ok (.bipush 12, 2) := by decide +kernel
theorem dX4_addBale_21 : decode cX4_addBale 21 = .ok (.if_icmp .lt 6, 3) := by decide +kernel
theorem dX4_addBale_24 : decode cX4_addBale 24 = .ok (.bipush (-4), 2) := by decide +kernel
theorem dX4_addBale_26 : decode cX4_addBale 26 = .ok (.ireturn, 1) := by decide +kernel
theorem dX4_addBale_27 : decode cX4_addBale 27 = .ok (.aload_n 0, 1) := by decide +kernel
theorem dX4_addBale_28 : decode cX4_addBale 28 = .ok (.iconst 0, 1) := by decide +kernel
theorem dX4_addBale_29 : decode cX4_addBale 29 = .ok (.putfield 31, 3) := by decide +kernel
theorem dX4_addBale_32 : decode cX4_addBale 32 = .ok (.aload_n 0, 1) := by decide +kernel
theorem dX4_addBale_33 : decode cX4_addBale 33 = .ok (.getfield 15, 3) := by decide +kernel
theorem dX4_addBale_36 : decode cX4_addBale 36 = .ok (.aload_n 0, 1) := by decide +kernel
theorem dX4_addBale_37 : decode cX4_addBale 37 = .ok (.getfield 28, 3) := by decide +kernel
theorem dX4_addBale_40 : decode cX4_addBale 40 = .ok (.iload_n 1, 1) := by decide +kernel
theorem dX4_addBale_41 : decode cX4_addBale 41 = .ok (.iastore, 1) := by decide +kernel
theorem dX4_addBale_42 : decode cX4_addBale 42 = .ok (.aload_n 0, 1) := by decide +kernel
theorem dX4_addBale_43 : decode cX4_addBale 43 = .ok (.dup, 1) := by decide +kernel
theorem dX4_addBale_44 : decode cX4_addBale 44 = .ok (.getfield 28, 3) := by decide +kernel
theorem dX4_addBale_47 : decode cX4_addBale 47 = .ok (.iconst 1, 1) := by decide +kernel
theorem dX4_addBale_48 : decode cX4_addBale 48 = .ok (.iadd, 1) := by decide +kernel
theorem dX4_addBale_49 : decode cX4_addBale 49 = .ok (.putfield 28, 3) := by decide +kernel
theorem dX4_addBale_52 : decode cX4_addBale 52 = .ok (.aload_n 0, 1) := by decide +kernel
theorem dX4_addBale_53 : decode cX4_addBale 53 = .ok (.getfield 28, 3) := by decide +kernel
theorem dX4_addBale_56 : decode cX4_addBale 56 = .ok (.iconst 1, 1) := by decide +kernel
theorem dX4_addBale_57 : decode cX4_addBale 57 = .ok (.isub, 1) := by decide +kernel
theorem dX4_addBale_58 : decode cX4_addBale 58 = .ok (.ireturn, 1) := by decide +kernel
theorem dX4_removeAll_0 : decode cX4_removeAll 0 = .ok (.aload_n 0, 1) := by decide +kernel
theorem dX4_removeAll_1 : decode cX4_removeAll 1 = .ok (.getfield 28, 3) := by decide +kernel
theorem dX4_removeAll_4 : decode cX4_removeAll 4 = .ok (.istore_n 1, 1) := by decide +kernel
theorem dX4_removeAll_5 : decode cX4_removeAll 5 = .ok (.aload_n 0, 1) := by decide +kernel
theorem dX4_removeAll_6 : decode cX4_removeAll 6 = .ok (.iconst 0, 1) := by decide +kernel
theorem dX4_removeAll_7 : decode cX4_removeAll 7 = .ok (.putfield 28, 3) := by decide +kernel
theorem dX4_removeAll_10 : decode cX4_removeAll 10 = .ok (.aload_n 0, 1) := by decide +kernel
theorem dX4_removeAll_11 : decode cX4_removeAll 11 = .ok (.iconst 0, 1) := by decide +kernel
theorem dX4_removeAll_12 : decode cX4_removeAll 12 = .ok (.putfield 31, 3) := by decide +kernel
theorem dX4_removeAll_15 : decode cX4_removeAll 15 = .ok (.iload_n 1, 1) := by decide +kernel
theorem dX4_removeAll_16 : decode cX4_removeAll 16 = .ok (.ireturn, 1) := by decide +kernel
set_option maxRecDepth 20000 in
theorem ggX4_makePlan_X5_within : GoodIn wsX4_makePlan wsX5_within := goodIn_r _ [12] (by decide +kernel) (by decide +kernel)
set_option maxRecDepth 20000 in
theorem gX4_makePlan_X5_within_n24 : GoodIn wsX4_makePlan (wsX5_within) := ggX4_makePlan_X5_within
set_option maxRecDepth 20000 in
theorem ggX4_makePlan_X4_openLaydown : GoodIn wsX4_makePlan wsX4_openLaydown := goodIn_r _ [17, 4, 18, 5, 19, 20, 21, 22, 16, 23, 6, 7, 9, 10, 11, 12, 13, 14, 15, 24, 25, 26, 27, 8, 28, 29, 30, 31, 32, 33, 34, 35, 36, 37] (by decide +kernel) (by decide +kernel)
set_option maxRecDepth 20000 in
theorem gX4_makePlan_X4_openLaydown : GoodIn wsX4_makePlan (wsV RX4 49 RX4 yX4_openLaydown wsX4_openLaydown) := goodIn_app (goodIn_of _ (by decide +kernel)) ggX4_makePlan_X4_openLaydown
theorem dX4_makePlan_0 : decode cX4_makePlan 0 = .ok (.iload_n 1, 1) := by decide +kernel
theorem dX4_makePlan_1 : decode cX4_makePlan 1 = .ok (.i2l, 1) := by decide +kernel
theorem dX4_makePlan_2 : decode cX4_makePlan 2 = .ok (.lconst 1, 1) := by decide +kernel
theorem dX4_makePlan_3 : decode cX4_makePlan 3 = .ok (.ldc2_w 34, 3) := by decide +kernel
theorem dX4_makePlan_6 : decode cX4_makePlan 6 = .ok (.invokestatic 24, 3) := by decide +kernel
theorem dX4_makePlan_9 : decode cX4_makePlan 9 = .ok (.ifCond .eq 28, 3) := by decide +kernel
theorem dX4_makePlan_12 : decode cX4_makePlan 12 = .ok (.iload_n 2, 1) := by decide +kernel
theorem dX4_makePlan_13 : decode cX4_makePlan 13 = .ok (.i2l, 1) := by decide +kernel
theorem dX4_makePlan_14 : decode cX4_makePlan 14 = .ok (.lconst 0, 1) := by decide +kernel
theorem dX4_makePlan_15 : decode cX4_makePlan 15 = .ok (.ldc2_w 22, 3) := by decide +kernel
theorem dX4_makePlan_18 : decode cX4_makePlan 18 = .ok (.invokestatic 24, 3) := by decide +kernel
theorem dX4_makePlan_21 : decode cX4_makePlan 21 = .ok (.ifCond .eq 16, 3) := by decide +kernel
theorem dX4_makePlan_24 : decode cX4_makePlan 24 = .ok (.iload_n 3, 1) := by decide +kernel
theorem dX4_makePlan_25 : decode cX4_makePlan 25 = .ok (.i2l, 1) := by decide +kernel
theorem dX4_makePlan_26 : decode cX4_makePlan 26 = .ok (.iload_n 2, 1) := by decide +kernel
theorem dX4_makePlan_27 : decode cX4_makePlan 27 = .ok (.i2l, 1) := by decide +kernel
theorem dX4_makePlan_28 : decode cX4_makePlan 28 = .ok (.ldc2_w 22, 3) := by decide +kernel
theorem dX4_makePlan_31 : decode cX4_makePlan 31 = .ok (.invokestatic 24, 3) := by decide +kernel
theorem dX4_makePlan_34 : decode cX4_makePlan 34 = .ok (.ifCond .ne 6, 3) := by decide +kernel
theorem dX4_makePlan_37 : decode cX4_makePlan 37 = .ok (.bipush (-2), 2) := by decide +kernel
theorem dX4_makePlan_39 : decode cX4_makePlan 39 = .ok (.ireturn, 1) := by decide +kernel
theorem dX4_makePlan_40 : decode cX4_makePlan 40 = .ok (.aload_n 0, 1) := by decide +kernel
theorem dX4_makePlan_41 : decode cX4_makePlan 41 = .ok (.iconst 0, 1) := by decide +kernel
theorem dX4_makePlan_42 : decode cX4_makePlan 42 = .ok (.putfield 31, 3) := by decide +kernel
theorem dX4_makePlan_45 : decode cX4_makePlan 45 = .ok (.aload_n 0, 1) := by decide +kernel
theorem dX4_makePlan_46 : decode cX4_makePlan 46 = .ok (.getfield 28, 3) := by decide +kernel
theorem dX4_makePlan_49 : decode cX4_makePlan 49 = .ok (.iload_n 1, 1) := by decide +kernel
theorem dX4_makePlan_50 : decode cX4_makePlan 50 = .ok (.irem, 1) := by decide +kernel
theorem dX4_makePlan_51 : decode cX4_makePlan 51 = .ok (.ifCond .eq 6, 3) := by decide +kernel
theorem dX4_makePlan_54 : decode cX4_makePlan 54 = .ok (.bipush (-3), 2) := by decide +kernel
theorem dX4_makePlan_56 : decode cX4_makePlan 56 = .ok (.ireturn, 1) := by decide +kernel
theorem dX4_makePlan_57 : decode cX4_makePlan 57 = .ok (.aload_n 0, 1) := by decide +kernel
theorem dX4_makePlan_58 : decode cX4_makePlan 58 = .ok (.iload_n 1, 1) := by decide +kernel
theorem dX4_makePlan_59 : decode cX4_makePlan 59 = .ok (.putfield 9, 3) := by decide +kernel
theorem dX4_makePlan_62 : decode cX4_makePlan 62 = .ok (.aload_n 0, 1) := by decide +kernel
theorem dX4_makePlan_63 : decode cX4_makePlan 63 = .ok (.iload_n 1, 1) := by decide +kernel
theorem dX4_makePlan_64 : decode cX4_makePlan 64 = .ok (.iload_n 2, 1) := by decide +kernel
theorem dX4_makePlan_65 : decode cX4_makePlan 65 = .ok (.imul, 1) := by decide +kernel
theorem dX4_makePlan_66 : decode cX4_makePlan 66 = .ok (.putfield 36, 3) := by decide +kernel
theorem dX4_makePlan_69 : decode cX4_makePlan 69 = .ok (.aload_n 0, 1) := by decide +kernel
theorem dX4_makePlan_70 : decode cX4_makePlan 70 = .ok (.iload_n 1, 1) := by decide +kernel
theorem dX4_makePlan_71 : decode cX4_makePlan 71 = .ok (.iload_n 3, 1) := by decide +kernel
theorem dX4_makePlan_72 : decode cX4_makePlan 72 = .ok (.imul, 1) := by decide +kernel
theorem dX4_makePlan_73 : decode cX4_makePlan 73 = .ok (.putfield 39, 3) := by decide +kernel
theorem dX4_makePlan_76 : decode cX4_makePlan 76 = .ok (.aload_n 0, 1) := by decide +kernel
theorem dX4_makePlan_77 : decode cX4_makePlan 77 = .ok (.iconst 0, 1) := by decide +kernel
theorem dX4_makePlan_78 : decode cX4_makePlan 78 = .ok (.putfield 42, 3) := by decide +kernel
theorem dX4_makePlan_81 : decode cX4_makePlan 81 = .ok (.aload_n 0, 1) := by decide +kernel
theorem dX4_makePlan_82 : decode cX4_makePlan 82 = .ok (.iconst 0, 1) := by decide +kernel
theorem dX4_makePlan_83 : decode cX4_makePlan 83 = .ok (.putfield 45, 3) := by decide +kernel
theorem dX4_makePlan_86 : decode cX4_makePlan 86 = .ok (.aload_n 0, 1) := by decide +kernel
theorem dX4_makePlan_87 : decode cX4_makePlan 87 = .ok (.iconst 0, 1) := by decide +kernel
theorem dX4_makePlan_88 : decode cX4_makePlan 88 = .ok (.iconst 0, 1) := by decide +kernel
theorem dX4_makePlan_89 : decode cX4_makePlan 89 = .ok (.invokevirtual 49, 3) := by decide +kernel
theorem dX4_makePlan_92 : decode cX4_makePlan 92 = .ok (.ifCond .ne 17, 3) := by decide +kernel
theorem dX4_makePlan_95 : decode cX4_makePlan 95 = .ok (.aload_n 0, 1) := by decide +kernel
theorem dX4_makePlan_96 : decode cX4_makePlan 96 = .ok (.getfield 45, 3) := by decide +kernel
theorem dX4_makePlan_99 : decode cX4_makePlan 99 = .ok (.ifCond .eq 8, 3) := by decide +kernel
theorem dX4_makePlan_102 : decode cX4_makePlan 102 = .ok (.bipush (-5), 2) := by decide +kernel
theorem dX4_makePlan_104 : decode cX4_makePlan 104 = .ok (.goto 4, 3) := by decide +kernel
theorem dX4_makePlan_107 : decode cX4_makePlan 107 = .ok (.iconst (-1), 1) := by decide +kernel
theorem dX4_makePlan_108 : decode cX4_makePlan 108 = .ok (.ireturn, 1) := by decide +kernel
theorem dX4_makePlan_109 : decode cX4_makePlan 109 = .ok (.aload_n 0, 1) := by decide +kernel
theorem dX4_makePlan_110 : decode cX4_makePlan 110 = .ok (.aload_n 0, 1) := by decide +kernel
theorem dX4_makePlan_111 : decode cX4_makePlan 111 = .ok (.getfield 28, 3) := by decide +kernel
theorem dX4_makePlan_114 : decode cX4_makePlan 114 = .ok (.iload_n 1, 1) := by decide +kernel
theorem dX4_makePlan_115 : decode cX4_makePlan 115 = .ok (.idiv, 1) := by decide +kernel
theorem dX4_makePlan_116 : decode cX4_makePlan 116 = .ok (.putfield 31, 3) := by decide +kernel
theorem dX4_makePlan_119 : decode cX4_makePlan 119 = .ok (.aload_n 0, 1) := by decide +kernel
theorem dX4_makePlan_120 : decode cX4_makePlan 120 = .ok (.getfield 31, 3) := by decide +kernel
theorem dX4_makePlan_123 : decode cX4_makePlan 123 = .ok (.ireturn, 1) := by decide +kernel
set_option maxRecDepth 20000 in
theorem ggX4_planned_X5_within : GoodIn wsX4_planned wsX5_within := goodIn_r _ [6] (by decide +kernel) (by decide +kernel)
set_option maxRecDepth 20000 in
theorem gX4_planned_X5_within_n24 : GoodIn wsX4_planned (wsX5_within) := ggX4_planned_X5_within
theorem dX4_planned_0 : decode cX4_planned 0 = .ok (.iload_n 1, 1) := by decide +kernel
theorem dX4_planned_1 : decode cX4_planned 1 = .ok (.i2l, 1) := by decide +kernel
theorem dX4_planned_2 : decode cX4_planned 2 = .ok (.lconst 0, 1) := by decide +kernel
theorem dX4_planned_3 : decode cX4_planned 3 = .ok (.aload_n 0, 1) := by decide +kernel
theorem dX4_planned_4 : decode cX4_planned 4 = .ok (.getfield 31, 3) := by decide +kernel
theorem dX4_planned_7 : decode cX4_planned 7 = .ok (.iconst 1, 1) := by decide +kernel
theorem dX4_planned_8 : decode cX4_planned 8 = .ok (.isub, 1) := by decide +kernel
theorem dX4_planned_9 : decode cX4_planned 9 = .ok (.i2l, 1) := by decide +kernel
theorem dX4_planned_10 : decode cX4_planned 10 = .ok (.invokestatic 24, 3) := by decide +kernel
theorem dX4_planned_13 : decode cX4_planned 13 = .ok (.ifCond .eq 35, 3) := by decide +kernel
theorem dX4_planned_16 : decode cX4_planned 16 = .ok (.iload_n 2, 1) := by decide +kernel
theorem dX4_planned_17 : decode cX4_planned 17 = .ok (.i2l, 1) := by decide +kernel
theorem dX4_planned_18 : decode cX4_planned 18 = .ok (.lconst 0, 1) := by decide +kernel
theorem dX4_planned_19 : decode cX4_planned 19 = .ok (.aload_n 0, 1) := by decide +kernel
theorem dX4_planned_20 : decode cX4_planned 20 = .ok (.getfield 9, 3) := by decide +kernel
theorem dX4_planned_23 : decode cX4_planned 23 = .ok (.iconst 1, 1) := by decide +kernel
theorem dX4_planned_24 : decode cX4_planned 24 = .ok (.isub, 1) := by decide +kernel
theorem dX4_planned_25 : decode cX4_planned 25 = .ok (.i2l, 1) := by decide +kernel
theorem dX4_planned_26 : decode cX4_planned 26 = .ok (.invokestatic 24, 3) := by decide +kernel
theorem dX4_planned_29 : decode cX4_planned 29 = .ok (.ifCond .eq 19, 3) := by decide +kernel
theorem dX4_planned_32 : decode cX4_planned 32 = .ok (.aload_n 0, 1) := by decide +kernel
theorem dX4_planned_33 : decode cX4_planned 33 = .ok (.getfield 19, 3) := by decide +kernel
theorem dX4_planned_36 : decode cX4_planned 36 = .ok (.iload_n 1, 1) := by decide +kernel
theorem dX4_planned_37 : decode cX4_planned 37 = .ok (.aload_n 0, 1) := by decide +kernel
theorem dX4_planned_38 : decode cX4_planned 38 = .ok (.getfield 9, 3) := by decide +kernel
theorem dX4_planned_41 : decode cX4_planned 41 = .ok (.imul, 1) := by decide +kernel
theorem dX4_planned_42 : decode cX4_planned 42 = .ok (.iload_n 2, 1) := by decide +kernel
theorem dX4_planned_43 : decode cX4_planned 43 = .ok (.iadd, 1) := by decide +kernel
theorem dX4_planned_44 : decode cX4_planned 44 = .ok (.iaload, 1) := by decide +kernel
theorem dX4_planned_45 : decode cX4_planned 45 = .ok (.goto 4, 3) := by decide +kernel
theorem dX4_planned_48 : decode cX4_planned 48 = .ok (.iconst (-1), 1) := by decide +kernel
theorem dX4_planned_49 : decode cX4_planned 49 = .ok (.ireturn, 1) := by decide +kernel
theorem dX4_mixInto_0 : decode cX4_mixInto 0 = .ok (.lload_n 1, 1) := by decide +kernel
theorem dX4_mixInto_1 : decode cX4_mixInto 1 = .ok (.lstore_n 3, 1) := by decide +kernel
theorem dX4_mixInto_2 : decode cX4_mixInto 2 = .ok (.iconst 0, 1) := by decide +kernel
theorem dX4_mixInto_3 : decode cX4_mixInto 3 = .ok (.istore 5, 2) := by decide +kernel
theorem dX4_mixInto_5 : decode cX4_mixInto 5 = .ok (.iload 5, 2) := by decide +kernel
theorem dX4_mixInto_7 : decode cX4_mixInto 7 = .ok (.aload_n 0, 1) := by decide +kernel
theorem dX4_mixInto_8 : decode cX4_mixInto 8 = .ok (.getfield 31, 3) := by decide +kernel
theorem dX4_mixInto_11 : decode cX4_mixInto 11 = .ok (.aload_n 0, 1) := by decide +kernel
theorem dX4_mixInto_12 : decode cX4_mixInto 12 = .ok (.getfield 9, 3) := by decide +kernel
theorem dX4_mixInto_15 : decode cX4_mixInto 15 = .ok (.imul, 1) := by decide +kernel
theorem dX4_mixInto_16 : decode cX4_mixInto 16 = .ok (.if_icmp .ge 24, 3) := by decide +kernel
theorem dX4_mixInto_19 : decode cX4_mixInto 19 = .ok (.ldc2_w 53, 3) := by decide +kernel
theorem dX4_mixInto_22 : decode cX4_mixInto 22 = .ok (.lload_n 3, 1) := by decide +kernel
theorem dX4_mixInto_23 : decode cX4_mixInto 23 = .ok (.lmul, 1) := by decide +kernel
theorem dX4_mixInto_24 : decode cX4_mixInto 24 = .ok (.aload_n 0, 1) := by decide +kernel
theorem dX4_mixInto_25 : decode cX4_mixInto 25 = .ok (.getfield 19, 3) := by decide +kernel
theorem dX4_mixInto_28 : decode cX4_mixInto 28 = .ok (.iload 5, 2) := by decide +kernel
theorem dX4_mixInto_30 : decode cX4_mixInto 30 = .ok (.iaload, 1) := by decide +kernel
theorem dX4_mixInto_31 : decode cX4_mixInto 31 = .ok (.i2l, 1) := by decide +kernel
theorem dX4_mixInto_32 : decode cX4_mixInto 32 = .ok (.ladd, 1) := by decide +kernel
theorem dX4_mixInto_33 : decode cX4_mixInto 33 = .ok (.lstore_n 3, 1) := by decide +kernel
theorem dX4_mixInto_34 : decode cX4_mixInto 34 = .ok (.iinc 5 1, 3) := by decide +kernel
theorem dX4_mixInto_37 : decode cX4_mixInto 37 = .ok (.goto (-32), 3) := by decide +kernel
theorem dX4_mixInto_40 : decode cX4_mixInto 40 = .ok (.lload_n 3, 1) := by decide +kernel
theorem dX4_mixInto_41 : decode cX4_mixInto 41 = .ok (.lreturn, 1) := by decide +kernel
set_option maxRecDepth 20000 in
theorem ggX4_openLaydown_X4_fillLaydown : GoodIn wsX4_openLaydown wsX4_fillLaydown := goodIn_r _ [9, 10, 11, 1, 2, 4, 12, 13, 14, 15, 16, 17, 18, 8, 19, 20, 21, 22, 23, 24, 5, 6, 7, 0, 3, 25, 26, 27, 28, 29, 30, 31, 32, 33] (by decide +kernel) (by decide +kernel)
set_option maxRecDepth 20000 in
theorem gX4_openLaydown_X4_fillLaydown : GoodIn wsX4_openLaydown (wsV RX4 55 RX4 yX4_fillLaydown wsX4_fillLaydown) := goodIn_app (goodIn_of _ (by decide +kernel)) ggX4_openLaydown_X4_fillLaydown
theorem dX4_openLaydown_0 : decode cX4_openLaydown 0 = .ok (.iload_n 1, 1) := by decide +kernel
theorem dX4_openLaydown_1 : decode cX4_openLaydown 1 = .ok (.aload_n 0, 1) := by decide +kernel
theorem dX4_openLaydown_2 : decode cX4_openLaydown 2 = .ok (.getfield 28, 3) := by decide +kernel
theorem dX4_openLaydown_5 : decode cX4_openLaydown 5 = .ok (.if_icmp .lt 5, 3) := by decide +kernel
theorem dX4_openLaydown_8 : decode cX4_openLaydown 8 = .ok (.iconst 1, 1) := by decide +kernel
theorem dX4_openLaydown_9 : decode cX4_openLaydown 9 = .ok (.ireturn, 1) := by decide +kernel
theorem dX4_openLaydown_10 : decode cX4_openLaydown 10 = .ok (.iconst 0, 1) := by decide +kernel
theorem dX4_openLaydown_11 : decode cX4_openLaydown 11 = .ok (.istore_n 3, 1) := by decide +kernel
theorem dX4_openLaydown_12 : decode cX4_openLaydown 12 = .ok (.iload_n 3, 1) := by decide +kernel
theorem dX4_openLaydown_13 : decode cX4_openLaydown 13 = .ok (.aload_n 0, 1) := by decide +kernel
theorem dX4_openLaydown_14 : decode cX4_openLaydown 14 = .ok (.getfield 28, 3) := by decide +kernel
theorem dX4_openLaydown_17 : decode cX4_openLaydown 17 = .ok (.iconst 1, 1) := by decide +kernel
theorem dX4_openLaydown_18 : decode cX4_openLaydown 18 = .ok (.isub, 1) := by decide +kernel
theorem dX4_openLaydown_19 : decode cX4_openLaydown 19 = .ok (.if_icmp .ge 17, 3) := by decide +kernel
theorem dX4_openLaydown_22 : decode cX4_openLaydown 22 = .ok (.iload_n 2, 1) := by decide +kernel
theorem dX4_openLaydown_23 : decode cX4_openLaydown 23 = .ok (.iload_n 3, 1) := by decide +kernel
theorem dX4_openLaydown_24 : decode cX4_openLaydown 24 = .ok (.ishr, 1) := by decide +kernel
theorem dX4_openLaydown_25 : decode cX4_openLaydown 25 = .ok (.iconst 1, 1) := by decide +kernel
theorem dX4_openLaydown_26 : decode cX4_openLaydown 26 = .ok (.iand, 1) := by decide +kernel
theorem dX4_openLaydown_27 : decode cX4_openLaydown 27 = .ok (.ifCond .eq 9, 3) := by decide +kernel
theorem dX4_openLaydown_30 : decode cX4_openLaydown 30 = .ok (.iinc 3 1, 3) := by decide +kernel
theorem dX4_openLaydown_33 : decode cX4_openLaydown 33 = .ok (.goto (-21), 3) := by decide +kernel
theorem dX4_openLaydown_36 : decode cX4_openLaydown 36 = .ok (.aload_n 0, 1) := by decide +kernel
theorem dX4_openLaydown_37 : decode cX4_openLaydown 37 = .ok (.getfield 19, 3) := by decide +kernel
theorem dX4_openLaydown_40 : decode cX4_openLaydown 40 = .ok (.iload_n 1, 1) := by decide +kernel
theorem dX4_openLaydown_41 : decode cX4_openLaydown 41 = .ok (.iload_n 3, 1) := by decide +kernel
theorem dX4_openLaydown_42 : decode cX4_openLaydown 42 = .ok (.iastore, 1) := by decide +kernel
theorem dX4_openLaydown_43 : decode cX4_openLaydown 43 = .ok (.aload_n 0, 1) := by decide +kernel
theorem dX4_openLaydown_44 : decode cX4_openLaydown 44 = .ok (.iload_n 1, 1) := by decide +kernel
theorem dX4_openLaydown_45 : decode cX4_openLaydown 45 = .ok (.iconst 1, 1) := by decide +kernel
theorem dX4_openLaydown_46 : decode cX4_openLaydown 46 = .ok (.iadd, 1) := by decide +kernel
theorem dX4_openLaydown_47 : decode cX4_openLaydown 47 = .ok (.aload_n 0, 1) := by decide +kernel
theorem dX4_openLaydown_48 : decode cX4_openLaydown 48 = .ok (.getfield 9, 3) := by decide +kernel
theorem dX4_openLaydown_51 : decode cX4_openLaydown 51 = .ok (.iconst 1, 1) := by decide +kernel
theorem dX4_openLaydown_52 : decode cX4_openLaydown 52 = .ok (.isub, 1) := by decide +kernel
theorem dX4_openLaydown_53 : decode cX4_openLaydown 53 = .ok (.iload_n 2, 1) := by decide +kernel
theorem dX4_openLaydown_54 : decode cX4_openLaydown 54 = .ok (.iconst 1, 1) := by decide +kernel
theorem dX4_openLaydown_55 : decode cX4_openLaydown 55 = .ok (.iload_n 3, 1) := by decide +kernel
theorem dX4_openLaydown_56 : decode cX4_openLaydown 56 = .ok (.ishl, 1) := by decide +kernel
theorem dX4_openLaydown_57 : decode cX4_openLaydown 57 = .ok (.ior, 1) := by decide +kernel
theorem dX4_openLaydown_58 : decode cX4_openLaydown 58 = .ok (.aload_n 0, 1) := by decide +kernel
theorem dX4_openLaydown_59 : decode cX4_openLaydown 59 = .ok (.getfield 15, 3) := by decide +kernel
theorem dX4_openLaydown_62 : decode cX4_openLaydown 62 = .ok (.iload_n 3, 1) := by decide +kernel
theorem dX4_openLaydown_63 : decode cX4_openLaydown 63 = .ok (.iaload, 1) := by decide +kernel
theorem dX4_openLaydown_64 : decode cX4_openLaydown 64 = .ok (.invokevirtual 55, 3) := by decide +kernel
theorem dX4_openLaydown_67 : decode cX4_openLaydown 67 = .ok (.ireturn, 1) := by decide +kernel
set_option maxRecDepth 20000 in
theorem ggX4_fillLaydown_X5_within : GoodIn wsX4_fillLaydown wsX5_within := goodIn_r _ [9] (by decide +kernel) (by decide +kernel)
set_option maxRecDepth 20000 in
theorem gX4_fillLaydown_X5_within_n24 : GoodIn wsX4_fillLaydown (wsX5_within) := ggX4_fillLaydown_X5_within
set_option maxRecDepth 20000 in
theorem ggX4_fillLaydown_X4_openLaydown : GoodIn wsX4_fillLaydown wsX4_openLaydown := goodIn_r _ [23, 3, 4, 24, 5, 20, 21, 22, 13, 0, 1, 2, 6, 7, 8, 9, 10, 11, 12, 14, 15, 16, 17, 18, 19, 25, 26, 27, 28, 29, 30, 31, 32, 33] (by decide +kernel) (by decide +kernel)
set_option maxRecDepth 20000 in
theorem gX4_fillLaydown_X4_openLaydown : GoodIn wsX4_fillLaydown (wsV RX4 49 RX4 yX4_openLaydown wsX4_openLaydown) := goodIn_app (goodIn_of _ (by decide +kernel)) ggX4_fillLaydown_X4_openLaydown
set_option maxRecDepth 20000 in
theorem ggX4_fillLaydown_X4_countTry : GoodIn wsX4_fillLaydown wsX4_countTry := goodIn_r _ [17, 18, 19, 6, 25, 26, 27, 28, 29, 30, 31, 32, 33] (by decide +kernel) (by decide +kernel)
set_option maxRecDepth 20000 in
theorem gX4_fillLaydown_X4_countTry : GoodIn wsX4_fillLaydown (wsV RX4 59 RX4 yX4_countTry wsX4_countTry) := goodIn_app (goodIn_of _ (by decide +kernel)) ggX4_fillLaydown_X4_countTry
set_option maxRecDepth 20000 in
theorem ggX4_fillLaydown_X4_fillLaydown : GoodIn wsX4_fillLaydown wsX4_fillLaydown := goodIn_r _ [0, 1, 2, 3, 4, 5, 6, 7, 8, 9, 10, 11, 12, 13, 14, 15, 16, 17, 18, 19, 20, 21, 22, 23, 24, 25, 26, 27, 28, 29, 30, 31, 32, 33] (by decide +kernel) (by decide +kernel)
set_option maxRecDepth 20000 in
theorem gX4_fillLaydown_X4_fillLaydown : GoodIn wsX4_fillLaydown (wsV RX4 55 RX4 yX4_fillLaydown wsX4_fillLaydown) := goodIn_app (goodIn_of _ (by decide +kernel)) ggX4_fillLaydown_X4_fillLaydown
theorem dX4_fillLaydown_0 : decode cX4_fillLaydown 0 = .ok (.iload_n 2, 1) := by decide +kernel
theorem dX4_fillLaydown_1 : decode cX4_fillLaydown 1 = .ok (.ifCond .gt 37, 3) := by decide +kernel
theorem dX4_fillLaydown_4 : decode cX4_fillLaydown 4 = .ok (.iload 4, 2) := by decide +kernel
theorem dX4_fillLaydown_6 : decode cX4_fillLaydown 6 = .ok (.i2l, 1) := by decide +kernel
theorem dX4_fillLaydown_7 : decode cX4_fillLaydown 7 = .ok (.aload_n 0, 1) := by decide +kernel
theorem dX4_fillLaydown_8 : decode cX4_fillLaydown 8 = .ok (.getfield 36, 3) := by decide +kernel
theorem dX4_fillLaydown_11 : decode cX4_fillLaydown 11 = .ok (.i2l, 1) := by decide +kernel
theorem dX4_fillLaydown_12 : decode cX4_fillLaydown 12 = .ok (.aload_n 0, 1) := by decide +kernel
theorem dX4_fillLaydown_13 : decode cX4_fillLaydown 13 = .ok (.getfield 39, 3) := by decide +kernel
theorem dX4_fillLaydown_16 : decode cX4_fillLaydown 16 = .ok (.i2l, 1) := by decide +kernel
theorem dX4_fillLaydown_17 : decode cX4_fillLaydown 17 = .ok (.invokestatic 24, 3) := by decide +kernel
theorem dX4_fillLaydown_20 : decode cX4_fillLaydown 20 = .ok (.ifCond .eq 16, 3) := by decide +kernel
theorem dX4_fillLaydown_23 : decode cX4_fillLaydown 23 = .ok (.aload_n 0, 1) := by decide +kernel
theorem dX4_fillLaydown_24 : decode cX4_fillLaydown 24 = .ok (.iload_n 1, 1) := by decide +kernel
theorem dX4_fillLaydown_25 : decode cX4_fillLaydown 25 = .ok (.iload_n 3, 1) := by decide +kernel
theorem dX4_fillLaydown_26 : decode cX4_fillLaydown 26 = .ok (.invokevirtual 49, 3) := by decide +kernel
theorem dX4_fillLaydown_29 : decode cX4_fillLaydown 29 = .ok (.ifCond .eq 7, 3) := by decide +kernel
theorem dX4_fillLaydown_32 : decode cX4_fillLaydown 32 = .ok (.iconst 1, 1) := by decide +kernel
theorem dX4_fillLaydown_33 : decode cX4_fillLaydown 33 = .ok (.goto 4, 3) := by decide +kernel
theorem dX4_fillLaydown_36 : decode cX4_fillLaydown 36 = .ok (.iconst 0, 1) := by decide +kernel
theorem dX4_fillLaydown_37 : decode cX4_fillLaydown 37 = .ok (.ireturn, 1) := by decide +kernel
theorem dX4_fillLaydown_38 : decode cX4_fillLaydown 38 = .ok (.iload_n 1, 1) := by decide +kernel
theorem dX4_fillLaydown_39 : decode cX4_fillLaydown 39 = .ok (.iconst 1, 1) := by decide +kernel
theorem dX4_fillLaydown_40 : decode cX4_fillLaydown 40 = .ok (.if_icmp .lt 11, 3) := by decide +kernel
theorem dX4_fillLaydown_43 : decode cX4_fillLaydown 43 = .ok (.iload_n 1, 1) := by decide +kernel
theorem dX4_fillLaydown_44 : decode cX4_fillLaydown 44 = .ok (.aload_n 0, 1) := by decide +kernel
theorem dX4_fillLaydown_45 : decode cX4_fillLaydown 45 = .ok (.getfield 28, 3) := by decide +kernel
theorem dX4_fillLaydown_48 : decode cX4_fillLaydown 48 = .ok (.if_icmp .lt 5, 3) := by decide +kernel
theorem dX4_fillLaydown_51 : decode cX4_fillLaydown 51 = .ok (.iconst 0, 1) := by decide +kernel
theorem dX4_fillLaydown_52 : decode cX4_fillLaydown 52 = .ok (.ireturn, 1) := by decide +kernel
theorem dX4_fillLaydown_53 : decode cX4_fillLaydown 53 = .ok (.aload_n 0, 1) := by decide +kernel
theorem dX4_fillLaydown_54 : decode cX4_fillLaydown 54 = .ok (.getfield 19, 3) := by decide +kernel
theorem dX4_fillLaydown_57 : decode cX4_fillLaydown 57 = .ok (.iload_n 1, 1) := by decide +kernel
theorem dX4_fillLaydown_58 : decode cX4_fillLaydown 58 = .ok (.iconst 1, 1) := by decide +kernel
theorem dX4_fillLaydown_59 : decode cX4_fillLaydown 59 = .ok (.isub, 1) := by decide +kernel
theorem dX4_fillLaydown_60 : decode cX4_fillLaydown 60 = .ok (.iaload, 1) := by decide +kernel
theorem dX4_fillLaydown_61 : decode cX4_fillLaydown 61 = .ok (.iconst 1, 1) := by decide +kernel
theorem dX4_fillLaydown_62 : decode cX4_fillLaydown 62 = .ok (.iadd, 1) := by decide +kernel
theorem dX4_fillLaydown_63 : decode cX4_fillLaydown 63 = .ok (.istore 5, 2) := by decide +kernel
theorem dX4_fillLaydown_65 : decode cX4_fillLaydown 65 = .ok (.iload 5, 2) := by decide +kernel
theorem dX4_fillLaydown_67 : decode cX4_fillLaydown 67 = .ok (.aload_n 0, 1) := by decide +kernel
theorem dX4_fillLaydown_68 : decode cX4_fillLaydown 68 = .ok (.getfield 28, 3) := by decide +kernel
theorem dX4_fillLaydown_71 : decode cX4_fillLaydown 71 = .ok (.if_icmp .ge 78, 3) := by decide +kernel
theorem dX4_fillLaydown_74 : decode cX4_fillLaydown 74 = .ok (.iload_n 3, 1) := by decide +kernel
theorem dX4_fillLaydown_75 : decode cX4_fillLaydown 75 = .ok (.iload 5, 2) := by decide +kernel
theorem dX4_fillLaydown_77 : decode cX4_fillLaydown 77 = .ok (.ishr, 1) := by decide +kernel
theorem dX4_fillLaydown_78 : decode cX4_fillLaydown 78 = .ok (.iconst 1, 1) := by decide +kernel
theorem dX4_fillLaydown_79 : decode cX4_fillLaydown 79 = .ok (.iand, 1) := by decide +kernel
theorem dX4_fillLaydown_80 : decode cX4_fillLaydown 80 = .ok (.ifCond .eq 6, 3) := by decide +kernel
theorem dX4_fillLaydown_83 : decode cX4_fillLaydown 83 = .ok (.goto 60, 3) := by decide +kernel
theorem dX4_fillLaydown_86 : decode cX4_fillLaydown 86 = .ok (.aload_n 0, 1) := by decide +kernel
theorem dX4_fillLaydown_87 : decode cX4_fillLaydown 87 = .ok (.invokevirtual 59, 3) := by decide +kernel
theorem dX4_fillLaydown_90 : decode cX4_fillLaydown 90 = .ok (.ifCond .ne 5, 3) := by decide +kernel
theorem dX4_fillLaydown_93 : decode cX4_fillLaydown 93 = .ok (.iconst 0, 1) := by decide +kernel
theorem dX4_fillLaydown_94 : decode cX4_fillLaydown 94 = .ok (.ireturn, 1) := by decide +kernel
theorem dX4_fillLaydown_95 : decode cX4_fillLaydown 95 = .ok (.aload_n 0, 1) := by decide +kernel
theorem dX4_fillLaydown_96 : decode cX4_fillLaydown 96 = .ok (.getfield 19, 3) := by decide +kernel
theorem dX4_fillLaydown_99 : decode cX4_fillLaydown 99 = .ok (.iload_n 1, 1) := by decide +kernel
theorem dX4_fillLaydown_100 : decode cX4_fillLaydown 100 = .ok (.iload 5, 2) := by decide +kernel
theorem dX4_fillLaydown_102 : decode cX4_fillLaydown 102 = .ok (.iastore, 1) := by decide +kernel
theorem dX4_fillLaydown_103 : decode cX4_fillLaydown 103 = .ok (.aload_n 0, 1) := by decide +kernel
theorem dX4_fillLaydown_104 : decode cX4_fillLaydown 104 = .ok (.iload_n 1, 1) := by decide +kernel
theorem dX4_fillLaydown_105 : decode cX4_fillLaydown 105 = .ok (.iconst 1, 1) := by decide +kernel
theorem dX4_fillLaydown_106 : decode cX4_fillLaydown 106 = .ok (.iadd, 1) := by decide +kernel
theorem dX4_fillLaydown_107 : decode cX4_fillLaydown 107 = .ok (.iload_n 2, 1) := by decide +kernel
theorem dX4_fillLaydown_108 : decode cX4_fillLaydown 108 = .ok (.iconst 1, 1) := by decide +kernel
theorem dX4_fillLaydown_109 : decode cX4_fillLaydown 109 = .ok (.isub, 1) := by decide +kernel
theorem dX4_fillLaydown_110 : decode cX4_fillLaydown 110 = .ok (.iload_n 3, 1) := by decide +kernel
theorem dX4_fillLaydown_111 : decode cX4_fillLaydown 111 = .ok (.iconst 1, 1) := by decide +kernel
theorem dX4_fillLaydown_112 : decode cX4_fillLaydown 112 = .ok (.iload 5, 2) := by decide +kernel
theorem dX4_fillLaydown_114 : decode cX4_fillLaydown 114 = .ok (.ishl, 1) := by decide +kernel
theorem dX4_fillLaydown_115 : decode cX4_fillLaydown 115 = .ok (.ior, 1) := by decide +kernel
theorem dX4_fillLaydown_116 : decode cX4_fillLaydown 116 = .ok (.iload 4, 2) := by decide +kernel
theorem dX4_fillLaydown_118 : decode cX4_fillLaydown 118 = .ok (.aload_n 0, 1) := by decide +kernel
theorem dX4_fillLaydown_119 : decode cX4_fillLaydown 119 = .ok (.getfield 15, 3) := by decide +kernel
theorem dX4_fillLaydown_122 : decode cX4_fillLaydown 122 = .ok (.iload 5, 2) := by decide +kernel
theorem dX4_fillLaydown_124 : decode cX4_fillLaydown 124 = .ok (.iaload, 1) := by decide +kernel
theorem dX4_fillLaydown_125 : decode cX4_fillLaydown 125 = .ok (.iadd, 1) := by decide +kernel
theorem dX4_fillLaydown_126 : decode cX4_fillLaydown 126 = .ok (.invokevirtual 55, 3) := by decide +kernel
theorem dX4_fillLaydown_129 : decode cX4_fillLaydown 129 = .ok (.ifCond .eq 5, 3) := by decide +kernel
theorem dX4_fillLaydown_132 : decode cX4_fillLaydown 132 = .ok (.iconst 1, 1) := by decide +kernel
theorem dX4_fillLaydown_133 : decode cX4_fillLaydown 133 = .ok (.ireturn, 1) := by decide +kernel
theorem dX4_fillLaydown_134 : decode cX4_fillLaydown 134 = .ok (.aload_n 0, 1) := by decide +kernel
theorem dX4_fillLaydown_135 : decode cX4_fillLaydown 135 = .ok (.getfield 45, 3) := by decide +kernel
theorem dX4_fillLaydown_138 : decode cX4_fillLaydown 138 = .ok (.ifCond .eq 5, 3) := by decide +kernel
theorem dX4_fillLaydown_141 : decode cX4_fillLaydown 141 = .ok (.iconst 0, 1) := by decide +kernel
theorem dX4_fillLaydown_142 : decode cX4_fillLaydown 142 = .ok (.ireturn, 1) := by decide +kernel
theorem dX4_fillLaydown_143 : decode cX4_fillLaydown 143 = .ok (.iinc 5 1, 3) := by decide +kernel
theorem dX4_fillLaydown_146 : decode cX4_fillLaydown 146 = .ok (.goto (-81), 3) := by decide +kernel
theorem dX4_fillLaydown_149 : decode cX4_fillLaydown 149 = .ok (.iconst 0, 1) := by decide +kernel
theorem dX4_fillLaydown_150 : decode cX4_fillLaydown 150 = .ok (.ireturn, 1) := by decide +kernel
theorem dX4_countTry_0 : decode cX4_countTry 0 = .ok (.aload_n 0, 1) := by decide +kernel
theorem dX4_countTry_1 : decode cX4_countTry 1 = .ok (.getfield 42, 3) := by decide +kernel
theorem dX4_countTry_4 : decode cX4_countTry 4 = .ok (.ldc 63, 2) := by decide +kernel
theorem dX4_countTry_6 : decode cX4_countTry 6 = .ok (.if_icmp .lt 10, 3) := by decide +kernel
theorem dX4_countTry_9 : decode cX4_countTry 9 = .ok (.aload_n 0, 1) := by decide +kernel
theorem dX4_countTry_10 : decode cX4_countTry 10 = .ok (.iconst 1, 1) := by decide +kernel
theorem dX4_countTry_11 : decode cX4_countTry 11 = .ok (.putfield 45, 3) := by decide +kernel
theorem dX4_countTry_14 : decode cX4_countTry 14 = .ok (.iconst 0, 1) := by decide +kernel
theorem dX4_countTry_15 : decode cX4_countTry 15 = .ok (.ireturn, 1) := by decide +kernel
theorem dX4_countTry_16 : decode cX4_countTry 16 = .ok (.aload_n 0, 1) := by decide +kernel
theorem dX4_countTry_17 : decode cX4_countTry 17 = .ok (.dup, 1) := by decide +kernel
theorem dX4_countTry_18 : decode cX4_countTry 18 = .ok (.getfield 42, 3) := by decide +kernel
theorem dX4_countTry_21 : decode cX4_countTry 21 = .ok (.iconst 1, 1) := by decide +kernel
theorem dX4_countTry_22 : decode cX4_countTry 22 = .ok (.iadd, 1) := by decide +kernel
theorem dX4_countTry_23 : decode cX4_countTry 23 = .ok (.putfield 42, 3) := by decide +kernel
theorem dX4_countTry_26 : decode cX4_countTry 26 = .ok (.iconst 1, 1) := by decide +kernel
theorem dX4_countTry_27 : decode cX4_countTry 27 = .ok (.ireturn, 1) := by decide +kernel
