theorem dX6_init_0 : decode cX6_init 0 = .ok (.aload_n 0, 1) := by decide +kernel
theorem dX6_init_1 : decode cX6_init 1 = .ok (.invokespecial 1, 3) := by decide +kernel
theorem dX6_init_4 : decode cX6_init 4 = .ok (.aload_n 0, 1) := by decide +kernel
theorem dX6_init_5 : decode cX6_init 5 = .ok (.iconst 1, 1) := by decide +kernel
theorem dX6_init_6 : decode cX6_init 6 = .ok (.putfield 7, 3) := by decide +kernel
theorem dX6_init_9 : decode cX6_init 9 = .ok (.aload_n 0, 1) := by decide +kernel
theorem dX6_init_10 : decode cX6_init 10 = .ok (.iconst 1, 1) := by decide +kernel
theorem dX6_init_11 : decode cX6_init 11 = .ok (.putfield 13, 3) := by decide +kernel
theorem dX6_init_14 : decode cX6_init 14 = .ok (.aload_n 0, 1) := by decide +kernel
theorem dX6_init_15 : decode cX6_init 15 = .ok (.bipush 6, 2) := by decide +kernel
theorem dX6_init_17 : decode cX6_init 17 = .ok (.newarray .int, 2) := by decide +kernel
theorem dX6_init_19 : decode cX6_init 19 = .ok (.putfield 16, 3) := by decide +kernel
theorem dX6_init_22 : decode cX6_init 22 = .ok (.aload_n 0, 1) := by decide +kernel
theorem dX6_init_23 : decode cX6_init 23 = .ok (.bipush 6, 2) := by decide +kernel
theorem dX6_init_25 : decode cX6_init 25 = .ok (.newarray .int, 2) := by decide +kernel
theorem dX6_init_27 : decode cX6_init 27 = .ok (.putfield 20, 3) := by decide +kernel
theorem dX6_init_30 : decode cX6_init 30 = .ok (.aload_n 0, 1) := by decide +kernel
theorem dX6_init_31 : decode cX6_init 31 = .ok (.bipush 6, 2) := by decide +kernel
theorem dX6_init_33 : decode cX6_init 33 = .ok (.newarray .int, 2) := by decide +kernel
theorem dX6_init_35 : decode cX6_init 35 = .ok (.putfield 23, 3) := by decide +kernel
theorem dX6_init_38 : decode cX6_init 38 = .ok (.aload_n 0, 1) := by decide +kernel
theorem dX6_init_39 : decode cX6_init 39 = .ok (.bipush 6, 2) := by decide +kernel
theorem dX6_init_41 : decode cX6_init 41 = .ok (.newarray .int, 2) := by decide +kernel
theorem dX6_init_43 : decode cX6_init 43 = .ok (.putfield 26, 3) := by decide +kernel
theorem dX6_init_46 : decode cX6_init 46 = .ok (.aload_n 0, 1) := by decide +kernel
theorem dX6_init_47 : decode cX6_init 47 = .ok (.bipush 6, 2) := by decide +kernel
theorem dX6_init_49 : decode cX6_init 49 = .ok (.newarray .int, 2) := by decide +kernel
theorem dX6_init_51 : decode cX6_init 51 = .ok (.putfield 29, 3) := by decide +kernel
theorem dX6_init_54 : decode cX6_init 54 = .ok (.aload_n 0, 1) := by decide +kernel
theorem dX6_init_55 : decode cX6_init 55 = .ok (.bipush 18, 2) := by decide +kernel
theorem dX6_init_57 : decode cX6_init 57 = .ok (.newarray .int, 2) := by decide +kernel
theorem dX6_init_59 : decode cX6_init 59 = .ok (.putfield 32, 3) := by decide +kernel
theorem dX6_init_62 : decode cX6_init 62 = .ok (.aload_n 0, 1) := by decide +kernel
theorem dX6_init_63 : decode cX6_init 63 = .ok (.bipush 8, 2) := by decide +kernel
theorem dX6_init_65 : decode cX6_init 65 = .ok (.newarray .int, 2) := by decide +kernel
theorem dX6_init_67 : decode cX6_init 67 = .ok (.putfield 35, 3) := by decide +kernel
theorem dX6_init_70 : decode cX6_init 70 = .ok (.aload_n 0, 1) := by decide +kernel
theorem dX6_init_71 : decode cX6_init 71 = .ok (.sipush 3200, 3) := by decide +kernel
theorem dX6_init_74 : decode cX6_init 74 = .ok (.newarray .int, 2) := by decide +kernel
theorem dX6_init_76 : decode cX6_init 76 = .ok (.putfield 38, 3) := by decide +kernel
theorem dX6_init_79 : decode cX6_init 79 = .ok (.aload_n 0, 1) := by decide +kernel
theorem dX6_init_80 : decode cX6_init 80 = .ok (.sipush 400, 3) := by decide +kernel
theorem dX6_init_83 : decode cX6_init 83 = .ok (.newarray .int, 2) := by decide +kernel
theorem dX6_init_85 : decode cX6_init 85 = .ok (.putfield 41, 3) := by decide +kernel
theorem dX6_init_88 : decode cX6_init 88 = .ok (.aload_n 0, 1) := by decide +kernel
theorem dX6_init_89 : decode cX6_init 89 = .ok (.bipush 12, 2) := by decide +kernel
theorem dX6_init_91 : decode cX6_init 91 = .ok (.newarray .int, 2) := by decide +kernel
theorem dX6_init_93 : decode cX6_init 93 = .ok (.putfield 44, 3) := by decide +kernel
theorem dX6_init_96 : decode cX6_init 96 = .ok (.aload_n 0, 1) := by decide +kernel
theorem dX6_init_97 : decode cX6_init 97 = .ok (.bipush 12, 2) := by decide +kernel
theorem dX6_init_99 : decode cX6_init 99 = .ok (.newarray .int, 2) := by decide +kernel
theorem dX6_init_101 : decode cX6_init 101 = .ok (.putfield 47, 3) := by decide +kernel
theorem dX6_init_104 : decode cX6_init 104 = .ok (.return_, 1) := by decide +kernel
theorem dX6_in_0 : decode cX6_in 0 = .ok (.lload_n 0, 1) := by decide +kernel
theorem dX6_in_1 : decode cX6_in 1 = .ok (.lload_n 2, 1) := by decide +kernel
theorem dX6_in_2 : decode cX6_in 2 = .ok (.lcmp, 1) := by decide +kernel
theorem dX6_in_3 : decode cX6_in 3 = .ok (.ifCond .lt 14, 3) := by decide +kernel
theorem dX6_in_6 : decode cX6_in 6 = .ok (.lload_n 0, 1) := by decide +kernel
theorem dX6_in_7 : decode cX6_in 7 = .ok (.lload 4, 2) := by decide +kernel
theorem dX6_in_9 : decode cX6_in 9 = .ok (.lcmp, 1) := by decide +kernel
theorem dX6_in_10 : decode cX6_in 10 = .ok (.ifCond .gt 7, 3) := by decide +kernel
theorem dX6_in_13 : decode cX6_in 13 = .ok (.iconst 1, 1) := by decide +kernel
theorem dX6_in_14 : decode cX6_in 14 = .ok (.goto 4, 3) := by decide +kernel
theorem dX6_in_17 : decode cX6_in 17 = .ok (.iconst 0, 1) := by decide +kernel
theorem dX6_in_18 : decode cX6_in 18 = .ok (.ireturn, 1) := by decide +kernel
theorem dX6_common_0 : decode cX6_common 0 = .ok (.lload_n 0, 1) := by decide +kernel
theorem dX6_common_1 : decode cX6_common 1 = .ok (.lstore 4, 2) := by decide +kernel
theorem dX6_common_3 : decode cX6_common 3 = .ok (.lload_n 2, 1) := by decide +kernel
theorem dX6_common_4 : decode cX6_common 4 = .ok (.lstore 6, 2) := by decide +kernel
theorem dX6_common_6 : decode cX6_common 6 = .ok (.lload 6, 2) := by decide +kernel
theorem dX6_common_8 : decode cX6_common 8 = .ok (.lconst 0, 1) := by decide +kernel
theorem dX6_common_9 : decode cX6_common 9 = .ok (.lcmp, 1) := by decide +kernel
theorem dX6_common_10 : decode cX6_common 10 = .ok (.ifCond .eq 21, 3) := by decide +kernel
theorem dX6_common_13 : decode cX6_common 13 = .ok (.lload 4, 2) := by decide +kernel
theorem dX6_common_15 : decode cX6_common 15 = .ok (.lload 6, 2) := by decide +kernel
theorem dX6_common_17 : decode cX6_common 17 = .ok (.lrem, 1) := by decide +kernel
theorem dX6_common_18 : decode cX6_common 18 = .ok (.lstore 8, 2) := by decide +kernel
theorem dX6_common_20 : decode cX6_common 20 = .ok (.lload 6, 2) := by decide +kernel
theorem dX6_common_22 : decode cX6_common 22 = .ok (.lstore 4, 2) := by decide +kernel
theorem dX6_common_24 : decode cX6_common 24 = .ok (.lload 8, 2) := by decide +kernel
theorem dX6_common_26 : decode cX6_common 26 = .ok (.lstore 6, 2) := by decide +kernel
theorem dX6_common_28 : decode cX6_common 28 = .ok (.goto (-22), 3) := by decide +kernel
theorem dX6_common_31 : decode cX6_common 31 = .ok (.lload 4, 2) := by decide +kernel
theorem dX6_common_33 : decode cX6_common 33 = .ok (.lreturn, 1) := by decide +kernel
set_option maxRecDepth 20000 in
theorem ggX6_count_X6_in : GoodIn wsX6_count wsX6_in := goodIn_r _ [7] (by decide +kernel) (by decide +kernel)
set_option maxRecDepth 20000 in
theorem gX6_count_X6_in : GoodIn wsX6_count (va_wsS RX6 52 yX6_in wsX6_in) := goodIn_app (goodIn_of _ (by decide +kernel)) ggX6_count_X6_in
theorem dX6_count_0 : decode cX6_count 0 = .ok (.iload_n 1, 1) := by decide +kernel
theorem dX6_count_1 : decode cX6_count 1 = .ok (.i2l, 1) := by decide +kernel
theorem dX6_count_2 : decode cX6_count 2 = .ok (.lconst 1, 1) := by decide +kernel
theorem dX6_count_3 : decode cX6_count 3 = .ok (.ldc2_w 50, 3) := by decide +kernel
theorem dX6_count_6 : decode cX6_count 6 = .ok (.invokestatic 52, 3) := by decide +kernel
theorem dX6_count_9 : decode cX6_count 9 = .ok (.ifCond .eq 15, 3) := by decide +kernel
theorem dX6_count_12 : decode cX6_count 12 = .ok (.iload_n 2, 1) := by decide +kernel
theorem dX6_count_13 : decode cX6_count 13 = .ok (.i2l, 1) := by decide +kernel
theorem dX6_count_14 : decode cX6_count 14 = .ok (.lconst 1, 1) := by decide +kernel
theorem dX6_count_15 : decode cX6_count 15 = .ok (.ldc2_w 50, 3) := by decide +kernel
theorem dX6_count_18 : decode cX6_count 18 = .ok (.invokestatic 52, 3) := by decide +kernel
theorem dX6_count_21 : decode cX6_count 21 = .ok (.ifCond .ne 6, 3) := by decide +kernel
theorem dX6_count_24 : decode cX6_count 24 = .ok (.bipush (-2), 2) := by decide +kernel
theorem dX6_count_26 : decode cX6_count 26 = .ok (.ireturn, 1) := by decide +kernel
theorem dX6_count_27 : decode cX6_count 27 = .ok (.aload_n 0, 1) := by decide +kernel
theorem dX6_count_28 : decode cX6_count 28 = .ok (.iload_n 1, 1) := by decide +kernel
theorem dX6_count_29 : decode cX6_count 29 = .ok (.putfield 7, 3) := by decide +kernel
theorem dX6_count_32 : decode cX6_count 32 = .ok (.aload_n 0, 1) := by decide +kernel
theorem dX6_count_33 : decode cX6_count 33 = .ok (.iload_n 2, 1) := by decide +kernel
theorem dX6_count_34 : decode cX6_count 34 = .ok (.putfield 13, 3) := by decide +kernel
theorem dX6_count_37 : decode cX6_count 37 = .ok (.iconst 1, 1) := by decide +kernel
theorem dX6_count_38 : decode cX6_count 38 = .ok (.ireturn, 1) := by decide +kernel
set_option maxRecDepth 20000 in
theorem ggX6_machine_X6_in : GoodIn wsX6_machine wsX6_in := goodIn_r _ [14] (by decide +kernel) (by decide +kernel)
set_option maxRecDepth 20000 in
theorem gX6_machine_X6_in : GoodIn wsX6_machine (va_wsS RX6 52 yX6_in wsX6_in) := goodIn_app (goodIn_of _ (by decide +kernel)) ggX6_machine_X6_in
theorem dX6_machine_0 : decode cX6_machine 0 = .ok (.iload_n 1, 1) := by decide +kernel
theorem dX6_machine_1 : decode cX6_machine 1 = .ok (.i2l, 1) := by decide +kernel
theorem dX6_machine_2 : decode cX6_machine 2 = .ok (.lconst 1, 1) := by decide +kernel
theorem dX6_machine_3 : decode cX6_machine 3 = .ok (.ldc2_w 56, 3) := by decide +kernel
theorem dX6_machine_6 : decode cX6_machine 6 = .ok (.invokestatic 52, 3) := by decide +kernel
theorem dX6_machine_9 : decode cX6_machine 9 = .ok (.ifCond .eq 40, 3) := by decide +kernel
theorem dX6_machine_12 : decode cX6_machine 12 = .ok (.iload_n 2, 1) := by decide +kernel
theorem dX6_machine_13 : decode cX6_machine 13 = .ok (.i2l, 1) := by decide +kernel
theorem dX6_machine_14 : decode cX6_machine 14 = .ok (.lconst 1, 1) := by decide +kernel
theorem dX6_machine_15 : decode cX6_machine 15 = .ok (.ldc2_w 58, 3) := by decide +kernel
theorem dX6_machine_18 : decode cX6_machine 18 = .ok (.invokestatic 52, 3) := by decide +kernel
theorem dX6_machine_21 : decode cX6_machine 21 = .ok (.ifCond .eq 28, 3) := by decide +kernel
theorem dX6_machine_24 : decode cX6_machine 24 = .ok (.iload_n 3, 1) := by decide +kernel
theorem dX6_machine_25 : decode cX6_machine 25 = .ok (.i2l, 1) := by decide +kernel
theorem dX6_machine_26 : decode cX6_machine 26 = .ok (.lconst 1, 1) := by decide +kernel
theorem dX6_machine_27 : decode cX6_machine 27 = .ok (.ldc2_w 60, 3) := by decide +kernel
theorem dX6_machine_30 : decode cX6_machine 30 = .ok (.invokestatic 52, 3) := by decide +kernel
theorem dX6_machine_33 : decode cX6_machine 33 = .ok (.ifCond .eq 16, 3) := by decide +kernel
theorem dX6_machine_36 : decode cX6_machine 36 = .ok (.iload 4, 2) := by decide +kernel
theorem dX6_machine_38 : decode cX6_machine 38 = .ok (.i2l, 1) := by decide +kernel
theorem dX6_machine_39 : decode cX6_machine 39 = .ok (.lconst 0, 1) := by decide +kernel
theorem dX6_machine_40 : decode cX6_machine 40 = .ok (.ldc2_w 62, 3) := by decide +kernel
theorem dX6_machine_43 : decode cX6_machine 43 = .ok (.invokestatic 52, 3) := by decide +kernel
theorem dX6_machine_46 : decode cX6_machine 46 = .ok (.ifCond .ne 6, 3) := by decide +kernel
theorem dX6_machine_49 : decode cX6_machine 49 = .ok (.bipush (-2), 2) := by decide +kernel
theorem dX6_machine_51 : decode cX6_machine 51 = .ok (.ireturn, 1) := by decide +kernel
theorem dX6_machine_52 : decode cX6_machine 52 = .ok (.aload_n 0, 1) := by decide +kernel
theorem dX6_machine_53 : decode cX6_machine 53 = .ok (.getfield 64, 3) := by decide +kernel
theorem dX6_machine_56 : decode cX6_machine 56 = .ok (.bipush 6, 2) := by decide +kernel
theorem dX6_machine_58 : decode cX6_machine 58 = .ok (.if_icmp .ne 6, 3) := by decide +kernel
theorem dX6_machine_61 : decode cX6_machine 61 = .ok (.bipush (-4), 2) := by decide +kernel
theorem dX6_machine_63 : decode cX6_machine 63 = .ok (.ireturn, 1) := by decide +kernel
theorem dX6_machine_64 : decode cX6_machine 64 = .ok (.aload_n 0, 1) := by decide +kernel
theorem dX6_machine_65 : decode cX6_machine 65 = .ok (.getfield 16, 3) := by decide +kernel
theorem dX6_machine_68 : decode cX6_machine 68 = .ok (.aload_n 0, 1) := by decide +kernel
theorem dX6_machine_69 : decode cX6_machine 69 = .ok (.getfield 64, 3) := by decide +kernel
theorem dX6_machine_72 : decode cX6_machine 72 = .ok (.iload_n 1, 1) := by decide +kernel
theorem dX6_machine_73 : decode cX6_machine 73 = .ok (.iastore, 1) := by decide +kernel
theorem dX6_machine_74 : decode cX6_machine 74 = .ok (.aload_n 0, 1) := by decide +kernel
theorem dX6_machine_75 : decode cX6_machine 75 = .ok (.getfield 20, 3) := by decide +kernel
theorem dX6_machine_78 : decode cX6_machine 78 = .ok (.aload_n 0, 1) := by decide +kernel
theorem dX6_machine_79 : decode cX6_machine 79 = .ok (.getfield 64, 3) := by decide +kernel
theorem dX6_machine_82 : decode cX6_machine 82 = .ok (.iload_n 2, 1) := by decide +kernel
theorem dX6_machine_83 : decode cX6_machine 83 = .ok (.iastore, 1) := by decide +kernel
theorem dX6_machine_84 : decode cX6_machine 84 = .ok (.aload_n 0, 1) := by decide +kernel
theorem dX6_machine_85 : decode cX6_machine 85 = .ok (.getfield 23, 3) := by decide +kernel
theorem dX6_machine_88 : decode cX6_machine 88 = .ok (.aload_n 0, 1) := by decide +kernel
theorem dX6_machine_89 : decode cX6_machine 89 = .ok (.getfield 64, 3) := by decide +kernel
theorem dX6_machine_92 : decode cX6_machine 92 = .ok (.iload_n 3, 1) := by decide +kernel
theorem dX6_machine_93 : decode cX6_machine 93 = .ok (.iastore, 1) := by decide +kernel
theorem dX6_machine_94 : decode cX6_machine 94 = .ok (.aload_n 0, 1) := by decide +kernel
theorem dX6_machine_95 : decode cX6_machine 95 = .ok (.getfield 26, 3) := by decide +kernel
theorem dX6_machine_98 : decode cX6_machine 98 = .ok (.aload_n 0, 1) := by decide +kernel
theorem dX6_machine_99 : decode cX6_machine 99 = .ok (.getfield 64, 3) := by decide +kernel
theorem dX6_machine_102 : decode cX6_machine 102 = .ok (.iload 4, 2) := by decide +kernel
theorem dX6_machine_104 : decode cX6_machine 104 = .ok (.iastore, 1) := by decide +kernel
theorem dX6_machine_105 : decode cX6_machine 105 = .ok (.aload_n 0, 1) := by decide +kernel
theorem dX6_machine_106 : decode cX6_machine 106 = .ok (.getfield 29, 3) := by decide +kernel
theorem dX6_machine_109 : decode cX6_machine 109 = .ok (.aload_n 0, 1) := by decide +kernel
theorem dX6_machine_110 : decode cX6_machine 110 = .ok (.getfield 64, 3) := by decide +kernel
theorem dX6_machine_113 : decode cX6_machine 113 = .ok (.iconst 0, 1) := by decide +kernel
theorem dX6_machine_114 : decode cX6_machine 114 = .ok (.iastore, 1) := by decide +kernel
theorem dX6_machine_115 : decode cX6_machine 115 = .ok (.aload_n 0, 1) := by decide +kernel
theorem dX6_machine_116 : decode cX6_machine 116 = .ok (.dup, 1) := by decide +kernel
theorem dX6_machine_117 : decode cX6_machine 117 = .ok (.getfield 64, 3) := by decide +kernel
theorem dX6_machine_120 : decode cX6_machine 120 = .ok (.iconst 1, 1) := by decide +kernel
theorem dX6_machine_121 : decode cX6_machine 121 = .ok (.iadd, 1) := by decide +kernel
theorem dX6_machine_122 : decode cX6_machine 122 = .ok (.putfield 64, 3) := by decide +kernel
theorem dX6_machine_125 : decode cX6_machine 125 = .ok (.aload_n 0, 1) := by decide +kernel
theorem dX6_machine_126 : decode cX6_machine 126 = .ok (.getfield 64, 3) := by decide +kernel
theorem dX6_machine_129 : decode cX6_machine 129 = .ok (.iconst 1, 1) := by decide +kernel
theorem dX6_machine_130 : decode cX6_machine 130 = .ok (.isub, 1) := by decide +kernel
theorem dX6_machine_131 : decode cX6_machine 131 = .ok (.ireturn, 1) := by decide +kernel
set_option maxRecDepth 20000 in
theorem ggX6_isMachine_X6_in : GoodIn wsX6_isMachine wsX6_in := goodIn_r _ [5] (by decide +kernel) (by decide +kernel)
set_option maxRecDepth 20000 in
theorem gX6_isMachine_X6_in : GoodIn wsX6_isMachine (va_wsS RX6 52 yX6_in wsX6_in) := goodIn_app (goodIn_of _ (by decide +kernel)) ggX6_isMachine_X6_in
theorem dX6_isMachine_0 : decode cX6_isMachine 0 = .ok (.iload_n 1, 1) := by decide +kernel
theorem dX6_isMachine_1 : decode cX6_isMachine 1 = .ok (.i2l, 1) := by decide +kernel
theorem dX6_isMachine_2 : decode cX6_isMachine 2 = .ok (.lconst 0, 1) := by decide +kernel
theorem dX6_isMachine_3 : decode cX6_isMachine 3 = .ok (.aload_n 0, 1) := by decide +kernel
theorem dX6_isMachine_4 : decode cX6_isMachine 4 = .ok (.getfield 64, 3) := by decide +kernel
theorem dX6_isMachine_7 : decode cX6_isMachine 7 = .ok (.iconst 1, 1) := by decide +kernel
theorem dX6_isMachine_8 : decode cX6_isMachine 8 = .ok (.isub, 1) := by decide +kernel
theorem dX6_isMachine_9 : decode cX6_isMachine 9 = .ok (.i2l, 1) := by decide +kernel
theorem dX6_isMachine_10 : decode cX6_isMachine 10 = .ok (.invokestatic 52, 3) := by decide +kernel
theorem dX6_isMachine_13 : decode cX6_isMachine 13 = .ok (.ireturn, 1) := by decide +kernel
set_option maxRecDepth 20000 in
theorem ggX6_roller_X6_isMachine : GoodIn wsX6_roller wsX6_isMachine := goodIn_r _ [8, 9, 10, 11, 7, 12, 13, 14, 15, 16, 17, 18, 19, 20, 21, 22, 23, 24, 25, 26, 27, 28, 29, 30] (by decide +kernel) (by decide +kernel)
set_option maxRecDepth 20000 in
theorem gX6_roller_X6_isMachine : GoodIn wsX6_roller (wsV RX6 67 RX6 yX6_isMachine wsX6_isMachine) := goodIn_app (goodIn_of _ (by decide +kernel)) ggX6_roller_X6_isMachine
set_option maxRecDepth 20000 in
theorem ggX6_roller_X6_in : GoodIn wsX6_roller wsX6_in := goodIn_r _ [12] (by decide +kernel) (by decide +kernel)
set_option maxRecDepth 20000 in
theorem gX6_roller_X6_in : GoodIn wsX6_roller (va_wsS RX6 52 yX6_in wsX6_in) := goodIn_app (goodIn_of _ (by decide +kernel)) ggX6_roller_X6_in
theorem dX6_roller_0 : decode cX6_roller 0 = .ok (.aload_n 0, 1) := by decide +kernel
theorem dX6_roller_1 : decode cX6_roller 1 = .ok (.iload_n 1, 1) := by decide +kernel
theorem dX6_roller_2 : decode cX6_roller 2 = .ok (.invokevirtual 67, 3) := by decide +kernel
theorem dX6_roller_5 : decode cX6_roller 5 = .ok (.ifCond .eq 15, 3) := by decide +kernel
theorem dX6_roller_8 : decode cX6_roller 8 = .ok (.iload_n 2, 1) := by decide +kernel
theorem dX6_roller_9 : decode cX6_roller 9 = .ok (.i2l, 1) := by decide +kernel
theorem dX6_roller_10 : decode cX6_roller 10 = .ok (.lconst 1, 1) := by decide +kernel
theorem dX6_roller_11 : decode cX6_roller 11 = .ok (.ldc2_w 71, 3) := by decide +kernel
theorem dX6_roller_14 : decode cX6_roller 14 = .ok (.invokestatic 52, 3) := by decide +kernel
theorem dX6_roller_17 : decode cX6_roller 17 = .ok (.ifCond .ne 6, 3) := by decide +kernel
theorem dX6_roller_20 : decode cX6_roller 20 = .ok (.bipush (-2), 2) := by decide +kernel
theorem dX6_roller_22 : decode cX6_roller 22 = .ok (.ireturn, 1) := by decide +kernel
theorem dX6_roller_23 : decode cX6_roller 23 = .ok (.aload_n 0, 1) := by decide +kernel
theorem dX6_roller_24 : decode cX6_roller 24 = .ok (.getfield 29, 3) := by decide +kernel
theorem dX6_roller_27 : decode cX6_roller 27 = .ok (.iload_n 1, 1) := by decide +kernel
theorem dX6_roller_28 : decode cX6_roller 28 = .ok (.iaload, 1) := by decide +kernel
theorem dX6_roller_29 : decode cX6_roller 29 = .ok (.iconst 3, 1) := by decide +kernel
theorem dX6_roller_30 : decode cX6_roller 30 = .ok (.if_icmp .ne 6, 3) := by decide +kernel
theorem dX6_roller_33 : decode cX6_roller 33 = .ok (.bipush (-4), 2) := by decide +kernel
theorem dX6_roller_35 : decode cX6_roller 35 = .ok (.ireturn, 1) := by decide +kernel
theorem dX6_roller_36 : decode cX6_roller 36 = .ok (.aload_n 0, 1) := by decide +kernel
theorem dX6_roller_37 : decode cX6_roller 37 = .ok (.getfield 32, 3) := by decide +kernel
theorem dX6_roller_40 : decode cX6_roller 40 = .ok (.iconst 3, 1) := by decide +kernel
theorem dX6_roller_41 : decode cX6_roller 41 = .ok (.iload_n 1, 1) := by decide +kernel
theorem dX6_roller_42 : decode cX6_roller 42 = .ok (.imul, 1) := by decide +kernel
theorem dX6_roller_43 : decode cX6_roller 43 = .ok (.aload_n 0, 1) := by decide +kernel
theorem dX6_roller_44 : decode cX6_roller 44 = .ok (.getfield 29, 3) := by decide +kernel
theorem dX6_roller_47 : decode cX6_roller 47 = .ok (.iload_n 1, 1) := by decide +kernel
theorem dX6_roller_48 : decode cX6_roller 48 = .ok (.iaload, 1) := by decide +kernel
theorem dX6_roller_49 : decode cX6_roller 49 = .ok (.iadd, 1) := by decide +kernel
theorem dX6_roller_50 : decode cX6_roller 50 = .ok (.iload_n 2, 1) := by decide +kernel
theorem dX6_roller_51 : decode cX6_roller 51 = .ok (.iastore, 1) := by decide +kernel
theorem dX6_roller_52 : decode cX6_roller 52 = .ok (.aload_n 0, 1) := by decide +kernel
theorem dX6_roller_53 : decode cX6_roller 53 = .ok (.getfield 29, 3) := by decide +kernel
theorem dX6_roller_56 : decode cX6_roller 56 = .ok (.iload_n 1, 1) := by decide +kernel
theorem dX6_roller_57 : decode cX6_roller 57 = .ok (.dup2, 1) := by decide +kernel
theorem dX6_roller_58 : decode cX6_roller 58 = .ok (.iaload, 1) := by decide +kernel
theorem dX6_roller_59 : decode cX6_roller 59 = .ok (.iconst 1, 1) := by decide +kernel
theorem dX6_roller_60 : decode cX6_roller 60 = .ok (.iadd, 1) := by decide +kernel
theorem dX6_roller_61 : decode cX6_roller 61 = .ok (.iastore, 1) := by decide +kernel
theorem dX6_roller_62 : decode cX6_roller 62 = .ok (.aload_n 0, 1) := by decide +kernel
theorem dX6_roller_63 : decode cX6_roller 63 = .ok (.getfield 29, 3) := by decide +kernel
theorem dX6_roller_66 : decode cX6_roller 66 = .ok (.iload_n 1, 1) := by decide +kernel
theorem dX6_roller_67 : decode cX6_roller 67 = .ok (.iaload, 1) := by decide +kernel
theorem dX6_roller_68 : decode cX6_roller 68 = .ok (.iconst 1, 1) := by decide +kernel
theorem dX6_roller_69 : decode cX6_roller 69 = .ok (.isub, 1) := by decide +kernel
theorem dX6_roller_70 : decode cX6_roller 70 = .ok (.ireturn, 1) := by decide +kernel
theorem dX6_clear_0 : decode cX6_clear 0 = .ok (.aload_n 0, 1) := by decide +kernel
theorem dX6_clear_1 : decode cX6_clear 1 = .ok (.getfield 64, 3) := by decide +kernel
theorem dX6_clear_4 : decode cX6_clear 4 = .ok (.istore_n 1, 1) := by decide +kernel
theorem dX6_clear_5 : decode cX6_clear 5 = .ok (.aload_n 0, 1) := by decide +kernel
theorem dX6_clear_6 : decode cX6_clear 6 = .ok (.iconst 0, 1) := by decide +kernel
theorem dX6_clear_7 : decode cX6_clear 7 = .ok (.putfield 64, 3) := by decide +kernel
theorem dX6_clear_10 : decode cX6_clear 10 = .ok (.iload_n 1, 1) := by decide +kernel
theorem dX6_clear_11 : decode cX6_clear 11 = .ok (.ireturn, 1) := by decide +kernel
set_option maxRecDepth 20000 in
theorem ggX6_countOf_X6_common : GoodIn wsX6_countOf wsX6_common := goodIn_r _ [13] (by decide +kernel) (by decide +kernel)
set_option maxRecDepth 20000 in
theorem gX6_countOf_X6_common : GoodIn wsX6_countOf (va_wsS RX6 73 yX6_common wsX6_common) := goodIn_app (goodIn_of _ (by decide +kernel)) ggX6_countOf_X6_common
theorem dX6_countOf_0 : decode cX6_countOf 0 = .ok (.aload_n 0, 1) := by decide +kernel
theorem dX6_countOf_1 : decode cX6_countOf 1 = .ok (.getfield 7, 3) := by decide +kernel
theorem dX6_countOf_4 : decode cX6_countOf 4 = .ok (.i2l, 1) := by decide +kernel
theorem dX6_countOf_5 : decode cX6_countOf 5 = .ok (.aload_n 0, 1) := by decide +kernel
theorem dX6_countOf_6 : decode cX6_countOf 6 = .ok (.getfield 7, 3) := by decide +kernel
theorem dX6_countOf_9 : decode cX6_countOf 9 = .ok (.i2l, 1) := by decide +kernel
theorem dX6_countOf_10 : decode cX6_countOf 10 = .ok (.aload_n 0, 1) := by decide +kernel
theorem dX6_countOf_11 : decode cX6_countOf 11 = .ok (.getfield 13, 3) := by decide +kernel
theorem dX6_countOf_14 : decode cX6_countOf 14 = .ok (.i2l, 1) := by decide +kernel
theorem dX6_countOf_15 : decode cX6_countOf 15 = .ok (.invokestatic 73, 3) := by decide +kernel
theorem dX6_countOf_18 : decode cX6_countOf 18 = .ok (.ldiv, 1) := by decide +kernel
theorem dX6_countOf_19 : decode cX6_countOf 19 = .ok (.lstore_n 3, 1) := by decide +kernel
theorem dX6_countOf_20 : decode cX6_countOf 20 = .ok (.aload_n 0, 1) := by decide +kernel
theorem dX6_countOf_21 : decode cX6_countOf 21 = .ok (.getfield 13, 3) := by decide +kernel
theorem dX6_countOf_24 : decode cX6_countOf 24 = .ok (.i2l, 1) := by decide +kernel
theorem dX6_countOf_25 : decode cX6_countOf 25 = .ok (.aload_n 0, 1) := by decide +kernel
theorem dX6_countOf_26 : decode cX6_countOf 26 = .ok (.getfield 7, 3) := by decide +kernel
theorem dX6_countOf_29 : decode cX6_countOf 29 = .ok (.i2l, 1) := by decide +kernel
theorem dX6_countOf_30 : decode cX6_countOf 30 = .ok (.aload_n 0, 1) := by decide +kernel
theorem dX6_countOf_31 : decode cX6_countOf 31 = .ok (.getfield 13, 3) := by decide +kernel
theorem dX6_countOf_34 : decode cX6_countOf 34 = .ok (.i2l, 1) := by decide +kernel
theorem dX6_countOf_35 : decode cX6_countOf 35 = .ok (.invokestatic 73, 3) := by decide +kernel
theorem dX6_countOf_38 : decode cX6_countOf 38 = .ok (.ldiv, 1) := by decide +kernel
theorem dX6_countOf_39 : decode cX6_countOf 39 = .ok (.lstore 5, 2) := by decide +kernel
theorem dX6_countOf_41 : decode cX6_countOf 41 = .ok (.iconst 0, 1) := by decide +kernel
theorem dX6_countOf_42 : decode cX6_countOf 42 = .ok (.istore 7, 2) := by decide +kernel
theorem dX6_countOf_44 : decode cX6_countOf 44 = .ok (.iload 7, 2) := by decide +kernel
theorem dX6_countOf_46 : decode cX6_countOf 46 = .ok (.iload_n 1, 1) := by decide +kernel
theorem dX6_countOf_47 : decode cX6_countOf 47 = .ok (.if_icmp .ge 100, 3) := by decide +kernel
theorem dX6_countOf_50 : decode cX6_countOf 50 = .ok (.lload_n 3, 1) := by decide +kernel
theorem dX6_countOf_51 : decode cX6_countOf 51 = .ok (.aload_n 0, 1) := by decide +kernel
theorem dX6_countOf_52 : decode cX6_countOf 52 = .ok (.getfield 16, 3) := by decide +kernel
theorem dX6_countOf_55 : decode cX6_countOf 55 = .ok (.iload 7, 2) := by decide +kernel
theorem dX6_countOf_57 : decode cX6_countOf 57 = .ok (.iaload, 1) := by decide +kernel
theorem dX6_countOf_58 : decode cX6_countOf 58 = .ok (.i2l, 1) := by decide +kernel
theorem dX6_countOf_59 : decode cX6_countOf 59 = .ok (.ldc2_w 71, 3) := by decide +kernel
theorem dX6_countOf_62 : decode cX6_countOf 62 = .ok (.aload_n 0, 1) := by decide +kernel
theorem dX6_countOf_63 : decode cX6_countOf 63 = .ok (.getfield 26, 3) := by decide +kernel
theorem dX6_countOf_66 : decode cX6_countOf 66 = .ok (.iload 7, 2) := by decide +kernel
theorem dX6_countOf_68 : decode cX6_countOf 68 = .ok (.iaload, 1) := by decide +kernel
theorem dX6_countOf_69 : decode cX6_countOf 69 = .ok (.i2l, 1) := by decide +kernel
theorem dX6_countOf_70 : decode cX6_countOf 70 = .ok (.lsub, 1) := by decide +kernel
theorem dX6_countOf_71 : decode cX6_countOf 71 = .ok (.lmul, 1) := by decide +kernel
theorem dX6_countOf_72 : decode cX6_countOf 72 = .ok (.aload_n 0, 1) := by decide +kernel
theorem dX6_countOf_73 : decode cX6_countOf 73 = .ok (.getfield 23, 3) := by decide +kernel
theorem dX6_countOf_76 : decode cX6_countOf 76 = .ok (.iload 7, 2) := by decide +kernel
theorem dX6_countOf_78 : decode cX6_countOf 78 = .ok (.iaload, 1) := by decide +kernel
theorem dX6_countOf_79 : decode cX6_countOf 79 = .ok (.i2l, 1) := by decide +kernel
theorem dX6_countOf_80 : decode cX6_countOf 80 = .ok (.lmul, 1) := by decide +kernel
theorem dX6_countOf_81 : decode cX6_countOf 81 = .ok (.lmul, 1) := by decide +kernel
theorem dX6_countOf_82 : decode cX6_countOf 82 = .ok (.lstore_n 3, 1) := by decide +kernel
theorem dX6_countOf_83 : decode cX6_countOf 83 = .ok (.lload 5, 2) := by decide +kernel
theorem dX6_countOf_85 : decode cX6_countOf 85 = .ok (.ldc2_w 71, 3) := by decide +kernel
theorem dX6_countOf_88 : decode cX6_countOf 88 = .ok (.aload_n 0, 1) := by decide +kernel
theorem dX6_countOf_89 : decode cX6_countOf 89 = .ok (.getfield 20, 3) := by decide +kernel
theorem dX6_countOf_92 : decode cX6_countOf 92 = .ok (.iload 7, 2) := by decide +kernel
theorem dX6_countOf_94 : decode cX6_countOf 94 = .ok (.iaload, 1) := by decide +kernel
theorem dX6_countOf_95 : decode cX6_countOf 95 = .ok (.i2l, 1) := by decide +kernel
theorem dX6_countOf_96 : decode cX6_countOf 96 = .ok (.lmul, 1) := by decide +kernel
theorem dX6_countOf_97 : decode cX6_countOf 97 = .ok (.lmul, 1) := by decide +kernel
theorem dX6_countOf_98 : decode cX6_countOf 98 = .ok (.lstore 5, 2) := by decide +kernel
theorem dX6_countOf_100 : decode cX6_countOf 100 = .ok (.lload_n 3, 1) := by decide +kernel
theorem dX6_countOf_101 : decode cX6_countOf 101 = .ok (.lload 5, 2) := by decide +kernel
theorem dX6_countOf_103 : decode cX6_countOf 103 = .ok (.invokestatic 73, 3) := by decide +kernel
theorem dX6_countOf_106 : decode cX6_countOf 106 = .ok (.lstore 8, 2) := by decide +kernel
theorem dX6_countOf_108 : decode cX6_countOf 108 = .ok (.lload_n 3, 1) := by decide +kernel
theorem dX6_countOf_109 : decode cX6_countOf 109 = .ok (.lload 8, 2) := by decide +kernel
theorem dX6_countOf_111 : decode cX6_countOf 111 = .ok (.ldiv, 1) := by decide +kernel
theorem dX6_countOf_112 : decode cX6_countOf 112 = .ok (.lstore_n 3, 1) := by decide +kernel
theorem dX6_countOf_113 : decode cX6_countOf 113 = .ok (.lload 5, 2) := by decide +kernel
theorem dX6_countOf_115 : decode cX6_countOf 115 = .ok (.lload 8, 2) := by decide +kernel
theorem dX6_countOf_117 : decode cX6_countOf 117 = .ok (.ldiv, 1) := by decide +kernel
theorem dX6_countOf_118 : decode cX6_countOf 118 = .ok (.lstore 5, 2) := by decide +kernel
theorem dX6_countOf_120 : decode cX6_countOf 120 = .ok (.lload_n 3, 1) := by decide +kernel
theorem dX6_countOf_121 : decode cX6_countOf 121 = .ok (.ldc2_w 77, 3) := by decide +kernel
theorem dX6_countOf_124 : decode cX6_countOf 124 = .ok (.lcmp, 1) := by decide +kernel
theorem dX6_countOf_125 : decode cX6_countOf 125 = .ok (.ifCond .gt 12, 3) := by decide +kernel
theorem dX6_countOf_128 : decode cX6_countOf 128 = .ok (.lload 5, 2) := by decide +kernel
theorem dX6_countOf_130 : decode cX6_countOf 130 = .ok (.ldc2_w 77, 3) := by decide +kernel
theorem dX6_countOf_133 : decode cX6_countOf 133 = .ok (.lcmp, 1) := by decide +kernel
theorem dX6_countOf_134 : decode cX6_countOf 134 = .ok (.ifCond .le 7, 3) := by decide +kernel
theorem dX6_countOf_137 : decode cX6_countOf 137 = .ok (.ldc2_w 79, 3) := by decide +kernel
theorem dX6_countOf_140 : decode cX6_countOf 140 = .ok (.lreturn, 1) := by decide +kernel
theorem dX6_countOf_141 : decode cX6_countOf 141 = .ok (.iinc 7 1, 3) := by decide +kernel
theorem dX6_countOf_144 : decode cX6_countOf 144 = .ok (.goto (-100), 3) := by decide +kernel
theorem dX6_countOf_147 : decode cX6_countOf 147 = .ok (.iload_n 2, 1) := by decide +kernel
theorem dX6_countOf_148 : decode cX6_countOf 148 = .ok (.ifCond .ne 7, 3) := by decide +kernel
theorem dX6_countOf_151 : decode cX6_countOf 151 = .ok (.lload_n 3, 1) := by decide +kernel
theorem dX6_countOf_152 : decode cX6_countOf 152 = .ok (.goto 5, 3) := by decide +kernel
theorem dX6_countOf_155 : decode cX6_countOf 155 = .ok (.lload 5, 2) := by decide +kernel
theorem dX6_countOf_157 : decode cX6_countOf 157 = .ok (.lreturn, 1) := by decide +kernel
set_option maxRecDepth 20000 in
theorem ggX6_countAt_X6_in : GoodIn wsX6_countAt wsX6_in := goodIn_r _ [6] (by decide +kernel) (by decide +kernel)
set_option maxRecDepth 20000 in
theorem gX6_countAt_X6_in : GoodIn wsX6_countAt (va_wsS RX6 52 yX6_in wsX6_in) := goodIn_app (goodIn_of _ (by decide +kernel)) ggX6_countAt_X6_in
set_option maxRecDepth 20000 in
theorem ggX6_countAt_X6_countOf : GoodIn wsX6_countAt wsX6_countOf := goodIn_r _ [10, 11, 12, 13, 14, 15, 16, 17, 18, 19, 20, 21, 5, 22, 23, 24, 25, 26, 27, 28, 29, 30, 31, 32, 33, 34, 35, 36, 37, 38, 39, 40] (by decide +kernel) (by decide +kernel)
set_option maxRecDepth 20000 in
theorem gX6_countAt_X6_countOf : GoodIn wsX6_countAt (wsV RX6 81 RX6 yX6_countOf wsX6_countOf) := goodIn_app (goodIn_of _ (by decide +kernel)) ggX6_countAt_X6_countOf
theorem dX6_countAt_0 : decode cX6_countAt 0 = .ok (.iload_n 1, 1) := by decide +kernel
theorem dX6_countAt_1 : decode cX6_countAt 1 = .ok (.i2l, 1) := by decide +kernel
theorem dX6_countAt_2 : decode cX6_countAt 2 = .ok (.lconst 0, 1) := by decide +kernel
theorem dX6_countAt_3 : decode cX6_countAt 3 = .ok (.aload_n 0, 1) := by decide +kernel
theorem dX6_countAt_4 : decode cX6_countAt 4 = .ok (.getfield 64, 3) := by decide +kernel
theorem dX6_countAt_7 : decode cX6_countAt 7 = .ok (.i2l, 1) := by decide +kernel
theorem dX6_countAt_8 : decode cX6_countAt 8 = .ok (.invokestatic 52, 3) := by decide +kernel
theorem dX6_countAt_11 : decode cX6_countAt 11 = .ok (.ifCond .eq 22, 3) := by decide +kernel
theorem dX6_countAt_14 : decode cX6_countAt 14 = .ok (.iload_n 2, 1) := by decide +kernel
theorem dX6_countAt_15 : decode cX6_countAt 15 = .ok (.i2l, 1) := by decide +kernel
theorem dX6_countAt_16 : decode cX6_countAt 16 = .ok (.lconst 0, 1) := by decide +kernel
theorem dX6_countAt_17 : decode cX6_countAt 17 = .ok (.lconst 1, 1) := by decide +kernel
theorem dX6_countAt_18 : decode cX6_countAt 18 = .ok (.invokestatic 52, 3) := by decide +kernel
theorem dX6_countAt_21 : decode cX6_countAt 21 = .ok (.ifCond .eq 12, 3) := by decide +kernel
theorem dX6_countAt_24 : decode cX6_countAt 24 = .ok (.aload_n 0, 1) := by decide +kernel
theorem dX6_countAt_25 : decode cX6_countAt 25 = .ok (.iload_n 1, 1) := by decide +kernel
theorem dX6_countAt_26 : decode cX6_countAt 26 = .ok (.iload_n 2, 1) := by decide +kernel
theorem dX6_countAt_27 : decode cX6_countAt 27 = .ok (.invokevirtual 81, 3) := by decide +kernel
theorem dX6_countAt_30 : decode cX6_countAt 30 = .ok (.goto 6, 3) := by decide +kernel
theorem dX6_countAt_33 : decode cX6_countAt 33 = .ok (.ldc2_w 85, 3) := by decide +kernel
theorem dX6_countAt_36 : decode cX6_countAt 36 = .ok (.lreturn, 1) := by decide +kernel
set_option maxRecDepth 20000 in
theorem ggX6_periodOf_X6_common : GoodIn wsX6_periodOf wsX6_common := goodIn_r _ [8] (by decide +kernel) (by decide +kernel)
set_option maxRecDepth 20000 in
theorem gX6_periodOf_X6_common : GoodIn wsX6_periodOf (va_wsS RX6 73 yX6_common wsX6_common) := goodIn_app (goodIn_of _ (by decide +kernel)) ggX6_periodOf_X6_common
theorem dX6_periodOf_0 : decode cX6_periodOf 0 = .ok (.aload_n 0, 1) := by decide +kernel
theorem dX6_periodOf_1 : decode cX6_periodOf 1 = .ok (.getfield 32, 3) := by decide +kernel
theorem dX6_periodOf_4 : decode cX6_periodOf 4 = .ok (.iconst 3, 1) := by decide +kernel
theorem dX6_periodOf_5 : decode cX6_periodOf 5 = .ok (.iload_n 1, 1) := by decide +kernel
theorem dX6_periodOf_6 : decode cX6_periodOf 6 = .ok (.imul, 1) := by decide +kernel
theorem dX6_periodOf_7 : decode cX6_periodOf 7 = .ok (.iload_n 2, 1) := by decide +kernel
theorem dX6_periodOf_8 : decode cX6_periodOf 8 = .ok (.iadd, 1) := by decide +kernel
theorem dX6_periodOf_9 : decode cX6_periodOf 9 = .ok (.iaload, 1) := by decide +kernel
theorem dX6_periodOf_10 : decode cX6_periodOf 10 = .ok (.i2l, 1) := by decide +kernel
theorem dX6_periodOf_11 : decode cX6_periodOf 11 = .ok (.lstore 4, 2) := by decide +kernel
theorem dX6_periodOf_13 : decode cX6_periodOf 13 = .ok (.lconst 1, 1) := by decide +kernel
theorem dX6_periodOf_14 : decode cX6_periodOf 14 = .ok (.lstore 6, 2) := by decide +kernel
theorem dX6_periodOf_16 : decode cX6_periodOf 16 = .ok (.iload_n 1, 1) := by decide +kernel
theorem dX6_periodOf_17 : decode cX6_periodOf 17 = .ok (.iconst 1, 1) := by decide +kernel
theorem dX6_periodOf_18 : decode cX6_periodOf 18 = .ok (.iadd, 1) := by decide +kernel
theorem dX6_periodOf_19 : decode cX6_periodOf 19 = .ok (.istore 8, 2) := by decide +kernel
theorem dX6_periodOf_21 : decode cX6_periodOf 21 = .ok (.iload 8, 2) := by decide +kernel
theorem dX6_periodOf_23 : decode cX6_periodOf 23 = .ok (.aload_n 0, 1) := by decide +kernel
theorem dX6_periodOf_24 : decode cX6_periodOf 24 = .ok (.getfield 64, 3) := by decide +kernel
theorem dX6_periodOf_27 : decode cX6_periodOf 27 = .ok (.if_icmp .ge 58, 3) := by decide +kernel
theorem dX6_periodOf_30 : decode cX6_periodOf 30 = .ok (.lload 4, 2) := by decide +kernel
theorem dX6_periodOf_32 : decode cX6_periodOf 32 = .ok (.aload_n 0, 1) := by decide +kernel
theorem dX6_periodOf_33 : decode cX6_periodOf 33 = .ok (.getfield 20, 3) := by decide +kernel
theorem dX6_periodOf_36 : decode cX6_periodOf 36 = .ok (.iload 8, 2) := by decide +kernel
theorem dX6_periodOf_38 : decode cX6_periodOf 38 = .ok (.iaload, 1) := by decide +kernel
theorem dX6_periodOf_39 : decode cX6_periodOf 39 = .ok (.i2l, 1) := by decide +kernel
theorem dX6_periodOf_40 : decode cX6_periodOf 40 = .ok (.lmul, 1) := by decide +kernel
theorem dX6_periodOf_41 : decode cX6_periodOf 41 = .ok (.lstore 4, 2) := by decide +kernel
theorem dX6_periodOf_43 : decode cX6_periodOf 43 = .ok (.lload 6, 2) := by decide +kernel
theorem dX6_periodOf_45 : decode cX6_periodOf 45 = .ok (.aload_n 0, 1) := by decide +kernel
theorem dX6_periodOf_46 : decode cX6_periodOf 46 = .ok (.getfield 23, 3) := by decide +kernel
theorem dX6_periodOf_49 : decode cX6_periodOf 49 = .ok (.iload 8, 2) := by decide +kernel
theorem dX6_periodOf_51 : decode cX6_periodOf 51 = .ok (.iaload, 1) := by decide +kernel
theorem dX6_periodOf_52 : decode cX6_periodOf 52 = .ok (.i2l, 1) := by decide +kernel
theorem dX6_periodOf_53 : decode cX6_periodOf 53 = .ok (.lmul, 1) := by decide +kernel
theorem dX6_periodOf_54 : decode cX6_periodOf 54 = .ok (.lstore 6, 2) := by decide +kernel
theorem dX6_periodOf_56 : decode cX6_periodOf 56 = .ok (.lload 4, 2) := by decide +kernel
theorem dX6_periodOf_58 : decode cX6_periodOf 58 = .ok (.lload 6, 2) := by decide +kernel
theorem dX6_periodOf_60 : decode cX6_periodOf 60 = .ok (.invokestatic 73, 3) := by decide +kernel
theorem dX6_periodOf_63 : decode cX6_periodOf 63 = .ok (.lstore 9, 2) := by decide +kernel
theorem dX6_periodOf_65 : decode cX6_periodOf 65 = .ok (.lload 4, 2) := by decide +kernel
theorem dX6_periodOf_67 : decode cX6_periodOf 67 = .ok (.lload 9, 2) := by decide +kernel
theorem dX6_periodOf_69 : decode cX6_periodOf 69 = .ok (.ldiv, 1) := by decide +kernel
theorem dX6_periodOf_70 : decode cX6_periodOf 70 = .ok (.lstore 4, 2) := by decide +kernel
theorem dX6_periodOf_72 : decode cX6_periodOf 72 = .ok (.lload 6, 2) := by decide +kernel
theorem dX6_periodOf_74 : decode cX6_periodOf 74 = .ok (.lload 9, 2) := by decide +kernel
theorem dX6_periodOf_76 : decode cX6_periodOf 76 = .ok (.ldiv, 1) := by decide +kernel
theorem dX6_periodOf_77 : decode cX6_periodOf 77 = .ok (.lstore 6, 2) := by decide +kernel
theorem dX6_periodOf_79 : decode cX6_periodOf 79 = .ok (.iinc 8 1, 3) := by decide +kernel
theorem dX6_periodOf_82 : decode cX6_periodOf 82 = .ok (.goto (-61), 3) := by decide +kernel
theorem dX6_periodOf_85 : decode cX6_periodOf 85 = .ok (.iload_n 3, 1) := by decide +kernel
theorem dX6_periodOf_86 : decode cX6_periodOf 86 = .ok (.ifCond .ne 8, 3) := by decide +kernel
theorem dX6_periodOf_89 : decode cX6_periodOf 89 = .ok (.lload 4, 2) := by decide +kernel
theorem dX6_periodOf_91 : decode cX6_periodOf 91 = .ok (.goto 5, 3) := by decide +kernel
theorem dX6_periodOf_94 : decode cX6_periodOf 94 = .ok (.lload 6, 2) := by decide +kernel
theorem dX6_periodOf_96 : decode cX6_periodOf 96 = .ok (.lreturn, 1) := by decide +kernel
set_option maxRecDepth 20000 in
theorem ggX6_period_X6_isMachine : GoodIn wsX6_period wsX6_isMachine := goodIn_r _ [7, 8, 9, 10, 6, 11, 22, 23, 24, 25, 26, 27, 28, 29, 30, 31, 32, 33, 34, 35, 36, 37, 38, 39] (by decide +kernel) (by decide +kernel)
set_option maxRecDepth 20000 in
theorem gX6_period_X6_isMachine : GoodIn wsX6_period (wsV RX6 67 RX6 yX6_isMachine wsX6_isMachine) := goodIn_app (goodIn_of _ (by decide +kernel)) ggX6_period_X6_isMachine
set_option maxRecDepth 20000 in
theorem ggX6_period_X6_in : GoodIn wsX6_period wsX6_in := goodIn_r _ [11] (by decide +kernel) (by decide +kernel)
set_option maxRecDepth 20000 in
theorem gX6_period_X6_in : GoodIn wsX6_period (va_wsS RX6 52 yX6_in wsX6_in) := goodIn_app (goodIn_of _ (by decide +kernel)) ggX6_period_X6_in
set_option maxRecDepth 20000 in
theorem ggX6_period_X6_periodOf : GoodIn wsX6_period wsX6_periodOf := goodIn_r _ [15, 16, 8, 17, 18, 19, 20, 6, 21, 22, 23, 24, 25, 26, 27, 28, 29, 30, 31, 32, 33, 34, 35, 36, 37, 38, 39] (by decide +kernel) (by decide +kernel)
set_option maxRecDepth 20000 in
theorem gX6_period_X6_periodOf : GoodIn wsX6_period (wsV RX6 87 RX6 yX6_periodOf wsX6_periodOf) := goodIn_app (goodIn_of _ (by decide +kernel)) ggX6_period_X6_periodOf
theorem dX6_period_0 : decode cX6_period 0 = .ok (.aload_n 0, 1) := by decide +kernel
theorem dX6_period_1 : decode cX6_period 1 = .ok (.iload_n 1, 1) := by decide +kernel
theorem dX6_period_2 : decode cX6_period 2 = .ok (.invokevirtual 67, 3) := by decide +kernel
theorem dX6_period_5 : decode cX6_period 5 = .ok (.ifCond .eq 31, 3) := by decide +kernel
theorem dX6_period_8 : decode cX6_period 8 = .ok (.iload_n 2, 1) := by decide +kernel
theorem dX6_period_9 : decode cX6_period 9 = .ok (.i2l, 1) := by decide +kernel
theorem dX6_period_10 : decode cX6_period 10 = .ok (.lconst 0, 1) := by decide +kernel
theorem dX6_period_11 : decode cX6_period 11 = .ok (.aload_n 0, 1) := by decide +kernel
theorem dX6_period_12 : decode cX6_period 12 = .ok (.getfield 29, 3) := by decide +kernel
theorem dX6_period_15 : decode cX6_period 15 = .ok (.iload_n 1, 1) := by decide +kernel
theorem dX6_period_16 : decode cX6_period 16 = .ok (.iaload, 1) := by decide +kernel
theorem dX6_period_17 : decode cX6_period 17 = .ok (.iconst 1, 1) := by decide +kernel
theorem dX6_period_18 : decode cX6_period 18 = .ok (.isub, 1) := by decide +kernel
theorem dX6_period_19 : decode cX6_period 19 = .ok (.i2l, 1) := by decide +kernel
theorem dX6_period_20 : decode cX6_period 20 = .ok (.invokestatic 52, 3) := by decide +kernel
theorem dX6_period_23 : decode cX6_period 23 = .ok (.ifCond .eq 13, 3) := by decide +kernel
theorem dX6_period_26 : decode cX6_period 26 = .ok (.iload_n 3, 1) := by decide +kernel
theorem dX6_period_27 : decode cX6_period 27 = .ok (.i2l, 1) := by decide +kernel
theorem dX6_period_28 : decode cX6_period 28 = .ok (.lconst 0, 1) := by decide +kernel
theorem dX6_period_29 : decode cX6_period 29 = .ok (.lconst 1, 1) := by decide +kernel
theorem dX6_period_30 : decode cX6_period 30 = .ok (.invokestatic 52, 3) := by decide +kernel
theorem dX6_period_33 : decode cX6_period 33 = .ok (.ifCond .ne 7, 3) := by decide +kernel
theorem dX6_period_36 : decode cX6_period 36 = .ok (.ldc2_w 85, 3) := by decide +kernel
theorem dX6_period_39 : decode cX6_period 39 = .ok (.lreturn, 1) := by decide +kernel
theorem dX6_period_40 : decode cX6_period 40 = .ok (.aload_n 0, 1) := by decide +kernel
theorem dX6_period_41 : decode cX6_period 41 = .ok (.iload_n 1, 1) := by decide +kernel
theorem dX6_period_42 : decode cX6_period 42 = .ok (.iload_n 2, 1) := by decide +kernel
theorem dX6_period_43 : decode cX6_period 43 = .ok (.iload_n 3, 1) := by decide +kernel
theorem dX6_period_44 : decode cX6_period 44 = .ok (.invokevirtual 87, 3) := by decide +kernel
theorem dX6_period_47 : decode cX6_period 47 = .ok (.lreturn, 1) := by decide +kernel
set_option maxRecDepth 20000 in
theorem ggX6_names_X6_in : GoodIn wsX6_names wsX6_in := goodIn_r _ [9] (by decide +kernel) (by decide +kernel)
set_option maxRecDepth 20000 in
theorem gX6_names_X6_in : GoodIn wsX6_names (va_wsS RX6 52 yX6_in wsX6_in) := goodIn_app (goodIn_of _ (by decide +kernel)) ggX6_names_X6_in
set_option maxRecDepth 20000 in
theorem ggX6_names_X6_periodOf : GoodIn wsX6_names wsX6_periodOf := goodIn_r _ [13, 14, 3, 15, 16, 17, 18, 8, 19, 20, 21, 22, 23, 24, 25, 26, 27, 28, 29, 30, 31, 32, 33, 34, 35, 36, 37] (by decide +kernel) (by decide +kernel)
set_option maxRecDepth 20000 in
theorem gX6_names_X6_periodOf : GoodIn wsX6_names (wsV RX6 87 RX6 yX6_periodOf wsX6_periodOf) := goodIn_app (goodIn_of _ (by decide +kernel)) ggX6_names_X6_periodOf
theorem dX6_names_0 : decode cX6_names 0 = .ok (.iload_n 1, 1) := by decide +kernel
theorem dX6_names_1 : decode cX6_names 1 = .ok (.i2l, 1) := by decide +kernel
theorem dX6_names_2 : decode cX6_names 2 = .ok (.lconst 1, 1) := by decide +kernel
theorem dX6_names_3 : decode cX6_names 3 = .ok (.ldc2_w 91, 3) := by decide +kernel
theorem dX6_names_6 : decode cX6_names 6 = .ok (.invokestatic 52, 3) := by decide +kernel
theorem dX6_names_9 : decode cX6_names 9 = .ok (.ifCond .eq 19, 3) := by decide +kernel
theorem dX6_names_12 : decode cX6_names 12 = .ok (.iload_n 2, 1) := by decide +kernel
theorem dX6_names_13 : decode cX6_names 13 = .ok (.i2l, 1) := by decide +kernel
theorem dX6_names_14 : decode cX6_names 14 = .ok (.lconst 0, 1) := by decide +kernel
theorem dX6_names_15 : decode cX6_names 15 = .ok (.ldc2_w 93, 3) := by decide +kernel
theorem dX6_names_18 : decode cX6_names 18 = .ok (.invokestatic 52, 3) := by decide +kernel
theorem dX6_names_21 : decode cX6_names 21 = .ok (.ifCond .eq 7, 3) := by decide +kernel
theorem dX6_names_24 : decode cX6_names 24 = .ok (.iload_n 3, 1) := by decide +kernel
theorem dX6_names_25 : decode cX6_names 25 = .ok (.ifCond .ge 6, 3) := by decide +kernel
theorem dX6_names_28 : decode cX6_names 28 = .ok (.bipush (-2), 2) := by decide +kernel
theorem dX6_names_30 : decode cX6_names 30 = .ok (.ireturn, 1) := by decide +kernel
theorem dX6_names_31 : decode cX6_names 31 = .ok (.iconst 0, 1) := by decide +kernel
theorem dX6_names_32 : decode cX6_names 32 = .ok (.istore 4, 2) := by decide +kernel
theorem dX6_names_34 : decode cX6_names 34 = .ok (.iconst 0, 1) := by decide +kernel
theorem dX6_names_35 : decode cX6_names 35 = .ok (.istore 5, 2) := by decide +kernel
theorem dX6_names_37 : decode cX6_names 37 = .ok (.iload 5, 2) := by decide +kernel
theorem dX6_names_39 : decode cX6_names 39 = .ok (.aload_n 0, 1) := by decide +kernel
theorem dX6_names_40 : decode cX6_names 40 = .ok (.getfield 64, 3) := by decide +kernel
theorem dX6_names_43 : decode cX6_names 43 = .ok (.if_icmp .ge 103, 3) := by decide +kernel
theorem dX6_names_46 : decode cX6_names 46 = .ok (.iconst 0, 1) := by decide +kernel
theorem dX6_names_47 : decode cX6_names 47 = .ok (.istore 6, 2) := by decide +kernel
theorem dX6_names_49 : decode cX6_names 49 = .ok (.iload 6, 2) := by decide +kernel
theorem dX6_names_51 : decode cX6_names 51 = .ok (.aload_n 0, 1) := by decide +kernel
theorem dX6_names_52 : decode cX6_names 52 = .ok (.getfield 29, 3) := by decide +kernel
theorem dX6_names_55 : decode cX6_names 55 = .ok (.iload 5, 2) := by decide +kernel
theorem dX6_names_57 : decode cX6_names 57 = .ok (.iaload, 1) := by decide +kernel
theorem dX6_names_58 : decode cX6_names 58 = .ok (.if_icmp .ge 82, 3) := by decide +kernel
theorem dX6_names_61 : decode cX6_names 61 = .ok (.ldc2_w 71, 3) := by decide +kernel
theorem dX6_names_64 : decode cX6_names 64 = .ok (.aload_n 0, 1) := by decide +kernel
theorem dX6_names_65 : decode cX6_names 65 = .ok (.iload 5, 2) := by decide +kernel
theorem dX6_names_67 : decode cX6_names 67 = .ok (.iload 6, 2) := by decide +kernel
theorem dX6_names_69 : decode cX6_names 69 = .ok (.iconst 0, 1) := by decide +kernel
theorem dX6_names_70 : decode cX6_names 70 = .ok (.invokevirtual 87, 3) := by decide +kernel
theorem dX6_names_73 : decode cX6_names 73 = .ok (.lmul, 1) := by decide +kernel
theorem dX6_names_74 : decode cX6_names 74 = .ok (.lstore 7, 2) := by decide +kernel
theorem dX6_names_76 : decode cX6_names 76 = .ok (.iload_n 1, 1) := by decide +kernel
theorem dX6_names_77 : decode cX6_names 77 = .ok (.i2l, 1) := by decide +kernel
theorem dX6_names_78 : decode cX6_names 78 = .ok (.aload_n 0, 1) := by decide +kernel
theorem dX6_names_79 : decode cX6_names 79 = .ok (.iload 5, 2) := by decide +kernel
theorem dX6_names_81 : decode cX6_names 81 = .ok (.iload 6, 2) := by decide +kernel
theorem dX6_names_83 : decode cX6_names 83 = .ok (.iconst 1, 1) := by decide +kernel
theorem dX6_names_84 : decode cX6_names 84 = .ok (.invokevirtual 87, 3) := by decide +kernel
theorem dX6_names_87 : decode cX6_names 87 = .ok (.lmul, 1) := by decide +kernel
theorem dX6_names_88 : decode cX6_names 88 = .ok (.lstore 9, 2) := by decide +kernel
theorem dX6_names_90 : decode cX6_names 90 = .ok (.lload 7, 2) := by decide +kernel
theorem dX6_names_92 : decode cX6_names 92 = .ok (.lload 9, 2) := by decide +kernel
theorem dX6_names_94 : decode cX6_names 94 = .ok (.sipush 1000, 3) := by decide +kernel
theorem dX6_names_97 : decode cX6_names 97 = .ok (.iload_n 2, 1) := by decide +kernel
theorem dX6_names_98 : decode cX6_names 98 = .ok (.isub, 1) := by decide +kernel
theorem dX6_names_99 : decode cX6_names 99 = .ok (.i2l, 1) := by decide +kernel
theorem dX6_names_100 : decode cX6_names 100 = .ok (.lmul, 1) := by decide +kernel
theorem dX6_names_101 : decode cX6_names 101 = .ok (.lload 9, 2) := by decide +kernel
theorem dX6_names_103 : decode cX6_names 103 = .ok (.sipush 1000, 3) := by decide +kernel
theorem dX6_names_106 : decode cX6_names 106 = .ok (.iload_n 2, 1) := by decide +kernel
theorem dX6_names_107 : decode cX6_names 107 = .ok (.iadd, 1) := by decide +kernel
theorem dX6_names_108 : decode cX6_names 108 = .ok (.i2l, 1) := by decide +kernel
theorem dX6_names_109 : decode cX6_names 109 = .ok (.lmul, 1) := by decide +kernel
theorem dX6_names_110 : decode cX6_names 110 = .ok (.invokestatic 52, 3) := by decide +kernel
theorem dX6_names_113 : decode cX6_names 113 = .ok (.ifCond .eq 21, 3) := by decide +kernel
theorem dX6_names_116 : decode cX6_names 116 = .ok (.iload 4, 2) := by decide +kernel
theorem dX6_names_118 : decode cX6_names 118 = .ok (.iload_n 3, 1) := by decide +kernel
theorem dX6_names_119 : decode cX6_names 119 = .ok (.if_icmp .ne 12, 3) := by decide +kernel
theorem dX6_names_122 : decode cX6_names 122 = .ok (.bipush 8, 2) := by decide +kernel
theorem dX6_names_124 : decode cX6_names 124 = .ok (.iload 5, 2) := by decide +kernel
theorem dX6_names_126 : decode cX6_names 126 = .ok (.imul, 1) := by decide +kernel
theorem dX6_names_127 : decode cX6_names 127 = .ok (.iload 6, 2) := by decide +kernel
theorem dX6_names_129 : decode cX6_names 129 = .ok (.iadd, 1) := by decide +kernel
theorem dX6_names_130 : decode cX6_names 130 = .ok (.ireturn, 1) := by decide +kernel
theorem dX6_names_131 : decode cX6_names 131 = .ok (.iinc 4 1, 3) := by decide +kernel
theorem dX6_names_134 : decode cX6_names 134 = .ok (.iinc 6 1, 3) := by decide +kernel
theorem dX6_names_137 : decode cX6_names 137 = .ok (.goto (-88), 3) := by decide +kernel
theorem dX6_names_140 : decode cX6_names 140 = .ok (.iinc 5 1, 3) := by decide +kernel
theorem dX6_names_143 : decode cX6_names 143 = .ok (.goto (-106), 3) := by decide +kernel
theorem dX6_names_146 : decode cX6_names 146 = .ok (.iconst (-1), 1) := by decide +kernel
theorem dX6_names_147 : decode cX6_names 147 = .ok (.ireturn, 1) := by decide +kernel
set_option maxRecDepth 20000 in
theorem ggX6_isRow_X6_in : GoodIn wsX6_isRow wsX6_in := goodIn_r _ [5] (by decide +kernel) (by decide +kernel)
set_option maxRecDepth 20000 in
theorem gX6_isRow_X6_in : GoodIn wsX6_isRow (va_wsS RX6 52 yX6_in wsX6_in) := goodIn_app (goodIn_of _ (by decide +kernel)) ggX6_isRow_X6_in
theorem dX6_isRow_0 : decode cX6_isRow 0 = .ok (.iload_n 0, 1) := by decide +kernel
theorem dX6_isRow_1 : decode cX6_isRow 1 = .ok (.i2l, 1) := by decide +kernel
theorem dX6_isRow_2 : decode cX6_isRow 2 = .ok (.lconst 0, 1) := by decide +kernel
theorem dX6_isRow_3 : decode cX6_isRow 3 = .ok (.ldc2_w 95, 3) := by decide +kernel
theorem dX6_isRow_6 : decode cX6_isRow 6 = .ok (.invokestatic 52, 3) := by decide +kernel
theorem dX6_isRow_9 : decode cX6_isRow 9 = .ok (.ireturn, 1) := by decide +kernel
set_option maxRecDepth 20000 in
theorem ggX6_isMass_X6_in : GoodIn wsX6_isMass wsX6_in := goodIn_r _ [5] (by decide +kernel) (by decide +kernel)
set_option maxRecDepth 20000 in
theorem gX6_isMass_X6_in : GoodIn wsX6_isMass (va_wsS RX6 52 yX6_in wsX6_in) := goodIn_app (goodIn_of _ (by decide +kernel)) ggX6_isMass_X6_in
theorem dX6_isMass_0 : decode cX6_isMass 0 = .ok (.lload_n 0, 1) := by decide +kernel
theorem dX6_isMass_1 : decode cX6_isMass 1 = .ok (.lconst 0, 1) := by decide +kernel
theorem dX6_isMass_2 : decode cX6_isMass 2 = .ok (.ldc2_w 91, 3) := by decide +kernel
theorem dX6_isMass_5 : decode cX6_isMass 5 = .ok (.invokestatic 52, 3) := by decide +kernel
theorem dX6_isMass_8 : decode cX6_isMass 8 = .ok (.ireturn, 1) := by decide +kernel
set_option maxRecDepth 20000 in
theorem ggX6_cell_X6_isRow : GoodIn wsX6_cell wsX6_isRow := goodIn_r _ [6, 7, 8, 9, 5, 10] (by decide +kernel) (by decide +kernel)
set_option maxRecDepth 20000 in
theorem gX6_cell_X6_isRow : GoodIn wsX6_cell (va_wsS RX6 97 yX6_isRow wsX6_isRow) := goodIn_app (goodIn_of _ (by decide +kernel)) ggX6_cell_X6_isRow
set_option maxRecDepth 20000 in
theorem ggX6_cell_X6_isMass : GoodIn wsX6_cell wsX6_isMass := goodIn_r _ [13, 14, 8, 9, 5, 10] (by decide +kernel) (by decide +kernel)
set_option maxRecDepth 20000 in
theorem gX6_cell_X6_isMass : GoodIn wsX6_cell (va_wsS RX6 100 yX6_isMass wsX6_isMass) := goodIn_app (goodIn_of _ (by decide +kernel)) ggX6_cell_X6_isMass
theorem dX6_cell_0 : decode cX6_cell 0 = .ok (.iload_n 1, 1) := by decide +kernel
theorem dX6_cell_1 : decode cX6_cell 1 = .ok (.invokestatic 97, 3) := by decide +kernel
theorem dX6_cell_4 : decode cX6_cell 4 = .ok (.ifCond .eq 11, 3) := by decide +kernel
theorem dX6_cell_7 : decode cX6_cell 7 = .ok (.iload_n 2, 1) := by decide +kernel
theorem dX6_cell_8 : decode cX6_cell 8 = .ok (.i2l, 1) := by decide +kernel
theorem dX6_cell_9 : decode cX6_cell 9 = .ok (.invokestatic 100, 3) := by decide +kernel
theorem dX6_cell_12 : decode cX6_cell 12 = .ok (.ifCond .ne 6, 3) := by decide +kernel
theorem dX6_cell_15 : decode cX6_cell 15 = .ok (.bipush (-2), 2) := by decide +kernel
theorem dX6_cell_17 : decode cX6_cell 17 = .ok (.ireturn, 1) := by decide +kernel
theorem dX6_cell_18 : decode cX6_cell 18 = .ok (.aload_n 0, 1) := by decide +kernel
theorem dX6_cell_19 : decode cX6_cell 19 = .ok (.getfield 35, 3) := by decide +kernel
theorem dX6_cell_22 : decode cX6_cell 22 = .ok (.iload_n 1, 1) := by decide +kernel
theorem dX6_cell_23 : decode cX6_cell 23 = .ok (.iaload, 1) := by decide +kernel
theorem dX6_cell_24 : decode cX6_cell 24 = .ok (.sipush 400, 3) := by decide +kernel
theorem dX6_cell_27 : decode cX6_cell 27 = .ok (.if_icmp .ne 6, 3) := by decide +kernel
theorem dX6_cell_30 : decode cX6_cell 30 = .ok (.bipush (-4), 2) := by decide +kernel
theorem dX6_cell_32 : decode cX6_cell 32 = .ok (.ireturn, 1) := by decide +kernel
theorem dX6_cell_33 : decode cX6_cell 33 = .ok (.aload_n 0, 1) := by decide +kernel
theorem dX6_cell_34 : decode cX6_cell 34 = .ok (.getfield 38, 3) := by decide +kernel
theorem dX6_cell_37 : decode cX6_cell 37 = .ok (.sipush 400, 3) := by decide +kernel
theorem dX6_cell_40 : decode cX6_cell 40 = .ok (.iload_n 1, 1) := by decide +kernel
theorem dX6_cell_41 : decode cX6_cell 41 = .ok (.imul, 1) := by decide +kernel
theorem dX6_cell_42 : decode cX6_cell 42 = .ok (.aload_n 0, 1) := by decide +kernel
theorem dX6_cell_43 : decode cX6_cell 43 = .ok (.getfield 35, 3) := by decide +kernel
theorem dX6_cell_46 : decode cX6_cell 46 = .ok (.iload_n 1, 1) := by decide +kernel
theorem dX6_cell_47 : decode cX6_cell 47 = .ok (.iaload, 1) := by decide +kernel
theorem dX6_cell_48 : decode cX6_cell 48 = .ok (.iadd, 1) := by decide +kernel
theorem dX6_cell_49 : decode cX6_cell 49 = .ok (.iload_n 2, 1) := by decide +kernel
theorem dX6_cell_50 : decode cX6_cell 50 = .ok (.iastore, 1) := by decide +kernel
theorem dX6_cell_51 : decode cX6_cell 51 = .ok (.aload_n 0, 1) := by decide +kernel
theorem dX6_cell_52 : decode cX6_cell 52 = .ok (.getfield 35, 3) := by decide +kernel
theorem dX6_cell_55 : decode cX6_cell 55 = .ok (.iload_n 1, 1) := by decide +kernel
theorem dX6_cell_56 : decode cX6_cell 56 = .ok (.dup2, 1) := by decide +kernel
theorem dX6_cell_57 : decode cX6_cell 57 = .ok (.iaload, 1) := by decide +kernel
theorem dX6_cell_58 : decode cX6_cell 58 = .ok (.iconst 1, 1) := by decide +kernel
theorem dX6_cell_59 : decode cX6_cell 59 = .ok (.iadd, 1) := by decide +kernel
theorem dX6_cell_60 : decode cX6_cell 60 = .ok (.iastore, 1) := by decide +kernel
theorem dX6_cell_61 : decode cX6_cell 61 = .ok (.aload_n 0, 1) := by decide +kernel
theorem dX6_cell_62 : decode cX6_cell 62 = .ok (.getfield 35, 3) := by decide +kernel
theorem dX6_cell_65 : decode cX6_cell 65 = .ok (.iload_n 1, 1) := by decide +kernel
theorem dX6_cell_66 : decode cX6_cell 66 = .ok (.iaload, 1) := by decide +kernel
theorem dX6_cell_67 : decode cX6_cell 67 = .ok (.ireturn, 1) := by decide +kernel
set_option maxRecDepth 20000 in
theorem ggX6_draw_X6_isRow : GoodIn wsX6_draw wsX6_isRow := goodIn_r _ [12, 13, 14, 15, 11, 16] (by decide +kernel) (by decide +kernel)
set_option maxRecDepth 20000 in
theorem gX6_draw_X6_isRow : GoodIn wsX6_draw (va_wsS RX6 97 yX6_isRow wsX6_isRow) := goodIn_app (goodIn_of _ (by decide +kernel)) ggX6_draw_X6_isRow
set_option maxRecDepth 20000 in
theorem ggX6_draw_X6_in : GoodIn wsX6_draw wsX6_in := goodIn_r _ [16] (by decide +kernel) (by decide +kernel)
set_option maxRecDepth 20000 in
theorem gX6_draw_X6_in : GoodIn wsX6_draw (va_wsS RX6 52 yX6_in wsX6_in) := goodIn_app (goodIn_of _ (by decide +kernel)) ggX6_draw_X6_in
theorem dX6_draw_0 : decode cX6_draw 0 = .ok (.iload_n 1, 1) := by decide +kernel
theorem dX6_draw_1 : decode cX6_draw 1 = .ok (.invokestatic 97, 3) := by decide +kernel
theorem dX6_draw_4 : decode cX6_draw 4 = .ok (.ifCond .eq 44, 3) := by decide +kernel
theorem dX6_draw_7 : decode cX6_draw 7 = .ok (.iload_n 2, 1) := by decide +kernel
theorem dX6_draw_8 : decode cX6_draw 8 = .ok (.i2l, 1) := by decide +kernel
theorem dX6_draw_9 : decode cX6_draw 9 = .ok (.lconst 1, 1) := by decide +kernel
theorem dX6_draw_10 : decode cX6_draw 10 = .ok (.ldc2_w 104, 3) := by decide +kernel
theorem dX6_draw_13 : decode cX6_draw 13 = .ok (.invokestatic 52, 3) := by decide +kernel
theorem dX6_draw_16 : decode cX6_draw 16 = .ok (.ifCond .eq 32, 3) := by decide +kernel
theorem dX6_draw_19 : decode cX6_draw 19 = .ok (.iload_n 3, 1) := by decide +kernel
theorem dX6_draw_20 : decode cX6_draw 20 = .ok (.i2l, 1) := by decide +kernel
theorem dX6_draw_21 : decode cX6_draw 21 = .ok (.lconst 0, 1) := by decide +kernel
theorem dX6_draw_22 : decode cX6_draw 22 = .ok (.ldc2_w 50, 3) := by decide +kernel
theorem dX6_draw_25 : decode cX6_draw 25 = .ok (.invokestatic 52, 3) := by decide +kernel
theorem dX6_draw_28 : decode cX6_draw 28 = .ok (.ifCond .eq 20, 3) := by decide +kernel
theorem dX6_draw_31 : decode cX6_draw 31 = .ok (.iload 4, 2) := by decide +kernel
theorem dX6_draw_33 : decode cX6_draw 33 = .ok (.i2l, 1) := by decide +kernel
theorem dX6_draw_34 : decode cX6_draw 34 = .ok (.lconst 0, 1) := by decide +kernel
theorem dX6_draw_35 : decode cX6_draw 35 = .ok (.iload_n 3, 1) := by decide +kernel
theorem dX6_draw_36 : decode cX6_draw 36 = .ok (.i2l, 1) := by decide +kernel
theorem dX6_draw_37 : decode cX6_draw 37 = .ok (.invokestatic 52, 3) := by decide +kernel
theorem dX6_draw_40 : decode cX6_draw 40 = .ok (.ifCond .eq 8, 3) := by decide +kernel
theorem dX6_draw_43 : decode cX6_draw 43 = .ok (.iload 5, 2) := by decide +kernel
theorem dX6_draw_45 : decode cX6_draw 45 = .ok (.ifCond .ge 6, 3) := by decide +kernel
theorem dX6_draw_48 : decode cX6_draw 48 = .ok (.bipush (-2), 2) := by decide +kernel
theorem dX6_draw_50 : decode cX6_draw 50 = .ok (.ireturn, 1) := by decide +kernel
theorem dX6_draw_51 : decode cX6_draw 51 = .ok (.aload_n 0, 1) := by decide +kernel
theorem dX6_draw_52 : decode cX6_draw 52 = .ok (.getfield 35, 3) := by decide +kernel
theorem dX6_draw_55 : decode cX6_draw 55 = .ok (.iload_n 1, 1) := by decide +kernel
theorem dX6_draw_56 : decode cX6_draw 56 = .ok (.iaload, 1) := by decide +kernel
theorem dX6_draw_57 : decode cX6_draw 57 = .ok (.iload_n 2, 1) := by decide +kernel
theorem dX6_draw_58 : decode cX6_draw 58 = .ok (.iadd, 1) := by decide +kernel
theorem dX6_draw_59 : decode cX6_draw 59 = .ok (.sipush 400, 3) := by decide +kernel
theorem dX6_draw_62 : decode cX6_draw 62 = .ok (.if_icmp .le 6, 3) := by decide +kernel
theorem dX6_draw_65 : decode cX6_draw 65 = .ok (.bipush (-4), 2) := by decide +kernel
theorem dX6_draw_67 : decode cX6_draw 67 = .ok (.ireturn, 1) := by decide +kernel
theorem dX6_draw_68 : decode cX6_draw 68 = .ok (.iload 5, 2) := by decide +kernel
theorem dX6_draw_70 : decode cX6_draw 70 = .ok (.i2l, 1) := by decide +kernel
theorem dX6_draw_71 : decode cX6_draw 71 = .ok (.lstore 6, 2) := by decide +kernel
theorem dX6_draw_73 : decode cX6_draw 73 = .ok (.iconst 0, 1) := by decide +kernel
theorem dX6_draw_74 : decode cX6_draw 74 = .ok (.istore 8, 2) := by decide +kernel
theorem dX6_draw_76 : decode cX6_draw 76 = .ok (.iload 8, 2) := by decide +kernel
theorem dX6_draw_78 : decode cX6_draw 78 = .ok (.iload_n 2, 1) := by decide +kernel
theorem dX6_draw_79 : decode cX6_draw 79 = .ok (.if_icmp .ge 72, 3) := by decide +kernel
theorem dX6_draw_82 : decode cX6_draw 82 = .ok (.lload 6, 2) := by decide +kernel
theorem dX6_draw_84 : decode cX6_draw 84 = .ok (.ldc2_w 106, 3) := by decide +kernel
theorem dX6_draw_87 : decode cX6_draw 87 = .ok (.lmul, 1) := by decide +kernel
theorem dX6_draw_88 : decode cX6_draw 88 = .ok (.ldc2_w 108, 3) := by decide +kernel
theorem dX6_draw_91 : decode cX6_draw 91 = .ok (.ladd, 1) := by decide +kernel
theorem dX6_draw_92 : decode cX6_draw 92 = .ok (.ldc2_w 110, 3) := by decide +kernel
theorem dX6_draw_95 : decode cX6_draw 95 = .ok (.land, 1) := by decide +kernel
theorem dX6_draw_96 : decode cX6_draw 96 = .ok (.lstore 6, 2) := by decide +kernel
theorem dX6_draw_98 : decode cX6_draw 98 = .ok (.aload_n 0, 1) := by decide +kernel
theorem dX6_draw_99 : decode cX6_draw 99 = .ok (.getfield 38, 3) := by decide +kernel
theorem dX6_draw_102 : decode cX6_draw 102 = .ok (.sipush 400, 3) := by decide +kernel
theorem dX6_draw_105 : decode cX6_draw 105 = .ok (.iload_n 1, 1) := by decide +kernel
theorem dX6_draw_106 : decode cX6_draw 106 = .ok (.imul, 1) := by decide +kernel
theorem dX6_draw_107 : decode cX6_draw 107 = .ok (.aload_n 0, 1) := by decide +kernel
theorem dX6_draw_108 : decode cX6_draw 108 = .ok (.getfield 35, 3) := by decide +kernel
theorem dX6_draw_111 : decode cX6_draw 111 = .ok (.iload_n 1, 1) := by decide +kernel
theorem dX6_draw_112 : decode cX6_draw 112 = .ok (.iaload, 1) := by decide +kernel
theorem dX6_draw_113 : decode cX6_draw 113 = .ok (.iadd, 1) := by decide +kernel
theorem dX6_draw_114 : decode cX6_draw 114 = .ok (.iload_n 3, 1) := by decide +kernel
theorem dX6_draw_115 : decode cX6_draw 115 = .ok (.lload 6, 2) := by decide +kernel
theorem dX6_draw_117 : decode cX6_draw 117 = .ok (.ldc2_w 112, 3) := by decide +kernel
theorem dX6_draw_120 : decode cX6_draw 120 = .ok (.ldiv, 1) := by decide +kernel
theorem dX6_draw_121 : decode cX6_draw 121 = .ok (.iconst 2, 1) := by decide +kernel
theorem dX6_draw_122 : decode cX6_draw 122 = .ok (.iload 4, 2) := by decide +kernel
theorem dX6_draw_124 : decode cX6_draw 124 = .ok (.imul, 1) := by decide +kernel
theorem dX6_draw_125 : decode cX6_draw 125 = .ok (.iconst 1, 1) := by decide +kernel
theorem dX6_draw_126 : decode cX6_draw 126 = .ok (.iadd, 1) := by decide +kernel
theorem dX6_draw_127 : decode cX6_draw 127 = .ok (.i2l, 1) := by decide +kernel
theorem dX6_draw_128 : decode cX6_draw 128 = .ok (.lrem, 1) := by decide +kernel
theorem dX6_draw_129 : decode cX6_draw 129 = .ok (.l2i, 1) := by decide +kernel
theorem dX6_draw_130 : decode cX6_draw 130 = .ok (.iadd, 1) := by decide +kernel
theorem dX6_draw_131 : decode cX6_draw 131 = .ok (.iload 4, 2) := by decide +kernel
theorem dX6_draw_133 : decode cX6_draw 133 = .ok (.isub, 1) := by decide +kernel
theorem dX6_draw_134 : decode cX6_draw 134 = .ok (.iastore, 1) := by decide +kernel
theorem dX6_draw_135 : decode cX6_draw 135 = .ok (.aload_n 0, 1) := by decide +kernel
theorem dX6_draw_136 : decode cX6_draw 136 = .ok (.getfield 35, 3) := by decide +kernel
theorem dX6_draw_139 : decode cX6_draw 139 = .ok (.iload_n 1, 1) := by decide +kernel
theorem dX6_draw_140 : decode cX6_draw 140 = .ok (.dup2, 1) := by decide +kernel
theorem dX6_draw_141 : decode cX6_draw 141 = .ok (.iaload, 1) := by decide +kernel
theorem dX6_draw_142 : decode cX6_draw 142 = .ok (.iconst 1, 1) := by decide +kernel
theorem dX6_draw_143 : decode cX6_draw 143 = .ok (.iadd, 1) := by decide +kernel
theorem dX6_draw_144 : decode cX6_draw 144 = .ok (.iastore, 1) := by decide +kernel
theorem dX6_draw_145 : decode cX6_draw 145 = .ok (.iinc 8 1, 3) := by decide +kernel
theorem dX6_draw_148 : decode cX6_draw 148 = .ok (.goto (-72), 3) := by decide +kernel
theorem dX6_draw_151 : decode cX6_draw 151 = .ok (.aload_n 0, 1) := by decide +kernel
theorem dX6_draw_152 : decode cX6_draw 152 = .ok (.getfield 35, 3) := by decide +kernel
theorem dX6_draw_155 : decode cX6_draw 155 = .ok (.iload_n 1, 1) := by decide +kernel
theorem dX6_draw_156 : decode cX6_draw 156 = .ok (.iaload, 1) := by decide +kernel
theorem dX6_draw_157 : decode cX6_draw 157 = .ok (.ireturn, 1) := by decide +kernel
set_option maxRecDepth 20000 in
theorem ggX6_empty_X6_isRow : GoodIn wsX6_empty wsX6_isRow := goodIn_r _ [5, 6, 7, 8, 4, 9] (by decide +kernel) (by decide +kernel)
set_option maxRecDepth 20000 in
theorem gX6_empty_X6_isRow : GoodIn wsX6_empty (va_wsS RX6 97 yX6_isRow wsX6_isRow) := goodIn_app (goodIn_of _ (by decide +kernel)) ggX6_empty_X6_isRow
theorem dX6_empty_0 : decode cX6_empty 0 = .ok (.iload_n 1, 1) := by decide +kernel
theorem dX6_empty_1 : decode cX6_empty 1 = .ok (.invokestatic 97, 3) := by decide +kernel
theorem dX6_empty_4 : decode cX6_empty 4 = .ok (.ifCond .ne 6, 3) := by decide +kernel
theorem dX6_empty_7 : decode cX6_empty 7 = .ok (.bipush (-2), 2) := by decide +kernel
theorem dX6_empty_9 : decode cX6_empty 9 = .ok (.ireturn, 1) := by decide +kernel
theorem dX6_empty_10 : decode cX6_empty 10 = .ok (.aload_n 0, 1) := by decide +kernel
theorem dX6_empty_11 : decode cX6_empty 11 = .ok (.getfield 35, 3) := by decide +kernel
theorem dX6_empty_14 : decode cX6_empty 14 = .ok (.iload_n 1, 1) := by decide +kernel
theorem dX6_empty_15 : decode cX6_empty 15 = .ok (.iaload, 1) := by decide +kernel
theorem dX6_empty_16 : decode cX6_empty 16 = .ok (.istore_n 2, 1) := by decide +kernel
theorem dX6_empty_17 : decode cX6_empty 17 = .ok (.aload_n 0, 1) := by decide +kernel
theorem dX6_empty_18 : decode cX6_empty 18 = .ok (.getfield 35, 3) := by decide +kernel
theorem dX6_empty_21 : decode cX6_empty 21 = .ok (.iload_n 1, 1) := by decide +kernel
theorem dX6_empty_22 : decode cX6_empty 22 = .ok (.iconst 0, 1) := by decide +kernel
theorem dX6_empty_23 : decode cX6_empty 23 = .ok (.iastore, 1) := by decide +kernel
theorem dX6_empty_24 : decode cX6_empty 24 = .ok (.iload_n 2, 1) := by decide +kernel
theorem dX6_empty_25 : decode cX6_empty 25 = .ok (.ireturn, 1) := by decide +kernel
set_option maxRecDepth 20000 in
theorem ggX6_at_X6_isRow : GoodIn wsX6_at wsX6_isRow := goodIn_r _ [6, 7, 8, 9, 5, 10] (by decide +kernel) (by decide +kernel)
set_option maxRecDepth 20000 in
theorem gX6_at_X6_isRow : GoodIn wsX6_at (va_wsS RX6 97 yX6_isRow wsX6_isRow) := goodIn_app (goodIn_of _ (by decide +kernel)) ggX6_at_X6_isRow
set_option maxRecDepth 20000 in
theorem ggX6_at_X6_in : GoodIn wsX6_at wsX6_in := goodIn_r _ [10] (by decide +kernel) (by decide +kernel)
set_option maxRecDepth 20000 in
theorem gX6_at_X6_in : GoodIn wsX6_at (va_wsS RX6 52 yX6_in wsX6_in) := goodIn_app (goodIn_of _ (by decide +kernel)) ggX6_at_X6_in
theorem dX6_at_0 : decode cX6_at 0 = .ok (.iload_n 1, 1) := by decide +kernel
theorem dX6_at_1 : decode cX6_at 1 = .ok (.invokestatic 97, 3) := by decide +kernel
theorem dX6_at_4 : decode cX6_at 4 = .ok (.ifCond .ne 8, 3) := by decide +kernel
theorem dX6_at_7 : decode cX6_at 7 = .ok (.bipush (-2), 2) := by decide +kernel
theorem dX6_at_9 : decode cX6_at 9 = .ok (.goto 37, 3) := by decide +kernel
theorem dX6_at_12 : decode cX6_at 12 = .ok (.iload_n 2, 1) := by decide +kernel
theorem dX6_at_13 : decode cX6_at 13 = .ok (.i2l, 1) := by decide +kernel
theorem dX6_at_14 : decode cX6_at 14 = .ok (.lconst 0, 1) := by decide +kernel
theorem dX6_at_15 : decode cX6_at 15 = .ok (.aload_n 0, 1) := by decide +kernel
theorem dX6_at_16 : decode cX6_at 16 = .ok (.getfield 35, 3) := by decide +kernel
theorem dX6_at_19 : decode cX6_at 19 = .ok (.iload_n 1, 1) := by decide +kernel
theorem dX6_at_20 : decode cX6_at 20 = .ok (.iaload, 1) := by decide +kernel
theorem dX6_at_21 : decode cX6_at 21 = .ok (.iconst 1, 1) := by decide +kernel
theorem dX6_at_22 : decode cX6_at 22 = .ok (.isub, 1) := by decide +kernel
theorem dX6_at_23 : decode cX6_at 23 = .ok (.i2l, 1) := by decide +kernel
theorem dX6_at_24 : decode cX6_at 24 = .ok (.invokestatic 52, 3) := by decide +kernel
theorem dX6_at_27 : decode cX6_at 27 = .ok (.ifCond .eq 18, 3) := by decide +kernel
theorem dX6_at_30 : decode cX6_at 30 = .ok (.aload_n 0, 1) := by decide +kernel
theorem dX6_at_31 : decode cX6_at 31 = .ok (.getfield 38, 3) := by decide +kernel
theorem dX6_at_34 : decode cX6_at 34 = .ok (.sipush 400, 3) := by decide +kernel
theorem dX6_at_37 : decode cX6_at 37 = .ok (.iload_n 1, 1) := by decide +kernel
theorem dX6_at_38 : decode cX6_at 38 = .ok (.imul, 1) := by decide +kernel
theorem dX6_at_39 : decode cX6_at 39 = .ok (.iload_n 2, 1) := by decide +kernel
theorem dX6_at_40 : decode cX6_at 40 = .ok (.iadd, 1) := by decide +kernel
theorem dX6_at_41 : decode cX6_at 41 = .ok (.iaload, 1) := by decide +kernel
theorem dX6_at_42 : decode cX6_at 42 = .ok (.goto 4, 3) := by decide +kernel
theorem dX6_at_45 : decode cX6_at 45 = .ok (.iconst (-1), 1) := by decide +kernel
theorem dX6_at_46 : decode cX6_at 46 = .ok (.ireturn, 1) := by decide +kernel
set_option maxRecDepth 20000 in
theorem ggX6_becomes_X6_isMass : GoodIn wsX6_becomes wsX6_isMass := goodIn_r _ [7, 8, 9, 10, 6, 11] (by decide +kernel) (by decide +kernel)
set_option maxRecDepth 20000 in
theorem gX6_becomes_X6_isMass : GoodIn wsX6_becomes (va_wsS RX6 100 yX6_isMass wsX6_isMass) := goodIn_app (goodIn_of _ (by decide +kernel)) ggX6_becomes_X6_isMass
theorem dX6_becomes_0 : decode cX6_becomes 0 = .ok (.iconst 1, 1) := by decide +kernel
theorem dX6_becomes_1 : decode cX6_becomes 1 = .ok (.istore_n 3, 1) := by decide +kernel
theorem dX6_becomes_2 : decode cX6_becomes 2 = .ok (.iconst 0, 1) := by decide +kernel
theorem dX6_becomes_3 : decode cX6_becomes 3 = .ok (.istore 4, 2) := by decide +kernel
theorem dX6_becomes_5 : decode cX6_becomes 5 = .ok (.iload 4, 2) := by decide +kernel
theorem dX6_becomes_7 : decode cX6_becomes 7 = .ok (.iload_n 2, 1) := by decide +kernel
theorem dX6_becomes_8 : decode cX6_becomes 8 = .ok (.if_icmp .ge 33, 3) := by decide +kernel
theorem dX6_becomes_11 : decode cX6_becomes 11 = .ok (.iload_n 3, 1) := by decide +kernel
theorem dX6_becomes_12 : decode cX6_becomes 12 = .ok (.ifCond .eq 21, 3) := by decide +kernel
theorem dX6_becomes_15 : decode cX6_becomes 15 = .ok (.aload_n 0, 1) := by decide +kernel
theorem dX6_becomes_16 : decode cX6_becomes 16 = .ok (.getfield 41, 3) := by decide +kernel
theorem dX6_becomes_19 : decode cX6_becomes 19 = .ok (.iload 4, 2) := by decide +kernel
theorem dX6_becomes_21 : decode cX6_becomes 21 = .ok (.iaload, 1) := by decide +kernel
theorem dX6_becomes_22 : decode cX6_becomes 22 = .ok (.i2l, 1) := by decide +kernel
theorem dX6_becomes_23 : decode cX6_becomes 23 = .ok (.invokestatic 100, 3) := by decide +kernel
theorem dX6_becomes_26 : decode cX6_becomes 26 = .ok (.ifCond .eq 7, 3) := by decide +kernel
theorem dX6_becomes_29 : decode cX6_becomes 29 = .ok (.iconst 1, 1) := by decide +kernel
theorem dX6_becomes_30 : decode cX6_becomes 30 = .ok (.goto 4, 3) := by decide +kernel
theorem dX6_becomes_33 : decode cX6_becomes 33 = .ok (.iconst 0, 1) := by decide +kernel
theorem dX6_becomes_34 : decode cX6_becomes 34 = .ok (.istore_n 3, 1) := by decide +kernel
theorem dX6_becomes_35 : decode cX6_becomes 35 = .ok (.iinc 4 1, 3) := by decide +kernel
theorem dX6_becomes_38 : decode cX6_becomes 38 = .ok (.goto (-33), 3) := by decide +kernel
theorem dX6_becomes_41 : decode cX6_becomes 41 = .ok (.iconst 0, 1) := by decide +kernel
theorem dX6_becomes_42 : decode cX6_becomes 42 = .ok (.istore 4, 2) := by decide +kernel
theorem dX6_becomes_44 : decode cX6_becomes 44 = .ok (.iload 4, 2) := by decide +kernel
theorem dX6_becomes_46 : decode cX6_becomes 46 = .ok (.iload_n 2, 1) := by decide +kernel
theorem dX6_becomes_47 : decode cX6_becomes 47 = .ok (.if_icmp .ge 33, 3) := by decide +kernel
theorem dX6_becomes_50 : decode cX6_becomes 50 = .ok (.iload_n 3, 1) := by decide +kernel
theorem dX6_becomes_51 : decode cX6_becomes 51 = .ok (.ifCond .eq 29, 3) := by decide +kernel
theorem dX6_becomes_54 : decode cX6_becomes 54 = .ok (.aload_n 0, 1) := by decide +kernel
theorem dX6_becomes_55 : decode cX6_becomes 55 = .ok (.getfield 38, 3) := by decide +kernel
theorem dX6_becomes_58 : decode cX6_becomes 58 = .ok (.sipush 400, 3) := by decide +kernel
theorem dX6_becomes_61 : decode cX6_becomes 61 = .ok (.iload_n 1, 1) := by decide +kernel
theorem dX6_becomes_62 : decode cX6_becomes 62 = .ok (.imul, 1) := by decide +kernel
theorem dX6_becomes_63 : decode cX6_becomes 63 = .ok (.iload 4, 2) := by decide +kernel
theorem dX6_becomes_65 : decode cX6_becomes 65 = .ok (.iadd, 1) := by decide +kernel
theorem dX6_becomes_66 : decode cX6_becomes 66 = .ok (.aload_n 0, 1) := by decide +kernel
theorem dX6_becomes_67 : decode cX6_becomes 67 = .ok (.getfield 41, 3) := by decide +kernel
theorem dX6_becomes_70 : decode cX6_becomes 70 = .ok (.iload 4, 2) := by decide +kernel
theorem dX6_becomes_72 : decode cX6_becomes 72 = .ok (.iaload, 1) := by decide +kernel
theorem dX6_becomes_73 : decode cX6_becomes 73 = .ok (.iastore, 1) := by decide +kernel
theorem dX6_becomes_74 : decode cX6_becomes 74 = .ok (.iinc 4 1, 3) := by decide +kernel
theorem dX6_becomes_77 : decode cX6_becomes 77 = .ok (.goto (-33), 3) := by decide +kernel
theorem dX6_becomes_80 : decode cX6_becomes 80 = .ok (.aload_n 0, 1) := by decide +kernel
theorem dX6_becomes_81 : decode cX6_becomes 81 = .ok (.getfield 35, 3) := by decide +kernel
theorem dX6_becomes_84 : decode cX6_becomes 84 = .ok (.iload_n 1, 1) := by decide +kernel
theorem dX6_becomes_85 : decode cX6_becomes 85 = .ok (.iload_n 3, 1) := by decide +kernel
theorem dX6_becomes_86 : decode cX6_becomes 86 = .ok (.ifCond .eq 7, 3) := by decide +kernel
theorem dX6_becomes_89 : decode cX6_becomes 89 = .ok (.iload_n 2, 1) := by decide +kernel
theorem dX6_becomes_90 : decode cX6_becomes 90 = .ok (.goto 9, 3) := by decide +kernel
theorem dX6_becomes_93 : decode cX6_becomes 93 = .ok (.aload_n 0, 1) := by decide +kernel
theorem dX6_becomes_94 : decode cX6_becomes 94 = .ok (.getfield 35, 3) := by decide +kernel
theorem dX6_becomes_97 : decode cX6_becomes 97 = .ok (.iload_n 1, 1) := by decide +kernel
theorem dX6_becomes_98 : decode cX6_becomes 98 = .ok (.iaload, 1) := by decide +kernel
theorem dX6_becomes_99 : decode cX6_becomes 99 = .ok (.iastore, 1) := by decide +kernel
theorem dX6_becomes_100 : decode cX6_becomes 100 = .ok (.iload_n 3, 1) := by decide +kernel
theorem dX6_becomes_101 : decode cX6_becomes 101 = .ok (.ifCond .eq 7, 3) := by decide +kernel
theorem dX6_becomes_104 : decode cX6_becomes 104 = .ok (.iload_n 2, 1) := by decide +kernel
theorem dX6_becomes_105 : decode cX6_becomes 105 = .ok (.goto 5, 3) := by decide +kernel
theorem dX6_becomes_108 : decode cX6_becomes 108 = .ok (.bipush (-6), 2) := by decide +kernel
theorem dX6_becomes_110 : decode cX6_becomes 110 = .ok (.ireturn, 1) := by decide +kernel
set_option maxRecDepth 20000 in
theorem ggX6_join_X6_isRow : GoodIn wsX6_join wsX6_isRow := goodIn_r _ [7, 8, 9, 10, 6, 11] (by decide +kernel) (by decide +kernel)
set_option maxRecDepth 20000 in
theorem gX6_join_X6_isRow : GoodIn wsX6_join (va_wsS RX6 97 yX6_isRow wsX6_isRow) := goodIn_app (goodIn_of _ (by decide +kernel)) ggX6_join_X6_isRow
set_option maxRecDepth 20000 in
theorem ggX6_join_X6_becomes : GoodIn wsX6_join wsX6_becomes := goodIn_r _ [15, 2, 3, 1, 16, 17, 6, 18, 19, 9, 10, 11, 20, 21, 22, 23, 24, 25, 26, 27, 28, 29, 30, 31, 32, 33, 34, 35, 36, 37] (by decide +kernel) (by decide +kernel)
set_option maxRecDepth 20000 in
theorem gX6_join_X6_becomes : GoodIn wsX6_join (wsV RX6 114 RX6 yX6_becomes wsX6_becomes) := goodIn_app (goodIn_of _ (by decide +kernel)) ggX6_join_X6_becomes
theorem dX6_join_0 : decode cX6_join 0 = .ok (.iload_n 1, 1) := by decide +kernel
theorem dX6_join_1 : decode cX6_join 1 = .ok (.invokestatic 97, 3) := by decide +kernel
theorem dX6_join_4 : decode cX6_join 4 = .ok (.ifCond .eq 10, 3) := by decide +kernel
theorem dX6_join_7 : decode cX6_join 7 = .ok (.iload_n 2, 1) := by decide +kernel
theorem dX6_join_8 : decode cX6_join 8 = .ok (.invokestatic 97, 3) := by decide +kernel
theorem dX6_join_11 : decode cX6_join 11 = .ok (.ifCond .ne 6, 3) := by decide +kernel
theorem dX6_join_14 : decode cX6_join 14 = .ok (.bipush (-2), 2) := by decide +kernel
theorem dX6_join_16 : decode cX6_join 16 = .ok (.ireturn, 1) := by decide +kernel
theorem dX6_join_17 : decode cX6_join 17 = .ok (.iload_n 1, 1) := by decide +kernel
theorem dX6_join_18 : decode cX6_join 18 = .ok (.iload_n 2, 1) := by decide +kernel
theorem dX6_join_19 : decode cX6_join 19 = .ok (.if_icmp .eq 18, 3) := by decide +kernel
theorem dX6_join_22 : decode cX6_join 22 = .ok (.aload_n 0, 1) := by decide +kernel
theorem dX6_join_23 : decode cX6_join 23 = .ok (.getfield 35, 3) := by decide +kernel
theorem dX6_join_26 : decode cX6_join 26 = .ok (.iload_n 1, 1) := by decide +kernel
theorem dX6_join_27 : decode cX6_join 27 = .ok (.iaload, 1) := by decide +kernel
theorem dX6_join_28 : decode cX6_join 28 = .ok (.aload_n 0, 1) := by decide +kernel
theorem dX6_join_29 : decode cX6_join 29 = .ok (.getfield 35, 3) := by decide +kernel
theorem dX6_join_32 : decode cX6_join 32 = .ok (.iload_n 2, 1) := by decide +kernel
theorem dX6_join_33 : decode cX6_join 33 = .ok (.iaload, 1) := by decide +kernel
theorem dX6_join_34 : decode cX6_join 34 = .ok (.if_icmp .eq 6, 3) := by decide +kernel
theorem dX6_join_37 : decode cX6_join 37 = .ok (.bipush (-3), 2) := by decide +kernel
theorem dX6_join_39 : decode cX6_join 39 = .ok (.ireturn, 1) := by decide +kernel
theorem dX6_join_40 : decode cX6_join 40 = .ok (.iconst 0, 1) := by decide +kernel
theorem dX6_join_41 : decode cX6_join 41 = .ok (.istore_n 3, 1) := by decide +kernel
theorem dX6_join_42 : decode cX6_join 42 = .ok (.iload_n 3, 1) := by decide +kernel
theorem dX6_join_43 : decode cX6_join 43 = .ok (.aload_n 0, 1) := by decide +kernel
theorem dX6_join_44 : decode cX6_join 44 = .ok (.getfield 35, 3) := by decide +kernel
theorem dX6_join_47 : decode cX6_join 47 = .ok (.iload_n 1, 1) := by decide +kernel
theorem dX6_join_48 : decode cX6_join 48 = .ok (.iaload, 1) := by decide +kernel
theorem dX6_join_49 : decode cX6_join 49 = .ok (.if_icmp .ge 40, 3) := by decide +kernel
theorem dX6_join_52 : decode cX6_join 52 = .ok (.aload_n 0, 1) := by decide +kernel
theorem dX6_join_53 : decode cX6_join 53 = .ok (.getfield 41, 3) := by decide +kernel
theorem dX6_join_56 : decode cX6_join 56 = .ok (.iload_n 3, 1) := by decide +kernel
theorem dX6_join_57 : decode cX6_join 57 = .ok (.aload_n 0, 1) := by decide +kernel
theorem dX6_join_58 : decode cX6_join 58 = .ok (.getfield 38, 3) := by decide +kernel
theorem dX6_join_61 : decode cX6_join 61 = .ok (.sipush 400, 3) := by decide +kernel
theorem dX6_join_64 : decode cX6_join 64 = .ok (.iload_n 1, 1) := by decide +kernel
theorem dX6_join_65 : decode cX6_join 65 = .ok (.imul, 1) := by decide +kernel
theorem dX6_join_66 : decode cX6_join 66 = .ok (.iload_n 3, 1) := by decide +kernel
theorem dX6_join_67 : decode cX6_join 67 = .ok (.iadd, 1) := by decide +kernel
theorem dX6_join_68 : decode cX6_join 68 = .ok (.iaload, 1) := by decide +kernel
theorem dX6_join_69 : decode cX6_join 69 = .ok (.aload_n 0, 1) := by decide +kernel
theorem dX6_join_70 : decode cX6_join 70 = .ok (.getfield 38, 3) := by decide +kernel
theorem dX6_join_73 : decode cX6_join 73 = .ok (.sipush 400, 3) := by decide +kernel
theorem dX6_join_76 : decode cX6_join 76 = .ok (.iload_n 2, 1) := by decide +kernel
theorem dX6_join_77 : decode cX6_join 77 = .ok (.imul, 1) := by decide +kernel
theorem dX6_join_78 : decode cX6_join 78 = .ok (.iload_n 3, 1) := by decide +kernel
theorem dX6_join_79 : decode cX6_join 79 = .ok (.iadd, 1) := by decide +kernel
theorem dX6_join_80 : decode cX6_join 80 = .ok (.iaload, 1) := by decide +kernel
theorem dX6_join_81 : decode cX6_join 81 = .ok (.iadd, 1) := by decide +kernel
theorem dX6_join_82 : decode cX6_join 82 = .ok (.iastore, 1) := by decide +kernel
theorem dX6_join_83 : decode cX6_join 83 = .ok (.iinc 3 1, 3) := by decide +kernel
theorem dX6_join_86 : decode cX6_join 86 = .ok (.goto (-44), 3) := by decide +kernel
theorem dX6_join_89 : decode cX6_join 89 = .ok (.aload_n 0, 1) := by decide +kernel
theorem dX6_join_90 : decode cX6_join 90 = .ok (.iload_n 1, 1) := by decide +kernel
theorem dX6_join_91 : decode cX6_join 91 = .ok (.aload_n 0, 1) := by decide +kernel
theorem dX6_join_92 : decode cX6_join 92 = .ok (.getfield 35, 3) := by decide +kernel
theorem dX6_join_95 : decode cX6_join 95 = .ok (.iload_n 1, 1) := by decide +kernel
theorem dX6_join_96 : decode cX6_join 96 = .ok (.iaload, 1) := by decide +kernel
theorem dX6_join_97 : decode cX6_join 97 = .ok (.invokevirtual 114, 3) := by decide +kernel
theorem dX6_join_100 : decode cX6_join 100 = .ok (.ireturn, 1) := by decide +kernel
set_option maxRecDepth 20000 in
theorem ggX6_stretch_X6_isRow : GoodIn wsX6_stretch wsX6_isRow := goodIn_r _ [9, 10, 11, 12, 8, 13] (by decide +kernel) (by decide +kernel)
set_option maxRecDepth 20000 in
theorem gX6_stretch_X6_isRow : GoodIn wsX6_stretch (va_wsS RX6 97 yX6_isRow wsX6_isRow) := goodIn_app (goodIn_of _ (by decide +kernel)) ggX6_stretch_X6_isRow
set_option maxRecDepth 20000 in
theorem ggX6_stretch_X6_in : GoodIn wsX6_stretch wsX6_in := goodIn_r _ [13] (by decide +kernel) (by decide +kernel)
set_option maxRecDepth 20000 in
theorem gX6_stretch_X6_in : GoodIn wsX6_stretch (va_wsS RX6 52 yX6_in wsX6_in) := goodIn_app (goodIn_of _ (by decide +kernel)) ggX6_stretch_X6_in
set_option maxRecDepth 20000 in
theorem ggX6_stretch_X6_becomes : GoodIn wsX6_stretch wsX6_becomes := goodIn_r _ [17, 5, 4, 3, 18, 19, 8, 20, 21, 11, 12, 13, 22, 23, 24, 25, 26, 27, 28, 29, 30, 31, 32, 33, 34, 35, 36, 37, 38, 39] (by decide +kernel) (by decide +kernel)
set_option maxRecDepth 20000 in
theorem gX6_stretch_X6_becomes : GoodIn wsX6_stretch (wsV RX6 114 RX6 yX6_becomes wsX6_becomes) := goodIn_app (goodIn_of _ (by decide +kernel)) ggX6_stretch_X6_becomes
theorem dX6_stretch_0 : decode cX6_stretch 0 = .ok (.iload_n 1, 1) := by decide +kernel
theorem dX6_stretch_1 : decode cX6_stretch 1 = .ok (.invokestatic 97, 3) := by decide +kernel
theorem dX6_stretch_4 : decode cX6_stretch 4 = .ok (.ifCond .eq 17, 3) := by decide +kernel
theorem dX6_stretch_7 : decode cX6_stretch 7 = .ok (.iload_n 2, 1) := by decide +kernel
theorem dX6_stretch_8 : decode cX6_stretch 8 = .ok (.i2l, 1) := by decide +kernel
theorem dX6_stretch_9 : decode cX6_stretch 9 = .ok (.ldc2_w 118, 3) := by decide +kernel
theorem dX6_stretch_12 : decode cX6_stretch 12 = .ok (.ldc2_w 120, 3) := by decide +kernel
theorem dX6_stretch_15 : decode cX6_stretch 15 = .ok (.invokestatic 52, 3) := by decide +kernel
theorem dX6_stretch_18 : decode cX6_stretch 18 = .ok (.ifCond .ne 6, 3) := by decide +kernel
theorem dX6_stretch_21 : decode cX6_stretch 21 = .ok (.bipush (-2), 2) := by decide +kernel
theorem dX6_stretch_23 : decode cX6_stretch 23 = .ok (.ireturn, 1) := by decide +kernel
theorem dX6_stretch_24 : decode cX6_stretch 24 = .ok (.aload_n 0, 1) := by decide +kernel
theorem dX6_stretch_25 : decode cX6_stretch 25 = .ok (.getfield 35, 3) := by decide +kernel
theorem dX6_stretch_28 : decode cX6_stretch 28 = .ok (.iload_n 1, 1) := by decide +kernel
theorem dX6_stretch_29 : decode cX6_stretch 29 = .ok (.iaload, 1) := by decide +kernel
theorem dX6_stretch_30 : decode cX6_stretch 30 = .ok (.iload_n 2, 1) := by decide +kernel
theorem dX6_stretch_31 : decode cX6_stretch 31 = .ok (.imul, 1) := by decide +kernel
theorem dX6_stretch_32 : decode cX6_stretch 32 = .ok (.sipush 400, 3) := by decide +kernel
theorem dX6_stretch_35 : decode cX6_stretch 35 = .ok (.if_icmp .le 6, 3) := by decide +kernel
theorem dX6_stretch_38 : decode cX6_stretch 38 = .ok (.bipush (-4), 2) := by decide +kernel
theorem dX6_stretch_40 : decode cX6_stretch 40 = .ok (.ireturn, 1) := by decide +kernel
theorem dX6_stretch_41 : decode cX6_stretch 41 = .ok (.iconst 0, 1) := by decide +kernel
theorem dX6_stretch_42 : decode cX6_stretch 42 = .ok (.istore_n 3, 1) := by decide +kernel
theorem dX6_stretch_43 : decode cX6_stretch 43 = .ok (.iload_n 3, 1) := by decide +kernel
theorem dX6_stretch_44 : decode cX6_stretch 44 = .ok (.aload_n 0, 1) := by decide +kernel
theorem dX6_stretch_45 : decode cX6_stretch 45 = .ok (.getfield 35, 3) := by decide +kernel
theorem dX6_stretch_48 : decode cX6_stretch 48 = .ok (.iload_n 1, 1) := by decide +kernel
theorem dX6_stretch_49 : decode cX6_stretch 49 = .ok (.iaload, 1) := by decide +kernel
theorem dX6_stretch_50 : decode cX6_stretch 50 = .ok (.if_icmp .ge 68, 3) := by decide +kernel
theorem dX6_stretch_53 : decode cX6_stretch 53 = .ok (.aload_n 0, 1) := by decide +kernel
theorem dX6_stretch_54 : decode cX6_stretch 54 = .ok (.getfield 38, 3) := by decide +kernel
theorem dX6_stretch_57 : decode cX6_stretch 57 = .ok (.sipush 400, 3) := by decide +kernel
theorem dX6_stretch_60 : decode cX6_stretch 60 = .ok (.iload_n 1, 1) := by decide +kernel
theorem dX6_stretch_61 : decode cX6_stretch 61 = .ok (.imul, 1) := by decide +kernel
theorem dX6_stretch_62 : decode cX6_stretch 62 = .ok (.iload_n 3, 1) := by decide +kernel
theorem dX6_stretch_63 : decode cX6_stretch 63 = .ok (.iadd, 1) := by decide +kernel
theorem dX6_stretch_64 : decode cX6_stretch 64 = .ok (.iaload, 1) := by decide +kernel
theorem dX6_stretch_65 : decode cX6_stretch 65 = .ok (.istore 4, 2) := by decide +kernel
theorem dX6_stretch_67 : decode cX6_stretch 67 = .ok (.iconst 0, 1) := by decide +kernel
theorem dX6_stretch_68 : decode cX6_stretch 68 = .ok (.istore 5, 2) := by decide +kernel
theorem dX6_stretch_70 : decode cX6_stretch 70 = .ok (.iload 5, 2) := by decide +kernel
theorem dX6_stretch_72 : decode cX6_stretch 72 = .ok (.iload_n 2, 1) := by decide +kernel
theorem dX6_stretch_73 : decode cX6_stretch 73 = .ok (.if_icmp .ge 39, 3) := by decide +kernel
theorem dX6_stretch_76 : decode cX6_stretch 76 = .ok (.aload_n 0, 1) := by decide +kernel
theorem dX6_stretch_77 : decode cX6_stretch 77 = .ok (.getfield 41, 3) := by decide +kernel
theorem dX6_stretch_80 : decode cX6_stretch 80 = .ok (.iload_n 2, 1) := by decide +kernel
theorem dX6_stretch_81 : decode cX6_stretch 81 = .ok (.iload_n 3, 1) := by decide +kernel
theorem dX6_stretch_82 : decode cX6_stretch 82 = .ok (.imul, 1) := by decide +kernel
theorem dX6_stretch_83 : decode cX6_stretch 83 = .ok (.iload 5, 2) := by decide +kernel
theorem dX6_stretch_85 : decode cX6_stretch 85 = .ok (.iadd, 1) := by decide +kernel
theorem dX6_stretch_86 : decode cX6_stretch 86 = .ok (.iload 4, 2) := by decide +kernel
theorem dX6_stretch_88 : decode cX6_stretch 88 = .ok (.iload_n 2, 1) := by decide +kernel
theorem dX6_stretch_89 : decode cX6_stretch 89 = .ok (.idiv, 1) := by decide +kernel
theorem dX6_stretch_90 : decode cX6_stretch 90 = .ok (.iload 5, 2) := by decide +kernel
theorem dX6_stretch_92 : decode cX6_stretch 92 = .ok (.iload 4, 2) := by decide +kernel
theorem dX6_stretch_94 : decode cX6_stretch 94 = .ok (.iload_n 2, 1) := by decide +kernel
theorem dX6_stretch_95 : decode cX6_stretch 95 = .ok (.irem, 1) := by decide +kernel
theorem dX6_stretch_96 : decode cX6_stretch 96 = .ok (.if_icmp .ge 7, 3) := by decide +kernel
theorem dX6_stretch_99 : decode cX6_stretch 99 = .ok (.iconst 1, 1) := by decide +kernel
theorem dX6_stretch_100 : decode cX6_stretch 100 = .ok (.goto 4, 3) := by decide +kernel
theorem dX6_stretch_103 : decode cX6_stretch 103 = .ok (.iconst 0, 1) := by decide +kernel
theorem dX6_stretch_104 : decode cX6_stretch 104 = .ok (.iadd, 1) := by decide +kernel
theorem dX6_stretch_105 : decode cX6_stretch 105 = .ok (.iastore, 1) := by decide +kernel
theorem dX6_stretch_106 : decode cX6_stretch 106 = .ok (.iinc 5 1, 3) := by decide +kernel
theorem dX6_stretch_109 : decode cX6_stretch 109 = .ok (.goto (-39), 3) := by decide +kernel
theorem dX6_stretch_112 : decode cX6_stretch 112 = .ok (.iinc 3 1, 3) := by decide +kernel
theorem dX6_stretch_115 : decode cX6_stretch 115 = .ok (.goto (-72), 3) := by decide +kernel
theorem dX6_stretch_118 : decode cX6_stretch 118 = .ok (.aload_n 0, 1) := by decide +kernel
theorem dX6_stretch_119 : decode cX6_stretch 119 = .ok (.iload_n 1, 1) := by decide +kernel
theorem dX6_stretch_120 : decode cX6_stretch 120 = .ok (.aload_n 0, 1) := by decide +kernel
theorem dX6_stretch_121 : decode cX6_stretch 121 = .ok (.getfield 35, 3) := by decide +kernel
theorem dX6_stretch_124 : decode cX6_stretch 124 = .ok (.iload_n 1, 1) := by decide +kernel
theorem dX6_stretch_125 : decode cX6_stretch 125 = .ok (.iaload, 1) := by decide +kernel
theorem dX6_stretch_126 : decode cX6_stretch 126 = .ok (.iload_n 2, 1) := by decide +kernel
theorem dX6_stretch_127 : decode cX6_stretch 127 = .ok (.imul, 1) := by decide +kernel
theorem dX6_stretch_128 : decode cX6_stretch 128 = .ok (.invokevirtual 114, 3) := by decide +kernel
theorem dX6_stretch_131 : decode cX6_stretch 131 = .ok (.ireturn, 1) := by decide +kernel
set_option maxRecDepth 20000 in
theorem ggX6_gather_X6_isRow : GoodIn wsX6_gather wsX6_isRow := goodIn_r _ [9, 10, 11, 12, 8, 13] (by decide +kernel) (by decide +kernel)
set_option maxRecDepth 20000 in
theorem gX6_gather_X6_isRow : GoodIn wsX6_gather (va_wsS RX6 97 yX6_isRow wsX6_isRow) := goodIn_app (goodIn_of _ (by decide +kernel)) ggX6_gather_X6_isRow
set_option maxRecDepth 20000 in
theorem ggX6_gather_X6_in : GoodIn wsX6_gather wsX6_in := goodIn_r _ [13] (by decide +kernel) (by decide +kernel)
set_option maxRecDepth 20000 in
theorem gX6_gather_X6_in : GoodIn wsX6_gather (va_wsS RX6 52 yX6_in wsX6_in) := goodIn_app (goodIn_of _ (by decide +kernel)) ggX6_gather_X6_in
set_option maxRecDepth 20000 in
theorem ggX6_gather_X6_becomes : GoodIn wsX6_gather wsX6_becomes := goodIn_r _ [17, 4, 5, 3, 18, 19, 8, 20, 21, 11, 12, 13, 22, 23, 24, 25, 26, 27, 28, 29, 30, 31, 32, 33, 34, 35, 36, 37, 38, 39] (by decide +kernel) (by decide +kernel)
set_option maxRecDepth 20000 in
theorem gX6_gather_X6_becomes : GoodIn wsX6_gather (wsV RX6 114 RX6 yX6_becomes wsX6_becomes) := goodIn_app (goodIn_of _ (by decide +kernel)) ggX6_gather_X6_becomes
theorem dX6_gather_0 : decode cX6_gather 0 = .ok (.iload_n 1, 1) := by decide +kernel
theorem dX6_gather_1 : decode cX6_gather 1 = .ok (.invokestatic 97, 3) := by decide +kernel
theorem dX6_gather_4 : decode cX6_gather 4 = .ok (.ifCond .eq 17, 3) := by decide +kernel
theorem dX6_gather_7 : decode cX6_gather 7 = .ok (.iload_n 2, 1) := by decide +kernel
theorem dX6_gather_8 : decode cX6_gather 8 = .ok (.i2l, 1) := by decide +kernel
theorem dX6_gather_9 : decode cX6_gather 9 = .ok (.ldc2_w 118, 3) := by decide +kernel
theorem dX6_gather_12 : decode cX6_gather 12 = .ok (.ldc2_w 60, 3) := by decide +kernel
theorem dX6_gather_15 : decode cX6_gather 15 = .ok (.invokestatic 52, 3) := by decide +kernel
theorem dX6_gather_18 : decode cX6_gather 18 = .ok (.ifCond .ne 6, 3) := by decide +kernel
theorem dX6_gather_21 : decode cX6_gather 21 = .ok (.bipush (-2), 2) := by decide +kernel
theorem dX6_gather_23 : decode cX6_gather 23 = .ok (.ireturn, 1) := by decide +kernel
theorem dX6_gather_24 : decode cX6_gather 24 = .ok (.aload_n 0, 1) := by decide +kernel
theorem dX6_gather_25 : decode cX6_gather 25 = .ok (.getfield 35, 3) := by decide +kernel
theorem dX6_gather_28 : decode cX6_gather 28 = .ok (.iload_n 1, 1) := by decide +kernel
theorem dX6_gather_29 : decode cX6_gather 29 = .ok (.iaload, 1) := by decide +kernel
theorem dX6_gather_30 : decode cX6_gather 30 = .ok (.iload_n 2, 1) := by decide +kernel
theorem dX6_gather_31 : decode cX6_gather 31 = .ok (.iadd, 1) := by decide +kernel
theorem dX6_gather_32 : decode cX6_gather 32 = .ok (.iconst 1, 1) := by decide +kernel
theorem dX6_gather_33 : decode cX6_gather 33 = .ok (.isub, 1) := by decide +kernel
theorem dX6_gather_34 : decode cX6_gather 34 = .ok (.iload_n 2, 1) := by decide +kernel
theorem dX6_gather_35 : decode cX6_gather 35 = .ok (.idiv, 1) := by decide +kernel
theorem dX6_gather_36 : decode cX6_gather 36 = .ok (.istore_n 3, 1) := by decide +kernel
theorem dX6_gather_37 : decode cX6_gather 37 = .ok (.iconst 0, 1) := by decide +kernel
theorem dX6_gather_38 : decode cX6_gather 38 = .ok (.istore 4, 2) := by decide +kernel
theorem dX6_gather_40 : decode cX6_gather 40 = .ok (.iload 4, 2) := by decide +kernel
theorem dX6_gather_42 : decode cX6_gather 42 = .ok (.iload_n 3, 1) := by decide +kernel
theorem dX6_gather_43 : decode cX6_gather 43 = .ok (.if_icmp .ge 17, 3) := by decide +kernel
theorem dX6_gather_46 : decode cX6_gather 46 = .ok (.aload_n 0, 1) := by decide +kernel
theorem dX6_gather_47 : decode cX6_gather 47 = .ok (.getfield 41, 3) := by decide +kernel
theorem dX6_gather_50 : decode cX6_gather 50 = .ok (.iload 4, 2) := by decide +kernel
theorem dX6_gather_52 : decode cX6_gather 52 = .ok (.iconst 0, 1) := by decide +kernel
theorem dX6_gather_53 : decode cX6_gather 53 = .ok (.iastore, 1) := by decide +kernel
theorem dX6_gather_54 : decode cX6_gather 54 = .ok (.iinc 4 1, 3) := by decide +kernel
theorem dX6_gather_57 : decode cX6_gather 57 = .ok (.goto (-17), 3) := by decide +kernel
theorem dX6_gather_60 : decode cX6_gather 60 = .ok (.iconst 0, 1) := by decide +kernel
theorem dX6_gather_61 : decode cX6_gather 61 = .ok (.istore 4, 2) := by decide +kernel
theorem dX6_gather_63 : decode cX6_gather 63 = .ok (.iload 4, 2) := by decide +kernel
theorem dX6_gather_65 : decode cX6_gather 65 = .ok (.aload_n 0, 1) := by decide +kernel
theorem dX6_gather_66 : decode cX6_gather 66 = .ok (.getfield 35, 3) := by decide +kernel
theorem dX6_gather_69 : decode cX6_gather 69 = .ok (.iload_n 1, 1) := by decide +kernel
theorem dX6_gather_70 : decode cX6_gather 70 = .ok (.iaload, 1) := by decide +kernel
theorem dX6_gather_71 : decode cX6_gather 71 = .ok (.if_icmp .ge 34, 3) := by decide +kernel
theorem dX6_gather_74 : decode cX6_gather 74 = .ok (.aload_n 0, 1) := by decide +kernel
theorem dX6_gather_75 : decode cX6_gather 75 = .ok (.getfield 41, 3) := by decide +kernel
theorem dX6_gather_78 : decode cX6_gather 78 = .ok (.iload 4, 2) := by decide +kernel
theorem dX6_gather_80 : decode cX6_gather 80 = .ok (.iload_n 2, 1) := by decide +kernel
theorem dX6_gather_81 : decode cX6_gather 81 = .ok (.idiv, 1) := by decide +kernel
theorem dX6_gather_82 : decode cX6_gather 82 = .ok (.dup2, 1) := by decide +kernel
theorem dX6_gather_83 : decode cX6_gather 83 = .ok (.iaload, 1) := by decide +kernel
theorem dX6_gather_84 : decode cX6_gather 84 = .ok (.aload_n 0, 1) := by decide +kernel
theorem dX6_gather_85 : decode cX6_gather 85 = .ok (.getfield 38, 3) := by decide +kernel
theorem dX6_gather_88 : decode cX6_gather 88 = .ok (.sipush 400, 3) := by decide +kernel
theorem dX6_gather_91 : decode cX6_gather 91 = .ok (.iload_n 1, 1) := by decide +kernel
theorem dX6_gather_92 : decode cX6_gather 92 = .ok (.imul, 1) := by decide +kernel
theorem dX6_gather_93 : decode cX6_gather 93 = .ok (.iload 4, 2) := by decide +kernel
theorem dX6_gather_95 : decode cX6_gather 95 = .ok (.iadd, 1) := by decide +kernel
theorem dX6_gather_96 : decode cX6_gather 96 = .ok (.iaload, 1) := by decide +kernel
theorem dX6_gather_97 : decode cX6_gather 97 = .ok (.iadd, 1) := by decide +kernel
theorem dX6_gather_98 : decode cX6_gather 98 = .ok (.iastore, 1) := by decide +kernel
theorem dX6_gather_99 : decode cX6_gather 99 = .ok (.iinc 4 1, 3) := by decide +kernel
