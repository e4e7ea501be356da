set_option maxRecDepth 20000 in
theorem ggX1_init_X0_init : GoodIn wsX1_init wsX0_init := goodIn_r _ [15, 16, 2, 3, 17, 18, 29, 30] (by decide +kernel) (by decide +kernel)
set_option maxRecDepth 20000 in
theorem gX1_init_X0_init_n26 : GoodIn wsX1_init (wsX0_init) := ggX1_init_X0_init
set_option maxRecDepth 20000 in
theorem ggX1_init_X2_init : GoodIn wsX1_init wsX2_init := goodIn_r _ [20, 21, 2, 3, 22, 23, 31, 32, 33, 34, 35, 36] (by decide +kernel) (by decide +kernel)
set_option maxRecDepth 20000 in
theorem gX1_init_X2_init_n31 : GoodIn wsX1_init (wsX2_init) := ggX1_init_X2_init
theorem dX1_init_0 : decode cX1_init 0 = .ok (.aload_n 0, 1) := by decide +kernel
theorem dX1_init_1 : decode cX1_init 1 = .ok (.invokespecial 3, 3) := by decide +kernel
theorem dX1_init_4 : decode cX1_init 4 = .ok (.aload_n 0, 1) := by decide +kernel
theorem dX1_init_5 : decode cX1_init 5 = .ok (.iconst 1, 1) := by decide +kernel
theorem dX1_init_6 : decode cX1_init 6 = .ok (.putfield 9, 3) := by decide +kernel
theorem dX1_init_9 : decode cX1_init 9 = .ok (.aload_n 0, 1) := by decide +kernel
theorem dX1_init_10 : decode cX1_init 10 = .ok (.iconst 1, 1) := by decide +kernel
theorem dX1_init_11 : decode cX1_init 11 = .ok (.putfield 15, 3) := by decide +kernel
theorem dX1_init_14 : decode cX1_init 14 = .ok (.aload_n 0, 1) := by decide +kernel
theorem dX1_init_15 : decode cX1_init 15 = .ok (.bipush 6, 2) := by decide +kernel
theorem dX1_init_17 : decode cX1_init 17 = .ok (.anewarray 18, 3) := by decide +kernel
theorem dX1_init_20 : decode cX1_init 20 = .ok (.putfield 20, 3) := by decide +kernel
theorem dX1_init_23 : decode cX1_init 23 = .ok (.aload_n 0, 1) := by decide +kernel
theorem dX1_init_24 : decode cX1_init 24 = .ok (.new 24, 3) := by decide +kernel
theorem dX1_init_27 : decode cX1_init 27 = .ok (.dup, 1) := by decide +kernel
theorem dX1_init_28 : decode cX1_init 28 = .ok (.invokespecial 26, 3) := by decide +kernel
theorem dX1_init_31 : decode cX1_init 31 = .ok (.putfield 27, 3) := by decide +kernel
theorem dX1_init_34 : decode cX1_init 34 = .ok (.iconst 0, 1) := by decide +kernel
theorem dX1_init_35 : decode cX1_init 35 = .ok (.istore_n 1, 1) := by decide +kernel
theorem dX1_init_36 : decode cX1_init 36 = .ok (.iload_n 1, 1) := by decide +kernel
theorem dX1_init_37 : decode cX1_init 37 = .ok (.bipush 6, 2) := by decide +kernel
theorem dX1_init_39 : decode cX1_init 39 = .ok (.if_icmp .ge 22, 3) := by decide +kernel
theorem dX1_init_42 : decode cX1_init 42 = .ok (.aload_n 0, 1) := by decide +kernel
theorem dX1_init_43 : decode cX1_init 43 = .ok (.getfield 20, 3) := by decide +kernel
theorem dX1_init_46 : decode cX1_init 46 = .ok (.iload_n 1, 1) := by decide +kernel
theorem dX1_init_47 : decode cX1_init 47 = .ok (.new 18, 3) := by decide +kernel
theorem dX1_init_50 : decode cX1_init 50 = .ok (.dup, 1) := by decide +kernel
theorem dX1_init_51 : decode cX1_init 51 = .ok (.invokespecial 31, 3) := by decide +kernel
theorem dX1_init_54 : decode cX1_init 54 = .ok (.aastore, 1) := by decide +kernel
theorem dX1_init_55 : decode cX1_init 55 = .ok (.iinc 1 1, 3) := by decide +kernel
theorem dX1_init_58 : decode cX1_init 58 = .ok (.goto (-22), 3) := by decide +kernel
theorem dX1_init_61 : decode cX1_init 61 = .ok (.return_, 1) := by decide +kernel
set_option maxRecDepth 20000 in
theorem ggX1_setFirst_X5_within : GoodIn wsX1_setFirst wsX5_within := goodIn_r _ [6] (by decide +kernel) (by decide +kernel)
set_option maxRecDepth 20000 in
theorem gX1_setFirst_X5_within_n34 : GoodIn wsX1_setFirst (wsX5_within) := ggX1_setFirst_X5_within
theorem dX1_setFirst_0 : decode cX1_setFirst 0 = .ok (.iload_n 1, 1) := by decide +kernel
theorem dX1_setFirst_1 : decode cX1_setFirst 1 = .ok (.i2l, 1) := by decide +kernel
theorem dX1_setFirst_2 : decode cX1_setFirst 2 = .ok (.lconst 1, 1) := by decide +kernel
theorem dX1_setFirst_3 : decode cX1_setFirst 3 = .ok (.ldc2_w 32, 3) := by decide +kernel
theorem dX1_setFirst_6 : decode cX1_setFirst 6 = .ok (.invokestatic 34, 3) := by decide +kernel
theorem dX1_setFirst_9 : decode cX1_setFirst 9 = .ok (.ifCond .eq 15, 3) := by decide +kernel
theorem dX1_setFirst_12 : decode cX1_setFirst 12 = .ok (.iload_n 2, 1) := by decide +kernel
theorem dX1_setFirst_13 : decode cX1_setFirst 13 = .ok (.i2l, 1) := by decide +kernel
theorem dX1_setFirst_14 : decode cX1_setFirst 14 = .ok (.lconst 1, 1) := by decide +kernel
theorem dX1_setFirst_15 : decode cX1_setFirst 15 = .ok (.ldc2_w 32, 3) := by decide +kernel
theorem dX1_setFirst_18 : decode cX1_setFirst 18 = .ok (.invokestatic 34, 3) := by decide +kernel
theorem dX1_setFirst_21 : decode cX1_setFirst 21 = .ok (.ifCond .ne 6, 3) := by decide +kernel
theorem dX1_setFirst_24 : decode cX1_setFirst 24 = .ok (.bipush (-2), 2) := by decide +kernel
theorem dX1_setFirst_26 : decode cX1_setFirst 26 = .ok (.ireturn, 1) := by decide +kernel
theorem dX1_setFirst_27 : decode cX1_setFirst 27 = .ok (.aload_n 0, 1) := by decide +kernel
theorem dX1_setFirst_28 : decode cX1_setFirst 28 = .ok (.iload_n 1, 1) := by decide +kernel
theorem dX1_setFirst_29 : decode cX1_setFirst 29 = .ok (.putfield 9, 3) := by decide +kernel
theorem dX1_setFirst_32 : decode cX1_setFirst 32 = .ok (.aload_n 0, 1) := by decide +kernel
theorem dX1_setFirst_33 : decode cX1_setFirst 33 = .ok (.iload_n 2, 1) := by decide +kernel
theorem dX1_setFirst_34 : decode cX1_setFirst 34 = .ok (.putfield 15, 3) := by decide +kernel
theorem dX1_setFirst_37 : decode cX1_setFirst 37 = .ok (.iconst 1, 1) := by decide +kernel
theorem dX1_setFirst_38 : decode cX1_setFirst 38 = .ok (.ireturn, 1) := by decide +kernel
set_option maxRecDepth 20000 in
theorem ggX1_addMachine_X5_within : GoodIn wsX1_addMachine wsX5_within := goodIn_r _ [14] (by decide +kernel) (by decide +kernel)
set_option maxRecDepth 20000 in
theorem gX1_addMachine_X5_within_n34 : GoodIn wsX1_addMachine (wsX5_within) := ggX1_addMachine_X5_within
theorem dX1_addMachine_0 : decode cX1_addMachine 0 = .ok (.iload_n 1, 1) := by decide +kernel
theorem dX1_addMachine_1 : decode cX1_addMachine 1 = .ok (.i2l, 1) := by decide +kernel
theorem dX1_addMachine_2 : decode cX1_addMachine 2 = .ok (.lconst 1, 1) := by decide +kernel
theorem dX1_addMachine_3 : decode cX1_addMachine 3 = .ok (.ldc2_w 38, 3) := by decide +kernel
theorem dX1_addMachine_6 : decode cX1_addMachine 6 = .ok (.invokestatic 34, 3) := by decide +kernel
theorem dX1_addMachine_9 : decode cX1_addMachine 9 = .ok (.ifCond .eq 40, 3) := by decide +kernel
theorem dX1_addMachine_12 : decode cX1_addMachine 12 = .ok (.iload_n 2, 1) := by decide +kernel
theorem dX1_addMachine_13 : decode cX1_addMachine 13 = .ok (.i2l, 1) := by decide +kernel
theorem dX1_addMachine_14 : decode cX1_addMachine 14 = .ok (.lconst 1, 1) := by decide +kernel
theorem dX1_addMachine_15 : decode cX1_addMachine 15 = .ok (.ldc2_w 40, 3) := by decide +kernel
theorem dX1_addMachine_18 : decode cX1_addMachine 18 = .ok (.invokestatic 34, 3) := by decide +kernel
theorem dX1_addMachine_21 : decode cX1_addMachine 21 = .ok (.ifCond .eq 28, 3) := by decide +kernel
theorem dX1_addMachine_24 : decode cX1_addMachine 24 = .ok (.iload_n 3, 1) := by decide +kernel
theorem dX1_addMachine_25 : decode cX1_addMachine 25 = .ok (.i2l, 1) := by decide +kernel
theorem dX1_addMachine_26 : decode cX1_addMachine 26 = .ok (.lconst 1, 1) := by decide +kernel
theorem dX1_addMachine_27 : decode cX1_addMachine 27 = .ok (.ldc2_w 42, 3) := by decide +kernel
theorem dX1_addMachine_30 : decode cX1_addMachine 30 = .ok (.invokestatic 34, 3) := by decide +kernel
theorem dX1_addMachine_33 : decode cX1_addMachine 33 = .ok (.ifCond .eq 16, 3) := by decide +kernel
theorem dX1_addMachine_36 : decode cX1_addMachine 36 = .ok (.iload 4, 2) := by decide +kernel
theorem dX1_addMachine_38 : decode cX1_addMachine 38 = .ok (.i2l, 1) := by decide +kernel
theorem dX1_addMachine_39 : decode cX1_addMachine 39 = .ok (.lconst 0, 1) := by decide +kernel
theorem dX1_addMachine_40 : decode cX1_addMachine 40 = .ok (.ldc2_w 44, 3) := by decide +kernel
theorem dX1_addMachine_43 : decode cX1_addMachine 43 = .ok (.invokestatic 34, 3) := by decide +kernel
theorem dX1_addMachine_46 : decode cX1_addMachine 46 = .ok (.ifCond .ne 6, 3) := by decide +kernel
theorem dX1_addMachine_49 : decode cX1_addMachine 49 = .ok (.bipush (-2), 2) := by decide +kernel
theorem dX1_addMachine_51 : decode cX1_addMachine 51 = .ok (.ireturn, 1) := by decide +kernel
theorem dX1_addMachine_52 : decode cX1_addMachine 52 = .ok (.aload_n 0, 1) := by decide +kernel
theorem dX1_addMachine_53 : decode cX1_addMachine 53 = .ok (.getfield 46, 3) := by decide +kernel
theorem dX1_addMachine_56 : decode cX1_addMachine 56 = .ok (.bipush 6, 2) := by decide +kernel
theorem dX1_addMachine_58 : decode cX1_addMachine 58 = .ok (.if_icmp .lt 6, 3) := by decide +kernel
theorem dX1_addMachine_61 : decode cX1_addMachine 61 = .ok (.bipush (-4), 2) := by decide +kernel
theorem dX1_addMachine_63 : decode cX1_addMachine 63 = .ok (.ireturn, 1) := by decide +kernel
theorem dX1_addMachine_64 : decode cX1_addMachine 64 = .ok (.aload_n 0, 1) := by decide +kernel
theorem dX1_addMachine_65 : decode cX1_addMachine 65 = .ok (.getfield 20, 3) := by decide +kernel
theorem dX1_addMachine_68 : decode cX1_addMachine 68 = .ok (.aload_n 0, 1) := by decide +kernel
theorem dX1_addMachine_69 : decode cX1_addMachine 69 = .ok (.getfield 46, 3) := by decide +kernel
theorem dX1_addMachine_72 : decode cX1_addMachine 72 = .ok (.aaload, 1) := by decide +kernel
theorem dX1_addMachine_73 : decode cX1_addMachine 73 = .ok (.astore 5, 2) := by decide +kernel
theorem dX1_addMachine_75 : decode cX1_addMachine 75 = .ok (.aload 5, 2) := by decide +kernel
theorem dX1_addMachine_77 : decode cX1_addMachine 77 = .ok (.iload_n 1, 1) := by decide +kernel
theorem dX1_addMachine_78 : decode cX1_addMachine 78 = .ok (.putfield 49, 3) := by decide +kernel
theorem dX1_addMachine_81 : decode cX1_addMachine 81 = .ok (.aload 5, 2) := by decide +kernel
theorem dX1_addMachine_83 : decode cX1_addMachine 83 = .ok (.iload_n 2, 1) := by decide +kernel
theorem dX1_addMachine_84 : decode cX1_addMachine 84 = .ok (.putfield 52, 3) := by decide +kernel
theorem dX1_addMachine_87 : decode cX1_addMachine 87 = .ok (.aload 5, 2) := by decide +kernel
theorem dX1_addMachine_89 : decode cX1_addMachine 89 = .ok (.iload_n 3, 1) := by decide +kernel
theorem dX1_addMachine_90 : decode cX1_addMachine 90 = .ok (.putfield 55, 3) := by decide +kernel
theorem dX1_addMachine_93 : decode cX1_addMachine 93 = .ok (.aload 5, 2) := by decide +kernel
theorem dX1_addMachine_95 : decode cX1_addMachine 95 = .ok (.iload 4, 2) := by decide +kernel
theorem dX1_addMachine_97 : decode cX1_addMachine 97 = .ok (.putfield 58, 3) := by decide +kernel
theorem dX1_addMachine_100 : decode cX1_addMachine 100 = .ok (.aload 5, 2) := by decide +kernel
theorem dX1_addMachine_102 : decode cX1_addMachine 102 = .ok (.iconst 0, 1) := by decide +kernel
theorem dX1_addMachine_103 : decode cX1_addMachine 103 = .ok (.putfield 61, 3) := by decide +kernel
theorem dX1_addMachine_106 : decode cX1_addMachine 106 = .ok (.aload_n 0, 1) := by decide +kernel
theorem dX1_addMachine_107 : decode cX1_addMachine 107 = .ok (.dup, 1) := by decide +kernel
theorem dX1_addMachine_108 : decode cX1_addMachine 108 = .ok (.getfield 46, 3) := by decide +kernel
theorem dX1_addMachine_111 : decode cX1_addMachine 111 = .ok (.iconst 1, 1) := by decide +kernel
theorem dX1_addMachine_112 : decode cX1_addMachine 112 = .ok (.iadd, 1) := by decide +kernel
theorem dX1_addMachine_113 : decode cX1_addMachine 113 = .ok (.putfield 46, 3) := by decide +kernel
theorem dX1_addMachine_116 : decode cX1_addMachine 116 = .ok (.aload_n 0, 1) := by decide +kernel
theorem dX1_addMachine_117 : decode cX1_addMachine 117 = .ok (.getfield 46, 3) := by decide +kernel
theorem dX1_addMachine_120 : decode cX1_addMachine 120 = .ok (.iconst 1, 1) := by decide +kernel
theorem dX1_addMachine_121 : decode cX1_addMachine 121 = .ok (.isub, 1) := by decide +kernel
theorem dX1_addMachine_122 : decode cX1_addMachine 122 = .ok (.ireturn, 1) := by decide +kernel
set_option maxRecDepth 20000 in
theorem ggX1_addRoller_X5_within : GoodIn wsX1_addRoller wsX5_within := goodIn_r _ [8] (by decide +kernel) (by decide +kernel)
set_option maxRecDepth 20000 in
theorem gX1_addRoller_X5_within_n34 : GoodIn wsX1_addRoller (wsX5_within) := ggX1_addRoller_X5_within
theorem dX1_addRoller_0 : decode cX1_addRoller 0 = .ok (.iload_n 1, 1) := by decide +kernel
theorem dX1_addRoller_1 : decode cX1_addRoller 1 = .ok (.i2l, 1) := by decide +kernel
theorem dX1_addRoller_2 : decode cX1_addRoller 2 = .ok (.lconst 0, 1) := by decide +kernel
theorem dX1_addRoller_3 : decode cX1_addRoller 3 = .ok (.aload_n 0, 1) := by decide +kernel
theorem dX1_addRoller_4 : decode cX1_addRoller 4 = .ok (.getfield 46, 3) := by decide +kernel
theorem dX1_addRoller_7 : decode cX1_addRoller 7 = .ok (.iconst 1, 1) := by decide +kernel
theorem dX1_addRoller_8 : decode cX1_addRoller 8 = .ok (.isub, 1) := by decide +kernel
theorem dX1_addRoller_9 : decode cX1_addRoller 9 = .ok (.i2l, 1) := by decide +kernel
theorem dX1_addRoller_10 : decode cX1_addRoller 10 = .ok (.invokestatic 34, 3) := by decide +kernel
theorem dX1_addRoller_13 : decode cX1_addRoller 13 = .ok (.ifCond .eq 15, 3) := by decide +kernel
theorem dX1_addRoller_16 : decode cX1_addRoller 16 = .ok (.iload_n 2, 1) := by decide +kernel
theorem dX1_addRoller_17 : decode cX1_addRoller 17 = .ok (.i2l, 1) := by decide +kernel
theorem dX1_addRoller_18 : decode cX1_addRoller 18 = .ok (.lconst 1, 1) := by decide +kernel
theorem dX1_addRoller_19 : decode cX1_addRoller 19 = .ok (.ldc2_w 64, 3) := by decide +kernel
theorem dX1_addRoller_22 : decode cX1_addRoller 22 = .ok (.invokestatic 34, 3) := by decide +kernel
theorem dX1_addRoller_25 : decode cX1_addRoller 25 = .ok (.ifCond .ne 6, 3) := by decide +kernel
theorem dX1_addRoller_28 : decode cX1_addRoller 28 = .ok (.bipush (-2), 2) := by decide +kernel
theorem dX1_addRoller_30 : decode cX1_addRoller 30 = .ok (.ireturn, 1) := by decide +kernel
theorem dX1_addRoller_31 : decode cX1_addRoller 31 = .ok (.aload_n 0, 1) := by decide +kernel
theorem dX1_addRoller_32 : decode cX1_addRoller 32 = .ok (.getfield 20, 3) := by decide +kernel
theorem dX1_addRoller_35 : decode cX1_addRoller 35 = .ok (.iload_n 1, 1) := by decide +kernel
theorem dX1_addRoller_36 : decode cX1_addRoller 36 = .ok (.aaload, 1) := by decide +kernel
theorem dX1_addRoller_37 : decode cX1_addRoller 37 = .ok (.astore_n 3, 1) := by decide +kernel
theorem dX1_addRoller_38 : decode cX1_addRoller 38 = .ok (.aload_n 3, 1) := by decide +kernel
theorem dX1_addRoller_39 : decode cX1_addRoller 39 = .ok (.getfield 61, 3) := by decide +kernel
theorem dX1_addRoller_42 : decode cX1_addRoller 42 = .ok (.iconst 3, 1) := by decide +kernel
theorem dX1_addRoller_43 : decode cX1_addRoller 43 = .ok (.if_icmp .lt 6, 3) := by decide +kernel
theorem dX1_addRoller_46 : decode cX1_addRoller 46 = .ok (.bipush (-4), 2) := by decide +kernel
theorem dX1_addRoller_48 : decode cX1_addRoller 48 = .ok (.ireturn, 1) := by decide +kernel
theorem dX1_addRoller_49 : decode cX1_addRoller 49 = .ok (.aload_n 3, 1) := by decide +kernel
theorem dX1_addRoller_50 : decode cX1_addRoller 50 = .ok (.getfield 66, 3) := by decide +kernel
theorem dX1_addRoller_53 : decode cX1_addRoller 53 = .ok (.aload_n 3, 1) := by decide +kernel
theorem dX1_addRoller_54 : decode cX1_addRoller 54 = .ok (.getfield 61, 3) := by decide +kernel
theorem dX1_addRoller_57 : decode cX1_addRoller 57 = .ok (.iload_n 2, 1) := by decide +kernel
theorem dX1_addRoller_58 : decode cX1_addRoller 58 = .ok (.iastore, 1) := by decide +kernel
theorem dX1_addRoller_59 : decode cX1_addRoller 59 = .ok (.aload_n 3, 1) := by decide +kernel
theorem dX1_addRoller_60 : decode cX1_addRoller 60 = .ok (.dup, 1) := by decide +kernel
theorem dX1_addRoller_61 : decode cX1_addRoller 61 = .ok (.getfield 61, 3) := by decide +kernel
theorem dX1_addRoller_64 : decode cX1_addRoller 64 = .ok (.iconst 1, 1) := by decide +kernel
theorem dX1_addRoller_65 : decode cX1_addRoller 65 = .ok (.iadd, 1) := by decide +kernel
theorem dX1_addRoller_66 : decode cX1_addRoller 66 = .ok (.putfield 61, 3) := by decide +kernel
theorem dX1_addRoller_69 : decode cX1_addRoller 69 = .ok (.aload_n 3, 1) := by decide +kernel
theorem dX1_addRoller_70 : decode cX1_addRoller 70 = .ok (.getfield 61, 3) := by decide +kernel
theorem dX1_addRoller_73 : decode cX1_addRoller 73 = .ok (.iconst 1, 1) := by decide +kernel
theorem dX1_addRoller_74 : decode cX1_addRoller 74 = .ok (.isub, 1) := by decide +kernel
theorem dX1_addRoller_75 : decode cX1_addRoller 75 = .ok (.ireturn, 1) := by decide +kernel
theorem dX1_removeAll_0 : decode cX1_removeAll 0 = .ok (.aload_n 0, 1) := by decide +kernel
theorem dX1_removeAll_1 : decode cX1_removeAll 1 = .ok (.getfield 46, 3) := by decide +kernel
theorem dX1_removeAll_4 : decode cX1_removeAll 4 = .ok (.istore_n 1, 1) := by decide +kernel
theorem dX1_removeAll_5 : decode cX1_removeAll 5 = .ok (.aload_n 0, 1) := by decide +kernel
theorem dX1_removeAll_6 : decode cX1_removeAll 6 = .ok (.iconst 0, 1) := by decide +kernel
theorem dX1_removeAll_7 : decode cX1_removeAll 7 = .ok (.putfield 46, 3) := by decide +kernel
theorem dX1_removeAll_10 : decode cX1_removeAll 10 = .ok (.iload_n 1, 1) := by decide +kernel
theorem dX1_removeAll_11 : decode cX1_removeAll 11 = .ok (.ireturn, 1) := by decide +kernel
theorem dX1_countRollers_0 : decode cX1_countRollers 0 = .ok (.iconst 0, 1) := by decide +kernel
theorem dX1_countRollers_1 : decode cX1_countRollers 1 = .ok (.istore_n 1, 1) := by decide +kernel
theorem dX1_countRollers_2 : decode cX1_countRollers 2 = .ok (.iconst 0, 1) := by decide +kernel
theorem dX1_countRollers_3 : decode cX1_countRollers 3 = .ok (.istore_n 2, 1) := by decide +kernel
theorem dX1_countRollers_4 : decode cX1_countRollers 4 = .ok (.iload_n 2, 1) := by decide +kernel
theorem dX1_countRollers_5 : decode cX1_countRollers 5 = .ok (.aload_n 0, 1) := by decide +kernel
theorem dX1_countRollers_6 : decode cX1_countRollers 6 = .ok (.getfield 46, 3) := by decide +kernel
theorem dX1_countRollers_9 : decode cX1_countRollers 9 = .ok (.if_icmp .ge 21, 3) := by decide +kernel
theorem dX1_countRollers_12 : decode cX1_countRollers 12 = .ok (.iload_n 1, 1) := by decide +kernel
theorem dX1_countRollers_13 : decode cX1_countRollers 13 = .ok (.aload_n 0, 1) := by decide +kernel
theorem dX1_countRollers_14 : decode cX1_countRollers 14 = .ok (.getfield 20, 3) := by decide +kernel
theorem dX1_countRollers_17 : decode cX1_countRollers 17 = .ok (.iload_n 2, 1) := by decide +kernel
theorem dX1_countRollers_18 : decode cX1_countRollers 18 = .ok (.aaload, 1) := by decide +kernel
theorem dX1_countRollers_19 : decode cX1_countRollers 19 = .ok (.getfield 61, 3) := by decide +kernel
theorem dX1_countRollers_22 : decode cX1_countRollers 22 = .ok (.iadd, 1) := by decide +kernel
theorem dX1_countRollers_23 : decode cX1_countRollers 23 = .ok (.istore_n 1, 1) := by decide +kernel
theorem dX1_countRollers_24 : decode cX1_countRollers 24 = .ok (.iinc 2 1, 3) := by decide +kernel
theorem dX1_countRollers_27 : decode cX1_countRollers 27 = .ok (.goto (-23), 3) := by decide +kernel
theorem dX1_countRollers_30 : decode cX1_countRollers 30 = .ok (.iload_n 1, 1) := by decide +kernel
theorem dX1_countRollers_31 : decode cX1_countRollers 31 = .ok (.ireturn, 1) := by decide +kernel
set_option maxRecDepth 20000 in
theorem ggX1_tellCount_X5_within : GoodIn wsX1_tellCount wsX5_within := goodIn_r _ [6] (by decide +kernel) (by decide +kernel)
set_option maxRecDepth 20000 in
theorem gX1_tellCount_X5_within_n34 : GoodIn wsX1_tellCount (wsX5_within) := ggX1_tellCount_X5_within
set_option maxRecDepth 20000 in
theorem ggX1_tellCount_X1_reckonCount : GoodIn wsX1_tellCount wsX1_reckonCount := goodIn_r _ [11, 12, 13, 14, 15, 16, 17, 18, 19, 20, 21, 22, 23, 24, 25, 26, 27, 28, 29, 30, 31, 32, 33, 34, 35, 36, 37, 38, 39, 40, 41, 42, 47, 48, 49, 50, 51, 52, 53, 54, 55, 56, 57, 58, 59] (by decide +kernel) (by decide +kernel)
set_option maxRecDepth 20000 in
theorem gX1_tellCount_X1_reckonCount : GoodIn wsX1_tellCount (wsV RX1 72 RX1 yX1_reckonCount wsX1_reckonCount) := goodIn_app (goodIn_of _ (by decide +kernel)) ggX1_tellCount_X1_reckonCount
set_option maxRecDepth 20000 in
theorem ggX1_tellCount_X1_toldPart : GoodIn wsX1_tellCount wsX1_toldPart := goodIn_r _ [46, 12, 21, 23, 47, 48, 49, 50, 51, 58, 59] (by decide +kernel) (by decide +kernel)
set_option maxRecDepth 20000 in
theorem gX1_tellCount_X1_toldPart : GoodIn wsX1_tellCount (wsV RX1 76 RX1 yX1_toldPart wsX1_toldPart) := goodIn_app (goodIn_of _ (by decide +kernel)) ggX1_tellCount_X1_toldPart
theorem dX1_tellCount_0 : decode cX1_tellCount 0 = .ok (.iload_n 1, 1) := by decide +kernel
theorem dX1_tellCount_1 : decode cX1_tellCount 1 = .ok (.i2l, 1) := by decide +kernel
theorem dX1_tellCount_2 : decode cX1_tellCount 2 = .ok (.lconst 0, 1) := by decide +kernel
theorem dX1_tellCount_3 : decode cX1_tellCount 3 = .ok (.aload_n 0, 1) := by decide +kernel
theorem dX1_tellCount_4 : decode cX1_tellCount 4 = .ok (.getfield 46, 3) := by decide +kernel
theorem dX1_tellCount_7 : decode cX1_tellCount 7 = .ok (.i2l, 1) := by decide +kernel
theorem dX1_tellCount_8 : decode cX1_tellCount 8 = .ok (.invokestatic 34, 3) := by decide +kernel
theorem dX1_tellCount_11 : decode cX1_tellCount 11 = .ok (.ifCond .eq 13, 3) := by decide +kernel
theorem dX1_tellCount_14 : decode cX1_tellCount 14 = .ok (.iload_n 2, 1) := by decide +kernel
theorem dX1_tellCount_15 : decode cX1_tellCount 15 = .ok (.i2l, 1) := by decide +kernel
theorem dX1_tellCount_16 : decode cX1_tellCount 16 = .ok (.lconst 0, 1) := by decide +kernel
theorem dX1_tellCount_17 : decode cX1_tellCount 17 = .ok (.lconst 1, 1) := by decide +kernel
theorem dX1_tellCount_18 : decode cX1_tellCount 18 = .ok (.invokestatic 34, 3) := by decide +kernel
theorem dX1_tellCount_21 : decode cX1_tellCount 21 = .ok (.ifCond .ne 7, 3) := by decide +kernel
theorem dX1_tellCount_24 : decode cX1_tellCount 24 = .ok (.ldc2_w 70, 3) := by decide +kernel
theorem dX1_tellCount_27 : decode cX1_tellCount 27 = .ok (.lreturn, 1) := by decide +kernel
theorem dX1_tellCount_28 : decode cX1_tellCount 28 = .ok (.aload_n 0, 1) := by decide +kernel
theorem dX1_tellCount_29 : decode cX1_tellCount 29 = .ok (.iload_n 1, 1) := by decide +kernel
theorem dX1_tellCount_30 : decode cX1_tellCount 30 = .ok (.invokevirtual 72, 3) := by decide +kernel
theorem dX1_tellCount_33 : decode cX1_tellCount 33 = .ok (.ifCond .eq 11, 3) := by decide +kernel
theorem dX1_tellCount_36 : decode cX1_tellCount 36 = .ok (.aload_n 0, 1) := by decide +kernel
theorem dX1_tellCount_37 : decode cX1_tellCount 37 = .ok (.iload_n 2, 1) := by decide +kernel
theorem dX1_tellCount_38 : decode cX1_tellCount 38 = .ok (.invokevirtual 76, 3) := by decide +kernel
theorem dX1_tellCount_41 : decode cX1_tellCount 41 = .ok (.goto 6, 3) := by decide +kernel
theorem dX1_tellCount_44 : decode cX1_tellCount 44 = .ok (.ldc2_w 80, 3) := by decide +kernel
theorem dX1_tellCount_47 : decode cX1_tellCount 47 = .ok (.lreturn, 1) := by decide +kernel
set_option maxRecDepth 20000 in
theorem ggX1_tellPeriod_X5_within : GoodIn wsX1_tellPeriod wsX5_within := goodIn_r _ [7] (by decide +kernel) (by decide +kernel)
set_option maxRecDepth 20000 in
theorem gX1_tellPeriod_X5_within_n34 : GoodIn wsX1_tellPeriod (wsX5_within) := ggX1_tellPeriod_X5_within
set_option maxRecDepth 20000 in
theorem ggX1_tellPeriod_X1_reckonPeriod : GoodIn wsX1_tellPeriod wsX1_reckonPeriod := goodIn_r _ [12, 13, 2, 14, 1, 15, 16, 17, 18, 19, 20, 21, 22, 23, 24, 25, 26, 27, 28, 29, 30, 31, 32, 33, 34, 35, 42, 43, 44, 45, 46, 47, 48, 49, 50, 51, 52, 53, 54] (by decide +kernel) (by decide +kernel)
set_option maxRecDepth 20000 in
theorem gX1_tellPeriod_X1_reckonPeriod : GoodIn wsX1_tellPeriod (wsV RX1 82 RX1 yX1_reckonPeriod wsX1_reckonPeriod) := goodIn_app (goodIn_of _ (by decide +kernel)) ggX1_tellPeriod_X1_reckonPeriod
set_option maxRecDepth 20000 in
theorem ggX1_tellPeriod_X1_toldPart : GoodIn wsX1_tellPeriod wsX1_toldPart := goodIn_r _ [39, 13, 40, 41, 42, 43, 44, 45, 46, 53, 54] (by decide +kernel) (by decide +kernel)
set_option maxRecDepth 20000 in
theorem gX1_tellPeriod_X1_toldPart : GoodIn wsX1_tellPeriod (wsV RX1 76 RX1 yX1_toldPart wsX1_toldPart) := goodIn_app (goodIn_of _ (by decide +kernel)) ggX1_tellPeriod_X1_toldPart
theorem dX1_tellPeriod_0 : decode cX1_tellPeriod 0 = .ok (.iload_n 1, 1) := by decide +kernel
theorem dX1_tellPeriod_1 : decode cX1_tellPeriod 1 = .ok (.i2l, 1) := by decide +kernel
theorem dX1_tellPeriod_2 : decode cX1_tellPeriod 2 = .ok (.lconst 0, 1) := by decide +kernel
theorem dX1_tellPeriod_3 : decode cX1_tellPeriod 3 = .ok (.aload_n 0, 1) := by decide +kernel
theorem dX1_tellPeriod_4 : decode cX1_tellPeriod 4 = .ok (.getfield 46, 3) := by decide +kernel
theorem dX1_tellPeriod_7 : decode cX1_tellPeriod 7 = .ok (.iconst 1, 1) := by decide +kernel
theorem dX1_tellPeriod_8 : decode cX1_tellPeriod 8 = .ok (.isub, 1) := by decide +kernel
theorem dX1_tellPeriod_9 : decode cX1_tellPeriod 9 = .ok (.i2l, 1) := by decide +kernel
theorem dX1_tellPeriod_10 : decode cX1_tellPeriod 10 = .ok (.invokestatic 34, 3) := by decide +kernel
theorem dX1_tellPeriod_13 : decode cX1_tellPeriod 13 = .ok (.ifCond .eq 34, 3) := by decide +kernel
theorem dX1_tellPeriod_16 : decode cX1_tellPeriod 16 = .ok (.iload_n 3, 1) := by decide +kernel
theorem dX1_tellPeriod_17 : decode cX1_tellPeriod 17 = .ok (.i2l, 1) := by decide +kernel
theorem dX1_tellPeriod_18 : decode cX1_tellPeriod 18 = .ok (.lconst 0, 1) := by decide +kernel
theorem dX1_tellPeriod_19 : decode cX1_tellPeriod 19 = .ok (.lconst 1, 1) := by decide +kernel
theorem dX1_tellPeriod_20 : decode cX1_tellPeriod 20 = .ok (.invokestatic 34, 3) := by decide +kernel
theorem dX1_tellPeriod_23 : decode cX1_tellPeriod 23 = .ok (.ifCond .eq 24, 3) := by decide +kernel
theorem dX1_tellPeriod_26 : decode cX1_tellPeriod 26 = .ok (.iload_n 2, 1) := by decide +kernel
theorem dX1_tellPeriod_27 : decode cX1_tellPeriod 27 = .ok (.i2l, 1) := by decide +kernel
theorem dX1_tellPeriod_28 : decode cX1_tellPeriod 28 = .ok (.lconst 0, 1) := by decide +kernel
theorem dX1_tellPeriod_29 : decode cX1_tellPeriod 29 = .ok (.aload_n 0, 1) := by decide +kernel
theorem dX1_tellPeriod_30 : decode cX1_tellPeriod 30 = .ok (.getfield 20, 3) := by decide +kernel
theorem dX1_tellPeriod_33 : decode cX1_tellPeriod 33 = .ok (.iload_n 1, 1) := by decide +kernel
theorem dX1_tellPeriod_34 : decode cX1_tellPeriod 34 = .ok (.aaload, 1) := by decide +kernel
theorem dX1_tellPeriod_35 : decode cX1_tellPeriod 35 = .ok (.getfield 61, 3) := by decide +kernel
theorem dX1_tellPeriod_38 : decode cX1_tellPeriod 38 = .ok (.iconst 1, 1) := by decide +kernel
theorem dX1_tellPeriod_39 : decode cX1_tellPeriod 39 = .ok (.isub, 1) := by decide +kernel
theorem dX1_tellPeriod_40 : decode cX1_tellPeriod 40 = .ok (.i2l, 1) := by decide +kernel
theorem dX1_tellPeriod_41 : decode cX1_tellPeriod 41 = .ok (.invokestatic 34, 3) := by decide +kernel
theorem dX1_tellPeriod_44 : decode cX1_tellPeriod 44 = .ok (.ifCond .ne 7, 3) := by decide +kernel
theorem dX1_tellPeriod_47 : decode cX1_tellPeriod 47 = .ok (.ldc2_w 70, 3) := by decide +kernel
theorem dX1_tellPeriod_50 : decode cX1_tellPeriod 50 = .ok (.lreturn, 1) := by decide +kernel
theorem dX1_tellPeriod_51 : decode cX1_tellPeriod 51 = .ok (.aload_n 0, 1) := by decide +kernel
theorem dX1_tellPeriod_52 : decode cX1_tellPeriod 52 = .ok (.iload_n 1, 1) := by decide +kernel
theorem dX1_tellPeriod_53 : decode cX1_tellPeriod 53 = .ok (.iload_n 2, 1) := by decide +kernel
theorem dX1_tellPeriod_54 : decode cX1_tellPeriod 54 = .ok (.invokevirtual 82, 3) := by decide +kernel
theorem dX1_tellPeriod_57 : decode cX1_tellPeriod 57 = .ok (.aload_n 0, 1) := by decide +kernel
theorem dX1_tellPeriod_58 : decode cX1_tellPeriod 58 = .ok (.iload_n 3, 1) := by decide +kernel
theorem dX1_tellPeriod_59 : decode cX1_tellPeriod 59 = .ok (.invokevirtual 76, 3) := by decide +kernel
theorem dX1_tellPeriod_62 : decode cX1_tellPeriod 62 = .ok (.lreturn, 1) := by decide +kernel
set_option maxRecDepth 20000 in
theorem ggX1_findNear_X5_within : GoodIn wsX1_findNear wsX5_within := goodIn_r _ [8] (by decide +kernel) (by decide +kernel)
set_option maxRecDepth 20000 in
theorem gX1_findNear_X5_within_n34 : GoodIn wsX1_findNear (wsX5_within) := ggX1_findNear_X5_within
set_option maxRecDepth 20000 in
theorem ggX1_findNear_X1_isNear : GoodIn wsX1_findNear wsX1_isNear := goodIn_r _ [13, 14, 15, 16, 17, 18, 19, 20, 12, 21, 4, 22, 3, 23, 24, 25, 26, 27, 28, 29, 30, 31, 32, 33, 34, 35, 36, 37, 38, 39, 40, 41, 42, 43, 6, 7, 8, 44, 45, 46, 47, 48, 55, 56, 49, 50, 51, 52, 53, 54] (by decide +kernel) (by decide +kernel)
set_option maxRecDepth 20000 in
theorem gX1_findNear_X1_isNear : GoodIn wsX1_findNear (wsV RX1 90 RX1 yX1_isNear wsX1_isNear) := goodIn_app (goodIn_of _ (by decide +kernel)) ggX1_findNear_X1_isNear
theorem dX1_findNear_0 : decode cX1_findNear 0 = .ok (.iload_n 1, 1) := by decide +kernel
theorem dX1_findNear_1 : decode cX1_findNear 1 = .ok (.i2l, 1) := by decide +kernel
theorem dX1_findNear_2 : decode cX1_findNear 2 = .ok (.lconst 1, 1) := by decide +kernel
theorem dX1_findNear_3 : decode cX1_findNear 3 = .ok (.ldc2_w 86, 3) := by decide +kernel
theorem dX1_findNear_6 : decode cX1_findNear 6 = .ok (.invokestatic 34, 3) := by decide +kernel
theorem dX1_findNear_9 : decode cX1_findNear 9 = .ok (.ifCond .eq 19, 3) := by decide +kernel
theorem dX1_findNear_12 : decode cX1_findNear 12 = .ok (.iload_n 2, 1) := by decide +kernel
theorem dX1_findNear_13 : decode cX1_findNear 13 = .ok (.i2l, 1) := by decide +kernel
theorem dX1_findNear_14 : decode cX1_findNear 14 = .ok (.lconst 0, 1) := by decide +kernel
theorem dX1_findNear_15 : decode cX1_findNear 15 = .ok (.ldc2_w 88, 3) := by decide +kernel
theorem dX1_findNear_18 : decode cX1_findNear 18 = .ok (.invokestatic 34, 3) := by decide +kernel
theorem dX1_findNear_21 : decode cX1_findNear 21 = .ok (.ifCond .eq 7, 3) := by decide +kernel
theorem dX1_findNear_24 : decode cX1_findNear 24 = .ok (.iload_n 3, 1) := by decide +kernel
theorem dX1_findNear_25 : decode cX1_findNear 25 = .ok (.ifCond .ge 6, 3) := by decide +kernel
theorem dX1_findNear_28 : decode cX1_findNear 28 = .ok (.bipush (-2), 2) := by decide +kernel
theorem dX1_findNear_30 : decode cX1_findNear 30 = .ok (.ireturn, 1) := by decide +kernel
theorem dX1_findNear_31 : decode cX1_findNear 31 = .ok (.iconst 0, 1) := by decide +kernel
theorem dX1_findNear_32 : decode cX1_findNear 32 = .ok (.istore 4, 2) := by decide +kernel
theorem dX1_findNear_34 : decode cX1_findNear 34 = .ok (.iconst 0, 1) := by decide +kernel
theorem dX1_findNear_35 : decode cX1_findNear 35 = .ok (.istore 5, 2) := by decide +kernel
theorem dX1_findNear_37 : decode cX1_findNear 37 = .ok (.iload 5, 2) := by decide +kernel
theorem dX1_findNear_39 : decode cX1_findNear 39 = .ok (.aload_n 0, 1) := by decide +kernel
theorem dX1_findNear_40 : decode cX1_findNear 40 = .ok (.getfield 46, 3) := by decide +kernel
theorem dX1_findNear_43 : decode cX1_findNear 43 = .ok (.if_icmp .ge 67, 3) := by decide +kernel
theorem dX1_findNear_46 : decode cX1_findNear 46 = .ok (.iconst 0, 1) := by decide +kernel
theorem dX1_findNear_47 : decode cX1_findNear 47 = .ok (.istore 6, 2) := by decide +kernel
theorem dX1_findNear_49 : decode cX1_findNear 49 = .ok (.iload 6, 2) := by decide +kernel
theorem dX1_findNear_51 : decode cX1_findNear 51 = .ok (.aload_n 0, 1) := by decide +kernel
theorem dX1_findNear_52 : decode cX1_findNear 52 = .ok (.getfield 20, 3) := by decide +kernel
theorem dX1_findNear_55 : decode cX1_findNear 55 = .ok (.iload 5, 2) := by decide +kernel
theorem dX1_findNear_57 : decode cX1_findNear 57 = .ok (.aaload, 1) := by decide +kernel
theorem dX1_findNear_58 : decode cX1_findNear 58 = .ok (.getfield 61, 3) := by decide +kernel
theorem dX1_findNear_61 : decode cX1_findNear 61 = .ok (.if_icmp .ge 43, 3) := by decide +kernel
theorem dX1_findNear_64 : decode cX1_findNear 64 = .ok (.aload_n 0, 1) := by decide +kernel
theorem dX1_findNear_65 : decode cX1_findNear 65 = .ok (.iload 5, 2) := by decide +kernel
theorem dX1_findNear_67 : decode cX1_findNear 67 = .ok (.iload 6, 2) := by decide +kernel
theorem dX1_findNear_69 : decode cX1_findNear 69 = .ok (.iload_n 1, 1) := by decide +kernel
theorem dX1_findNear_70 : decode cX1_findNear 70 = .ok (.iload_n 2, 1) := by decide +kernel
theorem dX1_findNear_71 : decode cX1_findNear 71 = .ok (.invokevirtual 90, 3) := by decide +kernel
theorem dX1_findNear_74 : decode cX1_findNear 74 = .ok (.ifCond .ne 6, 3) := by decide +kernel
theorem dX1_findNear_77 : decode cX1_findNear 77 = .ok (.goto 21, 3) := by decide +kernel
theorem dX1_findNear_80 : decode cX1_findNear 80 = .ok (.iload 4, 2) := by decide +kernel
theorem dX1_findNear_82 : decode cX1_findNear 82 = .ok (.iload_n 3, 1) := by decide +kernel
theorem dX1_findNear_83 : decode cX1_findNear 83 = .ok (.if_icmp .ne 12, 3) := by decide +kernel
theorem dX1_findNear_86 : decode cX1_findNear 86 = .ok (.bipush 8, 2) := by decide +kernel
theorem dX1_findNear_88 : decode cX1_findNear 88 = .ok (.iload 5, 2) := by decide +kernel
theorem dX1_findNear_90 : decode cX1_findNear 90 = .ok (.imul, 1) := by decide +kernel
theorem dX1_findNear_91 : decode cX1_findNear 91 = .ok (.iload 6, 2) := by decide +kernel
theorem dX1_findNear_93 : decode cX1_findNear 93 = .ok (.iadd, 1) := by decide +kernel
theorem dX1_findNear_94 : decode cX1_findNear 94 = .ok (.ireturn, 1) := by decide +kernel
theorem dX1_findNear_95 : decode cX1_findNear 95 = .ok (.iinc 4 1, 3) := by decide +kernel
theorem dX1_findNear_98 : decode cX1_findNear 98 = .ok (.iinc 6 1, 3) := by decide +kernel
theorem dX1_findNear_101 : decode cX1_findNear 101 = .ok (.goto (-52), 3) := by decide +kernel
theorem dX1_findNear_104 : decode cX1_findNear 104 = .ok (.iinc 5 1, 3) := by decide +kernel
theorem dX1_findNear_107 : decode cX1_findNear 107 = .ok (.goto (-70), 3) := by decide +kernel
theorem dX1_findNear_110 : decode cX1_findNear 110 = .ok (.iconst (-1), 1) := by decide +kernel
theorem dX1_findNear_111 : decode cX1_findNear 111 = .ok (.ireturn, 1) := by decide +kernel
theorem dX1_toldPart_0 : decode cX1_toldPart 0 = .ok (.iload_n 1, 1) := by decide +kernel
theorem dX1_toldPart_1 : decode cX1_toldPart 1 = .ok (.ifCond .ne 13, 3) := by decide +kernel
theorem dX1_toldPart_4 : decode cX1_toldPart 4 = .ok (.aload_n 0, 1) := by decide +kernel
theorem dX1_toldPart_5 : decode cX1_toldPart 5 = .ok (.getfield 27, 3) := by decide +kernel
theorem dX1_toldPart_8 : decode cX1_toldPart 8 = .ok (.getfield 94, 3) := by decide +kernel
theorem dX1_toldPart_11 : decode cX1_toldPart 11 = .ok (.goto 10, 3) := by decide +kernel
theorem dX1_toldPart_14 : decode cX1_toldPart 14 = .ok (.aload_n 0, 1) := by decide +kernel
theorem dX1_toldPart_15 : decode cX1_toldPart 15 = .ok (.getfield 27, 3) := by decide +kernel
theorem dX1_toldPart_18 : decode cX1_toldPart 18 = .ok (.getfield 97, 3) := by decide +kernel
theorem dX1_toldPart_21 : decode cX1_toldPart 21 = .ok (.lreturn, 1) := by decide +kernel
set_option maxRecDepth 20000 in
theorem ggX1_reckonCount_X0_set : GoodIn wsX1_reckonCount wsX0_set := goodIn_r _ [17, 18, 19, 20, 21, 22, 16, 23, 24, 25, 26, 43, 44] (by decide +kernel) (by decide +kernel)
set_option maxRecDepth 20000 in
theorem gX1_reckonCount_X0_set : GoodIn wsX1_reckonCount (wsV RX1 99 RX0 yX0_set wsX0_set) := goodIn_app (goodIn_of _ (by decide +kernel)) ggX1_reckonCount_X0_set
set_option maxRecDepth 20000 in
theorem ggX1_reckonCount_X0_times : GoodIn wsX1_reckonCount wsX0_times := goodIn_r _ [30, 18, 19, 31, 14, 15, 16, 17, 20, 21, 22, 23, 24, 25, 26, 43, 44] (by decide +kernel) (by decide +kernel)
set_option maxRecDepth 20000 in
theorem gX1_reckonCount_X0_times : GoodIn wsX1_reckonCount (wsV RX1 103 RX0 yX0_times wsX0_times) := goodIn_app (goodIn_of _ (by decide +kernel)) ggX1_reckonCount_X0_times
theorem dX1_reckonCount_0 : decode cX1_reckonCount 0 = .ok (.aload_n 0, 1) := by decide +kernel
theorem dX1_reckonCount_1 : decode cX1_reckonCount 1 = .ok (.getfield 27, 3) := by decide +kernel
theorem dX1_reckonCount_4 : decode cX1_reckonCount 4 = .ok (.aload_n 0, 1) := by decide +kernel
theorem dX1_reckonCount_5 : decode cX1_reckonCount 5 = .ok (.getfield 9, 3) := by decide +kernel
theorem dX1_reckonCount_8 : decode cX1_reckonCount 8 = .ok (.i2l, 1) := by decide +kernel
theorem dX1_reckonCount_9 : decode cX1_reckonCount 9 = .ok (.aload_n 0, 1) := by decide +kernel
theorem dX1_reckonCount_10 : decode cX1_reckonCount 10 = .ok (.getfield 15, 3) := by decide +kernel
theorem dX1_reckonCount_13 : decode cX1_reckonCount 13 = .ok (.i2l, 1) := by decide +kernel
theorem dX1_reckonCount_14 : decode cX1_reckonCount 14 = .ok (.invokevirtual 99, 3) := by decide +kernel
theorem dX1_reckonCount_17 : decode cX1_reckonCount 17 = .ok (.iconst 0, 1) := by decide +kernel
theorem dX1_reckonCount_18 : decode cX1_reckonCount 18 = .ok (.istore_n 2, 1) := by decide +kernel
theorem dX1_reckonCount_19 : decode cX1_reckonCount 19 = .ok (.iload_n 2, 1) := by decide +kernel
theorem dX1_reckonCount_20 : decode cX1_reckonCount 20 = .ok (.iload_n 1, 1) := by decide +kernel
theorem dX1_reckonCount_21 : decode cX1_reckonCount 21 = .ok (.if_icmp .ge 83, 3) := by decide +kernel
theorem dX1_reckonCount_24 : decode cX1_reckonCount 24 = .ok (.aload_n 0, 1) := by decide +kernel
theorem dX1_reckonCount_25 : decode cX1_reckonCount 25 = .ok (.getfield 20, 3) := by decide +kernel
theorem dX1_reckonCount_28 : decode cX1_reckonCount 28 = .ok (.iload_n 2, 1) := by decide +kernel
theorem dX1_reckonCount_29 : decode cX1_reckonCount 29 = .ok (.aaload, 1) := by decide +kernel
theorem dX1_reckonCount_30 : decode cX1_reckonCount 30 = .ok (.astore_n 3, 1) := by decide +kernel
theorem dX1_reckonCount_31 : decode cX1_reckonCount 31 = .ok (.aload_n 0, 1) := by decide +kernel
theorem dX1_reckonCount_32 : decode cX1_reckonCount 32 = .ok (.getfield 27, 3) := by decide +kernel
theorem dX1_reckonCount_35 : decode cX1_reckonCount 35 = .ok (.aload_n 3, 1) := by decide +kernel
theorem dX1_reckonCount_36 : decode cX1_reckonCount 36 = .ok (.getfield 49, 3) := by decide +kernel
theorem dX1_reckonCount_39 : decode cX1_reckonCount 39 = .ok (.i2l, 1) := by decide +kernel
theorem dX1_reckonCount_40 : decode cX1_reckonCount 40 = .ok (.sipush 1000, 3) := by decide +kernel
theorem dX1_reckonCount_43 : decode cX1_reckonCount 43 = .ok (.aload_n 3, 1) := by decide +kernel
theorem dX1_reckonCount_44 : decode cX1_reckonCount 44 = .ok (.getfield 58, 3) := by decide +kernel
theorem dX1_reckonCount_47 : decode cX1_reckonCount 47 = .ok (.isub, 1) := by decide +kernel
theorem dX1_reckonCount_48 : decode cX1_reckonCount 48 = .ok (.i2l, 1) := by decide +kernel
theorem dX1_reckonCount_49 : decode cX1_reckonCount 49 = .ok (.lmul, 1) := by decide +kernel
theorem dX1_reckonCount_50 : decode cX1_reckonCount 50 = .ok (.aload_n 3, 1) := by decide +kernel
theorem dX1_reckonCount_51 : decode cX1_reckonCount 51 = .ok (.getfield 55, 3) := by decide +kernel
theorem dX1_reckonCount_54 : decode cX1_reckonCount 54 = .ok (.i2l, 1) := by decide +kernel
theorem dX1_reckonCount_55 : decode cX1_reckonCount 55 = .ok (.lmul, 1) := by decide +kernel
theorem dX1_reckonCount_56 : decode cX1_reckonCount 56 = .ok (.ldc2_w 64, 3) := by decide +kernel
theorem dX1_reckonCount_59 : decode cX1_reckonCount 59 = .ok (.aload_n 3, 1) := by decide +kernel
theorem dX1_reckonCount_60 : decode cX1_reckonCount 60 = .ok (.getfield 52, 3) := by decide +kernel
theorem dX1_reckonCount_63 : decode cX1_reckonCount 63 = .ok (.i2l, 1) := by decide +kernel
theorem dX1_reckonCount_64 : decode cX1_reckonCount 64 = .ok (.lmul, 1) := by decide +kernel
theorem dX1_reckonCount_65 : decode cX1_reckonCount 65 = .ok (.invokevirtual 103, 3) := by decide +kernel
theorem dX1_reckonCount_68 : decode cX1_reckonCount 68 = .ok (.aload_n 0, 1) := by decide +kernel
theorem dX1_reckonCount_69 : decode cX1_reckonCount 69 = .ok (.getfield 27, 3) := by decide +kernel
theorem dX1_reckonCount_72 : decode cX1_reckonCount 72 = .ok (.getfield 94, 3) := by decide +kernel
theorem dX1_reckonCount_75 : decode cX1_reckonCount 75 = .ok (.ldc2_w 106, 3) := by decide +kernel
theorem dX1_reckonCount_78 : decode cX1_reckonCount 78 = .ok (.lcmp, 1) := by decide +kernel
theorem dX1_reckonCount_79 : decode cX1_reckonCount 79 = .ok (.ifCond .gt 17, 3) := by decide +kernel
theorem dX1_reckonCount_82 : decode cX1_reckonCount 82 = .ok (.aload_n 0, 1) := by decide +kernel
theorem dX1_reckonCount_83 : decode cX1_reckonCount 83 = .ok (.getfield 27, 3) := by decide +kernel
theorem dX1_reckonCount_86 : decode cX1_reckonCount 86 = .ok (.getfield 97, 3) := by decide +kernel
theorem dX1_reckonCount_89 : decode cX1_reckonCount 89 = .ok (.ldc2_w 106, 3) := by decide +kernel
theorem dX1_reckonCount_92 : decode cX1_reckonCount 92 = .ok (.lcmp, 1) := by decide +kernel
theorem dX1_reckonCount_93 : decode cX1_reckonCount 93 = .ok (.ifCond .le 5, 3) := by decide +kernel
theorem dX1_reckonCount_96 : decode cX1_reckonCount 96 = .ok (.iconst 0, 1) := by decide +kernel
theorem dX1_reckonCount_97 : decode cX1_reckonCount 97 = .ok (.ireturn, 1) := by decide +kernel
theorem dX1_reckonCount_98 : decode cX1_reckonCount 98 = .ok (.iinc 2 1, 3) := by decide +kernel
theorem dX1_reckonCount_101 : decode cX1_reckonCount 101 = .ok (.goto (-82), 3) := by decide +kernel
theorem dX1_reckonCount_104 : decode cX1_reckonCount 104 = .ok (.iconst 1, 1) := by decide +kernel
theorem dX1_reckonCount_105 : decode cX1_reckonCount 105 = .ok (.ireturn, 1) := by decide +kernel
set_option maxRecDepth 20000 in
theorem ggX1_reckonPeriod_X0_set : GoodIn wsX1_reckonPeriod wsX0_set := goodIn_r _ [11, 12, 13, 14, 15, 16, 10, 17, 18, 19, 20, 37, 38] (by decide +kernel) (by decide +kernel)
set_option maxRecDepth 20000 in
theorem gX1_reckonPeriod_X0_set : GoodIn wsX1_reckonPeriod (wsV RX1 99 RX0 yX0_set wsX0_set) := goodIn_app (goodIn_of _ (by decide +kernel)) ggX1_reckonPeriod_X0_set
set_option maxRecDepth 20000 in
theorem ggX1_reckonPeriod_X0_times : GoodIn wsX1_reckonPeriod wsX0_times := goodIn_r _ [24, 12, 13, 25, 8, 9, 10, 11, 14, 15, 16, 17, 18, 19, 20, 37, 38] (by decide +kernel) (by decide +kernel)
set_option maxRecDepth 20000 in
theorem gX1_reckonPeriod_X0_times : GoodIn wsX1_reckonPeriod (wsV RX1 103 RX0 yX0_times wsX0_times) := goodIn_app (goodIn_of _ (by decide +kernel)) ggX1_reckonPeriod_X0_times
theorem dX1_reckonPeriod_0 : decode cX1_reckonPeriod 0 = .ok (.aload_n 0, 1) := by decide +kernel
theorem dX1_reckonPeriod_1 : decode cX1_reckonPeriod 1 = .ok (.getfield 27, 3) := by decide +kernel
theorem dX1_reckonPeriod_4 : decode cX1_reckonPeriod 4 = .ok (.aload_n 0, 1) := by decide +kernel
theorem dX1_reckonPeriod_5 : decode cX1_reckonPeriod 5 = .ok (.getfield 20, 3) := by decide +kernel
theorem dX1_reckonPeriod_8 : decode cX1_reckonPeriod 8 = .ok (.iload_n 1, 1) := by decide +kernel
theorem dX1_reckonPeriod_9 : decode cX1_reckonPeriod 9 = .ok (.aaload, 1) := by decide +kernel
theorem dX1_reckonPeriod_10 : decode cX1_reckonPeriod 10 = .ok (.getfield 66, 3) := by decide +kernel
theorem dX1_reckonPeriod_13 : decode cX1_reckonPeriod 13 = .ok (.iload_n 2, 1) := by decide +kernel
theorem dX1_reckonPeriod_14 : decode cX1_reckonPeriod 14 = .ok (.iaload, 1) := by decide +kernel
theorem dX1_reckonPeriod_15 : decode cX1_reckonPeriod 15 = .ok (.i2l, 1) := by decide +kernel
theorem dX1_reckonPeriod_16 : decode cX1_reckonPeriod 16 = .ok (.lconst 1, 1) := by decide +kernel
theorem dX1_reckonPeriod_17 : decode cX1_reckonPeriod 17 = .ok (.invokevirtual 99, 3) := by decide +kernel
theorem dX1_reckonPeriod_20 : decode cX1_reckonPeriod 20 = .ok (.iload_n 1, 1) := by decide +kernel
theorem dX1_reckonPeriod_21 : decode cX1_reckonPeriod 21 = .ok (.iconst 1, 1) := by decide +kernel
theorem dX1_reckonPeriod_22 : decode cX1_reckonPeriod 22 = .ok (.iadd, 1) := by decide +kernel
theorem dX1_reckonPeriod_23 : decode cX1_reckonPeriod 23 = .ok (.istore_n 3, 1) := by decide +kernel
theorem dX1_reckonPeriod_24 : decode cX1_reckonPeriod 24 = .ok (.iload_n 3, 1) := by decide +kernel
theorem dX1_reckonPeriod_25 : decode cX1_reckonPeriod 25 = .ok (.aload_n 0, 1) := by decide +kernel
theorem dX1_reckonPeriod_26 : decode cX1_reckonPeriod 26 = .ok (.getfield 46, 3) := by decide +kernel
theorem dX1_reckonPeriod_29 : decode cX1_reckonPeriod 29 = .ok (.if_icmp .ge 36, 3) := by decide +kernel
theorem dX1_reckonPeriod_32 : decode cX1_reckonPeriod 32 = .ok (.aload_n 0, 1) := by decide +kernel
theorem dX1_reckonPeriod_33 : decode cX1_reckonPeriod 33 = .ok (.getfield 27, 3) := by decide +kernel
theorem dX1_reckonPeriod_36 : decode cX1_reckonPeriod 36 = .ok (.aload_n 0, 1) := by decide +kernel
theorem dX1_reckonPeriod_37 : decode cX1_reckonPeriod 37 = .ok (.getfield 20, 3) := by decide +kernel
theorem dX1_reckonPeriod_40 : decode cX1_reckonPeriod 40 = .ok (.iload_n 3, 1) := by decide +kernel
theorem dX1_reckonPeriod_41 : decode cX1_reckonPeriod 41 = .ok (.aaload, 1) := by decide +kernel
theorem dX1_reckonPeriod_42 : decode cX1_reckonPeriod 42 = .ok (.getfield 52, 3) := by decide +kernel
theorem dX1_reckonPeriod_45 : decode cX1_reckonPeriod 45 = .ok (.i2l, 1) := by decide +kernel
theorem dX1_reckonPeriod_46 : decode cX1_reckonPeriod 46 = .ok (.aload_n 0, 1) := by decide +kernel
theorem dX1_reckonPeriod_47 : decode cX1_reckonPeriod 47 = .ok (.getfield 20, 3) := by decide +kernel
theorem dX1_reckonPeriod_50 : decode cX1_reckonPeriod 50 = .ok (.iload_n 3, 1) := by decide +kernel
theorem dX1_reckonPeriod_51 : decode cX1_reckonPeriod 51 = .ok (.aaload, 1) := by decide +kernel
theorem dX1_reckonPeriod_52 : decode cX1_reckonPeriod 52 = .ok (.getfield 55, 3) := by decide +kernel
theorem dX1_reckonPeriod_55 : decode cX1_reckonPeriod 55 = .ok (.i2l, 1) := by decide +kernel
theorem dX1_reckonPeriod_56 : decode cX1_reckonPeriod 56 = .ok (.invokevirtual 103, 3) := by decide +kernel
theorem dX1_reckonPeriod_59 : decode cX1_reckonPeriod 59 = .ok (.iinc 3 1, 3) := by decide +kernel
theorem dX1_reckonPeriod_62 : decode cX1_reckonPeriod 62 = .ok (.goto (-38), 3) := by decide +kernel
theorem dX1_reckonPeriod_65 : decode cX1_reckonPeriod 65 = .ok (.return_, 1) := by decide +kernel
set_option maxRecDepth 20000 in
theorem ggX1_isNear_X1_reckonPeriod : GoodIn wsX1_isNear wsX1_reckonPeriod := goodIn_r _ [9, 1, 10, 11, 12, 13, 14, 15, 16, 17, 18, 19, 20, 21, 22, 23, 24, 25, 26, 27, 28, 29, 30, 31, 32, 33, 37, 38, 39, 40, 41, 44, 45, 46, 47, 48, 49, 42, 43] (by decide +kernel) (by decide +kernel)
set_option maxRecDepth 20000 in
theorem gX1_isNear_X1_reckonPeriod : GoodIn wsX1_isNear (wsV RX1 82 RX1 yX1_reckonPeriod wsX1_reckonPeriod) := goodIn_app (goodIn_of _ (by decide +kernel)) ggX1_isNear_X1_reckonPeriod
set_option maxRecDepth 20000 in
theorem ggX1_isNear_X5_within : GoodIn wsX1_isNear wsX5_within := goodIn_r _ [36] (by decide +kernel) (by decide +kernel)
set_option maxRecDepth 20000 in
theorem gX1_isNear_X5_within_n34 : GoodIn wsX1_isNear (wsX5_within) := ggX1_isNear_X5_within
theorem dX1_isNear_0 : decode cX1_isNear 0 = .ok (.aload_n 0, 1) := by decide +kernel
theorem dX1_isNear_1 : decode cX1_isNear 1 = .ok (.iload_n 1, 1) := by decide +kernel
theorem dX1_isNear_2 : decode cX1_isNear 2 = .ok (.iload_n 2, 1) := by decide +kernel
theorem dX1_isNear_3 : decode cX1_isNear 3 = .ok (.invokevirtual 82, 3) := by decide +kernel
theorem dX1_isNear_6 : decode cX1_isNear 6 = .ok (.aload_n 0, 1) := by decide +kernel
theorem dX1_isNear_7 : decode cX1_isNear 7 = .ok (.getfield 27, 3) := by decide +kernel
theorem dX1_isNear_10 : decode cX1_isNear 10 = .ok (.getfield 97, 3) := by decide +kernel
theorem dX1_isNear_13 : decode cX1_isNear 13 = .ok (.iload_n 3, 1) := by decide +kernel
theorem dX1_isNear_14 : decode cX1_isNear 14 = .ok (.i2l, 1) := by decide +kernel
theorem dX1_isNear_15 : decode cX1_isNear 15 = .ok (.lmul, 1) := by decide +kernel
theorem dX1_isNear_16 : decode cX1_isNear 16 = .ok (.lstore 5, 2) := by decide +kernel
theorem dX1_isNear_18 : decode cX1_isNear 18 = .ok (.ldc2_w 64, 3) := by decide +kernel
theorem dX1_isNear_21 : decode cX1_isNear 21 = .ok (.aload_n 0, 1) := by decide +kernel
theorem dX1_isNear_22 : decode cX1_isNear 22 = .ok (.getfield 27, 3) := by decide +kernel
theorem dX1_isNear_25 : decode cX1_isNear 25 = .ok (.getfield 94, 3) := by decide +kernel
theorem dX1_isNear_28 : decode cX1_isNear 28 = .ok (.lmul, 1) := by decide +kernel
theorem dX1_isNear_29 : decode cX1_isNear 29 = .ok (.lload 5, 2) := by decide +kernel
theorem dX1_isNear_31 : decode cX1_isNear 31 = .ok (.sipush 1000, 3) := by decide +kernel
theorem dX1_isNear_34 : decode cX1_isNear 34 = .ok (.iload 4, 2) := by decide +kernel
theorem dX1_isNear_36 : decode cX1_isNear 36 = .ok (.isub, 1) := by decide +kernel
theorem dX1_isNear_37 : decode cX1_isNear 37 = .ok (.i2l, 1) := by decide +kernel
theorem dX1_isNear_38 : decode cX1_isNear 38 = .ok (.lmul, 1) := by decide +kernel
theorem dX1_isNear_39 : decode cX1_isNear 39 = .ok (.lload 5, 2) := by decide +kernel
theorem dX1_isNear_41 : decode cX1_isNear 41 = .ok (.sipush 1000, 3) := by decide +kernel
theorem dX1_isNear_44 : decode cX1_isNear 44 = .ok (.iload 4, 2) := by decide +kernel
theorem dX1_isNear_46 : decode cX1_isNear 46 = .ok (.iadd, 1) := by decide +kernel
theorem dX1_isNear_47 : decode cX1_isNear 47 = .ok (.i2l, 1) := by decide +kernel
theorem dX1_isNear_48 : decode cX1_isNear 48 = .ok (.lmul, 1) := by decide +kernel
theorem dX1_isNear_49 : decode cX1_isNear 49 = .ok (.invokestatic 34, 3) := by decide +kernel
theorem dX1_isNear_52 : decode cX1_isNear 52 = .ok (.ireturn, 1) := by decide +kernel
