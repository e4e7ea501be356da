set_option maxRecDepth 20000 in
theorem ggX5_init_X1_init : GoodIn wsX5_init wsX1_init := goodIn_r _ [18, 19, 2, 3, 20, 21, 22, 23, 24, 25, 26, 27, 28, 29, 30, 31, 32, 33, 34, 35, 36, 37, 38, 39, 50, 51, 52, 53, 54, 69, 70, 71, 72, 73, 74, 75, 76] (by decide +kernel) (by decide +kernel)
set_option maxRecDepth 20000 in
theorem gX5_init_X1_init : GoodIn wsX5_init (wsX1_init) := ggX5_init_X1_init
set_option maxRecDepth 20000 in
theorem ggX5_init_X3_init : GoodIn wsX5_init wsX3_init := goodIn_r _ [41, 42, 2, 3, 38, 43, 58, 59] (by decide +kernel) (by decide +kernel)
set_option maxRecDepth 20000 in
theorem gX5_init_X3_init_n22 : GoodIn wsX5_init (wsX3_init) := ggX5_init_X3_init
set_option maxRecDepth 20000 in
theorem ggX5_init_X4_init : GoodIn wsX5_init wsX4_init := goodIn_r _ [45, 46, 2, 3, 47, 38, 48, 49, 60, 61, 62, 63, 64, 65, 66, 67, 68] (by decide +kernel) (by decide +kernel)
set_option maxRecDepth 20000 in
theorem gX5_init_X4_init_n25 : GoodIn wsX5_init (wsX4_init) := ggX5_init_X4_init
theorem dX5_init_0 : decode cX5_init 0 = .ok (.aload_n 0, 1) := by decide +kernel
theorem dX5_init_1 : decode cX5_init 1 = .ok (.invokespecial 1, 3) := by decide +kernel
theorem dX5_init_4 : decode cX5_init 4 = .ok (.aload_n 0, 1) := by decide +kernel
theorem dX5_init_5 : decode cX5_init 5 = .ok (.new 7, 3) := by decide +kernel
theorem dX5_init_8 : decode cX5_init 8 = .ok (.dup, 1) := by decide +kernel
theorem dX5_init_9 : decode cX5_init 9 = .ok (.invokespecial 9, 3) := by decide +kernel
theorem dX5_init_12 : decode cX5_init 12 = .ok (.putfield 10, 3) := by decide +kernel
theorem dX5_init_15 : decode cX5_init 15 = .ok (.aload_n 0, 1) := by decide +kernel
theorem dX5_init_16 : decode cX5_init 16 = .ok (.bipush 8, 2) := by decide +kernel
theorem dX5_init_18 : decode cX5_init 18 = .ok (.anewarray 16, 3) := by decide +kernel
theorem dX5_init_21 : decode cX5_init 21 = .ok (.putfield 18, 3) := by decide +kernel
theorem dX5_init_24 : decode cX5_init 24 = .ok (.iconst 0, 1) := by decide +kernel
theorem dX5_init_25 : decode cX5_init 25 = .ok (.istore_n 1, 1) := by decide +kernel
theorem dX5_init_26 : decode cX5_init 26 = .ok (.iload_n 1, 1) := by decide +kernel
theorem dX5_init_27 : decode cX5_init 27 = .ok (.bipush 8, 2) := by decide +kernel
theorem dX5_init_29 : decode cX5_init 29 = .ok (.if_icmp .ge 22, 3) := by decide +kernel
theorem dX5_init_32 : decode cX5_init 32 = .ok (.aload_n 0, 1) := by decide +kernel
theorem dX5_init_33 : decode cX5_init 33 = .ok (.getfield 18, 3) := by decide +kernel
theorem dX5_init_36 : decode cX5_init 36 = .ok (.iload_n 1, 1) := by decide +kernel
theorem dX5_init_37 : decode cX5_init 37 = .ok (.new 16, 3) := by decide +kernel
theorem dX5_init_40 : decode cX5_init 40 = .ok (.dup, 1) := by decide +kernel
theorem dX5_init_41 : decode cX5_init 41 = .ok (.invokespecial 22, 3) := by decide +kernel
theorem dX5_init_44 : decode cX5_init 44 = .ok (.aastore, 1) := by decide +kernel
theorem dX5_init_45 : decode cX5_init 45 = .ok (.iinc 1 1, 3) := by decide +kernel
theorem dX5_init_48 : decode cX5_init 48 = .ok (.goto (-22), 3) := by decide +kernel
theorem dX5_init_51 : decode cX5_init 51 = .ok (.aload_n 0, 1) := by decide +kernel
theorem dX5_init_52 : decode cX5_init 52 = .ok (.new 23, 3) := by decide +kernel
theorem dX5_init_55 : decode cX5_init 55 = .ok (.dup, 1) := by decide +kernel
theorem dX5_init_56 : decode cX5_init 56 = .ok (.invokespecial 25, 3) := by decide +kernel
theorem dX5_init_59 : decode cX5_init 59 = .ok (.putfield 26, 3) := by decide +kernel
theorem dX5_init_62 : decode cX5_init 62 = .ok (.return_, 1) := by decide +kernel
set_option maxRecDepth 20000 in
theorem ggX5_count_X1_setFirst : GoodIn wsX5_count wsX1_setFirst := goodIn_r _ [6, 7, 8, 9, 10, 11, 12, 16, 17, 18, 19, 20] (by decide +kernel) (by decide +kernel)
set_option maxRecDepth 20000 in
theorem gX5_count_X1_setFirst : GoodIn wsX5_count (wsV RX5 30 RX1 yX1_setFirst wsX1_setFirst) := goodIn_app (goodIn_of _ (by decide +kernel)) ggX5_count_X1_setFirst
theorem dX5_count_0 : decode cX5_count 0 = .ok (.aload_n 0, 1) := by decide +kernel
theorem dX5_count_1 : decode cX5_count 1 = .ok (.getfield 10, 3) := by decide +kernel
theorem dX5_count_4 : decode cX5_count 4 = .ok (.iload_n 1, 1) := by decide +kernel
theorem dX5_count_5 : decode cX5_count 5 = .ok (.iload_n 2, 1) := by decide +kernel
theorem dX5_count_6 : decode cX5_count 6 = .ok (.invokevirtual 30, 3) := by decide +kernel
theorem dX5_count_9 : decode cX5_count 9 = .ok (.ireturn, 1) := by decide +kernel
set_option maxRecDepth 20000 in
theorem ggX5_machine_X1_addMachine : GoodIn wsX5_machine wsX1_addMachine := goodIn_r _ [6, 7, 8, 9, 10, 11, 12, 13, 14, 15, 16, 17, 18, 19, 20, 24, 25, 26, 27, 28, 29, 30, 31, 32, 33, 34] (by decide +kernel) (by decide +kernel)
set_option maxRecDepth 20000 in
theorem gX5_machine_X1_addMachine : GoodIn wsX5_machine (wsV RX5 34 RX1 yX1_addMachine wsX1_addMachine) := goodIn_app (goodIn_of _ (by decide +kernel)) ggX5_machine_X1_addMachine
theorem dX5_machine_0 : decode cX5_machine 0 = .ok (.aload_n 0, 1) := by decide +kernel
theorem dX5_machine_1 : decode cX5_machine 1 = .ok (.getfield 10, 3) := by decide +kernel
theorem dX5_machine_4 : decode cX5_machine 4 = .ok (.iload_n 1, 1) := by decide +kernel
theorem dX5_machine_5 : decode cX5_machine 5 = .ok (.iload_n 2, 1) := by decide +kernel
theorem dX5_machine_6 : decode cX5_machine 6 = .ok (.iload_n 3, 1) := by decide +kernel
theorem dX5_machine_7 : decode cX5_machine 7 = .ok (.iload 4, 2) := by decide +kernel
theorem dX5_machine_9 : decode cX5_machine 9 = .ok (.invokevirtual 34, 3) := by decide +kernel
theorem dX5_machine_12 : decode cX5_machine 12 = .ok (.ireturn, 1) := by decide +kernel
set_option maxRecDepth 20000 in
theorem ggX5_roller_X1_addRoller : GoodIn wsX5_roller wsX1_addRoller := goodIn_r _ [6, 7, 8, 9, 10, 11, 12, 13, 14, 18, 19, 20, 21, 22, 23, 24, 25, 26, 27, 28] (by decide +kernel) (by decide +kernel)
set_option maxRecDepth 20000 in
theorem gX5_roller_X1_addRoller : GoodIn wsX5_roller (wsV RX5 38 RX1 yX1_addRoller wsX1_addRoller) := goodIn_app (goodIn_of _ (by decide +kernel)) ggX5_roller_X1_addRoller
theorem dX5_roller_0 : decode cX5_roller 0 = .ok (.aload_n 0, 1) := by decide +kernel
theorem dX5_roller_1 : decode cX5_roller 1 = .ok (.getfield 10, 3) := by decide +kernel
theorem dX5_roller_4 : decode cX5_roller 4 = .ok (.iload_n 1, 1) := by decide +kernel
theorem dX5_roller_5 : decode cX5_roller 5 = .ok (.iload_n 2, 1) := by decide +kernel
theorem dX5_roller_6 : decode cX5_roller 6 = .ok (.invokevirtual 38, 3) := by decide +kernel
theorem dX5_roller_9 : decode cX5_roller 9 = .ok (.ireturn, 1) := by decide +kernel
set_option maxRecDepth 20000 in
theorem ggX5_clear_X1_removeAll : GoodIn wsX5_clear wsX1_removeAll := goodIn_r _ [6, 7, 11, 12, 13, 14, 15] (by decide +kernel) (by decide +kernel)
set_option maxRecDepth 20000 in
theorem gX5_clear_X1_removeAll : GoodIn wsX5_clear (wsV RX5 41 RX1 yX1_removeAll wsX1_removeAll) := goodIn_app (goodIn_of _ (by decide +kernel)) ggX5_clear_X1_removeAll
theorem dX5_clear_0 : decode cX5_clear 0 = .ok (.aload_n 0, 1) := by decide +kernel
theorem dX5_clear_1 : decode cX5_clear 1 = .ok (.getfield 10, 3) := by decide +kernel
theorem dX5_clear_4 : decode cX5_clear 4 = .ok (.invokevirtual 41, 3) := by decide +kernel
theorem dX5_clear_7 : decode cX5_clear 7 = .ok (.ireturn, 1) := by decide +kernel
set_option maxRecDepth 20000 in
theorem ggX5_countAt_X1_tellCount : GoodIn wsX5_countAt wsX1_tellCount := goodIn_r _ [6, 7, 8, 9, 10, 11, 12, 13, 14, 15, 5, 16, 17, 18, 19, 20, 21, 22, 23, 24, 25, 26, 27, 28, 29, 30, 31, 32, 33, 34, 35, 36, 37, 38, 39, 40, 41, 42, 43, 44, 45, 46, 47, 48, 49, 50, 51, 55, 56, 57, 58, 59, 60, 61, 62, 63, 64, 65, 66, 67] (by decide +kernel) (by decide +kernel)
set_option maxRecDepth 20000 in
theorem gX5_countAt_X1_tellCount : GoodIn wsX5_countAt (wsV RX5 45 RX1 yX1_tellCount wsX1_tellCount) := goodIn_app (goodIn_of _ (by decide +kernel)) ggX5_countAt_X1_tellCount
theorem dX5_countAt_0 : decode cX5_countAt 0 = .ok (.aload_n 0, 1) := by decide +kernel
theorem dX5_countAt_1 : decode cX5_countAt 1 = .ok (.getfield 10, 3) := by decide +kernel
theorem dX5_countAt_4 : decode cX5_countAt 4 = .ok (.iload_n 1, 1) := by decide +kernel
theorem dX5_countAt_5 : decode cX5_countAt 5 = .ok (.iload_n 2, 1) := by decide +kernel
theorem dX5_countAt_6 : decode cX5_countAt 6 = .ok (.invokevirtual 45, 3) := by decide +kernel
theorem dX5_countAt_9 : decode cX5_countAt 9 = .ok (.lreturn, 1) := by decide +kernel
set_option maxRecDepth 20000 in
theorem ggX5_period_X1_tellPeriod : GoodIn wsX5_period wsX1_tellPeriod := goodIn_r _ [6, 7, 8, 9, 10, 11, 12, 13, 14, 15, 16, 5, 17, 18, 19, 20, 21, 22, 23, 24, 25, 26, 27, 28, 29, 30, 31, 32, 33, 34, 35, 36, 37, 38, 39, 40, 41, 42, 43, 44, 45, 46, 50, 51, 52, 53, 54, 55, 56, 57, 58, 59, 60, 61, 62] (by decide +kernel) (by decide +kernel)
set_option maxRecDepth 20000 in
theorem gX5_period_X1_tellPeriod : GoodIn wsX5_period (wsV RX5 49 RX1 yX1_tellPeriod wsX1_tellPeriod) := goodIn_app (goodIn_of _ (by decide +kernel)) ggX5_period_X1_tellPeriod
theorem dX5_period_0 : decode cX5_period 0 = .ok (.aload_n 0, 1) := by decide +kernel
theorem dX5_period_1 : decode cX5_period 1 = .ok (.getfield 10, 3) := by decide +kernel
theorem dX5_period_4 : decode cX5_period 4 = .ok (.iload_n 1, 1) := by decide +kernel
theorem dX5_period_5 : decode cX5_period 5 = .ok (.iload_n 2, 1) := by decide +kernel
theorem dX5_period_6 : decode cX5_period 6 = .ok (.iload_n 3, 1) := by decide +kernel
theorem dX5_period_7 : decode cX5_period 7 = .ok (.invokevirtual 49, 3) := by decide +kernel
theorem dX5_period_10 : decode cX5_period 10 = .ok (.lreturn, 1) := by decide +kernel
set_option maxRecDepth 20000 in
theorem ggX5_names_X1_findNear : GoodIn wsX5_names wsX1_findNear := goodIn_r _ [6, 7, 8, 9, 10, 11, 12, 13, 14, 15, 16, 17, 5, 18, 19, 20, 21, 22, 23, 24, 25, 26, 27, 28, 29, 30, 31, 32, 33, 34, 35, 36, 37, 38, 39, 40, 41, 42, 43, 44, 45, 46, 47, 48, 52, 53, 54, 55, 56, 57, 58, 59, 60, 61, 62, 63, 64] (by decide +kernel) (by decide +kernel)
set_option maxRecDepth 20000 in
theorem gX5_names_X1_findNear : GoodIn wsX5_names (wsV RX5 53 RX1 yX1_findNear wsX1_findNear) := goodIn_app (goodIn_of _ (by decide +kernel)) ggX5_names_X1_findNear
theorem dX5_names_0 : decode cX5_names 0 = .ok (.aload_n 0, 1) := by decide +kernel
theorem dX5_names_1 : decode cX5_names 1 = .ok (.getfield 10, 3) := by decide +kernel
theorem dX5_names_4 : decode cX5_names 4 = .ok (.iload_n 1, 1) := by decide +kernel
theorem dX5_names_5 : decode cX5_names 5 = .ok (.iload_n 2, 1) := by decide +kernel
theorem dX5_names_6 : decode cX5_names 6 = .ok (.iload_n 3, 1) := by decide +kernel
theorem dX5_names_7 : decode cX5_names 7 = .ok (.invokevirtual 53, 3) := by decide +kernel
theorem dX5_names_10 : decode cX5_names 10 = .ok (.ireturn, 1) := by decide +kernel
set_option maxRecDepth 20000 in
theorem ggX5_cell_X5_rowOrNull : GoodIn wsX5_cell wsX5_rowOrNull := goodIn_r _ [5, 6, 7, 8, 9, 4, 10, 19, 20, 21] (by decide +kernel) (by decide +kernel)
set_option maxRecDepth 20000 in
theorem gX5_cell_X5_rowOrNull : GoodIn wsX5_cell (wsV RX5 57 RX5 yX5_rowOrNull wsX5_rowOrNull) := goodIn_app (goodIn_of _ (by decide +kernel)) ggX5_cell_X5_rowOrNull
set_option maxRecDepth 20000 in
theorem ggX5_cell_X3_addCell : GoodIn wsX5_cell wsX3_addCell := goodIn_r _ [15, 16, 17, 18, 9, 4, 10, 22, 23] (by decide +kernel) (by decide +kernel)
set_option maxRecDepth 20000 in
theorem gX5_cell_X3_addCell : GoodIn wsX5_cell (wsV RX5 61 RX3 yX3_addCell wsX3_addCell) := goodIn_app (goodIn_of _ (by decide +kernel)) ggX5_cell_X3_addCell
theorem dX5_cell_0 : decode cX5_cell 0 = .ok (.aload_n 0, 1) := by decide +kernel
theorem dX5_cell_1 : decode cX5_cell 1 = .ok (.iload_n 1, 1) := by decide +kernel
theorem dX5_cell_2 : decode cX5_cell 2 = .ok (.invokevirtual 57, 3) := by decide +kernel
theorem dX5_cell_5 : decode cX5_cell 5 = .ok (.astore_n 3, 1) := by decide +kernel
theorem dX5_cell_6 : decode cX5_cell 6 = .ok (.aload_n 3, 1) := by decide +kernel
theorem dX5_cell_7 : decode cX5_cell 7 = .ok (.ifnonnull 8, 3) := by decide +kernel
theorem dX5_cell_10 : decode cX5_cell 10 = .ok (.bipush (-2), 2) := by decide +kernel
theorem dX5_cell_12 : decode cX5_cell 12 = .ok (.goto 8, 3) := by decide +kernel
theorem dX5_cell_15 : decode cX5_cell 15 = .ok (.aload_n 3, 1) := by decide +kernel
theorem dX5_cell_16 : decode cX5_cell 16 = .ok (.iload_n 2, 1) := by decide +kernel
theorem dX5_cell_17 : decode cX5_cell 17 = .ok (.invokevirtual 61, 3) := by decide +kernel
theorem dX5_cell_20 : decode cX5_cell 20 = .ok (.ireturn, 1) := by decide +kernel
set_option maxRecDepth 20000 in
theorem ggX5_draw_X5_rowOrNull : GoodIn wsX5_draw wsX5_rowOrNull := goodIn_r _ [5, 6, 7, 8, 9, 4, 10, 23, 24, 25] (by decide +kernel) (by decide +kernel)
set_option maxRecDepth 20000 in
theorem gX5_draw_X5_rowOrNull : GoodIn wsX5_draw (wsV RX5 57 RX5 yX5_rowOrNull wsX5_rowOrNull) := goodIn_app (goodIn_of _ (by decide +kernel)) ggX5_draw_X5_rowOrNull
set_option maxRecDepth 20000 in
theorem ggX5_draw_X3_addDrawn : GoodIn wsX5_draw wsX3_addDrawn := goodIn_r _ [15, 16, 17, 18, 19, 20, 21, 22, 9, 4, 10, 26, 27] (by decide +kernel) (by decide +kernel)
set_option maxRecDepth 20000 in
theorem gX5_draw_X3_addDrawn : GoodIn wsX5_draw (wsV RX5 65 RX3 yX3_addDrawn wsX3_addDrawn) := goodIn_app (goodIn_of _ (by decide +kernel)) ggX5_draw_X3_addDrawn
theorem dX5_draw_0 : decode cX5_draw 0 = .ok (.aload_n 0, 1) := by decide +kernel
theorem dX5_draw_1 : decode cX5_draw 1 = .ok (.iload_n 1, 1) := by decide +kernel
theorem dX5_draw_2 : decode cX5_draw 2 = .ok (.invokevirtual 57, 3) := by decide +kernel
theorem dX5_draw_5 : decode cX5_draw 5 = .ok (.astore 6, 2) := by decide +kernel
theorem dX5_draw_7 : decode cX5_draw 7 = .ok (.aload 6, 2) := by decide +kernel
theorem dX5_draw_9 : decode cX5_draw 9 = .ok (.ifnonnull 8, 3) := by decide +kernel
theorem dX5_draw_12 : decode cX5_draw 12 = .ok (.bipush (-2), 2) := by decide +kernel
theorem dX5_draw_14 : decode cX5_draw 14 = .ok (.goto 14, 3) := by decide +kernel
theorem dX5_draw_17 : decode cX5_draw 17 = .ok (.aload 6, 2) := by decide +kernel
theorem dX5_draw_19 : decode cX5_draw 19 = .ok (.iload_n 2, 1) := by decide +kernel
theorem dX5_draw_20 : decode cX5_draw 20 = .ok (.iload_n 3, 1) := by decide +kernel
theorem dX5_draw_21 : decode cX5_draw 21 = .ok (.iload 4, 2) := by decide +kernel
theorem dX5_draw_23 : decode cX5_draw 23 = .ok (.iload 5, 2) := by decide +kernel
theorem dX5_draw_25 : decode cX5_draw 25 = .ok (.invokevirtual 65, 3) := by decide +kernel
theorem dX5_draw_28 : decode cX5_draw 28 = .ok (.ireturn, 1) := by decide +kernel
set_option maxRecDepth 20000 in
theorem ggX5_empty_X5_rowOrNull : GoodIn wsX5_empty wsX5_rowOrNull := goodIn_r _ [5, 6, 7, 8, 9, 4, 10, 17, 18, 19] (by decide +kernel) (by decide +kernel)
set_option maxRecDepth 20000 in
theorem gX5_empty_X5_rowOrNull : GoodIn wsX5_empty (wsV RX5 57 RX5 yX5_rowOrNull wsX5_rowOrNull) := goodIn_app (goodIn_of _ (by decide +kernel)) ggX5_empty_X5_rowOrNull
set_option maxRecDepth 20000 in
theorem ggX5_empty_X3_removeAll : GoodIn wsX5_empty wsX3_removeAll := goodIn_r _ [15, 16, 20, 21] (by decide +kernel) (by decide +kernel)
set_option maxRecDepth 20000 in
theorem gX5_empty_X3_removeAll : GoodIn wsX5_empty (wsV RX5 68 RX3 yX3_removeAll wsX3_removeAll) := goodIn_app (goodIn_of _ (by decide +kernel)) ggX5_empty_X3_removeAll
theorem dX5_empty_0 : decode cX5_empty 0 = .ok (.aload_n 0, 1) := by decide +kernel
theorem dX5_empty_1 : decode cX5_empty 1 = .ok (.iload_n 1, 1) := by decide +kernel
theorem dX5_empty_2 : decode cX5_empty 2 = .ok (.invokevirtual 57, 3) := by decide +kernel
theorem dX5_empty_5 : decode cX5_empty 5 = .ok (.astore_n 2, 1) := by decide +kernel
theorem dX5_empty_6 : decode cX5_empty 6 = .ok (.aload_n 2, 1) := by decide +kernel
theorem dX5_empty_7 : decode cX5_empty 7 = .ok (.ifnonnull 8, 3) := by decide +kernel
theorem dX5_empty_10 : decode cX5_empty 10 = .ok (.bipush (-2), 2) := by decide +kernel
theorem dX5_empty_12 : decode cX5_empty 12 = .ok (.goto 7, 3) := by decide +kernel
theorem dX5_empty_15 : decode cX5_empty 15 = .ok (.aload_n 2, 1) := by decide +kernel
theorem dX5_empty_16 : decode cX5_empty 16 = .ok (.invokevirtual 68, 3) := by decide +kernel
theorem dX5_empty_19 : decode cX5_empty 19 = .ok (.ireturn, 1) := by decide +kernel
set_option maxRecDepth 20000 in
theorem ggX5_at_X5_rowOrNull : GoodIn wsX5_at wsX5_rowOrNull := goodIn_r _ [5, 6, 7, 8, 9, 4, 10, 18, 19, 20] (by decide +kernel) (by decide +kernel)
set_option maxRecDepth 20000 in
theorem gX5_at_X5_rowOrNull : GoodIn wsX5_at (wsV RX5 57 RX5 yX5_rowOrNull wsX5_rowOrNull) := goodIn_app (goodIn_of _ (by decide +kernel)) ggX5_at_X5_rowOrNull
set_option maxRecDepth 20000 in
theorem ggX5_at_X3_massAt : GoodIn wsX5_at wsX3_massAt := goodIn_r _ [15, 16, 17, 9, 4, 10, 21, 22] (by decide +kernel) (by decide +kernel)
set_option maxRecDepth 20000 in
theorem gX5_at_X3_massAt : GoodIn wsX5_at (wsV RX5 69 RX3 yX3_massAt wsX3_massAt) := goodIn_app (goodIn_of _ (by decide +kernel)) ggX5_at_X3_massAt
theorem dX5_at_0 : decode cX5_at 0 = .ok (.aload_n 0, 1) := by decide +kernel
theorem dX5_at_1 : decode cX5_at 1 = .ok (.iload_n 1, 1) := by decide +kernel
theorem dX5_at_2 : decode cX5_at 2 = .ok (.invokevirtual 57, 3) := by decide +kernel
theorem dX5_at_5 : decode cX5_at 5 = .ok (.astore_n 3, 1) := by decide +kernel
theorem dX5_at_6 : decode cX5_at 6 = .ok (.aload_n 3, 1) := by decide +kernel
theorem dX5_at_7 : decode cX5_at 7 = .ok (.ifnonnull 8, 3) := by decide +kernel
theorem dX5_at_10 : decode cX5_at 10 = .ok (.bipush (-2), 2) := by decide +kernel
theorem dX5_at_12 : decode cX5_at 12 = .ok (.goto 8, 3) := by decide +kernel
theorem dX5_at_15 : decode cX5_at 15 = .ok (.aload_n 3, 1) := by decide +kernel
theorem dX5_at_16 : decode cX5_at 16 = .ok (.iload_n 2, 1) := by decide +kernel
theorem dX5_at_17 : decode cX5_at 17 = .ok (.invokevirtual 69, 3) := by decide +kernel
theorem dX5_at_20 : decode cX5_at 20 = .ok (.ireturn, 1) := by decide +kernel
set_option maxRecDepth 20000 in
theorem ggX5_join_X5_rowOrNull : GoodIn wsX5_join wsX5_rowOrNull := goodIn_r _ [5, 6, 7, 8, 9, 4, 10, 19, 20, 21] (by decide +kernel) (by decide +kernel)
set_option maxRecDepth 20000 in
theorem gX5_join_X5_rowOrNull : GoodIn wsX5_join (wsV RX5 57 RX5 yX5_rowOrNull wsX5_rowOrNull) := goodIn_app (goodIn_of _ (by decide +kernel)) ggX5_join_X5_rowOrNull
set_option maxRecDepth 20000 in
theorem ggX5_join_X3_addRow : GoodIn wsX5_join wsX3_addRow := goodIn_r _ [15, 16, 17, 18, 22, 23] (by decide +kernel) (by decide +kernel)
set_option maxRecDepth 20000 in
theorem gX5_join_X3_addRow : GoodIn wsX5_join (wsV RX5 72 RX3 yX3_addRow wsX3_addRow) := goodIn_app (goodIn_of _ (by decide +kernel)) ggX5_join_X3_addRow
theorem dX5_join_0 : decode cX5_join 0 = .ok (.aload_n 0, 1) := by decide +kernel
theorem dX5_join_1 : decode cX5_join 1 = .ok (.iload_n 1, 1) := by decide +kernel
theorem dX5_join_2 : decode cX5_join 2 = .ok (.invokevirtual 57, 3) := by decide +kernel
theorem dX5_join_5 : decode cX5_join 5 = .ok (.astore_n 3, 1) := by decide +kernel
theorem dX5_join_6 : decode cX5_join 6 = .ok (.aload_n 0, 1) := by decide +kernel
theorem dX5_join_7 : decode cX5_join 7 = .ok (.iload_n 2, 1) := by decide +kernel
theorem dX5_join_8 : decode cX5_join 8 = .ok (.invokevirtual 57, 3) := by decide +kernel
theorem dX5_join_11 : decode cX5_join 11 = .ok (.astore 4, 2) := by decide +kernel
theorem dX5_join_13 : decode cX5_join 13 = .ok (.aload_n 3, 1) := by decide +kernel
theorem dX5_join_14 : decode cX5_join 14 = .ok (.ifnull 8, 3) := by decide +kernel
theorem dX5_join_17 : decode cX5_join 17 = .ok (.aload 4, 2) := by decide +kernel
theorem dX5_join_19 : decode cX5_join 19 = .ok (.ifnonnull 6, 3) := by decide +kernel
theorem dX5_join_22 : decode cX5_join 22 = .ok (.bipush (-2), 2) := by decide +kernel
theorem dX5_join_24 : decode cX5_join 24 = .ok (.ireturn, 1) := by decide +kernel
theorem dX5_join_25 : decode cX5_join 25 = .ok (.iload_n 1, 1) := by decide +kernel
theorem dX5_join_26 : decode cX5_join 26 = .ok (.iload_n 2, 1) := by decide +kernel
theorem dX5_join_27 : decode cX5_join 27 = .ok (.if_icmp .ne 8, 3) := by decide +kernel
theorem dX5_join_30 : decode cX5_join 30 = .ok (.bipush (-3), 2) := by decide +kernel
theorem dX5_join_32 : decode cX5_join 32 = .ok (.goto 9, 3) := by decide +kernel
theorem dX5_join_35 : decode cX5_join 35 = .ok (.aload_n 3, 1) := by decide +kernel
theorem dX5_join_36 : decode cX5_join 36 = .ok (.aload 4, 2) := by decide +kernel
theorem dX5_join_38 : decode cX5_join 38 = .ok (.invokevirtual 72, 3) := by decide +kernel
theorem dX5_join_41 : decode cX5_join 41 = .ok (.ireturn, 1) := by decide +kernel
set_option maxRecDepth 20000 in
theorem ggX5_stretch_X5_rowOrNull : GoodIn wsX5_stretch wsX5_rowOrNull := goodIn_r _ [5, 6, 7, 8, 9, 4, 10, 20, 21, 22] (by decide +kernel) (by decide +kernel)
set_option maxRecDepth 20000 in
theorem gX5_stretch_X5_rowOrNull : GoodIn wsX5_stretch (wsV RX5 57 RX5 yX5_rowOrNull wsX5_rowOrNull) := goodIn_app (goodIn_of _ (by decide +kernel)) ggX5_stretch_X5_rowOrNull
set_option maxRecDepth 20000 in
theorem ggX5_stretch_X3_stretchBy : GoodIn wsX5_stretch wsX3_stretchBy := goodIn_r _ [15, 16, 17, 18, 19, 9, 4, 10, 23, 24] (by decide +kernel) (by decide +kernel)
set_option maxRecDepth 20000 in
theorem gX5_stretch_X3_stretchBy : GoodIn wsX5_stretch (wsV RX5 76 RX3 yX3_stretchBy wsX3_stretchBy) := goodIn_app (goodIn_of _ (by decide +kernel)) ggX5_stretch_X3_stretchBy
theorem dX5_stretch_0 : decode cX5_stretch 0 = .ok (.aload_n 0, 1) := by decide +kernel
theorem dX5_stretch_1 : decode cX5_stretch 1 = .ok (.iload_n 1, 1) := by decide +kernel
theorem dX5_stretch_2 : decode cX5_stretch 2 = .ok (.invokevirtual 57, 3) := by decide +kernel
theorem dX5_stretch_5 : decode cX5_stretch 5 = .ok (.astore_n 3, 1) := by decide +kernel
theorem dX5_stretch_6 : decode cX5_stretch 6 = .ok (.aload_n 3, 1) := by decide +kernel
theorem dX5_stretch_7 : decode cX5_stretch 7 = .ok (.ifnonnull 8, 3) := by decide +kernel
theorem dX5_stretch_10 : decode cX5_stretch 10 = .ok (.bipush (-2), 2) := by decide +kernel
theorem dX5_stretch_12 : decode cX5_stretch 12 = .ok (.goto 8, 3) := by decide +kernel
theorem dX5_stretch_15 : decode cX5_stretch 15 = .ok (.aload_n 3, 1) := by decide +kernel
theorem dX5_stretch_16 : decode cX5_stretch 16 = .ok (.iload_n 2, 1) := by decide +kernel
theorem dX5_stretch_17 : decode cX5_stretch 17 = .ok (.invokevirtual 76, 3) := by decide +kernel
theorem dX5_stretch_20 : decode cX5_stretch 20 = .ok (.ireturn, 1) := by decide +kernel
set_option maxRecDepth 20000 in
theorem ggX5_gather_X5_rowOrNull : GoodIn wsX5_gather wsX5_rowOrNull := goodIn_r _ [5, 6, 7, 8, 9, 4, 10, 29, 30, 31] (by decide +kernel) (by decide +kernel)
set_option maxRecDepth 20000 in
theorem gX5_gather_X5_rowOrNull : GoodIn wsX5_gather (wsV RX5 57 RX5 yX5_rowOrNull wsX5_rowOrNull) := goodIn_app (goodIn_of _ (by decide +kernel)) ggX5_gather_X5_rowOrNull
set_option maxRecDepth 20000 in
theorem ggX5_gather_X3_gatherBy : GoodIn wsX5_gather wsX3_gatherBy := goodIn_r _ [15, 16, 17, 18, 19, 20, 9, 4, 10, 21, 22, 23, 14, 24, 25, 26, 27, 28, 32, 33] (by decide +kernel) (by decide +kernel)
set_option maxRecDepth 20000 in
theorem gX5_gather_X3_gatherBy : GoodIn wsX5_gather (wsV RX5 79 RX3 yX3_gatherBy wsX3_gatherBy) := goodIn_app (goodIn_of _ (by decide +kernel)) ggX5_gather_X3_gatherBy
theorem dX5_gather_0 : decode cX5_gather 0 = .ok (.aload_n 0, 1) := by decide +kernel
theorem dX5_gather_1 : decode cX5_gather 1 = .ok (.iload_n 1, 1) := by decide +kernel
theorem dX5_gather_2 : decode cX5_gather 2 = .ok (.invokevirtual 57, 3) := by decide +kernel
theorem dX5_gather_5 : decode cX5_gather 5 = .ok (.astore_n 3, 1) := by decide +kernel
theorem dX5_gather_6 : decode cX5_gather 6 = .ok (.aload_n 3, 1) := by decide +kernel
theorem dX5_gather_7 : decode cX5_gather 7 = .ok (.ifnonnull 8, 3) := by decide +kernel
theorem dX5_gather_10 : decode cX5_gather 10 = .ok (.bipush (-2), 2) := by decide +kernel
theorem dX5_gather_12 : decode cX5_gather 12 = .ok (.goto 8, 3) := by decide +kernel
theorem dX5_gather_15 : decode cX5_gather 15 = .ok (.aload_n 3, 1) := by decide +kernel
theorem dX5_gather_16 : decode cX5_gather 16 = .ok (.iload_n 2, 1) := by decide +kernel
theorem dX5_gather_17 : decode cX5_gather 17 = .ok (.invokevirtual 79, 3) := by decide +kernel
theorem dX5_gather_20 : decode cX5_gather 20 = .ok (.ireturn, 1) := by decide +kernel
set_option maxRecDepth 20000 in
theorem ggX5_fault_X5_rowOrNull : GoodIn wsX5_fault wsX5_rowOrNull := goodIn_r _ [5, 6, 7, 8, 9, 4, 10, 26, 27, 28] (by decide +kernel) (by decide +kernel)
set_option maxRecDepth 20000 in
theorem gX5_fault_X5_rowOrNull : GoodIn wsX5_fault (wsV RX5 57 RX5 yX5_rowOrNull wsX5_rowOrNull) := goodIn_app (goodIn_of _ (by decide +kernel)) ggX5_fault_X5_rowOrNull
set_option maxRecDepth 20000 in
theorem ggX5_fault_X3_faultBy : GoodIn wsX5_fault wsX3_faultBy := goodIn_r _ [15, 16, 17, 18, 19, 20, 21, 9, 4, 10, 22, 23, 24, 14, 25, 29, 30] (by decide +kernel) (by decide +kernel)
set_option maxRecDepth 20000 in
theorem gX5_fault_X3_faultBy : GoodIn wsX5_fault (wsV RX5 82 RX3 yX3_faultBy wsX3_faultBy) := goodIn_app (goodIn_of _ (by decide +kernel)) ggX5_fault_X3_faultBy
theorem dX5_fault_0 : decode cX5_fault 0 = .ok (.aload_n 0, 1) := by decide +kernel
theorem dX5_fault_1 : decode cX5_fault 1 = .ok (.iload_n 1, 1) := by decide +kernel
theorem dX5_fault_2 : decode cX5_fault 2 = .ok (.invokevirtual 57, 3) := by decide +kernel
theorem dX5_fault_5 : decode cX5_fault 5 = .ok (.astore 4, 2) := by decide +kernel
theorem dX5_fault_7 : decode cX5_fault 7 = .ok (.aload 4, 2) := by decide +kernel
theorem dX5_fault_9 : decode cX5_fault 9 = .ok (.ifnonnull 8, 3) := by decide +kernel
theorem dX5_fault_12 : decode cX5_fault 12 = .ok (.bipush (-2), 2) := by decide +kernel
theorem dX5_fault_14 : decode cX5_fault 14 = .ok (.goto 10, 3) := by decide +kernel
theorem dX5_fault_17 : decode cX5_fault 17 = .ok (.aload 4, 2) := by decide +kernel
theorem dX5_fault_19 : decode cX5_fault 19 = .ok (.iload_n 2, 1) := by decide +kernel
theorem dX5_fault_20 : decode cX5_fault 20 = .ok (.iload_n 3, 1) := by decide +kernel
theorem dX5_fault_21 : decode cX5_fault 21 = .ok (.invokevirtual 82, 3) := by decide +kernel
theorem dX5_fault_24 : decode cX5_fault 24 = .ok (.ireturn, 1) := by decide +kernel
set_option maxRecDepth 20000 in
theorem ggX5_about_X5_rowOrNull : GoodIn wsX5_about wsX5_rowOrNull := goodIn_r _ [6, 7, 8, 9, 10, 5, 11, 32, 33, 34] (by decide +kernel) (by decide +kernel)
set_option maxRecDepth 20000 in
theorem gX5_about_X5_rowOrNull : GoodIn wsX5_about (wsV RX5 57 RX5 yX5_rowOrNull wsX5_rowOrNull) := goodIn_app (goodIn_of _ (by decide +kernel)) ggX5_about_X5_rowOrNull
set_option maxRecDepth 20000 in
theorem ggX5_about_X3_measure : GoodIn wsX5_about wsX3_measure := goodIn_r _ [16, 17, 18, 19, 20, 21, 15, 22, 23, 24, 25, 26, 27, 28, 29, 30, 31, 35, 36] (by decide +kernel) (by decide +kernel)
set_option maxRecDepth 20000 in
theorem gX5_about_X3_measure : GoodIn wsX5_about (wsV RX5 87 RX3 yX3_measure wsX3_measure) := goodIn_app (goodIn_of _ (by decide +kernel)) ggX5_about_X3_measure
theorem dX5_about_0 : decode cX5_about 0 = .ok (.aload_n 0, 1) := by decide +kernel
theorem dX5_about_1 : decode cX5_about 1 = .ok (.iload_n 1, 1) := by decide +kernel
theorem dX5_about_2 : decode cX5_about 2 = .ok (.invokevirtual 57, 3) := by decide +kernel
theorem dX5_about_5 : decode cX5_about 5 = .ok (.astore_n 3, 1) := by decide +kernel
theorem dX5_about_6 : decode cX5_about 6 = .ok (.aload_n 3, 1) := by decide +kernel
theorem dX5_about_7 : decode cX5_about 7 = .ok (.ifnonnull 9, 3) := by decide +kernel
theorem dX5_about_10 : decode cX5_about 10 = .ok (.ldc2_w 85, 3) := by decide +kernel
theorem dX5_about_13 : decode cX5_about 13 = .ok (.goto 8, 3) := by decide +kernel
theorem dX5_about_16 : decode cX5_about 16 = .ok (.aload_n 3, 1) := by decide +kernel
theorem dX5_about_17 : decode cX5_about 17 = .ok (.iload_n 2, 1) := by decide +kernel
theorem dX5_about_18 : decode cX5_about 18 = .ok (.invokevirtual 87, 3) := by decide +kernel
theorem dX5_about_21 : decode cX5_about 21 = .ok (.lreturn, 1) := by decide +kernel
set_option maxRecDepth 20000 in
theorem ggX5_wave_X5_rowOrNull : GoodIn wsX5_wave wsX5_rowOrNull := goodIn_r _ [6, 7, 8, 9, 10, 5, 11, 22, 23, 24] (by decide +kernel) (by decide +kernel)
set_option maxRecDepth 20000 in
theorem gX5_wave_X5_rowOrNull : GoodIn wsX5_wave (wsV RX5 57 RX5 yX5_rowOrNull wsX5_rowOrNull) := goodIn_app (goodIn_of _ (by decide +kernel)) ggX5_wave_X5_rowOrNull
set_option maxRecDepth 20000 in
theorem ggX5_wave_X3_waveAt : GoodIn wsX5_wave wsX3_waveAt := goodIn_r _ [16, 17, 18, 19, 20, 21, 10, 5, 11, 25, 26] (by decide +kernel) (by decide +kernel)
set_option maxRecDepth 20000 in
theorem gX5_wave_X3_waveAt : GoodIn wsX5_wave (wsV RX5 91 RX3 yX3_waveAt wsX3_waveAt) := goodIn_app (goodIn_of _ (by decide +kernel)) ggX5_wave_X3_waveAt
theorem dX5_wave_0 : decode cX5_wave 0 = .ok (.aload_n 0, 1) := by decide +kernel
theorem dX5_wave_1 : decode cX5_wave 1 = .ok (.iload_n 1, 1) := by decide +kernel
theorem dX5_wave_2 : decode cX5_wave 2 = .ok (.invokevirtual 57, 3) := by decide +kernel
theorem dX5_wave_5 : decode cX5_wave 5 = .ok (.astore_n 3, 1) := by decide +kernel
theorem dX5_wave_6 : decode cX5_wave 6 = .ok (.aload_n 3, 1) := by decide +kernel
theorem dX5_wave_7 : decode cX5_wave 7 = .ok (.ifnonnull 9, 3) := by decide +kernel
theorem dX5_wave_10 : decode cX5_wave 10 = .ok (.ldc2_w 85, 3) := by decide +kernel
theorem dX5_wave_13 : decode cX5_wave 13 = .ok (.goto 8, 3) := by decide +kernel
theorem dX5_wave_16 : decode cX5_wave 16 = .ok (.aload_n 3, 1) := by decide +kernel
theorem dX5_wave_17 : decode cX5_wave 17 = .ok (.iload_n 2, 1) := by decide +kernel
theorem dX5_wave_18 : decode cX5_wave 18 = .ok (.invokevirtual 91, 3) := by decide +kernel
theorem dX5_wave_21 : decode cX5_wave 21 = .ok (.lreturn, 1) := by decide +kernel
set_option maxRecDepth 20000 in
theorem ggX5_greatest_X5_rowOrNull : GoodIn wsX5_greatest wsX5_rowOrNull := goodIn_r _ [5, 6, 7, 8, 9, 4, 10, 28, 29, 30] (by decide +kernel) (by decide +kernel)
set_option maxRecDepth 20000 in
theorem gX5_greatest_X5_rowOrNull : GoodIn wsX5_greatest (wsV RX5 57 RX5 yX5_rowOrNull wsX5_rowOrNull) := goodIn_app (goodIn_of _ (by decide +kernel)) ggX5_greatest_X5_rowOrNull
set_option maxRecDepth 20000 in
theorem ggX5_greatest_X3_greatestUpTo : GoodIn wsX5_greatest wsX3_greatestUpTo := goodIn_r _ [15, 16, 17, 18, 9, 4, 10, 19, 20, 21, 14, 22, 23, 24, 25, 26, 27, 31, 32] (by decide +kernel) (by decide +kernel)
set_option maxRecDepth 20000 in
theorem gX5_greatest_X3_greatestUpTo : GoodIn wsX5_greatest (wsV RX5 94 RX3 yX3_greatestUpTo wsX3_greatestUpTo) := goodIn_app (goodIn_of _ (by decide +kernel)) ggX5_greatest_X3_greatestUpTo
theorem dX5_greatest_0 : decode cX5_greatest 0 = .ok (.aload_n 0, 1) := by decide +kernel
theorem dX5_greatest_1 : decode cX5_greatest 1 = .ok (.iload_n 1, 1) := by decide +kernel
theorem dX5_greatest_2 : decode cX5_greatest 2 = .ok (.invokevirtual 57, 3) := by decide +kernel
theorem dX5_greatest_5 : decode cX5_greatest 5 = .ok (.astore_n 3, 1) := by decide +kernel
theorem dX5_greatest_6 : decode cX5_greatest 6 = .ok (.aload_n 3, 1) := by decide +kernel
theorem dX5_greatest_7 : decode cX5_greatest 7 = .ok (.ifnonnull 8, 3) := by decide +kernel
theorem dX5_greatest_10 : decode cX5_greatest 10 = .ok (.bipush (-2), 2) := by decide +kernel
theorem dX5_greatest_12 : decode cX5_greatest 12 = .ok (.goto 8, 3) := by decide +kernel
theorem dX5_greatest_15 : decode cX5_greatest 15 = .ok (.aload_n 3, 1) := by decide +kernel
theorem dX5_greatest_16 : decode cX5_greatest 16 = .ok (.iload_n 2, 1) := by decide +kernel
theorem dX5_greatest_17 : decode cX5_greatest 17 = .ok (.invokevirtual 94, 3) := by decide +kernel
theorem dX5_greatest_20 : decode cX5_greatest 20 = .ok (.ireturn, 1) := by decide +kernel
set_option maxRecDepth 20000 in
theorem ggX5_places_X5_rowOrNull : GoodIn wsX5_places wsX5_rowOrNull := goodIn_r _ [5, 6, 7, 8, 9, 4, 10, 43, 44, 45] (by decide +kernel) (by decide +kernel)
set_option maxRecDepth 20000 in
theorem gX5_places_X5_rowOrNull : GoodIn wsX5_places (wsV RX5 57 RX5 yX5_rowOrNull wsX5_rowOrNull) := goodIn_app (goodIn_of _ (by decide +kernel)) ggX5_places_X5_rowOrNull
set_option maxRecDepth 20000 in
theorem ggX5_places_X3_countPlaces : GoodIn wsX5_places wsX3_countPlaces := goodIn_r _ [15, 16, 17, 18, 19, 20, 21, 22, 14, 23, 24, 25, 26, 9, 4, 10, 27, 28, 29, 30, 31, 32, 33, 34, 35, 36, 37, 38, 39, 40, 41, 42, 46, 47] (by decide +kernel) (by decide +kernel)
set_option maxRecDepth 20000 in
theorem gX5_places_X3_countPlaces : GoodIn wsX5_places (wsV RX5 97 RX3 yX3_countPlaces wsX3_countPlaces) := goodIn_app (goodIn_of _ (by decide +kernel)) ggX5_places_X3_countPlaces
theorem dX5_places_0 : decode cX5_places 0 = .ok (.aload_n 0, 1) := by decide +kernel
theorem dX5_places_1 : decode cX5_places 1 = .ok (.iload_n 1, 1) := by decide +kernel
theorem dX5_places_2 : decode cX5_places 2 = .ok (.invokevirtual 57, 3) := by decide +kernel
theorem dX5_places_5 : decode cX5_places 5 = .ok (.astore 6, 2) := by decide +kernel
theorem dX5_places_7 : decode cX5_places 7 = .ok (.aload 6, 2) := by decide +kernel
theorem dX5_places_9 : decode cX5_places 9 = .ok (.ifnonnull 8, 3) := by decide +kernel
theorem dX5_places_12 : decode cX5_places 12 = .ok (.bipush (-2), 2) := by decide +kernel
theorem dX5_places_14 : decode cX5_places 14 = .ok (.goto 14, 3) := by decide +kernel
theorem dX5_places_17 : decode cX5_places 17 = .ok (.aload 6, 2) := by decide +kernel
theorem dX5_places_19 : decode cX5_places 19 = .ok (.iload_n 2, 1) := by decide +kernel
theorem dX5_places_20 : decode cX5_places 20 = .ok (.iload_n 3, 1) := by decide +kernel
theorem dX5_places_21 : decode cX5_places 21 = .ok (.iload 4, 2) := by decide +kernel
theorem dX5_places_23 : decode cX5_places 23 = .ok (.iload 5, 2) := by decide +kernel
theorem dX5_places_25 : decode cX5_places 25 = .ok (.invokevirtual 97, 3) := by decide +kernel
theorem dX5_places_28 : decode cX5_places 28 = .ok (.ireturn, 1) := by decide +kernel
set_option maxRecDepth 20000 in
theorem ggX5_cleared_X5_rowOrNull : GoodIn wsX5_cleared wsX5_rowOrNull := goodIn_r _ [5, 6, 7, 8, 9, 4, 10, 47, 48, 49] (by decide +kernel) (by decide +kernel)
set_option maxRecDepth 20000 in
theorem gX5_cleared_X5_rowOrNull : GoodIn wsX5_cleared (wsV RX5 57 RX5 yX5_rowOrNull wsX5_rowOrNull) := goodIn_app (goodIn_of _ (by decide +kernel)) ggX5_cleared_X5_rowOrNull
set_option maxRecDepth 20000 in
theorem ggX5_cleared_X3_removePlaces : GoodIn wsX5_cleared wsX3_removePlaces := goodIn_r _ [15, 16, 17, 18, 19, 20, 21, 22, 23, 14, 24, 25, 26, 27, 9, 4, 10, 28, 29, 30, 31, 32, 33, 34, 35, 36, 37, 38, 39, 40, 41, 42, 43, 44, 45, 46, 50, 51] (by decide +kernel) (by decide +kernel)
set_option maxRecDepth 20000 in
theorem gX5_cleared_X3_removePlaces : GoodIn wsX5_cleared (wsV RX5 100 RX3 yX3_removePlaces wsX3_removePlaces) := goodIn_app (goodIn_of _ (by decide +kernel)) ggX5_cleared_X3_removePlaces
theorem dX5_cleared_0 : decode cX5_cleared 0 = .ok (.aload_n 0, 1) := by decide +kernel
theorem dX5_cleared_1 : decode cX5_cleared 1 = .ok (.iload_n 1, 1) := by decide +kernel
theorem dX5_cleared_2 : decode cX5_cleared 2 = .ok (.invokevirtual 57, 3) := by decide +kernel
theorem dX5_cleared_5 : decode cX5_cleared 5 = .ok (.astore 5, 2) := by decide +kernel
theorem dX5_cleared_7 : decode cX5_cleared 7 = .ok (.aload 5, 2) := by decide +kernel
theorem dX5_cleared_9 : decode cX5_cleared 9 = .ok (.ifnonnull 8, 3) := by decide +kernel
theorem dX5_cleared_12 : decode cX5_cleared 12 = .ok (.bipush (-2), 2) := by decide +kernel
theorem dX5_cleared_14 : decode cX5_cleared 14 = .ok (.goto 12, 3) := by decide +kernel
theorem dX5_cleared_17 : decode cX5_cleared 17 = .ok (.aload 5, 2) := by decide +kernel
theorem dX5_cleared_19 : decode cX5_cleared 19 = .ok (.iload_n 2, 1) := by decide +kernel
theorem dX5_cleared_20 : decode cX5_cleared 20 = .ok (.iload_n 3, 1) := by decide +kernel
theorem dX5_cleared_21 : decode cX5_cleared 21 = .ok (.iload 4, 2) := by decide +kernel
theorem dX5_cleared_23 : decode cX5_cleared 23 = .ok (.invokevirtual 100, 3) := by decide +kernel
theorem dX5_cleared_26 : decode cX5_cleared 26 = .ok (.ireturn, 1) := by decide +kernel
set_option maxRecDepth 20000 in
theorem ggX5_bale_X4_addBale : GoodIn wsX5_bale wsX4_addBale := goodIn_r _ [6, 7, 8, 9, 10, 11, 12, 13, 17, 18, 19, 20, 21, 22, 23, 24, 25] (by decide +kernel) (by decide +kernel)
set_option maxRecDepth 20000 in
theorem gX5_bale_X4_addBale : GoodIn wsX5_bale (wsV RX5 103 RX4 yX4_addBale wsX4_addBale) := goodIn_app (goodIn_of _ (by decide +kernel)) ggX5_bale_X4_addBale
theorem dX5_bale_0 : decode cX5_bale 0 = .ok (.aload_n 0, 1) := by decide +kernel
theorem dX5_bale_1 : decode cX5_bale 1 = .ok (.getfield 26, 3) := by decide +kernel
theorem dX5_bale_4 : decode cX5_bale 4 = .ok (.iload_n 1, 1) := by decide +kernel
theorem dX5_bale_5 : decode cX5_bale 5 = .ok (.invokevirtual 103, 3) := by decide +kernel
theorem dX5_bale_8 : decode cX5_bale 8 = .ok (.ireturn, 1) := by decide +kernel
set_option maxRecDepth 20000 in
theorem ggX5_clearBales_X4_removeAll : GoodIn wsX5_clearBales wsX4_removeAll := goodIn_r _ [6, 7, 8, 12, 13, 14, 15, 16, 17, 18, 19, 20] (by decide +kernel) (by decide +kernel)
set_option maxRecDepth 20000 in
theorem gX5_clearBales_X4_removeAll : GoodIn wsX5_clearBales (wsV RX5 106 RX4 yX4_removeAll wsX4_removeAll) := goodIn_app (goodIn_of _ (by decide +kernel)) ggX5_clearBales_X4_removeAll
theorem dX5_clearBales_0 : decode cX5_clearBales 0 = .ok (.aload_n 0, 1) := by decide +kernel
theorem dX5_clearBales_1 : decode cX5_clearBales 1 = .ok (.getfield 26, 3) := by decide +kernel
theorem dX5_clearBales_4 : decode cX5_clearBales 4 = .ok (.invokevirtual 106, 3) := by decide +kernel
theorem dX5_clearBales_7 : decode cX5_clearBales 7 = .ok (.ireturn, 1) := by decide +kernel
set_option maxRecDepth 20000 in
theorem ggX5_plan_X4_makePlan : GoodIn wsX5_plan wsX4_makePlan := goodIn_r _ [6, 7, 8, 9, 10, 11, 12, 13, 14, 15, 16, 17, 18, 19, 20, 21, 5, 22, 23, 24, 25, 26, 27, 28, 29, 30, 31, 32, 33, 37, 38, 39, 40, 41, 42, 43, 44, 45] (by decide +kernel) (by decide +kernel)
set_option maxRecDepth 20000 in
theorem gX5_plan_X4_makePlan : GoodIn wsX5_plan (wsV RX5 107 RX4 yX4_makePlan wsX4_makePlan) := goodIn_app (goodIn_of _ (by decide +kernel)) ggX5_plan_X4_makePlan
theorem dX5_plan_0 : decode cX5_plan 0 = .ok (.aload_n 0, 1) := by decide +kernel
theorem dX5_plan_1 : decode cX5_plan 1 = .ok (.getfield 26, 3) := by decide +kernel
theorem dX5_plan_4 : decode cX5_plan 4 = .ok (.iload_n 1, 1) := by decide +kernel
theorem dX5_plan_5 : decode cX5_plan 5 = .ok (.iload_n 2, 1) := by decide +kernel
theorem dX5_plan_6 : decode cX5_plan 6 = .ok (.iload_n 3, 1) := by decide +kernel
theorem dX5_plan_7 : decode cX5_plan 7 = .ok (.invokevirtual 107, 3) := by decide +kernel
theorem dX5_plan_10 : decode cX5_plan 10 = .ok (.ireturn, 1) := by decide +kernel
set_option maxRecDepth 20000 in
theorem ggX5_planAt_X4_planned : GoodIn wsX5_planAt wsX4_planned := goodIn_r _ [6, 7, 8, 9, 10, 11, 12, 16, 17, 18, 19, 20, 21, 22, 23, 24] (by decide +kernel) (by decide +kernel)
set_option maxRecDepth 20000 in
theorem gX5_planAt_X4_planned : GoodIn wsX5_planAt (wsV RX5 110 RX4 yX4_planned wsX4_planned) := goodIn_app (goodIn_of _ (by decide +kernel)) ggX5_planAt_X4_planned
theorem dX5_planAt_0 : decode cX5_planAt 0 = .ok (.aload_n 0, 1) := by decide +kernel
theorem dX5_planAt_1 : decode cX5_planAt 1 = .ok (.getfield 26, 3) := by decide +kernel
theorem dX5_planAt_4 : decode cX5_planAt 4 = .ok (.iload_n 1, 1) := by decide +kernel
theorem dX5_planAt_5 : decode cX5_planAt 5 = .ok (.iload_n 2, 1) := by decide +kernel
theorem dX5_planAt_6 : decode cX5_planAt 6 = .ok (.invokevirtual 110, 3) := by decide +kernel
theorem dX5_planAt_9 : decode cX5_planAt 9 = .ok (.ireturn, 1) := by decide +kernel
theorem dX5_tries_0 : decode cX5_tries 0 = .ok (.aload_n 0, 1) := by decide +kernel
theorem dX5_tries_1 : decode cX5_tries 1 = .ok (.getfield 26, 3) := by decide +kernel
theorem dX5_tries_4 : decode cX5_tries 4 = .ok (.getfield 113, 3) := by decide +kernel
theorem dX5_tries_7 : decode cX5_tries 7 = .ok (.ireturn, 1) := by decide +kernel
set_option maxRecDepth 20000 in
theorem ggX5_many_X1_countRollers : GoodIn wsX5_many wsX1_countRollers := goodIn_r _ [10, 11, 12, 13, 24, 25, 26, 27, 28, 38, 39, 40, 41, 42, 43] (by decide +kernel) (by decide +kernel)
set_option maxRecDepth 20000 in
theorem gX5_many_X1_countRollers : GoodIn wsX5_many (wsV RX5 120 RX1 yX1_countRollers wsX1_countRollers) := goodIn_app (goodIn_of _ (by decide +kernel)) ggX5_many_X1_countRollers
set_option maxRecDepth 20000 in
theorem ggX5_many_X5_countCells : GoodIn wsX5_many wsX5_countCells := goodIn_r _ [18, 19, 20, 21, 22, 23, 44, 45] (by decide +kernel) (by decide +kernel)
set_option maxRecDepth 20000 in
theorem gX5_many_X5_countCells : GoodIn wsX5_many (wsV RX5 127 RX5 yX5_countCells wsX5_countCells) := goodIn_app (goodIn_of _ (by decide +kernel)) ggX5_many_X5_countCells
theorem dX5_many_0 : decode cX5_many 0 = .ok (.iload_n 1, 1) := by decide +kernel
theorem dX5_many_1 : decode cX5_many 1 = .ok (.tableswitch 72 0 4 #[35, 43, 51, 59, 67], 35) := by decide +kernel
theorem dX5_many_36 : decode cX5_many 36 = .ok (.aload_n 0, 1) := by decide +kernel
theorem dX5_many_37 : decode cX5_many 37 = .ok (.getfield 10, 3) := by decide +kernel
theorem dX5_many_40 : decode cX5_many 40 = .ok (.getfield 117, 3) := by decide +kernel
theorem dX5_many_43 : decode cX5_many 43 = .ok (.ireturn, 1) := by decide +kernel
theorem dX5_many_44 : decode cX5_many 44 = .ok (.aload_n 0, 1) := by decide +kernel
theorem dX5_many_45 : decode cX5_many 45 = .ok (.getfield 10, 3) := by decide +kernel
theorem dX5_many_48 : decode cX5_many 48 = .ok (.invokevirtual 120, 3) := by decide +kernel
theorem dX5_many_51 : decode cX5_many 51 = .ok (.ireturn, 1) := by decide +kernel
theorem dX5_many_52 : decode cX5_many 52 = .ok (.aload_n 0, 1) := by decide +kernel
theorem dX5_many_53 : decode cX5_many 53 = .ok (.getfield 26, 3) := by decide +kernel
theorem dX5_many_56 : decode cX5_many 56 = .ok (.getfield 123, 3) := by decide +kernel
theorem dX5_many_59 : decode cX5_many 59 = .ok (.ireturn, 1) := by decide +kernel
theorem dX5_many_60 : decode cX5_many 60 = .ok (.aload_n 0, 1) := by decide +kernel
theorem dX5_many_61 : decode cX5_many 61 = .ok (.getfield 26, 3) := by decide +kernel
theorem dX5_many_64 : decode cX5_many 64 = .ok (.getfield 124, 3) := by decide +kernel
theorem dX5_many_67 : decode cX5_many 67 = .ok (.ireturn, 1) := by decide +kernel
theorem dX5_many_68 : decode cX5_many 68 = .ok (.aload_n 0, 1) := by decide +kernel
theorem dX5_many_69 : decode cX5_many 69 = .ok (.invokevirtual 127, 3) := by decide +kernel
theorem dX5_many_72 : decode cX5_many 72 = .ok (.ireturn, 1) := by decide +kernel
theorem dX5_many_73 : decode cX5_many 73 = .ok (.bipush (-2), 2) := by decide +kernel
theorem dX5_many_75 : decode cX5_many 75 = .ok (.ireturn, 1) := by decide +kernel
set_option maxRecDepth 20000 in
theorem ggX5_digest_X5_many : GoodIn wsX5_digest wsX5_many := goodIn_r _ [11, 3, 4, 6, 12, 13, 14, 15, 16, 17, 18, 19, 20, 21, 22, 23, 24, 10, 25, 5, 26, 90, 91, 92, 93, 94, 95, 96, 97, 98, 99, 100, 101, 102, 103, 104, 105, 106, 107, 108, 109, 110, 111, 112, 113, 114] (by decide +kernel) (by decide +kernel)
set_option maxRecDepth 20000 in
theorem gX5_digest_X5_many : GoodIn wsX5_digest (wsV RX5 134 RX5 yX5_many wsX5_many) := goodIn_app (goodIn_of _ (by decide +kernel)) ggX5_digest_X5_many
set_option maxRecDepth 20000 in
theorem ggX5_digest_X1_tellCount : GoodIn wsX5_digest wsX1_tellCount := goodIn_r _ [30, 19, 31, 32, 33, 10, 34, 35, 36, 37, 17, 38, 39, 40, 41, 20, 42, 43, 44, 45, 46, 47, 48, 49, 50, 51, 52, 53, 54, 55, 56, 57, 58, 59, 60, 61, 62, 63, 64, 65, 66, 67, 68, 69, 70, 71, 72, 93, 94, 95, 96, 97, 107, 108, 109, 110, 111, 112, 115, 116] (by decide +kernel) (by decide +kernel)
set_option maxRecDepth 20000 in
theorem gX5_digest_X1_tellCount : GoodIn wsX5_digest (wsV RX5 45 RX1 yX1_tellCount wsX1_tellCount) := goodIn_app (goodIn_of _ (by decide +kernel)) ggX5_digest_X1_tellCount
set_option maxRecDepth 20000 in
theorem ggX5_digest_X3_mixInto : GoodIn wsX5_digest wsX3_mixInto := goodIn_r _ [77, 78, 79, 80, 113, 114] (by decide +kernel) (by decide +kernel)
set_option maxRecDepth 20000 in
theorem gX5_digest_X3_mixInto : GoodIn wsX5_digest (wsV RX5 137 RX3 yX3_mixInto wsX3_mixInto) := goodIn_app (goodIn_of _ (by decide +kernel)) ggX5_digest_X3_mixInto
set_option maxRecDepth 20000 in
theorem ggX5_digest_X4_mixInto : GoodIn wsX5_digest wsX4_mixInto := goodIn_r _ [85, 86, 87, 88, 89, 98, 99, 100, 101, 102, 103, 104, 105, 106] (by decide +kernel) (by decide +kernel)
set_option maxRecDepth 20000 in
theorem gX5_digest_X4_mixInto : GoodIn wsX5_digest (wsV RX5 141 RX4 yX4_mixInto wsX4_mixInto) := goodIn_app (goodIn_of _ (by decide +kernel)) ggX5_digest_X4_mixInto
theorem dX5_digest_0 : decode cX5_digest 0 = .ok (.ldc2_w 130, 3) := by decide +kernel
theorem dX5_digest_3 : decode cX5_digest 3 = .ok (.lstore_n 1, 1) := by decide +kernel
theorem dX5_digest_4 : decode cX5_digest 4 = .ok (.iconst 0, 1) := by decide +kernel
theorem dX5_digest_5 : decode cX5_digest 5 = .ok (.istore_n 3, 1) := by decide +kernel
theorem dX5_digest_6 : decode cX5_digest 6 = .ok (.iload_n 3, 1) := by decide +kernel
theorem dX5_digest_7 : decode cX5_digest 7 = .ok (.iconst 4, 1) := by decide +kernel
theorem dX5_digest_8 : decode cX5_digest 8 = .ok (.if_icmp .gt 22, 3) := by decide +kernel
theorem dX5_digest_11 : decode cX5_digest 11 = .ok (.ldc2_w 132, 3) := by decide +kernel
theorem dX5_digest_14 : decode cX5_digest 14 = .ok (.lload_n 1, 1) := by decide +kernel
theorem dX5_digest_15 : decode cX5_digest 15 = .ok (.lmul, 1) := by decide +kernel
theorem dX5_digest_16 : decode cX5_digest 16 = .ok (.aload_n 0, 1) := by decide +kernel
theorem dX5_digest_17 : decode cX5_digest 17 = .ok (.iload_n 3, 1) := by decide +kernel
theorem dX5_digest_18 : decode cX5_digest 18 = .ok (.invokevirtual 134, 3) := by decide +kernel
theorem dX5_digest_21 : decode cX5_digest 21 = .ok (.i2l, 1) := by decide +kernel
theorem dX5_digest_22 : decode cX5_digest 22 = .ok (.ladd, 1) := by decide +kernel
theorem dX5_digest_23 : decode cX5_digest 23 = .ok (.lstore_n 1, 1) := by decide +kernel
theorem dX5_digest_24 : decode cX5_digest 24 = .ok (.iinc 3 1, 3) := by decide +kernel
theorem dX5_digest_27 : decode cX5_digest 27 = .ok (.goto (-21), 3) := by decide +kernel
theorem dX5_digest_30 : decode cX5_digest 30 = .ok (.ldc2_w 132, 3) := by decide +kernel
theorem dX5_digest_33 : decode cX5_digest 33 = .ok (.lload_n 1, 1) := by decide +kernel
theorem dX5_digest_34 : decode cX5_digest 34 = .ok (.lmul, 1) := by decide +kernel
theorem dX5_digest_35 : decode cX5_digest 35 = .ok (.aload_n 0, 1) := by decide +kernel
theorem dX5_digest_36 : decode cX5_digest 36 = .ok (.getfield 10, 3) := by decide +kernel
theorem dX5_digest_39 : decode cX5_digest 39 = .ok (.aload_n 0, 1) := by decide +kernel
theorem dX5_digest_40 : decode cX5_digest 40 = .ok (.getfield 10, 3) := by decide +kernel
theorem dX5_digest_43 : decode cX5_digest 43 = .ok (.getfield 117, 3) := by decide +kernel
theorem dX5_digest_46 : decode cX5_digest 46 = .ok (.iconst 0, 1) := by decide +kernel
theorem dX5_digest_47 : decode cX5_digest 47 = .ok (.invokevirtual 45, 3) := by decide +kernel
theorem dX5_digest_50 : decode cX5_digest 50 = .ok (.ladd, 1) := by decide +kernel
theorem dX5_digest_51 : decode cX5_digest 51 = .ok (.lstore_n 1, 1) := by decide +kernel
theorem dX5_digest_52 : decode cX5_digest 52 = .ok (.ldc2_w 132, 3) := by decide +kernel
theorem dX5_digest_55 : decode cX5_digest 55 = .ok (.lload_n 1, 1) := by decide +kernel
theorem dX5_digest_56 : decode cX5_digest 56 = .ok (.lmul, 1) := by decide +kernel
theorem dX5_digest_57 : decode cX5_digest 57 = .ok (.aload_n 0, 1) := by decide +kernel
theorem dX5_digest_58 : decode cX5_digest 58 = .ok (.getfield 10, 3) := by decide +kernel
theorem dX5_digest_61 : decode cX5_digest 61 = .ok (.aload_n 0, 1) := by decide +kernel
theorem dX5_digest_62 : decode cX5_digest 62 = .ok (.getfield 10, 3) := by decide +kernel
theorem dX5_digest_65 : decode cX5_digest 65 = .ok (.getfield 117, 3) := by decide +kernel
theorem dX5_digest_68 : decode cX5_digest 68 = .ok (.iconst 1, 1) := by decide +kernel
theorem dX5_digest_69 : decode cX5_digest 69 = .ok (.invokevirtual 45, 3) := by decide +kernel
theorem dX5_digest_72 : decode cX5_digest 72 = .ok (.ladd, 1) := by decide +kernel
theorem dX5_digest_73 : decode cX5_digest 73 = .ok (.lstore_n 1, 1) := by decide +kernel
theorem dX5_digest_74 : decode cX5_digest 74 = .ok (.iconst 0, 1) := by decide +kernel
theorem dX5_digest_75 : decode cX5_digest 75 = .ok (.istore_n 3, 1) := by decide +kernel
theorem dX5_digest_76 : decode cX5_digest 76 = .ok (.iload_n 3, 1) := by decide +kernel
theorem dX5_digest_77 : decode cX5_digest 77 = .ok (.bipush 8, 2) := by decide +kernel
theorem dX5_digest_79 : decode cX5_digest 79 = .ok (.if_icmp .ge 20, 3) := by decide +kernel
theorem dX5_digest_82 : decode cX5_digest 82 = .ok (.aload_n 0, 1) := by decide +kernel
theorem dX5_digest_83 : decode cX5_digest 83 = .ok (.getfield 18, 3) := by decide +kernel
theorem dX5_digest_86 : decode cX5_digest 86 = .ok (.iload_n 3, 1) := by decide +kernel
theorem dX5_digest_87 : decode cX5_digest 87 = .ok (.aaload, 1) := by decide +kernel
theorem dX5_digest_88 : decode cX5_digest 88 = .ok (.lload_n 1, 1) := by decide +kernel
theorem dX5_digest_89 : decode cX5_digest 89 = .ok (.invokevirtual 137, 3) := by decide +kernel
theorem dX5_digest_92 : decode cX5_digest 92 = .ok (.lstore_n 1, 1) := by decide +kernel
theorem dX5_digest_93 : decode cX5_digest 93 = .ok (.iinc 3 1, 3) := by decide +kernel
theorem dX5_digest_96 : decode cX5_digest 96 = .ok (.goto (-20), 3) := by decide +kernel
theorem dX5_digest_99 : decode cX5_digest 99 = .ok (.aload_n 0, 1) := by decide +kernel
theorem dX5_digest_100 : decode cX5_digest 100 = .ok (.getfield 26, 3) := by decide +kernel
theorem dX5_digest_103 : decode cX5_digest 103 = .ok (.lload_n 1, 1) := by decide +kernel
theorem dX5_digest_104 : decode cX5_digest 104 = .ok (.invokevirtual 141, 3) := by decide +kernel
theorem dX5_digest_107 : decode cX5_digest 107 = .ok (.lreturn, 1) := by decide +kernel
theorem dX5_countCells_0 : decode cX5_countCells 0 = .ok (.iconst 0, 1) := by decide +kernel
theorem dX5_countCells_1 : decode cX5_countCells 1 = .ok (.istore_n 1, 1) := by decide +kernel
theorem dX5_countCells_2 : decode cX5_countCells 2 = .ok (.iconst 0, 1) := by decide +kernel
theorem dX5_countCells_3 : decode cX5_countCells 3 = .ok (.istore_n 2, 1) := by decide +kernel
theorem dX5_countCells_4 : decode cX5_countCells 4 = .ok (.iload_n 2, 1) := by decide +kernel
theorem dX5_countCells_5 : decode cX5_countCells 5 = .ok (.bipush 8, 2) := by decide +kernel
theorem dX5_countCells_7 : decode cX5_countCells 7 = .ok (.if_icmp .ge 21, 3) := by decide +kernel
theorem dX5_countCells_10 : decode cX5_countCells 10 = .ok (.iload_n 1, 1) := by decide +kernel
theorem dX5_countCells_11 : decode cX5_countCells 11 = .ok (.aload_n 0, 1) := by decide +kernel
theorem dX5_countCells_12 : decode cX5_countCells 12 = .ok (.getfield 18, 3) := by decide +kernel
theorem dX5_countCells_15 : decode cX5_countCells 15 = .ok (.iload_n 2, 1) := by decide +kernel
theorem dX5_countCells_16 : decode cX5_countCells 16 = .ok (.aaload, 1) := by decide +kernel
theorem dX5_countCells_17 : decode cX5_countCells 17 = .ok (.getfield 142, 3) := by decide +kernel
theorem dX5_countCells_20 : decode cX5_countCells 20 = .ok (.iadd, 1) := by decide +kernel
theorem dX5_countCells_21 : decode cX5_countCells 21 = .ok (.istore_n 1, 1) := by decide +kernel
theorem dX5_countCells_22 : decode cX5_countCells 22 = .ok (.iinc 2 1, 3) := by decide +kernel
theorem dX5_countCells_25 : decode cX5_countCells 25 = .ok (.goto (-21), 3) := by decide +kernel
theorem dX5_countCells_28 : decode cX5_countCells 28 = .ok (.iload_n 1, 1) := by decide +kernel
theorem dX5_countCells_29 : decode cX5_countCells 29 = .ok (.ireturn, 1) := by decide +kernel
set_option maxRecDepth 20000 in
theorem ggX5_rowOrNull_X5_within : GoodIn wsX5_rowOrNull wsX5_within := goodIn_r _ [6] (by decide +kernel) (by decide +kernel)
set_option maxRecDepth 20000 in
theorem gX5_rowOrNull_X5_within : GoodIn wsX5_rowOrNull (va_wsS RX5 145 yX5_within wsX5_within) := goodIn_app (goodIn_of _ (by decide +kernel)) ggX5_rowOrNull_X5_within
theorem dX5_rowOrNull_0 : decode cX5_rowOrNull 0 = .ok (.iload_n 1, 1) := by decide +kernel
theorem dX5_rowOrNull_1 : decode cX5_rowOrNull 1 = .ok (.i2l, 1) := by decide +kernel
theorem dX5_rowOrNull_2 : decode cX5_rowOrNull 2 = .ok (.lconst 0, 1) := by decide +kernel
theorem dX5_rowOrNull_3 : decode cX5_rowOrNull 3 = .ok (.ldc2_w 143, 3) := by decide +kernel
theorem dX5_rowOrNull_6 : decode cX5_rowOrNull 6 = .ok (.invokestatic 145, 3) := by decide +kernel
theorem dX5_rowOrNull_9 : decode cX5_rowOrNull 9 = .ok (.ifCond .eq 12, 3) := by decide +kernel
theorem dX5_rowOrNull_12 : decode cX5_rowOrNull 12 = .ok (.aload_n 0, 1) := by decide +kernel
theorem dX5_rowOrNull_13 : decode cX5_rowOrNull 13 = .ok (.getfield 18, 3) := by decide +kernel
theorem dX5_rowOrNull_16 : decode cX5_rowOrNull 16 = .ok (.iload_n 1, 1) := by decide +kernel
theorem dX5_rowOrNull_17 : decode cX5_rowOrNull 17 = .ok (.aaload, 1) := by decide +kernel
theorem dX5_rowOrNull_18 : decode cX5_rowOrNull 18 = .ok (.goto 4, 3) := by decide +kernel
theorem dX5_rowOrNull_21 : decode cX5_rowOrNull 21 = .ok (.aconst_null, 1) := by decide +kernel
theorem dX5_rowOrNull_22 : decode cX5_rowOrNull 22 = .ok (.areturn, 1) := by decide +kernel
theorem dX5_within_0 : decode cX5_within 0 = .ok (.lload_n 0, 1) := by decide +kernel
theorem dX5_within_1 : decode cX5_within 1 = .ok (.lload_n 2, 1) := by decide +kernel
theorem dX5_within_2 : decode cX5_within 2 = .ok (.lcmp, 1) := by decide +kernel
theorem dX5_within_3 : decode cX5_within 3 = .ok (.ifCond .lt 14, 3) := by decide +kernel
theorem dX5_within_6 : decode cX5_within 6 = .ok (.lload_n 0, 1) := by decide +kernel
theorem dX5_within_7 : decode cX5_within 7 = .ok (.lload 4, 2) := by decide +kernel
theorem dX5_within_9 : decode cX5_within 9 = .ok (.lcmp, 1) := by decide +kernel
theorem dX5_within_10 : decode cX5_within 10 = .ok (.ifCond .gt 7, 3) := by decide +kernel
theorem dX5_within_13 : decode cX5_within 13 = .ok (.iconst 1, 1) := by decide +kernel
theorem dX5_within_14 : decode cX5_within 14 = .ok (.goto 4, 3) := by decide +kernel
theorem dX5_within_17 : decode cX5_within 17 = .ok (.iconst 0, 1) := by decide +kernel
theorem dX5_within_18 : decode cX5_within 18 = .ok (.ireturn, 1) := by decide +kernel
