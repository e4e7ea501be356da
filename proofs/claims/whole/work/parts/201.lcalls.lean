set_option maxRecDepth 20000 in
theorem ggL_law_X5_init : GoodIn wsL_law wsX5_init := goodIn_r _ [8, 9, 10, 11, 12, 13, 14, 15, 16, 17, 18, 19, 20, 21, 22, 23, 24, 25, 26, 27, 28, 29, 30, 31, 32, 33, 34, 35, 36, 37, 38, 39, 40, 41, 42, 43, 44, 45, 46, 47, 48, 49, 50, 51, 52, 53, 54, 55, 56, 57, 661, 662, 663, 664, 665, 640, 641, 642, 666, 667, 668, 669, 670, 671, 672, 673, 674, 675, 676, 677, 678, 679, 680, 681, 682, 683, 684] (by decide +kernel) (by decide +kernel)
set_option maxRecDepth 20000 in
theorem gL_law_X5_init : GoodIn wsL_law (wsX5_init) := ggL_law_X5_init
set_option maxRecDepth 20000 in
theorem ggL_law_X6_init : GoodIn wsL_law wsX6_init := goodIn_r _ [60, 61, 10, 11, 62, 63, 46, 64, 65, 66, 67, 68, 69, 70, 71, 72, 73, 74, 643, 644, 645, 646, 647, 648, 649, 650, 651, 652, 653, 654, 655, 656, 657, 658, 659, 660] (by decide +kernel) (by decide +kernel)
set_option maxRecDepth 20000 in
theorem gL_law_X6_init : GoodIn wsL_law (wsX6_init) := ggL_law_X6_init
set_option maxRecDepth 20000 in
theorem ggL_law_X5_count : GoodIn wsL_law wsX5_count := goodIn_r _ [78, 15, 79, 80, 81, 14, 82, 83, 28, 29, 84, 2, 85, 640, 641, 642, 661, 662, 663, 664, 665] (by decide +kernel) (by decide +kernel)
set_option maxRecDepth 20000 in
theorem gL_law_X5_count : GoodIn wsL_law (wsV RL 13 RX5 yX5_count wsX5_count) := goodIn_app (goodIn_of _ (by decide +kernel)) ggL_law_X5_count
set_option maxRecDepth 20000 in
theorem ggL_law_X6_count : GoodIn wsL_law wsX6_count := goodIn_r _ [89, 90, 62, 63, 91, 92, 5, 93, 643, 644, 645, 646, 647, 648, 649, 650, 651, 652, 653, 654, 655, 656, 657, 658, 659, 660] (by decide +kernel) (by decide +kernel)
set_option maxRecDepth 20000 in
theorem gL_law_X6_count : GoodIn wsL_law (wsV RL 17 RX6 yX6_count wsX6_count) := goodIn_app (goodIn_of _ (by decide +kernel)) ggL_law_X6_count
set_option maxRecDepth 20000 in
theorem ggL_law_X5_machine : GoodIn wsL_law wsX5_machine := goodIn_r _ [97, 15, 98, 99, 100, 14, 101, 102, 103, 104, 105, 106, 31, 107, 108, 109, 110, 111, 84, 2, 85, 640, 641, 642, 661, 662, 663, 664, 665, 679, 680, 681, 682, 683, 684] (by decide +kernel) (by decide +kernel)
set_option maxRecDepth 20000 in
theorem gL_law_X5_machine : GoodIn wsL_law (wsV RL 18 RX5 yX5_machine wsX5_machine) := goodIn_app (goodIn_of _ (by decide +kernel)) ggL_law_X5_machine
set_option maxRecDepth 20000 in
theorem ggL_law_X6_machine : GoodIn wsL_law wsX6_machine := goodIn_r _ [115, 116, 117, 118, 119, 120, 64, 65, 66, 67, 68, 91, 92, 5, 93, 643, 644, 645, 646, 647, 648, 649, 650, 651, 652, 653, 654, 655, 656, 657, 658, 659, 660] (by decide +kernel) (by decide +kernel)
set_option maxRecDepth 20000 in
theorem gL_law_X6_machine : GoodIn wsL_law (wsV RL 22 RX6 yX6_machine wsX6_machine) := goodIn_app (goodIn_of _ (by decide +kernel)) ggL_law_X6_machine
set_option maxRecDepth 20000 in
theorem ggL_law_X5_roller : GoodIn wsL_law wsX5_roller := goodIn_r _ [124, 15, 125, 126, 127, 14, 128, 106, 129, 31, 111, 130, 84, 2, 85, 640, 641, 642, 661, 662, 663, 664, 665, 679, 680, 681, 682, 683, 684] (by decide +kernel) (by decide +kernel)
set_option maxRecDepth 20000 in
theorem gL_law_X5_roller : GoodIn wsL_law (wsV RL 23 RX5 yX5_roller wsX5_roller) := goodIn_app (goodIn_of _ (by decide +kernel)) ggL_law_X5_roller
set_option maxRecDepth 20000 in
theorem ggL_law_X6_roller : GoodIn wsL_law wsX6_roller := goodIn_r _ [134, 135, 68, 69, 136, 137, 138, 5, 139, 120, 91, 92, 93, 643, 644, 645, 646, 647, 648, 649, 650, 651, 652, 653, 654, 655, 656, 657, 658, 659, 660] (by decide +kernel) (by decide +kernel)
set_option maxRecDepth 20000 in
theorem gL_law_X6_roller : GoodIn wsL_law (wsV RL 26 RX6 yX6_roller wsX6_roller) := goodIn_app (goodIn_of _ (by decide +kernel)) ggL_law_X6_roller
set_option maxRecDepth 20000 in
theorem ggL_law_X5_clear : GoodIn wsL_law wsX5_clear := goodIn_r _ [143, 15, 144, 145, 146, 14, 147, 106, 640, 641, 642, 661, 662, 663, 664, 665] (by decide +kernel) (by decide +kernel)
set_option maxRecDepth 20000 in
theorem gL_law_X5_clear : GoodIn wsL_law (wsV RL 27 RX5 yX5_clear wsX5_clear) := goodIn_app (goodIn_of _ (by decide +kernel)) ggL_law_X5_clear
set_option maxRecDepth 20000 in
theorem ggL_law_X6_clear : GoodIn wsL_law wsX6_clear := goodIn_r _ [151, 120, 643, 644, 645, 646, 647, 648, 649, 650, 651, 652, 653, 654, 655, 656, 657, 658, 659, 660] (by decide +kernel) (by decide +kernel)
set_option maxRecDepth 20000 in
theorem gL_law_X6_clear : GoodIn wsL_law (wsV RL 31 RX6 yX6_clear wsX6_clear) := goodIn_app (goodIn_of _ (by decide +kernel)) ggL_law_X6_clear
set_option maxRecDepth 20000 in
theorem ggL_law_X5_countAt : GoodIn wsL_law wsX5_countAt := goodIn_r _ [155, 15, 156, 157, 158, 14, 159, 106, 160, 161, 84, 2, 85, 162, 163, 164, 165, 35, 28, 29, 31, 107, 110, 109, 129, 108, 166, 167, 168, 169, 170, 171, 34, 172, 41, 42, 173, 174, 175, 176, 177, 178, 179, 180, 181, 182, 183, 184, 185, 186, 187, 188, 640, 641, 642, 661, 662, 663, 664, 665, 679, 680, 681, 682, 683, 684, 677, 678] (by decide +kernel) (by decide +kernel)
set_option maxRecDepth 20000 in
theorem gL_law_X5_countAt : GoodIn wsL_law (wsV RL 32 RX5 yX5_countAt wsX5_countAt) := goodIn_app (goodIn_of _ (by decide +kernel)) ggL_law_X5_countAt
set_option maxRecDepth 20000 in
theorem ggL_law_X6_countAt : GoodIn wsL_law wsX6_countAt := goodIn_r _ [192, 120, 193, 91, 92, 5, 93, 194, 195, 196, 197, 62, 63, 64, 135, 67, 66, 65, 198, 199, 200, 201, 202, 643, 644, 645, 646, 647, 648, 649, 650, 651, 652, 653, 654, 655, 656, 657, 658, 659, 660] (by decide +kernel) (by decide +kernel)
set_option maxRecDepth 20000 in
theorem gL_law_X6_countAt : GoodIn wsL_law (wsV RL 36 RX6 yX6_countAt wsX6_countAt) := goodIn_app (goodIn_of _ (by decide +kernel)) ggL_law_X6_countAt
set_option maxRecDepth 20000 in
theorem ggL_law_X5_period : GoodIn wsL_law wsX5_period := goodIn_r _ [206, 15, 207, 208, 209, 14, 210, 106, 31, 111, 160, 84, 2, 85, 211, 212, 213, 214, 35, 130, 108, 109, 169, 170, 171, 34, 172, 41, 42, 173, 174, 175, 176, 177, 178, 179, 180, 181, 182, 183, 184, 185, 186, 187, 188, 166, 168, 640, 641, 642, 661, 662, 663, 664, 665, 679, 680, 681, 682, 683, 684, 677, 678] (by decide +kernel) (by decide +kernel)
set_option maxRecDepth 20000 in
theorem gL_law_X5_period : GoodIn wsL_law (wsV RL 37 RX5 yX5_period wsX5_period) := goodIn_app (goodIn_of _ (by decide +kernel)) ggL_law_X5_period
set_option maxRecDepth 20000 in
theorem ggL_law_X6_period : GoodIn wsL_law wsX6_period := goodIn_r _ [218, 68, 193, 136, 137, 138, 5, 139, 120, 91, 92, 93, 219, 220, 221, 222, 69, 65, 66, 200, 201, 202, 643, 644, 645, 646, 647, 648, 649, 650, 651, 652, 653, 654, 655, 656, 657, 658, 659, 660] (by decide +kernel) (by decide +kernel)
set_option maxRecDepth 20000 in
theorem gL_law_X6_period : GoodIn wsL_law (wsV RL 41 RX6 yX6_period wsX6_period) := goodIn_app (goodIn_of _ (by decide +kernel)) ggL_law_X6_period
set_option maxRecDepth 20000 in
theorem ggL_law_X5_names : GoodIn wsL_law wsX5_names := goodIn_r _ [226, 15, 227, 228, 229, 14, 230, 231, 232, 106, 31, 111, 84, 2, 85, 233, 234, 235, 236, 35, 168, 129, 166, 211, 212, 213, 214, 130, 108, 109, 169, 170, 171, 34, 172, 41, 42, 173, 174, 175, 176, 177, 178, 179, 180, 181, 182, 183, 184, 640, 641, 642, 661, 662, 663, 664, 665, 679, 680, 681, 682, 683, 684, 677, 678] (by decide +kernel) (by decide +kernel)
set_option maxRecDepth 20000 in
theorem gL_law_X5_names : GoodIn wsL_law (wsV RL 42 RX5 yX5_names wsX5_names) := goodIn_app (goodIn_of _ (by decide +kernel)) ggL_law_X5_names
set_option maxRecDepth 20000 in
theorem ggL_law_X6_names : GoodIn wsL_law wsX6_names := goodIn_r _ [240, 241, 242, 120, 68, 135, 91, 92, 5, 93, 219, 220, 221, 222, 69, 65, 66, 200, 201, 202, 643, 644, 645, 646, 647, 648, 649, 650, 651, 652, 653, 654, 655, 656, 657, 658, 659, 660] (by decide +kernel) (by decide +kernel)
set_option maxRecDepth 20000 in
theorem gL_law_X6_names : GoodIn wsL_law (wsV RL 46 RX6 yX6_names wsX6_names) := goodIn_app (goodIn_of _ (by decide +kernel)) ggL_law_X6_names
set_option maxRecDepth 20000 in
theorem ggL_law_X5_cell : GoodIn wsL_law wsX5_cell := goodIn_r _ [246, 247, 248, 249, 2, 250, 251, 17, 252, 84, 85, 253, 254, 255, 19, 256, 257, 258, 51, 640, 641, 642, 666, 667] (by decide +kernel) (by decide +kernel)
set_option maxRecDepth 20000 in
theorem gL_law_X5_cell : GoodIn wsL_law (wsV RL 47 RX5 yX5_cell wsX5_cell) := goodIn_app (goodIn_of _ (by decide +kernel)) ggL_law_X5_cell
set_option maxRecDepth 20000 in
theorem ggL_law_X6_cell : GoodIn wsL_law wsX6_cell := goodIn_r _ [262, 70, 71, 263, 264, 5, 265, 266, 91, 92, 93, 267, 268, 269, 241, 643, 644, 645, 646, 647, 648, 649, 650, 651, 652, 653, 654, 655, 656, 657, 658, 659, 660] (by decide +kernel) (by decide +kernel)
set_option maxRecDepth 20000 in
theorem gL_law_X6_cell : GoodIn wsL_law (wsV RL 50 RX6 yX6_cell wsX6_cell) := goodIn_app (goodIn_of _ (by decide +kernel)) ggL_law_X6_cell
set_option maxRecDepth 20000 in
theorem ggL_law_X5_draw : GoodIn wsL_law wsX5_draw := goodIn_r _ [273, 247, 248, 249, 2, 250, 251, 17, 252, 84, 85, 274, 275, 276, 19, 277, 278, 279, 258, 280, 281, 51, 282, 640, 641, 642, 666, 667] (by decide +kernel) (by decide +kernel)
set_option maxRecDepth 20000 in
theorem gL_law_X5_draw : GoodIn wsL_law (wsV RL 51 RX5 yX5_draw wsX5_draw) := goodIn_app (goodIn_of _ (by decide +kernel)) ggL_law_X5_draw
set_option maxRecDepth 20000 in
theorem ggL_law_X6_draw : GoodIn wsL_law wsX6_draw := goodIn_r _ [286, 287, 90, 70, 288, 289, 290, 71, 291, 263, 264, 5, 265, 266, 91, 92, 93, 643, 644, 645, 646, 647, 648, 649, 650, 651, 652, 653, 654, 655, 656, 657, 658, 659, 660] (by decide +kernel) (by decide +kernel)
set_option maxRecDepth 20000 in
theorem gL_law_X6_draw : GoodIn wsL_law (wsV RL 55 RX6 yX6_draw wsX6_draw) := goodIn_app (goodIn_of _ (by decide +kernel)) ggL_law_X6_draw
set_option maxRecDepth 20000 in
theorem ggL_law_X5_empty : GoodIn wsL_law wsX5_empty := goodIn_r _ [295, 247, 248, 249, 2, 250, 251, 17, 252, 84, 85, 296, 297, 298, 19, 299, 258, 640, 641, 642, 666, 667] (by decide +kernel) (by decide +kernel)
set_option maxRecDepth 20000 in
theorem gL_law_X5_empty : GoodIn wsL_law (wsV RL 56 RX5 yX5_empty wsX5_empty) := goodIn_app (goodIn_of _ (by decide +kernel)) ggL_law_X5_empty
set_option maxRecDepth 20000 in
theorem ggL_law_X6_empty : GoodIn wsL_law wsX6_empty := goodIn_r _ [303, 70, 263, 264, 5, 265, 266, 91, 92, 93, 643, 644, 645, 646, 647, 648, 649, 650, 651, 652, 653, 654, 655, 656, 657, 658, 659, 660] (by decide +kernel) (by decide +kernel)
set_option maxRecDepth 20000 in
theorem gL_law_X6_empty : GoodIn wsL_law (wsV RL 60 RX6 yX6_empty wsX6_empty) := goodIn_app (goodIn_of _ (by decide +kernel)) ggL_law_X6_empty
set_option maxRecDepth 20000 in
theorem ggL_law_X5_at : GoodIn wsL_law wsX5_at := goodIn_r _ [307, 247, 248, 249, 2, 250, 251, 17, 252, 84, 85, 308, 309, 310, 19, 311, 258, 51, 640, 641, 642, 666, 667] (by decide +kernel) (by decide +kernel)
set_option maxRecDepth 20000 in
theorem gL_law_X5_at : GoodIn wsL_law (wsV RL 61 RX5 yX5_at wsX5_at) := goodIn_app (goodIn_of _ (by decide +kernel)) ggL_law_X5_at
set_option maxRecDepth 20000 in
theorem ggL_law_X6_at : GoodIn wsL_law wsX6_at := goodIn_r _ [315, 70, 71, 263, 264, 5, 265, 266, 91, 92, 93, 643, 644, 645, 646, 647, 648, 649, 650, 651, 652, 653, 654, 655, 656, 657, 658, 659, 660] (by decide +kernel) (by decide +kernel)
set_option maxRecDepth 20000 in
theorem gL_law_X6_at : GoodIn wsL_law (wsV RL 64 RX6 yX6_at wsX6_at) := goodIn_app (goodIn_of _ (by decide +kernel)) ggL_law_X6_at
set_option maxRecDepth 20000 in
theorem ggL_law_X5_join : GoodIn wsL_law wsX5_join := goodIn_r _ [319, 247, 248, 249, 2, 250, 251, 17, 252, 84, 85, 320, 321, 322, 19, 323, 258, 51, 324, 640, 641, 642, 666, 667] (by decide +kernel) (by decide +kernel)
set_option maxRecDepth 20000 in
theorem gL_law_X5_join : GoodIn wsL_law (wsV RL 65 RX5 yX5_join wsX5_join) := goodIn_app (goodIn_of _ (by decide +kernel)) ggL_law_X5_join
set_option maxRecDepth 20000 in
theorem ggL_law_X6_join : GoodIn wsL_law wsX6_join := goodIn_r _ [328, 70, 72, 71, 263, 264, 5, 265, 266, 91, 92, 93, 329, 330, 331, 332, 267, 268, 269, 241, 643, 644, 645, 646, 647, 648, 649, 650, 651, 652, 653, 654, 655, 656, 657, 658, 659, 660] (by decide +kernel) (by decide +kernel)
set_option maxRecDepth 20000 in
theorem gL_law_X6_join : GoodIn wsL_law (wsV RL 68 RX6 yX6_join wsX6_join) := goodIn_app (goodIn_of _ (by decide +kernel)) ggL_law_X6_join
set_option maxRecDepth 20000 in
theorem ggL_law_X5_stretch : GoodIn wsL_law wsX5_stretch := goodIn_r _ [336, 247, 248, 249, 2, 250, 251, 17, 252, 84, 85, 337, 338, 339, 19, 340, 341, 342, 258, 51, 640, 641, 642, 666, 667] (by decide +kernel) (by decide +kernel)
set_option maxRecDepth 20000 in
theorem gL_law_X5_stretch : GoodIn wsL_law (wsV RL 69 RX5 yX5_stretch wsX5_stretch) := goodIn_app (goodIn_of _ (by decide +kernel)) ggL_law_X5_stretch
set_option maxRecDepth 20000 in
theorem ggL_law_X6_stretch : GoodIn wsL_law wsX6_stretch := goodIn_r _ [346, 347, 348, 70, 71, 72, 263, 264, 5, 265, 266, 91, 92, 93, 329, 330, 331, 332, 267, 268, 269, 241, 643, 644, 645, 646, 647, 648, 649, 650, 651, 652, 653, 654, 655, 656, 657, 658, 659, 660] (by decide +kernel) (by decide +kernel)
set_option maxRecDepth 20000 in
theorem gL_law_X6_stretch : GoodIn wsL_law (wsV RL 72 RX6 yX6_stretch wsX6_stretch) := goodIn_app (goodIn_of _ (by decide +kernel)) ggL_law_X6_stretch
