set_option maxRecDepth 20000 in
theorem ggL_law_X5_gather : GoodIn wsL_law wsX5_gather := goodIn_r _ [352, 247, 248, 249, 2, 250, 251, 17, 252, 84, 85, 353, 354, 355, 19, 356, 341, 357, 258, 324, 51, 358, 359, 360, 361, 362, 363, 364, 365, 640, 641, 642, 666, 667] (by decide +kernel) (by decide +kernel)
set_option maxRecDepth 20000 in
theorem gL_law_X5_gather : GoodIn wsL_law (wsV RL 73 RX5 yX5_gather wsX5_gather) := goodIn_app (goodIn_of _ (by decide +kernel)) ggL_law_X5_gather
set_option maxRecDepth 20000 in
theorem ggL_law_X6_gather : GoodIn wsL_law wsX6_gather := goodIn_r _ [369, 347, 118, 70, 72, 71, 263, 264, 5, 265, 266, 91, 92, 93, 329, 330, 331, 332, 267, 268, 269, 241, 643, 644, 645, 646, 647, 648, 649, 650, 651, 652, 653, 654, 655, 656, 657, 658, 659, 660] (by decide +kernel) (by decide +kernel)
set_option maxRecDepth 20000 in
theorem gL_law_X6_gather : GoodIn wsL_law (wsV RL 76 RX6 yX6_gather wsX6_gather) := goodIn_app (goodIn_of _ (by decide +kernel)) ggL_law_X6_gather
set_option maxRecDepth 20000 in
theorem ggL_law_X5_fault : GoodIn wsL_law wsX5_fault := goodIn_r _ [373, 247, 248, 249, 2, 250, 251, 17, 252, 84, 85, 374, 375, 376, 19, 377, 341, 378, 379, 258, 51, 324, 380, 381, 382, 383, 640, 641, 642, 666, 667] (by decide +kernel) (by decide +kernel)
set_option maxRecDepth 20000 in
theorem gL_law_X5_fault : GoodIn wsL_law (wsV RL 77 RX5 yX5_fault wsX5_fault) := goodIn_app (goodIn_of _ (by decide +kernel)) ggL_law_X5_fault
set_option maxRecDepth 20000 in
theorem ggL_law_X6_fault : GoodIn wsL_law wsX6_fault := goodIn_r _ [387, 347, 388, 135, 70, 72, 71, 263, 264, 5, 265, 266, 91, 92, 93, 329, 330, 331, 332, 267, 268, 269, 241, 643, 644, 645, 646, 647, 648, 649, 650, 651, 652, 653, 654, 655, 656, 657, 658, 659, 660] (by decide +kernel) (by decide +kernel)
set_option maxRecDepth 20000 in
theorem gL_law_X6_fault : GoodIn wsL_law (wsV RL 80 RX6 yX6_fault wsX6_fault) := goodIn_app (goodIn_of _ (by decide +kernel)) ggL_law_X6_fault
set_option maxRecDepth 20000 in
theorem ggL_law_X5_about : GoodIn wsL_law wsX5_about := goodIn_r _ [392, 393, 247, 248, 249, 2, 250, 251, 17, 252, 84, 85, 394, 395, 396, 19, 397, 258, 398, 358, 359, 360, 361, 362, 363, 364, 365, 51, 399, 400, 401, 402, 640, 641, 642, 666, 667] (by decide +kernel) (by decide +kernel)
set_option maxRecDepth 20000 in
theorem gL_law_X5_about : GoodIn wsL_law (wsV RL 81 RX5 yX5_about wsX5_about) := goodIn_app (goodIn_of _ (by decide +kernel)) ggL_law_X5_about
set_option maxRecDepth 20000 in
theorem ggL_law_X6_about : GoodIn wsL_law wsX6_about := goodIn_r _ [406, 347, 407, 70, 71, 263, 264, 5, 265, 266, 91, 92, 93, 408, 409, 410, 411, 643, 644, 645, 646, 647, 648, 649, 650, 651, 652, 653, 654, 655, 656, 657, 658, 659, 660] (by decide +kernel) (by decide +kernel)
set_option maxRecDepth 20000 in
theorem gL_law_X6_about : GoodIn wsL_law (wsV RL 84 RX6 yX6_about wsX6_about) := goodIn_app (goodIn_of _ (by decide +kernel)) ggL_law_X6_about
set_option maxRecDepth 20000 in
theorem ggL_law_X5_wave : GoodIn wsL_law wsX5_wave := goodIn_r _ [415, 393, 247, 248, 249, 2, 250, 251, 17, 252, 84, 85, 416, 417, 418, 19, 419, 341, 420, 398, 258, 51, 640, 641, 642, 666, 667] (by decide +kernel) (by decide +kernel)
set_option maxRecDepth 20000 in
theorem gL_law_X5_wave : GoodIn wsL_law (wsV RL 85 RX5 yX5_wave wsX5_wave) := goodIn_app (goodIn_of _ (by decide +kernel)) ggL_law_X5_wave
set_option maxRecDepth 20000 in
theorem ggL_law_X6_wave : GoodIn wsL_law wsX6_wave := goodIn_r _ [424, 347, 425, 407, 263, 264, 5, 265, 266, 91, 92, 93, 426, 427, 428, 429, 70, 71, 643, 644, 645, 646, 647, 648, 649, 650, 651, 652, 653, 654, 655, 656, 657, 658, 659, 660] (by decide +kernel) (by decide +kernel)
set_option maxRecDepth 20000 in
theorem gL_law_X6_wave : GoodIn wsL_law (wsV RL 88 RX6 yX6_wave wsX6_wave) := goodIn_app (goodIn_of _ (by decide +kernel)) ggL_law_X6_wave
set_option maxRecDepth 20000 in
theorem ggL_law_X5_greatest : GoodIn wsL_law wsX5_greatest := goodIn_r _ [433, 247, 248, 249, 2, 250, 251, 17, 252, 84, 85, 434, 435, 436, 19, 437, 341, 420, 258, 438, 417, 418, 419, 398, 51, 439, 440, 441, 640, 641, 642, 666, 667] (by decide +kernel) (by decide +kernel)
set_option maxRecDepth 20000 in
theorem gL_law_X5_greatest : GoodIn wsL_law (wsV RL 89 RX5 yX5_greatest wsX5_greatest) := goodIn_app (goodIn_of _ (by decide +kernel)) ggL_law_X5_greatest
set_option maxRecDepth 20000 in
theorem ggL_law_X6_greatest : GoodIn wsL_law wsX6_greatest := goodIn_r _ [445, 347, 425, 70, 263, 264, 5, 265, 266, 91, 92, 93, 426, 427, 428, 429, 71, 446, 447, 448, 643, 644, 645, 646, 647, 648, 649, 650, 651, 652, 653, 654, 655, 656, 657, 658, 659, 660] (by decide +kernel) (by decide +kernel)
set_option maxRecDepth 20000 in
theorem gL_law_X6_greatest : GoodIn wsL_law (wsV RL 92 RX6 yX6_greatest wsX6_greatest) := goodIn_app (goodIn_of _ (by decide +kernel)) ggL_law_X6_greatest
set_option maxRecDepth 20000 in
theorem ggL_law_X5_places : GoodIn wsL_law wsX5_places := goodIn_r _ [452, 247, 248, 249, 2, 250, 251, 17, 252, 84, 85, 453, 454, 455, 19, 456, 258, 457, 458, 364, 459, 460, 461, 462, 379, 278, 463, 464, 465, 466, 467, 358, 359, 360, 361, 362, 363, 365, 51, 468, 469, 470, 471, 640, 641, 642, 666, 667] (by decide +kernel) (by decide +kernel)
set_option maxRecDepth 20000 in
theorem gL_law_X5_places : GoodIn wsL_law (wsV RL 93 RX5 yX5_places wsX5_places) := goodIn_app (goodIn_of _ (by decide +kernel)) ggL_law_X5_places
set_option maxRecDepth 20000 in
theorem ggL_law_X6_places : GoodIn wsL_law wsX6_places := goodIn_r _ [475, 70, 263, 264, 5, 265, 266, 91, 92, 93, 476, 477, 478, 135, 287, 479, 408, 409, 410, 411, 71, 480, 481, 482, 483, 643, 644, 645, 646, 647, 648, 649, 650, 651, 652, 653, 654, 655, 656, 657, 658, 659, 660] (by decide +kernel) (by decide +kernel)
set_option maxRecDepth 20000 in
theorem gL_law_X6_places : GoodIn wsL_law (wsV RL 96 RX6 yX6_places wsX6_places) := goodIn_app (goodIn_of _ (by decide +kernel)) ggL_law_X6_places
set_option maxRecDepth 20000 in
theorem ggL_law_X5_cleared : GoodIn wsL_law wsX5_cleared := goodIn_r _ [487, 247, 248, 249, 2, 250, 251, 17, 252, 84, 85, 488, 489, 490, 19, 491, 258, 51, 457, 458, 364, 459, 460, 461, 462, 379, 278, 463, 464, 465, 466, 467, 358, 359, 360, 361, 362, 363, 365, 492, 493, 494, 495, 468, 469, 470, 471, 640, 641, 642, 666, 667] (by decide +kernel) (by decide +kernel)
set_option maxRecDepth 20000 in
theorem gL_law_X5_cleared : GoodIn wsL_law (wsV RL 97 RX5 yX5_cleared wsX5_cleared) := goodIn_app (goodIn_of _ (by decide +kernel)) ggL_law_X5_cleared
set_option maxRecDepth 20000 in
theorem ggL_law_X6_cleared : GoodIn wsL_law wsX6_cleared := goodIn_r _ [499, 70, 72, 71, 263, 264, 5, 265, 266, 91, 92, 93, 476, 477, 478, 135, 287, 479, 408, 409, 410, 411, 480, 481, 482, 483, 329, 330, 331, 332, 267, 268, 269, 241, 643, 644, 645, 646, 647, 648, 649, 650, 651, 652, 653, 654, 655, 656, 657, 658, 659, 660] (by decide +kernel) (by decide +kernel)
set_option maxRecDepth 20000 in
theorem gL_law_X6_cleared : GoodIn wsL_law (wsV RL 100 RX6 yX6_cleared wsX6_cleared) := goodIn_app (goodIn_of _ (by decide +kernel)) ggL_law_X6_cleared
set_option maxRecDepth 20000 in
theorem ggL_law_X5_bale : GoodIn wsL_law wsX5_bale := goodIn_r _ [503, 23, 504, 505, 506, 22, 507, 508, 509, 510, 56, 84, 2, 85, 640, 641, 642, 668, 669, 670, 671, 672, 673, 674, 675, 676] (by decide +kernel) (by decide +kernel)
set_option maxRecDepth 20000 in
theorem gL_law_X5_bale : GoodIn wsL_law (wsV RL 101 RX5 yX5_bale wsX5_bale) := goodIn_app (goodIn_of _ (by decide +kernel)) ggL_law_X5_bale
set_option maxRecDepth 20000 in
theorem ggL_law_X6_bale : GoodIn wsL_law wsX6_bale := goodIn_r _ [514, 90, 515, 73, 516, 91, 92, 5, 93, 643, 644, 645, 646, 647, 648, 649, 650, 651, 652, 653, 654, 655, 656, 657, 658, 659, 660] (by decide +kernel) (by decide +kernel)
set_option maxRecDepth 20000 in
theorem gL_law_X6_bale : GoodIn wsL_law (wsV RL 104 RX6 yX6_bale wsX6_bale) := goodIn_app (goodIn_of _ (by decide +kernel)) ggL_law_X6_bale
set_option maxRecDepth 20000 in
theorem ggL_law_X5_clearBales : GoodIn wsL_law wsX5_clearBales := goodIn_r _ [520, 23, 521, 522, 523, 22, 524, 509, 510, 640, 641, 642, 668, 669, 670, 671, 672, 673, 674, 675, 676] (by decide +kernel) (by decide +kernel)
set_option maxRecDepth 20000 in
theorem gL_law_X5_clearBales : GoodIn wsL_law (wsV RL 105 RX5 yX5_clearBales wsX5_clearBales) := goodIn_app (goodIn_of _ (by decide +kernel)) ggL_law_X5_clearBales
set_option maxRecDepth 20000 in
theorem ggL_law_X6_clearBales : GoodIn wsL_law wsX6_clearBales := goodIn_r _ [528, 515, 516, 643, 644, 645, 646, 647, 648, 649, 650, 651, 652, 653, 654, 655, 656, 657, 658, 659, 660] (by decide +kernel) (by decide +kernel)
set_option maxRecDepth 20000 in
theorem gL_law_X6_clearBales : GoodIn wsL_law (wsV RL 108 RX6 yX6_clearBales wsX6_clearBales) := goodIn_app (goodIn_of _ (by decide +kernel)) ggL_law_X6_clearBales
set_option maxRecDepth 20000 in
theorem ggL_law_X5_plan : GoodIn wsL_law wsX5_plan := goodIn_r _ [532, 23, 533, 534, 535, 22, 536, 537, 508, 510, 509, 55, 538, 539, 540, 541, 84, 2, 85, 542, 543, 544, 545, 57, 56, 546, 547, 548, 549, 550, 551, 552, 553, 554, 640, 641, 642, 668, 669, 670, 671, 672, 673, 674, 675, 676] (by decide +kernel) (by decide +kernel)
set_option maxRecDepth 20000 in
theorem gL_law_X5_plan : GoodIn wsL_law (wsV RL 109 RX5 yX5_plan wsX5_plan) := goodIn_app (goodIn_of _ (by decide +kernel)) ggL_law_X5_plan
set_option maxRecDepth 20000 in
theorem ggL_law_X6_plan : GoodIn wsL_law wsX6_plan := goodIn_r _ [558, 559, 90, 516, 515, 560, 561, 74, 562, 91, 92, 5, 93, 563, 564, 565, 566, 567, 568, 569, 570, 73, 643, 644, 645, 646, 647, 648, 649, 650, 651, 652, 653, 654, 655, 656, 657, 658, 659, 660] (by decide +kernel) (by decide +kernel)
set_option maxRecDepth 20000 in
theorem gL_law_X6_plan : GoodIn wsL_law (wsV RL 112 RX6 yX6_plan wsX6_plan) := goodIn_app (goodIn_of _ (by decide +kernel)) ggL_law_X6_plan
set_option maxRecDepth 20000 in
theorem ggL_law_X5_planAt : GoodIn wsL_law wsX5_planAt := goodIn_r _ [574, 23, 575, 576, 577, 22, 578, 510, 55, 57, 84, 2, 85, 640, 641, 642, 668, 669, 670, 671, 672, 673, 674, 675, 676] (by decide +kernel) (by decide +kernel)
set_option maxRecDepth 20000 in
theorem gL_law_X5_planAt : GoodIn wsL_law (wsV RL 113 RX5 yX5_planAt wsX5_planAt) := goodIn_app (goodIn_of _ (by decide +kernel)) ggL_law_X5_planAt
set_option maxRecDepth 20000 in
theorem ggL_law_X6_planAt : GoodIn wsL_law wsX6_planAt := goodIn_r _ [582, 516, 561, 74, 91, 92, 5, 93, 643, 644, 645, 646, 647, 648, 649, 650, 651, 652, 653, 654, 655, 656, 657, 658, 659, 660] (by decide +kernel) (by decide +kernel)
set_option maxRecDepth 20000 in
theorem gL_law_X6_planAt : GoodIn wsL_law (wsV RL 116 RX6 yX6_planAt wsX6_planAt) := goodIn_app (goodIn_of _ (by decide +kernel)) ggL_law_X6_planAt
set_option maxRecDepth 20000 in
theorem ggL_law_X5_tries : GoodIn wsL_law wsX5_tries := goodIn_r _ [586, 23, 587, 640, 641, 642, 668, 669, 670, 671, 672, 673, 674, 675, 676] (by decide +kernel) (by decide +kernel)
set_option maxRecDepth 20000 in
theorem gL_law_X5_tries : GoodIn wsL_law (wsV RL 117 RX5 yX5_tries wsX5_tries) := goodIn_app (goodIn_of _ (by decide +kernel)) ggL_law_X5_tries
set_option maxRecDepth 20000 in
theorem ggL_law_X6_tries : GoodIn wsL_law wsX6_tries := goodIn_r _ [591, 560, 643, 644, 645, 646, 647, 648, 649, 650, 651, 652, 653, 654, 655, 656, 657, 658, 659, 660] (by decide +kernel) (by decide +kernel)
set_option maxRecDepth 20000 in
theorem gL_law_X6_tries : GoodIn wsL_law (wsV RL 120 RX6 yX6_tries wsX6_tries) := goodIn_app (goodIn_of _ (by decide +kernel)) ggL_law_X6_tries
set_option maxRecDepth 20000 in
theorem ggL_law_X5_many : GoodIn wsL_law wsX5_many := goodIn_r _ [595, 15, 596, 23, 597, 598, 599, 600, 601, 14, 602, 106, 31, 111, 603, 604, 605, 2, 606, 17, 607, 640, 641, 642, 661, 662, 663, 664, 665, 668, 669, 670, 671, 672, 673, 674, 675, 676, 679, 680, 681, 682, 683, 684, 666, 667] (by decide +kernel) (by decide +kernel)
set_option maxRecDepth 20000 in
theorem gL_law_X5_many : GoodIn wsL_law (wsV RL 121 RX5 yX5_many wsX5_many) := goodIn_app (goodIn_of _ (by decide +kernel)) ggL_law_X5_many
set_option maxRecDepth 20000 in
theorem ggL_law_X6_many : GoodIn wsL_law wsX6_many := goodIn_r _ [611, 612, 91, 92, 5, 93, 613, 614, 615, 616, 120, 68, 70, 515, 516, 643, 644, 645, 646, 647, 648, 649, 650, 651, 652, 653, 654, 655, 656, 657, 658, 659, 660] (by decide +kernel) (by decide +kernel)
set_option maxRecDepth 20000 in
theorem gL_law_X6_many : GoodIn wsL_law (wsV RL 124 RX6 yX6_many wsX6_many) := goodIn_app (goodIn_of _ (by decide +kernel)) ggL_law_X6_many
set_option maxRecDepth 20000 in
theorem ggL_law_X5_digest : GoodIn wsL_law wsX5_digest := goodIn_r _ [620, 621, 622, 15, 596, 17, 23, 623, 593, 594, 2, 595, 597, 598, 599, 600, 601, 14, 602, 106, 31, 111, 603, 604, 605, 606, 607, 156, 157, 158, 159, 160, 161, 84, 85, 162, 163, 164, 165, 35, 28, 29, 107, 110, 109, 129, 108, 166, 167, 168, 169, 170, 171, 34, 172, 41, 42, 173, 174, 175, 176, 177, 178, 179, 180, 181, 182, 183, 184, 185, 186, 187, 188, 624, 625, 626, 19, 627, 258, 628, 51, 629, 630, 631, 22, 632, 510, 55, 633, 57, 640, 641, 642, 661, 662, 663, 664, 665, 668, 669, 670, 671, 672, 673, 674, 675, 676, 679, 680, 681, 682, 683, 684, 666, 667, 677, 678] (by decide +kernel) (by decide +kernel)
set_option maxRecDepth 20000 in
theorem gL_law_X5_digest : GoodIn wsL_law (wsV RL 125 RX5 yX5_digest wsX5_digest) := goodIn_app (goodIn_of _ (by decide +kernel)) ggL_law_X5_digest
set_option maxRecDepth 20000 in
theorem ggL_law_X6_digest : GoodIn wsL_law wsX6_digest := goodIn_r _ [637, 638, 639, 120, 70, 71, 516, 561, 74, 613, 614, 615, 5, 616, 68, 515, 194, 195, 196, 197, 62, 63, 64, 135, 67, 66, 65, 198, 199, 200, 201, 202, 643, 644, 645, 646, 647, 648, 649, 650, 651, 652, 653, 654, 655, 656, 657, 658, 659, 660] (by decide +kernel) (by decide +kernel)
set_option maxRecDepth 20000 in
theorem gL_law_X6_digest : GoodIn wsL_law (wsV RL 129 RX6 yX6_digest wsX6_digest) := goodIn_app (goodIn_of _ (by decide +kernel)) ggL_law_X6_digest
