set_option maxRecDepth 20000 in
theorem ggL_law_X3_init : GoodIn wsL_law wsX3_init := goodIn_r _ [8, 9, 10, 11, 12, 13, 14, 15, 16, 17, 18, 19, 20, 21, 22, 23, 24, 25, 26, 27, 28, 29, 30, 31, 32, 33, 34, 35, 36, 37, 38, 39, 40, 41, 42, 43, 44, 45, 46, 47, 48, 49, 50, 51, 52, 53, 54, 55, 56, 656, 657, 658, 659, 660, 661, 662, 663, 664, 665, 666, 667, 668, 669, 670, 634, 635, 636, 637, 638, 671, 672, 673, 674, 675, 676, 677, 678, 679, 680, 681, 682, 683, 684] (by decide +kernel) (by decide +kernel)
set_option maxRecDepth 20000 in
theorem gL_law_X3_init : GoodIn wsL_law (wsX3_init) := ggL_law_X3_init
set_option maxRecDepth 20000 in
theorem ggL_law_X4_init : GoodIn wsL_law wsX4_init := goodIn_r _ [59, 60, 10, 11, 29, 61, 62, 63, 64, 65, 66, 67, 639, 640, 641, 642, 643, 644, 645, 646, 647, 648, 649, 650, 651, 652, 653, 654, 655] (by decide +kernel) (by decide +kernel)
set_option maxRecDepth 20000 in
theorem gL_law_X4_init : GoodIn wsL_law (wsX4_init) := ggL_law_X4_init
set_option maxRecDepth 20000 in
theorem ggL_law_X3_acquire : GoodIn wsL_law wsX3_acquire := goodIn_r _ [71, 72, 15, 73, 74, 75, 2, 76, 77, 78, 79, 80, 14, 81, 82, 83, 84, 85, 30, 86, 87, 88, 89, 31, 90, 91, 92, 93, 94, 95, 96, 16, 97, 98, 99, 100, 101, 102, 103, 104, 32, 33, 105, 106, 107, 34, 35, 36, 37, 38, 39, 108, 109, 110, 111, 112, 113, 114, 115, 116, 117, 118, 119, 120, 121, 122, 123, 124, 634, 635, 636, 637, 638, 656, 657, 658, 659, 660, 661, 662, 663, 664, 665, 666, 667, 668, 669, 670] (by decide +kernel) (by decide +kernel)
set_option maxRecDepth 20000 in
theorem gL_law_X3_acquire : GoodIn wsL_law (wsV RL 13 RX3 yX3_acquire wsX3_acquire) := goodIn_app (goodIn_of _ (by decide +kernel)) ggL_law_X3_acquire
set_option maxRecDepth 20000 in
theorem ggL_law_X4_acquire : GoodIn wsL_law wsX4_acquire := goodIn_r _ [128, 129, 130, 131, 132, 5, 133, 134, 135, 136, 137, 138, 139, 140, 141, 61, 142, 143, 144, 145, 146, 147, 148, 149, 150, 151, 152, 153, 154, 155, 156, 157, 158, 62, 159, 160, 161, 162, 163, 164, 165, 166, 167, 639, 640, 641, 642, 643, 644, 645, 646, 647, 648, 649, 650, 651, 652, 653, 654, 655] (by decide +kernel) (by decide +kernel)
set_option maxRecDepth 20000 in
theorem gL_law_X4_acquire : GoodIn wsL_law (wsV RL 17 RX4 yX4_acquire wsX4_acquire) := goodIn_app (goodIn_of _ (by decide +kernel)) ggL_law_X4_acquire
set_option maxRecDepth 20000 in
theorem ggL_law_X3_use : GoodIn wsL_law wsX3_use := goodIn_r _ [171, 15, 172, 73, 173, 174, 175, 14, 176, 124, 105, 38, 37, 39, 30, 32, 90, 2, 91, 177, 87, 88, 89, 31, 92, 93, 94, 95, 96, 16, 97, 98, 99, 100, 101, 102, 103, 104, 33, 106, 107, 34, 35, 36, 178, 113, 114, 115, 634, 635, 636, 637, 638, 656, 657, 658, 659, 660, 661, 662, 663, 664, 665, 666, 667, 668, 669, 670] (by decide +kernel) (by decide +kernel)
set_option maxRecDepth 20000 in
theorem gL_law_X3_use : GoodIn wsL_law (wsV RL 18 RX3 yX3_use wsX3_use) := goodIn_app (goodIn_of _ (by decide +kernel)) ggL_law_X3_use
set_option maxRecDepth 20000 in
theorem ggL_law_X4_use : GoodIn wsL_law wsX4_use := goodIn_r _ [182, 183, 61, 184, 130, 185, 186, 187, 5, 188, 167, 189, 190, 191, 192, 193, 194, 195, 196, 150, 151, 152, 153, 154, 155, 156, 157, 158, 62, 639, 640, 641, 642, 643, 644, 645, 646, 647, 648, 649, 650, 651, 652, 653, 654, 655] (by decide +kernel) (by decide +kernel)
set_option maxRecDepth 20000 in
theorem gL_law_X4_use : GoodIn wsL_law (wsV RL 21 RX4 yX4_use wsX4_use) := goodIn_app (goodIn_of _ (by decide +kernel)) ggL_law_X4_use
set_option maxRecDepth 20000 in
theorem ggL_law_X3_release : GoodIn wsL_law wsX3_release := goodIn_r _ [200, 15, 172, 201, 173, 174, 175, 14, 176, 124, 105, 38, 37, 39, 30, 32, 90, 2, 91, 202, 203, 204, 205, 31, 206, 207, 208, 209, 33, 92, 93, 94, 95, 96, 16, 97, 98, 99, 100, 101, 102, 103, 104, 106, 107, 34, 35, 36, 210, 211, 212, 213, 634, 635, 636, 637, 638, 656, 657, 658, 659, 660, 661, 662, 663, 664, 665, 666, 667, 668, 669, 670] (by decide +kernel) (by decide +kernel)
set_option maxRecDepth 20000 in
theorem gL_law_X3_release : GoodIn wsL_law (wsV RL 22 RX3 yX3_release wsX3_release) := goodIn_app (goodIn_of _ (by decide +kernel)) ggL_law_X3_release
set_option maxRecDepth 20000 in
theorem ggL_law_X4_release : GoodIn wsL_law wsX4_release := goodIn_r _ [217, 183, 61, 184, 218, 185, 186, 187, 5, 188, 167, 189, 190, 191, 192, 193, 194, 195, 196, 150, 151, 152, 153, 219, 220, 221, 222, 154, 155, 156, 157, 158, 62, 223, 224, 225, 226, 639, 640, 641, 642, 643, 644, 645, 646, 647, 648, 649, 650, 651, 652, 653, 654, 655] (by decide +kernel) (by decide +kernel)
set_option maxRecDepth 20000 in
theorem gL_law_X4_release : GoodIn wsL_law (wsV RL 25 RX4 yX4_release wsX4_release) := goodIn_app (goodIn_of _ (by decide +kernel)) ggL_law_X4_release
