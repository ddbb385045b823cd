set_option maxRecDepth 20000 in
theorem ggL_law_X3_clear : GoodIn wsL_law wsX3_clear := goodIn_r _ [282, 72, 15, 283, 201, 256, 257, 2, 258, 259, 90, 91, 260, 261, 262, 92, 93, 94, 95, 96, 16, 97, 98, 99, 14, 100, 30, 101, 102, 103, 104, 31, 32, 33, 105, 106, 107, 34, 35, 36, 37, 38, 39, 284, 285, 286, 287, 267, 211, 212, 213, 634, 635, 636, 637, 638, 656, 657, 658, 659, 660, 661, 662, 663, 664, 665, 666, 667, 668, 669, 670] (by decide +kernel) (by decide +kernel)
set_option maxRecDepth 20000 in
theorem gL_law_X3_clear : GoodIn wsL_law (wsV RL 43 RX3 yX3_clear wsX3_clear) := goodIn_app (goodIn_of _ (by decide +kernel)) ggL_law_X3_clear
set_option maxRecDepth 20000 in
theorem ggL_law_X4_clear : GoodIn wsL_law wsX4_clear := goodIn_r _ [291, 129, 61, 218, 272, 273, 5, 274, 135, 136, 137, 154, 155, 156, 157, 158, 62, 223, 224, 225, 226, 639, 640, 641, 642, 643, 644, 645, 646, 647, 648, 649, 650, 651, 652, 653, 654, 655] (by decide +kernel) (by decide +kernel)
set_option maxRecDepth 20000 in
theorem gL_law_X4_clear : GoodIn wsL_law (wsV RL 47 RX4 yX4_clear wsX4_clear) := goodIn_app (goodIn_of _ (by decide +kernel)) ggL_law_X4_clear
set_option maxRecDepth 20000 in
theorem ggL_law_X3_cellOf : GoodIn wsL_law wsX3_cellOf := goodIn_r _ [295, 72, 15, 283, 296, 256, 257, 2, 258, 259, 90, 91, 260, 261, 262, 116, 117, 118, 14, 119, 105, 32, 120, 121, 122, 123, 124, 634, 635, 636, 637, 638, 656, 657, 658, 659, 660, 661, 662, 663, 664, 665, 666, 667, 668, 669, 670] (by decide +kernel) (by decide +kernel)
set_option maxRecDepth 20000 in
theorem gL_law_X3_cellOf : GoodIn wsL_law (wsV RL 48 RX3 yX3_cellOf wsX3_cellOf) := goodIn_app (goodIn_of _ (by decide +kernel)) ggL_law_X3_cellOf
set_option maxRecDepth 20000 in
theorem ggL_law_X4_cellOf : GoodIn wsL_law wsX4_cellOf := goodIn_r _ [300, 129, 61, 301, 272, 273, 5, 274, 135, 136, 137, 163, 164, 165, 166, 167, 639, 640, 641, 642, 643, 644, 645, 646, 647, 648, 649, 650, 651, 652, 653, 654, 655] (by decide +kernel) (by decide +kernel)
set_option maxRecDepth 20000 in
theorem gL_law_X4_cellOf : GoodIn wsL_law (wsV RL 51 RX4 yX4_cellOf wsX4_cellOf) := goodIn_app (goodIn_of _ (by decide +kernel)) ggL_law_X4_cellOf
set_option maxRecDepth 20000 in
theorem ggL_law_X3_compact : GoodIn wsL_law wsX3_compact := goodIn_r _ [305, 72, 15, 73, 259, 90, 2, 91, 306, 307, 308, 14, 309, 105, 92, 93, 94, 95, 96, 16, 97, 98, 99, 100, 30, 101, 102, 103, 104, 31, 32, 33, 106, 107, 34, 35, 36, 37, 38, 39, 310, 311, 312, 313, 314, 315, 316, 317, 318, 319, 320, 321, 322, 323, 324, 325, 326, 327, 328, 329, 330, 331, 332, 40, 41, 42, 43, 44, 45, 333, 334, 335, 336, 634, 635, 636, 637, 638, 656, 657, 658, 659, 660, 661, 662, 663, 664, 665, 666, 667, 668, 669, 670] (by decide +kernel) (by decide +kernel)
set_option maxRecDepth 20000 in
theorem gL_law_X3_compact : GoodIn wsL_law (wsV RL 52 RX3 yX3_compact wsX3_compact) := goodIn_app (goodIn_of _ (by decide +kernel)) ggL_law_X3_compact
set_option maxRecDepth 20000 in
theorem ggL_law_X4_compact : GoodIn wsL_law wsX4_compact := goodIn_r _ [340, 129, 61, 130, 135, 136, 5, 137, 154, 155, 156, 157, 158, 62, 341, 342, 343, 344, 66, 345, 65, 346, 347, 348, 349, 150, 151, 152, 153, 350, 351, 352, 353, 354, 355, 356, 357, 639, 640, 641, 642, 643, 644, 645, 646, 647, 648, 649, 650, 651, 652, 653, 654, 655] (by decide +kernel) (by decide +kernel)
set_option maxRecDepth 20000 in
theorem gL_law_X4_compact : GoodIn wsL_law (wsV RL 55 RX4 yX4_compact wsX4_compact) := goodIn_app (goodIn_of _ (by decide +kernel)) ggL_law_X4_compact
set_option maxRecDepth 20000 in
theorem ggL_law_X3_numberOf : GoodIn wsL_law wsX3_numberOf := goodIn_r _ [361, 72, 15, 239, 296, 362, 363, 259, 90, 2, 91, 364, 207, 208, 14, 209, 33, 116, 117, 118, 119, 105, 32, 120, 121, 122, 123, 124, 634, 635, 636, 637, 638, 656, 657, 658, 659, 660, 661, 662, 663, 664, 665, 666, 667, 668, 669, 670] (by decide +kernel) (by decide +kernel)
set_option maxRecDepth 20000 in
theorem gL_law_X3_numberOf : GoodIn wsL_law (wsV RL 56 RX3 yX3_numberOf wsX3_numberOf) := goodIn_app (goodIn_of _ (by decide +kernel)) ggL_law_X3_numberOf
set_option maxRecDepth 20000 in
theorem ggL_law_X4_numberOf : GoodIn wsL_law wsX4_numberOf := goodIn_r _ [368, 129, 61, 301, 135, 136, 5, 137, 150, 151, 152, 153, 219, 220, 221, 222, 163, 164, 165, 166, 167, 639, 640, 641, 642, 643, 644, 645, 646, 647, 648, 649, 650, 651, 652, 653, 654, 655] (by decide +kernel) (by decide +kernel)
set_option maxRecDepth 20000 in
theorem gL_law_X4_numberOf : GoodIn wsL_law (wsV RL 59 RX4 yX4_numberOf wsX4_numberOf) := goodIn_app (goodIn_of _ (by decide +kernel)) ggL_law_X4_numberOf
