set_option maxRecDepth 20000 in
theorem ggL_law_X3_find : GoodIn wsL_law wsX3_find := goodIn_r _ [372, 72, 15, 296, 74, 75, 2, 76, 77, 373, 83, 84, 14, 85, 30, 634, 635, 636, 637, 638, 656, 657, 658, 659, 660, 661, 662, 663, 664, 665, 666, 667, 668, 669, 670] (by decide +kernel) (by decide +kernel)
set_option maxRecDepth 20000 in
theorem gL_law_X3_find : GoodIn wsL_law (wsV RL 60 RX3 yX3_find wsX3_find) := goodIn_app (goodIn_of _ (by decide +kernel)) ggL_law_X3_find
set_option maxRecDepth 20000 in
theorem ggL_law_X4_find : GoodIn wsL_law wsX4_find := goodIn_r _ [377, 129, 301, 131, 132, 5, 133, 134, 135, 136, 137, 142, 143, 144, 145, 61, 639, 640, 641, 642, 643, 644, 645, 646, 647, 648, 649, 650, 651, 652, 653, 654, 655] (by decide +kernel) (by decide +kernel)
set_option maxRecDepth 20000 in
theorem gL_law_X4_find : GoodIn wsL_law (wsV RL 63 RX4 yX4_find wsX4_find) := goodIn_app (goodIn_of _ (by decide +kernel)) ggL_law_X4_find
set_option maxRecDepth 20000 in
theorem ggL_law_X3_nameAt : GoodIn wsL_law wsX3_nameAt := goodIn_r _ [381, 72, 15, 239, 296, 259, 90, 2, 91, 382, 315, 316, 14, 317, 30, 318, 319, 320, 321, 31, 322, 323, 324, 634, 635, 636, 637, 638, 656, 657, 658, 659, 660, 661, 662, 663, 664, 665, 666, 667, 668, 669, 670] (by decide +kernel) (by decide +kernel)
set_option maxRecDepth 20000 in
theorem gL_law_X3_nameAt : GoodIn wsL_law (wsV RL 64 RX3 yX3_nameAt wsX3_nameAt) := goodIn_app (goodIn_of _ (by decide +kernel)) ggL_law_X3_nameAt
set_option maxRecDepth 20000 in
theorem ggL_law_X4_nameAt : GoodIn wsL_law wsX4_nameAt := goodIn_r _ [386, 129, 345, 61, 65, 301, 135, 136, 5, 137, 346, 347, 348, 349, 150, 151, 152, 153, 350, 351, 352, 353, 354, 355, 356, 357, 639, 640, 641, 642, 643, 644, 645, 646, 647, 648, 649, 650, 651, 652, 653, 654, 655] (by decide +kernel) (by decide +kernel)
set_option maxRecDepth 20000 in
theorem gL_law_X4_nameAt : GoodIn wsL_law (wsV RL 67 RX4 yX4_nameAt wsX4_nameAt) := goodIn_app (goodIn_of _ (by decide +kernel)) ggL_law_X4_nameAt
set_option maxRecDepth 20000 in
theorem ggL_law_X3_beginning : GoodIn wsL_law wsX3_beginning := goodIn_r _ [390, 72, 15, 239, 74, 75, 2, 76, 77, 391, 392, 393, 634, 635, 636, 637, 638, 656, 657, 658, 659, 660, 661, 662, 663, 664, 665, 666, 667, 668, 669, 670] (by decide +kernel) (by decide +kernel)
set_option maxRecDepth 20000 in
theorem gL_law_X3_beginning : GoodIn wsL_law (wsV RL 68 RX3 yX3_beginning wsX3_beginning) := goodIn_app (goodIn_of _ (by decide +kernel)) ggL_law_X3_beginning
set_option maxRecDepth 20000 in
theorem ggL_law_X4_beginning : GoodIn wsL_law wsX4_beginning := goodIn_r _ [397, 129, 61, 131, 132, 5, 133, 134, 135, 136, 137, 150, 151, 152, 153, 398, 399, 400, 639, 640, 641, 642, 643, 644, 645, 646, 647, 648, 649, 650, 651, 652, 653, 654, 655] (by decide +kernel) (by decide +kernel)
set_option maxRecDepth 20000 in
theorem gL_law_X4_beginning : GoodIn wsL_law (wsV RL 71 RX4 yX4_beginning wsX4_beginning) := goodIn_app (goodIn_of _ (by decide +kernel)) ggL_law_X4_beginning
set_option maxRecDepth 20000 in
theorem ggL_law_X3_behind : GoodIn wsL_law wsX3_behind := goodIn_r _ [404, 72, 15, 239, 296, 74, 75, 2, 76, 77, 405, 322, 323, 324, 634, 635, 636, 637, 638, 656, 657, 658, 659, 660, 661, 662, 663, 664, 665, 666, 667, 668, 669, 670] (by decide +kernel) (by decide +kernel)
set_option maxRecDepth 20000 in
theorem gL_law_X3_behind : GoodIn wsL_law (wsV RL 72 RX3 yX3_behind wsX3_behind) := goodIn_app (goodIn_of _ (by decide +kernel)) ggL_law_X3_behind
set_option maxRecDepth 20000 in
theorem ggL_law_X4_behind : GoodIn wsL_law wsX4_behind := goodIn_r _ [409, 129, 345, 61, 65, 301, 131, 132, 5, 133, 134, 135, 136, 137, 346, 347, 348, 349, 150, 151, 152, 153, 350, 351, 352, 353, 354, 355, 356, 357, 639, 640, 641, 642, 643, 644, 645, 646, 647, 648, 649, 650, 651, 652, 653, 654, 655] (by decide +kernel) (by decide +kernel)
set_option maxRecDepth 20000 in
theorem gL_law_X4_behind : GoodIn wsL_law (wsV RL 75 RX4 yX4_behind wsX4_behind) := goodIn_app (goodIn_of _ (by decide +kernel)) ggL_law_X4_behind
