set_option maxRecDepth 20000 in
theorem ggL_law_X3_follow : GoodIn wsL_law wsX3_follow := goodIn_r _ [230, 15, 172, 173, 174, 175, 14, 176, 124, 105, 38, 37, 39, 30, 32, 90, 2, 91, 116, 117, 118, 119, 120, 121, 122, 123, 634, 635, 636, 637, 638, 656, 657, 658, 659, 660, 661, 662, 663, 664, 665, 666, 667, 668, 669, 670] (by decide +kernel) (by decide +kernel)
set_option maxRecDepth 20000 in
theorem gL_law_X3_follow : GoodIn wsL_law (wsV RL 26 RX3 yX3_follow wsX3_follow) := goodIn_app (goodIn_of _ (by decide +kernel)) ggL_law_X3_follow
set_option maxRecDepth 20000 in
theorem ggL_law_X4_follow : GoodIn wsL_law wsX4_follow := goodIn_r _ [234, 183, 184, 185, 186, 187, 5, 188, 167, 61, 189, 190, 191, 192, 193, 194, 195, 196, 150, 151, 152, 153, 163, 164, 165, 166, 639, 640, 641, 642, 643, 644, 645, 646, 647, 648, 649, 650, 651, 652, 653, 654, 655] (by decide +kernel) (by decide +kernel)
set_option maxRecDepth 20000 in
theorem gL_law_X4_follow : GoodIn wsL_law (wsV RL 29 RX4 yX4_follow wsX4_follow) := goodIn_app (goodIn_of _ (by decide +kernel)) ggL_law_X4_follow
set_option maxRecDepth 20000 in
theorem ggL_law_X3_nameOf : GoodIn wsL_law wsX3_nameOf := goodIn_r _ [238, 15, 172, 239, 173, 174, 175, 14, 176, 124, 105, 38, 37, 39, 30, 32, 90, 2, 91, 634, 635, 636, 637, 638, 656, 657, 658, 659, 660, 661, 662, 663, 664, 665, 666, 667, 668, 669, 670] (by decide +kernel) (by decide +kernel)
set_option maxRecDepth 20000 in
theorem gL_law_X3_nameOf : GoodIn wsL_law (wsV RL 30 RX3 yX3_nameOf wsX3_nameOf) := goodIn_app (goodIn_of _ (by decide +kernel)) ggL_law_X3_nameOf
set_option maxRecDepth 20000 in
theorem ggL_law_X4_nameOf : GoodIn wsL_law wsX4_nameOf := goodIn_r _ [243, 183, 61, 184, 185, 186, 187, 5, 188, 167, 189, 190, 191, 192, 193, 194, 195, 196, 150, 151, 152, 153, 639, 640, 641, 642, 643, 644, 645, 646, 647, 648, 649, 650, 651, 652, 653, 654, 655] (by decide +kernel) (by decide +kernel)
set_option maxRecDepth 20000 in
theorem gL_law_X4_nameOf : GoodIn wsL_law (wsV RL 33 RX4 yX4_nameOf wsX4_nameOf) := goodIn_app (goodIn_of _ (by decide +kernel)) ggL_law_X4_nameOf
set_option maxRecDepth 20000 in
theorem ggL_law_X3_why : GoodIn wsL_law wsX3_why := goodIn_r _ [247, 15, 173, 174, 175, 14, 176, 124, 105, 38, 37, 39, 30, 32, 90, 2, 91, 634, 635, 636, 637, 638, 656, 657, 658, 659, 660, 661, 662, 663, 664, 665, 666, 667, 668, 669, 670] (by decide +kernel) (by decide +kernel)
set_option maxRecDepth 20000 in
theorem gL_law_X3_why : GoodIn wsL_law (wsV RL 34 RX3 yX3_why wsX3_why) := goodIn_app (goodIn_of _ (by decide +kernel)) ggL_law_X3_why
set_option maxRecDepth 20000 in
theorem ggL_law_X4_why : GoodIn wsL_law wsX4_why := goodIn_r _ [251, 185, 186, 187, 5, 188, 167, 61, 184, 189, 190, 191, 192, 193, 194, 195, 196, 150, 151, 152, 153, 639, 640, 641, 642, 643, 644, 645, 646, 647, 648, 649, 650, 651, 652, 653, 654, 655] (by decide +kernel) (by decide +kernel)
set_option maxRecDepth 20000 in
theorem gL_law_X4_why : GoodIn wsL_law (wsV RL 37 RX4 yX4_why wsX4_why) := goodIn_app (goodIn_of _ (by decide +kernel)) ggL_law_X4_why
set_option maxRecDepth 20000 in
theorem ggL_law_X3_put : GoodIn wsL_law wsX3_put := goodIn_r _ [255, 72, 15, 172, 73, 256, 257, 2, 258, 259, 90, 91, 173, 174, 175, 14, 176, 124, 105, 38, 37, 39, 30, 32, 177, 87, 88, 89, 31, 92, 93, 94, 95, 96, 16, 97, 98, 99, 100, 101, 102, 103, 104, 33, 106, 107, 34, 35, 36, 260, 261, 262, 263, 264, 265, 266, 112, 113, 114, 115, 267, 211, 212, 213, 634, 635, 636, 637, 638, 656, 657, 658, 659, 660, 661, 662, 663, 664, 665, 666, 667, 668, 669, 670] (by decide +kernel) (by decide +kernel)
set_option maxRecDepth 20000 in
theorem gL_law_X3_put : GoodIn wsL_law (wsV RL 38 RX3 yX3_put wsX3_put) := goodIn_app (goodIn_of _ (by decide +kernel)) ggL_law_X3_put
set_option maxRecDepth 20000 in
theorem ggL_law_X4_put : GoodIn wsL_law wsX4_put := goodIn_r _ [271, 129, 183, 61, 184, 130, 272, 273, 5, 274, 135, 136, 137, 185, 186, 187, 188, 167, 189, 190, 191, 192, 193, 194, 195, 196, 150, 151, 152, 153, 154, 155, 156, 157, 158, 62, 275, 276, 277, 278, 223, 224, 225, 226, 639, 640, 641, 642, 643, 644, 645, 646, 647, 648, 649, 650, 651, 652, 653, 654, 655] (by decide +kernel) (by decide +kernel)
set_option maxRecDepth 20000 in
theorem gL_law_X4_put : GoodIn wsL_law (wsV RL 42 RX4 yX4_put wsX4_put) := goodIn_app (goodIn_of _ (by decide +kernel)) ggL_law_X4_put
