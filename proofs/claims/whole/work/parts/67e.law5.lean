set_option maxRecDepth 20000 in
theorem ggL_law_X3_wouldBe : GoodIn wsL_law wsX3_wouldBe := goodIn_r _ [413, 72, 15, 239, 296, 259, 90, 2, 91, 382, 315, 316, 14, 317, 30, 318, 319, 320, 321, 31, 322, 323, 324, 634, 635, 636, 637, 638, 656, 657, 658, 659, 660, 661, 662, 663, 664, 665, 666, 667, 668, 669, 670] (by decide +kernel) (by decide +kernel)
set_option maxRecDepth 20000 in
theorem gL_law_X3_wouldBe : GoodIn wsL_law (wsV RL 76 RX3 yX3_wouldBe wsX3_wouldBe) := goodIn_app (goodIn_of _ (by decide +kernel)) ggL_law_X3_wouldBe
set_option maxRecDepth 20000 in
theorem ggL_law_X4_wouldBe : GoodIn wsL_law wsX4_wouldBe := goodIn_r _ [417, 129, 345, 65, 301, 135, 136, 5, 137, 346, 347, 348, 349, 150, 151, 152, 153, 61, 350, 351, 352, 353, 354, 355, 356, 357, 639, 640, 641, 642, 643, 644, 645, 646, 647, 648, 649, 650, 651, 652, 653, 654, 655] (by decide +kernel) (by decide +kernel)
set_option maxRecDepth 20000 in
theorem gL_law_X4_wouldBe : GoodIn wsL_law (wsV RL 79 RX4 yX4_wouldBe wsX4_wouldBe) := goodIn_app (goodIn_of _ (by decide +kernel)) ggL_law_X4_wouldBe
set_option maxRecDepth 20000 in
theorem ggL_law_X3_compaction : GoodIn wsL_law wsX3_compaction := goodIn_r _ [421, 72, 15, 422, 296, 423, 424, 425, 259, 90, 2, 91, 426, 427, 428, 14, 429, 38, 37, 121, 122, 123, 124, 430, 174, 175, 176, 105, 39, 30, 32, 634, 635, 636, 637, 638, 656, 657, 658, 659, 660, 661, 662, 663, 664, 665, 666, 667, 668, 669, 670] (by decide +kernel) (by decide +kernel)
set_option maxRecDepth 20000 in
theorem gL_law_X3_compaction : GoodIn wsL_law (wsV RL 80 RX3 yX3_compaction wsX3_compaction) := goodIn_app (goodIn_of _ (by decide +kernel)) ggL_law_X3_compaction
set_option maxRecDepth 20000 in
theorem ggL_law_X4_compaction : GoodIn wsL_law wsX4_compaction := goodIn_r _ [434, 129, 301, 135, 136, 5, 137, 189, 190, 191, 192, 61, 193, 194, 195, 196, 435, 436, 437, 438, 167, 185, 186, 187, 188, 184, 150, 151, 152, 153, 639, 640, 641, 642, 643, 644, 645, 646, 647, 648, 649, 650, 651, 652, 653, 654, 655] (by decide +kernel) (by decide +kernel)
set_option maxRecDepth 20000 in
theorem gL_law_X4_compaction : GoodIn wsL_law (wsV RL 83 RX4 yX4_compaction wsX4_compaction) := goodIn_app (goodIn_of _ (by decide +kernel)) ggL_law_X4_compaction
set_option maxRecDepth 20000 in
theorem ggL_law_X3_count : GoodIn wsL_law wsX3_count := goodIn_r _ [442, 15, 283, 422, 443, 444, 445, 446, 447, 448, 96, 20, 449, 72, 450, 326, 327, 14, 328, 30, 451, 452, 453, 454, 31, 364, 207, 208, 209, 33, 455, 456, 457, 458, 634, 635, 636, 637, 638, 656, 657, 658, 659, 660, 661, 662, 663, 664, 665, 666, 667, 668, 669, 670, 671, 672] (by decide +kernel) (by decide +kernel)
set_option maxRecDepth 20000 in
theorem gL_law_X3_count : GoodIn wsL_law (wsV RL 84 RX3 yX3_count wsX3_count) := goodIn_app (goodIn_of _ (by decide +kernel)) ggL_law_X3_count
set_option maxRecDepth 20000 in
theorem ggL_law_X4_count : GoodIn wsL_law wsX4_count := goodIn_r _ [462, 61, 158, 463, 129, 464, 465, 466, 5, 467, 150, 151, 152, 153, 468, 469, 470, 471, 219, 220, 221, 222, 472, 473, 474, 475, 189, 190, 191, 192, 639, 640, 641, 642, 643, 644, 645, 646, 647, 648, 649, 650, 651, 652, 653, 654, 655] (by decide +kernel) (by decide +kernel)
set_option maxRecDepth 20000 in
theorem gL_law_X4_count : GoodIn wsL_law (wsV RL 87 RX4 yX4_count wsX4_count) := goodIn_app (goodIn_of _ (by decide +kernel)) ggL_law_X4_count
set_option maxRecDepth 20000 in
theorem ggL_law_X3_undo : GoodIn wsL_law wsX3_undo := goodIn_r _ [479, 96, 201, 15, 16, 97, 98, 99, 14, 100, 30, 101, 102, 103, 104, 31, 32, 33, 105, 106, 107, 34, 35, 36, 37, 38, 39, 634, 635, 636, 637, 638, 656, 657, 658, 659, 660, 661, 662, 663, 664, 665, 666, 667, 668, 669, 670] (by decide +kernel) (by decide +kernel)
set_option maxRecDepth 20000 in
theorem gL_law_X3_undo : GoodIn wsL_law (wsV RL 88 RX3 yX3_undo wsX3_undo) := goodIn_app (goodIn_of _ (by decide +kernel)) ggL_law_X3_undo
set_option maxRecDepth 20000 in
theorem ggL_law_X4_undo : GoodIn wsL_law wsX4_undo := goodIn_r _ [483, 158, 218, 61, 62, 639, 640, 641, 642, 643, 644, 645, 646, 647, 648, 649, 650, 651, 652, 653, 654, 655] (by decide +kernel) (by decide +kernel)
set_option maxRecDepth 20000 in
theorem gL_law_X4_undo : GoodIn wsL_law (wsV RL 92 RX4 yX4_undo wsX4_undo) := goodIn_app (goodIn_of _ (by decide +kernel)) ggL_law_X4_undo
