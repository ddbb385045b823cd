set_option maxRecDepth 20000 in
theorem ggL_goes_X3_use : GoodIn wsL_goes wsX3_use := goodIn_r _ [129, 15, 130, 16, 131, 132, 133, 24, 134, 79, 54, 61, 60, 62, 30, 52, 36, 12, 37, 135, 32, 33, 34, 35, 38, 39, 40, 41, 42, 43, 44, 45, 46, 47, 48, 49, 50, 51, 53, 55, 56, 57, 58, 59, 136, 68, 69, 70, 315, 316, 317, 318, 319, 320, 321, 322, 323, 324, 325, 326, 327, 328, 329, 330, 331, 332, 333, 334] (by decide +kernel) (by decide +kernel)
set_option maxRecDepth 20000 in
theorem gL_goes_X3_use : GoodIn wsL_goes (wsV RL 113 RX3 yX3_use wsX3_use) := goodIn_app (goodIn_of _ (by decide +kernel)) ggL_goes_X3_use
set_option maxRecDepth 20000 in
theorem ggL_goes_X3_release : GoodIn wsL_goes wsX3_release := goodIn_r _ [140, 15, 130, 141, 131, 132, 133, 24, 134, 79, 54, 61, 60, 62, 30, 52, 36, 12, 37, 142, 143, 144, 145, 35, 146, 107, 108, 109, 53, 38, 39, 40, 41, 42, 43, 44, 45, 46, 47, 48, 49, 50, 51, 55, 56, 57, 58, 59, 147, 148, 149, 150, 315, 316, 317, 318, 319, 320, 321, 322, 323, 324, 325, 326, 327, 328, 329, 330, 331, 332, 333, 334] (by decide +kernel) (by decide +kernel)
set_option maxRecDepth 20000 in
theorem gL_goes_X3_release : GoodIn wsL_goes (wsV RL 116 RX3 yX3_release wsX3_release) := goodIn_app (goodIn_of _ (by decide +kernel)) ggL_goes_X3_release
set_option maxRecDepth 20000 in
theorem ggL_goes_L_near : GoodIn wsL_goes wsL_near := goodIn_r _ [153, 1, 2, 3, 4, 5] (by decide +kernel) (by decide +kernel)
set_option maxRecDepth 20000 in
theorem gL_goes_L_near : GoodIn wsL_goes (va_wsS RL 70 yL_near wsL_near) := goodIn_app (goodIn_of _ (by decide +kernel)) ggL_goes_L_near
