set_option maxRecDepth 20000 in
theorem ggL_goes_X3_put : GoodIn wsL_goes wsX3_put := goodIn_r _ [157, 14, 15, 130, 16, 158, 159, 12, 160, 125, 36, 37, 131, 132, 133, 24, 134, 79, 54, 61, 60, 62, 30, 52, 135, 32, 33, 34, 35, 38, 39, 40, 41, 42, 43, 44, 45, 46, 47, 48, 49, 50, 51, 53, 55, 56, 57, 58, 59, 161, 162, 163, 164, 165, 166, 167, 67, 68, 69, 70, 168, 148, 149, 150, 315, 316, 317, 318, 319, 320, 321, 322, 323, 324, 325, 326, 327, 328, 329, 330, 331, 332, 333, 334] (by decide +kernel) (by decide +kernel)
set_option maxRecDepth 20000 in
theorem gL_goes_X3_put : GoodIn wsL_goes (wsV RL 119 RX3 yX3_put wsX3_put) := goodIn_app (goodIn_of _ (by decide +kernel)) ggL_goes_X3_put
set_option maxRecDepth 20000 in
theorem ggL_goes_X3_clear : GoodIn wsL_goes wsX3_clear := goodIn_r _ [172, 14, 15, 88, 141, 158, 159, 12, 160, 125, 36, 37, 161, 162, 163, 38, 39, 40, 41, 42, 43, 44, 45, 46, 24, 47, 30, 48, 49, 50, 51, 35, 52, 53, 54, 55, 56, 57, 58, 59, 60, 61, 62, 173, 174, 175, 176, 168, 148, 149, 150, 315, 316, 317, 318, 319, 320, 321, 322, 323, 324, 325, 326, 327, 328, 329, 330, 331, 332, 333, 334] (by decide +kernel) (by decide +kernel)
set_option maxRecDepth 20000 in
theorem gL_goes_X3_clear : GoodIn wsL_goes (wsV RL 123 RX3 yX3_clear wsX3_clear) := goodIn_app (goodIn_of _ (by decide +kernel)) ggL_goes_X3_clear
set_option maxRecDepth 20000 in
theorem ggL_goes_X3_compact : GoodIn wsL_goes wsX3_compact := goodIn_r _ [180, 14, 15, 16, 125, 36, 12, 37, 181, 182, 183, 24, 184, 54, 38, 39, 40, 41, 42, 43, 44, 45, 46, 47, 30, 48, 49, 50, 51, 35, 52, 53, 55, 56, 57, 58, 59, 60, 61, 62, 185, 186, 187, 188, 189, 190, 191, 192, 193, 194, 195, 196, 197, 198, 199, 200, 99, 100, 101, 201, 202, 203, 204, 205, 206, 207, 208, 209, 210, 211, 212, 213, 214, 315, 316, 317, 318, 319, 320, 321, 322, 323, 324, 325, 326, 327, 328, 329, 330, 331, 332, 333, 334] (by decide +kernel) (by decide +kernel)
set_option maxRecDepth 20000 in
theorem gL_goes_X3_compact : GoodIn wsL_goes (wsV RL 126 RX3 yX3_compact wsX3_compact) := goodIn_app (goodIn_of _ (by decide +kernel)) ggL_goes_X3_compact
