set_option maxRecDepth 20000 in
theorem ggL_goes_L_low : GoodIn wsL_goes wsL_low := goodIn_r _ [4, 5] (by decide +kernel) (by decide +kernel)
set_option maxRecDepth 20000 in
theorem gL_goes_L_low : GoodIn wsL_goes (va_wsS RL 9 yL_low wsL_low) := goodIn_app (goodIn_of _ (by decide +kernel)) ggL_goes_L_low
set_option maxRecDepth 20000 in
theorem ggL_goes_L_name : GoodIn wsL_goes wsL_name := goodIn_r _ [8, 1, 2, 3, 4, 5] (by decide +kernel) (by decide +kernel)
set_option maxRecDepth 20000 in
theorem gL_goes_L_name : GoodIn wsL_goes (va_wsS RL 103 yL_name wsL_name) := goodIn_app (goodIn_of _ (by decide +kernel)) ggL_goes_L_name
set_option maxRecDepth 20000 in
theorem ggL_goes_X3_acquire : GoodIn wsL_goes wsX3_acquire := goodIn_r _ [13, 14, 15, 16, 17, 18, 12, 19, 20, 21, 22, 23, 24, 25, 26, 27, 28, 29, 30, 31, 32, 33, 34, 35, 36, 37, 38, 39, 40, 41, 42, 43, 44, 45, 46, 47, 48, 49, 50, 51, 52, 53, 54, 55, 56, 57, 58, 59, 60, 61, 62, 63, 64, 65, 66, 67, 68, 69, 70, 71, 72, 73, 74, 75, 76, 77, 78, 79, 315, 316, 317, 318, 319, 320, 321, 322, 323, 324, 325, 326, 327, 328, 329, 330, 331, 332, 333, 334] (by decide +kernel) (by decide +kernel)
set_option maxRecDepth 20000 in
theorem gL_goes_X3_acquire : GoodIn wsL_goes (wsV RL 106 RX3 yX3_acquire wsX3_acquire) := goodIn_app (goodIn_of _ (by decide +kernel)) ggL_goes_X3_acquire
set_option maxRecDepth 20000 in
theorem ggL_goes_L_tag : GoodIn wsL_goes wsL_tag := goodIn_r _ [82, 83, 1, 2, 3, 4, 5, 84, 85, 86, 12, 87, 15, 88, 89, 90, 91, 92, 93, 94, 95, 42, 96, 97, 14, 98, 99, 100, 24, 101, 30, 102, 103, 104, 105, 35, 106, 107, 108, 109, 53, 110, 111, 112, 113, 114, 115, 116, 117, 118, 119, 120, 121, 122, 123, 124, 125, 36, 37, 71, 72, 73, 74, 54, 52, 75, 76, 77, 78, 79, 315, 316, 317, 318, 319, 320, 321, 322, 323, 324, 325, 326, 327, 328, 329, 330, 331, 332, 333, 334, 335, 336] (by decide +kernel) (by decide +kernel)
set_option maxRecDepth 20000 in
theorem gL_goes_L_tag : GoodIn wsL_goes (va_wsS RL 109 yL_tag wsL_tag) := goodIn_app (goodIn_of _ (by decide +kernel)) ggL_goes_L_tag
