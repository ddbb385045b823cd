set_option maxRecDepth 20000 in
theorem ggL_law_L_fits_p0 : GoodIn wsL_law (wsL_fits.take 60) := goodIn_r _ [58, 59, 60, 61, 62, 63, 57, 64, 65, 66, 67, 68, 69, 2, 70, 13, 71, 72, 73, 74, 75, 76, 77, 78, 79, 18, 80, 81, 82, 83, 84, 12, 85, 28, 86, 87, 88, 89, 29, 90, 91, 92, 93, 31, 94, 95, 96, 97, 98, 99, 100, 101, 102, 103, 104, 105, 106, 107, 108, 109] (by decide +kernel) (by decide +kernel)
set_option maxRecDepth 20000 in
theorem ggL_law_L_fits_p1 : GoodIn wsL_law ((wsL_fits.drop 60).take 60) := goodIn_r _ [110, 111, 112, 113, 30, 114, 115, 116, 117, 118, 119, 120, 121, 122, 123, 124, 125, 126, 127, 128, 129, 130, 131, 132, 133, 134, 135, 136, 137, 138, 139, 36, 35, 140, 141, 142, 143, 37, 144, 145, 146, 147, 148, 149, 150, 151, 152, 153, 154, 155, 156, 157, 158, 159, 160, 161, 162, 163, 164, 165] (by decide +kernel) (by decide +kernel)
set_option maxRecDepth 20000 in
theorem ggL_law_L_fits_p2 : GoodIn wsL_law ((wsL_fits.drop 120).take 60) := goodIn_r _ [166, 167, 168, 169, 170, 171, 172, 173, 174, 175, 176, 177, 178, 179, 180, 181, 182, 183, 184, 185, 186, 187, 188, 189, 190, 191, 192, 193, 194, 195, 196, 197, 198, 199, 200, 201, 202, 203, 204, 205, 206, 207, 208, 209, 210, 211, 212, 213, 214, 215, 216, 217, 218, 219, 220, 221, 433, 434, 435, 436] (by decide +kernel) (by decide +kernel)
set_option maxRecDepth 20000 in
theorem ggL_law_L_fits_p3 : GoodIn wsL_law (wsL_fits.drop 180) := goodIn_r _ [437, 438, 439, 440, 441, 442, 443, 444, 445, 446, 447, 448, 449, 450, 451, 452, 453, 454] (by decide +kernel) (by decide +kernel)
theorem ggL_law_L_fits : GoodIn wsL_law wsL_fits := goodIn_pc 60 ggL_law_L_fits_p0 (goodIn_pd 60 60 ggL_law_L_fits_p1 (goodIn_pd 120 60 ggL_law_L_fits_p2 (ggL_law_L_fits_p3)))
set_option maxRecDepth 20000 in
theorem gL_law_L_fits : GoodIn wsL_law (va_wsS RL 133 yL_fits wsL_fits) := goodIn_app (goodIn_of _ (by decide +kernel)) ggL_law_L_fits
