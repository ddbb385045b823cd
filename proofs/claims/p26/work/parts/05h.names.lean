set_option maxRecDepth 20000 in
theorem ggL_goes_L_plays_p0 : GoodIn wsL_goes (wsL_plays.take 60) := goodIn_r _ [217, 218, 219, 220, 221, 222, 223, 224, 12, 225, 96, 97, 1, 2, 3, 4, 5, 226, 227, 228, 229, 14, 16, 230, 231, 232, 233, 234, 235, 236, 36, 37, 237, 238, 239, 240, 241, 15, 242, 122, 243, 244, 125, 245, 246, 247, 248, 249, 250, 251, 252, 253, 254, 255, 256, 45, 46, 24, 47, 30] (by decide +kernel) (by decide +kernel)
set_option maxRecDepth 20000 in
theorem ggL_goes_L_plays_p1 : GoodIn wsL_goes ((wsL_plays.drop 60).take 60) := goodIn_r _ [48, 49, 50, 51, 35, 52, 53, 54, 55, 56, 57, 58, 59, 60, 61, 62, 257, 258, 259, 260, 261, 262, 263, 264, 265, 266, 267, 268, 269, 270, 271, 272, 273, 274, 275, 276, 277, 278, 279, 280, 281, 282, 283, 284, 285, 286, 287, 288, 289, 290, 291, 292, 293, 294, 295, 296, 27, 28, 29, 297] (by decide +kernel) (by decide +kernel)
set_option maxRecDepth 20000 in
theorem ggL_goes_L_plays_p2 : GoodIn wsL_goes ((wsL_plays.drop 120).take 60) := goodIn_r _ [298, 299, 300, 301, 22, 23, 25, 26, 31, 32, 33, 34, 302, 143, 144, 145, 146, 107, 108, 109, 303, 304, 182, 183, 184, 305, 64, 65, 66, 67, 68, 69, 70, 306, 148, 149, 150, 162, 163, 307, 165, 166, 167, 168, 308, 186, 187, 188, 189, 190, 191, 192, 193, 194, 195, 196, 197, 198, 199, 200] (by decide +kernel) (by decide +kernel)
set_option maxRecDepth 20000 in
theorem ggL_goes_L_plays_p3 : GoodIn wsL_goes ((wsL_plays.drop 180).take 60) := goodIn_r _ [99, 100, 101, 201, 202, 203, 204, 205, 206, 207, 208, 209, 210, 211, 212, 213, 214, 309, 310, 311, 312, 141, 313, 314, 38, 39, 40, 41, 42, 43, 44, 84, 85, 86, 87, 88, 89, 90, 91, 92, 93, 94, 95, 98, 102, 103, 104, 105, 106, 110, 111, 112, 113, 315, 316, 317, 318, 319, 335, 336] (by decide +kernel) (by decide +kernel)
set_option maxRecDepth 20000 in
theorem ggL_goes_L_plays_p4 : GoodIn wsL_goes (wsL_plays.drop 240) := goodIn_r _ [337, 338, 339, 340, 341, 342, 343, 344, 345, 346, 347, 348, 320, 321, 322, 323, 324, 325, 326, 327, 328, 329, 330, 331, 332, 333, 334] (by decide +kernel) (by decide +kernel)
theorem ggL_goes_L_plays : GoodIn wsL_goes wsL_plays := goodIn_pc 60 ggL_goes_L_plays_p0 (goodIn_pd 60 60 ggL_goes_L_plays_p1 (goodIn_pd 120 60 ggL_goes_L_plays_p2 (goodIn_pd 180 60 ggL_goes_L_plays_p3 (ggL_goes_L_plays_p4))))
set_option maxRecDepth 20000 in
theorem gL_goes_L_plays : GoodIn wsL_goes (va_wsS RL 129 yL_plays wsL_plays) := goodIn_app (goodIn_of _ (by decide +kernel)) ggL_goes_L_plays
