set_option maxRecDepth 20000 in
theorem ggL_law_X3_type : GoodIn wsL_law wsX3_type := goodIn_r _ [487, 72, 20, 449, 73, 488, 489, 490, 19, 491, 492, 50, 90, 2, 91, 634, 635, 636, 637, 638, 671, 672] (by decide +kernel) (by decide +kernel)
set_option maxRecDepth 20000 in
theorem gL_law_X3_type : GoodIn wsL_law (wsV RL 93 RX3 yX3_type wsX3_type) := goodIn_app (goodIn_of _ (by decide +kernel)) ggL_law_X3_type
set_option maxRecDepth 20000 in
theorem ggL_law_X4_type : GoodIn wsL_law wsX4_type := goodIn_r _ [496, 129, 463, 130, 64, 135, 136, 5, 137, 639, 640, 641, 642, 643, 644, 645, 646, 647, 648, 649, 650, 651, 652, 653, 654, 655] (by decide +kernel) (by decide +kernel)
set_option maxRecDepth 20000 in
theorem gL_law_X4_type : GoodIn wsL_law (wsV RL 96 RX4 yX4_type wsX4_type) := goodIn_app (goodIn_of _ (by decide +kernel)) ggL_law_X4_type
set_option maxRecDepth 20000 in
theorem ggL_law_X3_clearText : GoodIn wsL_law wsX3_clearText := goodIn_r _ [500, 20, 449, 634, 635, 636, 637, 638, 671, 672] (by decide +kernel) (by decide +kernel)
set_option maxRecDepth 20000 in
theorem gL_law_X3_clearText : GoodIn wsL_law (wsV RL 97 RX3 yX3_clearText wsX3_clearText) := goodIn_app (goodIn_of _ (by decide +kernel)) ggL_law_X3_clearText
set_option maxRecDepth 20000 in
theorem ggL_law_X4_clearText : GoodIn wsL_law wsX4_clearText := goodIn_r _ [504, 463, 639, 640, 641, 642, 643, 644, 645, 646, 647, 648, 649, 650, 651, 652, 653, 654, 655] (by decide +kernel) (by decide +kernel)
set_option maxRecDepth 20000 in
theorem gL_law_X4_clearText : GoodIn wsL_law (wsV RL 100 RX4 yX4_clearText wsX4_clearText) := goodIn_app (goodIn_of _ (by decide +kernel)) ggL_law_X4_clearText
set_option maxRecDepth 20000 in
theorem ggL_law_X3_fault : GoodIn wsL_law wsX3_fault := goodIn_r _ [508, 72, 24, 15, 20, 509, 296, 510, 511, 259, 90, 2, 91, 512, 513, 514, 23, 515, 55, 516, 517, 518, 519, 520, 521, 98, 99, 14, 100, 30, 101, 102, 103, 104, 31, 32, 33, 105, 106, 107, 34, 35, 36, 37, 38, 39, 522, 523, 524, 525, 526, 527, 528, 529, 530, 531, 532, 533, 534, 19, 535, 492, 50, 536, 537, 538, 539, 540, 541, 542, 543, 544, 545, 546, 547, 548, 549, 550, 551, 552, 553, 554, 555, 556, 557, 558, 559, 560, 561, 83, 84, 85, 562, 563, 564, 565, 566, 79, 80, 81, 82, 86, 87, 88, 89, 567, 203, 204, 205, 206, 207, 208, 209, 568, 569, 307, 308, 309, 570, 109, 110, 111, 112, 113, 114, 115, 571, 211, 212, 213, 261, 262, 572, 264, 265, 266, 267, 573, 311, 312, 313, 314, 315, 316, 317, 318, 319, 320, 321, 322, 323, 324, 325, 326, 327, 328, 329, 330, 331, 332, 40, 41, 42, 43, 44, 45, 333, 334, 335, 336, 634, 635, 636, 637, 638, 673, 674, 675, 676, 677, 678, 679, 680, 681, 682, 683, 684, 671, 672, 656, 657, 658, 659, 660, 661, 662, 663, 664, 665, 666, 667, 668, 669, 670] (by decide +kernel) (by decide +kernel)
set_option maxRecDepth 20000 in
theorem gL_law_X3_fault : GoodIn wsL_law (wsV RL 101 RX3 yX3_fault wsX3_fault) := goodIn_app (goodIn_of _ (by decide +kernel)) ggL_law_X3_fault
set_option maxRecDepth 20000 in
theorem ggL_law_X4_fault : GoodIn wsL_law wsX4_fault := goodIn_r _ [577, 129, 578, 301, 579, 580, 135, 136, 5, 137, 581, 582, 583, 584, 63, 61, 585, 586, 587, 588, 589, 463, 590, 591, 592, 593, 64, 594, 595, 596, 597, 598, 599, 600, 601, 67, 602, 603, 604, 605, 606, 607, 608, 609, 610, 611, 612, 613, 614, 615, 616, 617, 618, 619, 142, 143, 144, 145, 341, 342, 343, 344, 66, 345, 65, 346, 347, 348, 349, 150, 151, 152, 153, 350, 351, 352, 353, 354, 355, 356, 357, 138, 139, 140, 141, 146, 147, 148, 149, 159, 160, 161, 162, 163, 164, 165, 166, 167, 219, 220, 221, 222, 223, 224, 225, 226, 275, 276, 277, 278, 620, 621, 622, 623, 639, 640, 641, 642, 643, 644, 645, 646, 647, 648, 649, 650, 651, 652, 653, 654, 655] rfl (by decide +kernel)
set_option maxRecDepth 20000 in
theorem gL_law_X4_fault : GoodIn wsL_law (wsV RL 104 RX4 yX4_fault wsX4_fault) := goodIn_app (goodIn_of _ (by decide +kernel)) ggL_law_X4_fault
set_option maxRecDepth 20000 in
theorem ggL_law_X3_play : GoodIn wsL_law wsX3_play := goodIn_r _ [627, 24, 15, 20, 509, 201, 628, 629, 512, 513, 514, 23, 515, 55, 516, 517, 518, 519, 520, 521, 98, 99, 14, 100, 30, 101, 102, 103, 104, 31, 32, 33, 105, 106, 107, 34, 35, 36, 37, 38, 39, 522, 523, 524, 525, 526, 527, 528, 529, 530, 531, 532, 533, 534, 19, 535, 492, 50, 90, 2, 91, 536, 537, 538, 539, 540, 541, 542, 543, 544, 545, 546, 547, 548, 549, 550, 551, 552, 553, 554, 555, 556, 557, 558, 559, 560, 561, 83, 84, 85, 562, 563, 564, 565, 566, 79, 80, 81, 82, 86, 87, 88, 89, 567, 203, 204, 205, 206, 207, 208, 209, 568, 569, 307, 308, 309, 570, 109, 110, 111, 112, 113, 114, 115, 571, 211, 212, 213, 261, 262, 572, 264, 265, 266, 267, 573, 311, 312, 313, 314, 315, 316, 317, 318, 319, 320, 321, 322, 323, 324, 325, 326, 327, 328, 329, 330, 331, 332, 40, 41, 42, 43, 44, 45, 333, 334, 335, 336, 92, 93, 94, 95, 96, 16, 97, 634, 635, 636, 637, 638, 673, 674, 675, 676, 677, 678, 679, 680, 681, 682, 683, 684, 671, 672, 656, 657, 658, 659, 660, 661, 662, 663, 664, 665, 666, 667, 668, 669, 670] (by decide +kernel) (by decide +kernel)
set_option maxRecDepth 20000 in
theorem gL_law_X3_play : GoodIn wsL_law (wsV RL 105 RX3 yX3_play wsX3_play) := goodIn_app (goodIn_of _ (by decide +kernel)) ggL_law_X3_play
set_option maxRecDepth 20000 in
theorem ggL_law_X4_play : GoodIn wsL_law wsX4_play := goodIn_r _ [633, 578, 218, 581, 582, 583, 5, 584, 63, 61, 585, 586, 587, 588, 589, 463, 579, 580, 590, 591, 592, 593, 64, 594, 595, 596, 597, 598, 599, 600, 601, 67, 135, 136, 137, 602, 603, 604, 605, 606, 607, 608, 609, 610, 611, 612, 613, 614, 615, 616, 617, 618, 619, 142, 143, 144, 145, 341, 342, 343, 344, 66, 345, 65, 346, 347, 348, 349, 150, 151, 152, 153, 350, 351, 352, 353, 354, 355, 356, 357, 138, 139, 140, 141, 146, 147, 148, 149, 159, 160, 161, 162, 163, 164, 165, 166, 167, 219, 220, 221, 222, 223, 224, 225, 226, 275, 276, 277, 278, 620, 621, 622, 623, 154, 155, 156, 157, 158, 62, 639, 640, 641, 642, 643, 644, 645, 646, 647, 648, 649, 650, 651, 652, 653, 654, 655] rfl (by decide +kernel)
set_option maxRecDepth 20000 in
theorem gL_law_X4_play : GoodIn wsL_law (wsV RL 108 RX4 yX4_play wsX4_play) := goodIn_app (goodIn_of _ (by decide +kernel)) ggL_law_X4_play
