set_option maxRecDepth 20000 in
theorem ggL_law_X3_seed : GoodIn wsL_law wsX3_seed := goodIn_r _ [572, 185, 504, 596, 597, 598, 599, 600, 601, 602, 603, 604, 605, 606] (by decide +kernel) (by decide +kernel)
set_option maxRecDepth 20000 in
theorem gL_law_X3_seed : GoodIn wsL_law (wsV RL 94 RX3 yX3_seed wsX3_seed) := goodIn_app (goodIn_of _ (by decide +kernel)) ggL_law_X3_seed
set_option maxRecDepth 20000 in
theorem ggL_law_X4_seed : GoodIn wsL_law wsX4_seed := goodIn_r _ [576, 199, 516, 607, 608, 609, 610, 611, 612, 613, 614, 615, 616, 617, 618, 619] (by decide +kernel) (by decide +kernel)
set_option maxRecDepth 20000 in
theorem gL_law_X4_seed : GoodIn wsL_law (wsV RL 97 RX4 yX4_seed wsX4_seed) := goodIn_app (goodIn_of _ (by decide +kernel)) ggL_law_X4_seed
set_option maxRecDepth 20000 in
theorem ggL_law_X3_keep : GoodIn wsL_law wsX3_keep := goodIn_r _ [580, 269, 27, 15, 28, 504, 30, 184, 581, 582, 2, 583, 378, 379, 380, 25, 381, 56, 57, 382, 383, 384, 14, 385, 386, 387, 35, 36, 388, 389, 390, 391, 84, 37, 392, 393, 394, 395, 38, 596, 597, 598, 599, 600, 601, 602, 603, 604, 605, 606, 643, 644, 620, 621, 622, 623, 624, 625, 626, 627, 628, 629, 630] (by decide +kernel) (by decide +kernel)
set_option maxRecDepth 20000 in
theorem gL_law_X3_keep : GoodIn wsL_law (wsV RL 98 RX3 yX3_keep wsX3_keep) := goodIn_app (goodIn_of _ (by decide +kernel)) ggL_law_X3_keep
set_option maxRecDepth 20000 in
theorem ggL_law_X4_keep : GoodIn wsL_law wsX4_keep := goodIn_r _ [587, 299, 163, 166, 167, 516, 168, 208, 200, 201, 5, 202, 404, 405, 406, 607, 608, 609, 610, 611, 612, 613, 614, 615, 616, 617, 618, 619] (by decide +kernel) (by decide +kernel)
set_option maxRecDepth 20000 in
theorem gL_law_X4_keep : GoodIn wsL_law (wsV RL 101 RX4 yX4_keep wsX4_keep) := goodIn_app (goodIn_of _ (by decide +kernel)) ggL_law_X4_keep
set_option maxRecDepth 20000 in
theorem ggL_law_X3_goBack : GoodIn wsL_law wsX3_goBack := goodIn_r _ [591, 269, 30, 485, 27, 15, 28, 504, 184, 581, 582, 2, 583, 525, 526, 527, 25, 528, 56, 57, 529, 530, 531, 14, 532, 386, 387, 35, 36, 388, 389, 390, 391, 84, 37, 392, 393, 394, 395, 38, 58, 59, 60, 61, 19, 62, 63, 22, 64, 65, 66, 18, 67, 68, 69, 70, 71, 72, 73, 74, 75, 76, 77, 78, 42, 43, 79, 80, 81, 82, 83, 85, 86, 87, 88, 89, 90, 91, 92, 93, 94, 95, 96, 97, 98, 54, 99, 100, 101, 102, 103, 104, 105, 106, 107, 53, 55, 108, 109, 110, 111, 45, 44, 112, 113, 114, 115, 46, 47, 116, 117, 118, 119, 120, 121, 122, 123, 124, 125, 126, 127, 128, 129, 130, 131, 132, 133, 134, 135, 136, 137, 138, 139, 140, 141, 142, 143, 144, 145, 146, 147, 148, 149, 150, 151, 152, 153, 154, 155, 156, 157, 158, 596, 597, 598, 599, 600, 601, 602, 603, 604, 605, 606, 643, 644, 620, 621, 622, 623, 624, 625, 626, 627, 628, 629, 630, 631, 632, 633, 634, 635, 636, 637, 638, 639, 640, 641, 642] (by decide +kernel) (by decide +kernel)
set_option maxRecDepth 20000 in
theorem gL_law_X3_goBack : GoodIn wsL_law (wsV RL 102 RX3 yX3_goBack wsX3_goBack) := goodIn_app (goodIn_of _ (by decide +kernel)) ggL_law_X3_goBack
set_option maxRecDepth 20000 in
theorem ggL_law_X4_goBack : GoodIn wsL_law wsX4_goBack := goodIn_r _ [595, 299, 168, 491, 166, 163, 167, 516, 208, 200, 201, 5, 202, 404, 405, 406, 607, 608, 609, 610, 611, 612, 613, 614, 615, 616, 617, 618, 619] (by decide +kernel) (by decide +kernel)
set_option maxRecDepth 20000 in
theorem gL_law_X4_goBack : GoodIn wsL_law (wsV RL 105 RX4 yX4_goBack wsX4_goBack) := goodIn_app (goodIn_of _ (by decide +kernel)) ggL_law_X4_goBack
