set_option maxRecDepth 20000 in
theorem ggL_law_X3_value : GoodIn wsL_law wsX3_value := goodIn_r _ [344, 269, 185, 19, 157, 345, 346, 2, 347, 348, 349, 350, 148, 149, 150, 18, 151, 45, 158, 125, 126, 127, 44, 596, 597, 598, 599, 600, 601, 602, 603, 604, 605, 606, 631, 632, 633, 634, 635, 636, 637, 638, 639, 640, 641, 642] (by decide +kernel) (by decide +kernel)
set_option maxRecDepth 20000 in
theorem gL_law_X3_value : GoodIn wsL_law (wsV RL 27 RX3 yX3_value wsX3_value) := goodIn_app (goodIn_of _ (by decide +kernel)) ggL_law_X3_value
set_option maxRecDepth 20000 in
theorem ggL_law_X4_value : GoodIn wsL_law wsX4_value := goodIn_r _ [354, 299, 199, 169, 200, 201, 5, 202, 213, 214, 215, 216, 163, 217, 218, 219, 220, 171, 221, 222, 223, 224, 225, 172, 226, 227, 228, 229, 230, 231, 232, 233, 234, 235, 236, 237, 238, 239, 240, 241, 242, 243, 244, 245, 246, 247, 248, 207, 607, 608, 609, 610, 611, 612, 613, 614, 615, 616, 617, 618, 619] (by decide +kernel) (by decide +kernel)
set_option maxRecDepth 20000 in
theorem gL_law_X4_value : GoodIn wsL_law (wsV RL 30 RX4 yX4_value wsX4_value) := goodIn_app (goodIn_of _ (by decide +kernel)) ggL_law_X4_value
set_option maxRecDepth 20000 in
theorem ggL_law_X3_margin : GoodIn wsL_law wsX3_margin := goodIn_r _ [358, 269, 185, 19, 157, 345, 346, 2, 347, 348, 349, 350, 148, 149, 150, 18, 151, 45, 359, 121, 122, 123, 124, 125, 126, 127, 44, 596, 597, 598, 599, 600, 601, 602, 603, 604, 605, 606, 631, 632, 633, 634, 635, 636, 637, 638, 639, 640, 641, 642] (by decide +kernel) (by decide +kernel)
set_option maxRecDepth 20000 in
theorem gL_law_X3_margin : GoodIn wsL_law (wsV RL 31 RX3 yX3_margin wsX3_margin) := goodIn_app (goodIn_of _ (by decide +kernel)) ggL_law_X3_margin
set_option maxRecDepth 20000 in
theorem ggL_law_X4_margin : GoodIn wsL_law wsX4_margin := goodIn_r _ [363, 299, 199, 169, 221, 207, 200, 201, 5, 202, 213, 214, 215, 216, 163, 217, 218, 219, 220, 171, 222, 223, 224, 225, 172, 226, 227, 228, 229, 230, 231, 232, 233, 234, 235, 236, 237, 238, 239, 240, 241, 242, 243, 244, 245, 607, 608, 609, 610, 611, 612, 613, 614, 615, 616, 617, 618, 619] (by decide +kernel) (by decide +kernel)
set_option maxRecDepth 20000 in
theorem gL_law_X4_margin : GoodIn wsL_law (wsV RL 34 RX4 yX4_margin wsX4_margin) := goodIn_app (goodIn_of _ (by decide +kernel)) ggL_law_X4_margin
set_option maxRecDepth 20000 in
theorem ggL_law_X3_store : GoodIn wsL_law wsX3_store := goodIn_r _ [367, 185, 15, 177, 178, 348, 349, 2, 350, 368, 369, 370, 371, 372, 26, 184, 373, 105, 54, 106, 374, 375, 376, 377, 378, 379, 380, 25, 381, 56, 57, 382, 383, 384, 14, 385, 386, 387, 35, 36, 388, 389, 390, 391, 84, 37, 392, 393, 394, 395, 38, 58, 59, 60, 61, 19, 62, 63, 22, 64, 65, 66, 18, 67, 68, 69, 70, 71, 72, 73, 74, 75, 76, 77, 78, 42, 43, 79, 80, 81, 82, 83, 85, 86, 87, 88, 89, 90, 91, 92, 93, 94, 95, 96, 97, 98, 99, 100, 101, 102, 103, 104, 107, 53, 55, 108, 109, 110, 111, 45, 44, 112, 113, 114, 115, 46, 47, 116, 117, 118, 119, 120, 121, 122, 123, 124, 125, 126, 127, 128, 129, 130, 131, 132, 133, 134, 135, 136, 137, 138, 139, 140, 141, 142, 143, 144, 145, 146, 147, 148, 149, 150, 151, 152, 153, 154, 155, 156, 157, 158, 596, 597, 598, 599, 600, 601, 602, 603, 604, 605, 606, 620, 621, 622, 623, 624, 625, 626, 627, 628, 629, 630, 643, 644, 631, 632, 633, 634, 635, 636, 637, 638, 639, 640, 641, 642] (by decide +kernel) (by decide +kernel)
set_option maxRecDepth 20000 in
theorem gL_law_X3_store : GoodIn wsL_law (wsV RL 35 RX3 yX3_store wsX3_store) := goodIn_app (goodIn_of _ (by decide +kernel)) ggL_law_X3_store
set_option maxRecDepth 20000 in
theorem ggL_law_X4_store : GoodIn wsL_law wsX4_store := goodIn_r _ [399, 199, 163, 200, 201, 5, 202, 400, 401, 402, 403, 208, 165, 404, 405, 406, 209, 210, 211, 212, 169, 213, 214, 215, 216, 217, 218, 219, 220, 171, 221, 222, 223, 224, 225, 172, 226, 227, 228, 229, 230, 231, 232, 233, 234, 235, 236, 237, 238, 239, 240, 241, 242, 243, 244, 245, 246, 247, 248, 207, 607, 608, 609, 610, 611, 612, 613, 614, 615, 616, 617, 618, 619] (by decide +kernel) (by decide +kernel)
set_option maxRecDepth 20000 in
theorem gL_law_X4_store : GoodIn wsL_law (wsV RL 38 RX4 yX4_store wsX4_store) := goodIn_app (goodIn_of _ (by decide +kernel)) ggL_law_X4_store
set_option maxRecDepth 20000 in
theorem ggL_law_X3_room : GoodIn wsL_law wsX3_room := goodIn_r _ [410, 269, 185, 15, 271, 272, 273, 2, 274, 348, 349, 350, 368, 369, 370, 371, 372, 26, 184, 373, 105, 54, 106, 374, 375, 376, 377, 378, 379, 380, 25, 381, 56, 57, 382, 383, 384, 14, 385, 386, 387, 35, 36, 388, 389, 390, 391, 84, 37, 392, 393, 394, 395, 38, 58, 59, 60, 61, 19, 62, 63, 22, 64, 65, 66, 18, 67, 68, 69, 70, 71, 72, 73, 74, 75, 76, 77, 78, 42, 43, 79, 80, 81, 82, 83, 85, 86, 87, 88, 89, 90, 91, 92, 93, 94, 95, 96, 97, 98, 99, 100, 101, 102, 103, 104, 107, 53, 55, 108, 109, 110, 111, 45, 44, 112, 113, 114, 115, 46, 47, 116, 117, 118, 119, 120, 121, 122, 123, 124, 125, 126, 127, 128, 129, 130, 131, 132, 133, 134, 135, 136, 137, 138, 139, 140, 141, 142, 143, 144, 145, 146, 147, 148, 149, 150, 151, 152, 153, 154, 155, 156, 157, 158, 596, 597, 598, 599, 600, 601, 602, 603, 604, 605, 606, 620, 621, 622, 623, 624, 625, 626, 627, 628, 629, 630, 643, 644, 631, 632, 633, 634, 635, 636, 637, 638, 639, 640, 641, 642] (by decide +kernel) (by decide +kernel)
set_option maxRecDepth 20000 in
theorem gL_law_X3_room : GoodIn wsL_law (wsV RL 39 RX3 yX3_room wsX3_room) := goodIn_app (goodIn_of _ (by decide +kernel)) ggL_law_X3_room
set_option maxRecDepth 20000 in
theorem ggL_law_X4_room : GoodIn wsL_law wsX4_room := goodIn_r _ [414, 299, 199, 163, 300, 301, 5, 302, 200, 201, 202, 400, 401, 402, 403, 208, 165, 404, 405, 406, 209, 210, 211, 212, 169, 213, 214, 215, 216, 217, 218, 219, 220, 171, 221, 222, 223, 224, 225, 172, 226, 227, 228, 229, 230, 231, 232, 233, 234, 235, 236, 237, 238, 239, 240, 241, 242, 243, 244, 245, 246, 247, 248, 207, 607, 608, 609, 610, 611, 612, 613, 614, 615, 616, 617, 618, 619] (by decide +kernel) (by decide +kernel)
set_option maxRecDepth 20000 in
theorem gL_law_X4_room : GoodIn wsL_law (wsV RL 43 RX4 yX4_room wsX4_room) := goodIn_app (goodIn_of _ (by decide +kernel)) ggL_law_X4_room
