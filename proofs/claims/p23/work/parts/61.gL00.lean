set_option maxRecDepth 20000 in
theorem ggL_law_X3_init : GoodIn wsL_law wsX3_init := goodIn_r _ [8, 9, 10, 11, 12, 13, 14, 15, 16, 17, 18, 19, 20, 21, 22, 23, 24, 25, 26, 27, 28, 29, 30, 31, 32, 33, 34, 35, 36, 37, 38, 39, 40, 41, 42, 43, 44, 45, 46, 47, 48, 49, 50, 51, 52, 53, 54, 55, 56, 57, 58, 59, 60, 2, 61, 62, 63, 64, 65, 66, 67, 68, 69, 70, 71, 72, 73, 74, 75, 76, 77, 78, 79, 80, 81, 82, 83, 84, 85, 86, 87, 88, 89, 90, 91, 92, 93, 94, 95, 96, 97, 98, 99, 100, 101, 102, 103, 104, 105, 106, 107, 108, 109, 110, 111, 112, 113, 114, 115, 116, 117, 118, 119, 120, 121, 122, 123, 124, 125, 126, 127, 128, 129, 130, 131, 132, 133, 134, 135, 136, 137, 138, 139, 140, 141, 142, 143, 144, 145, 146, 147, 148, 149, 150, 151, 152, 153, 154, 155, 156, 157, 158, 620, 621, 622, 623, 624, 625, 626, 627, 628, 629, 630, 596, 597, 598, 599, 600, 601, 602, 603, 604, 605, 606, 631, 632, 633, 634, 635, 636, 637, 638, 639, 640, 641, 642, 643, 644] (by decide +kernel) (by decide +kernel)
set_option maxRecDepth 20000 in
theorem gL_law_X3_init : GoodIn wsL_law (wsX3_init) := ggL_law_X3_init
set_option maxRecDepth 20000 in
theorem ggL_law_X4_init : GoodIn wsL_law wsX4_init := goodIn_r _ [161, 162, 10, 11, 21, 163, 164, 165, 166, 167, 29, 168, 169, 170, 171, 172, 607, 608, 609, 610, 611, 612, 613, 614, 615, 616, 617, 618, 619] (by decide +kernel) (by decide +kernel)
set_option maxRecDepth 20000 in
theorem gL_law_X4_init : GoodIn wsL_law (wsX4_init) := ggL_law_X4_init
set_option maxRecDepth 20000 in
theorem ggL_law_X3_told : GoodIn wsL_law wsX3_told := goodIn_r _ [176, 15, 63, 62, 177, 178, 179, 180, 181, 182, 19, 183, 157, 184, 185, 153, 154, 155, 2, 156, 144, 145, 146, 147, 148, 149, 150, 18, 151, 45, 158, 125, 126, 127, 44, 186, 187, 188, 189, 22, 190, 53, 54, 55, 191, 192, 193, 194, 596, 597, 598, 599, 600, 601, 602, 603, 604, 605, 606, 620, 621, 622, 623, 624, 625, 626, 627, 628, 629, 630, 631, 632, 633, 634, 635, 636, 637, 638, 639, 640, 641, 642] (by decide +kernel) (by decide +kernel)
set_option maxRecDepth 20000 in
theorem gL_law_X3_told : GoodIn wsL_law (wsV RL 13 RX3 yX3_told wsX3_told) := goodIn_app (goodIn_of _ (by decide +kernel)) ggL_law_X3_told
set_option maxRecDepth 20000 in
theorem ggL_law_X4_told : GoodIn wsL_law wsX4_told := goodIn_r _ [198, 199, 200, 201, 5, 202, 203, 204, 205, 206, 163, 207, 208, 209, 210, 211, 212, 169, 213, 214, 215, 216, 217, 218, 219, 220, 171, 221, 222, 223, 224, 225, 172, 226, 227, 228, 229, 230, 231, 232, 233, 234, 235, 236, 237, 238, 239, 240, 241, 242, 243, 244, 245, 246, 247, 248, 249, 250, 251, 252, 170, 253, 254, 255, 256, 257, 258, 259, 260, 261, 262, 263, 264, 607, 608, 609, 610, 611, 612, 613, 614, 615, 616, 617, 618, 619] (by decide +kernel) (by decide +kernel)
set_option maxRecDepth 20000 in
theorem gL_law_X4_told : GoodIn wsL_law (wsV RL 17 RX4 yX4_told wsX4_told) := goodIn_app (goodIn_of _ (by decide +kernel)) ggL_law_X4_told
set_option maxRecDepth 20000 in
theorem ggL_law_X3_hour : GoodIn wsL_law wsX3_hour := goodIn_r _ [268, 269, 19, 270, 15, 271, 22, 185, 272, 273, 2, 274, 275, 276, 277, 14, 278, 84, 85, 86, 87, 88, 89, 90, 91, 92, 38, 279, 280, 281, 282, 63, 144, 145, 146, 147, 62, 148, 149, 150, 18, 151, 45, 191, 192, 193, 194, 283, 284, 285, 286, 20, 64, 65, 66, 67, 68, 69, 70, 71, 72, 73, 74, 75, 76, 77, 78, 42, 43, 79, 80, 81, 82, 83, 93, 94, 95, 96, 97, 98, 54, 99, 100, 101, 102, 103, 104, 105, 106, 107, 53, 55, 108, 109, 110, 111, 44, 112, 113, 114, 115, 46, 47, 116, 117, 118, 119, 120, 121, 122, 123, 124, 125, 126, 127, 128, 129, 130, 131, 132, 133, 134, 135, 136, 137, 138, 139, 140, 141, 142, 143, 287, 288, 289, 290, 152, 291, 292, 293, 294, 596, 597, 598, 599, 600, 601, 602, 603, 604, 605, 606, 631, 632, 633, 634, 635, 636, 637, 638, 639, 640, 641, 642, 620, 621, 622, 623, 624, 625, 626, 627, 628, 629, 630] (by decide +kernel) (by decide +kernel)
set_option maxRecDepth 20000 in
theorem gL_law_X3_hour : GoodIn wsL_law (wsV RL 18 RX3 yX3_hour wsX3_hour) := goodIn_app (goodIn_of _ (by decide +kernel)) ggL_law_X3_hour
set_option maxRecDepth 20000 in
theorem ggL_law_X4_hour : GoodIn wsL_law wsX4_hour := goodIn_r _ [298, 299, 199, 163, 170, 300, 301, 5, 302, 200, 201, 202, 227, 228, 229, 230, 231, 232, 233, 234, 235, 236, 237, 238, 239, 240, 241, 303, 304, 305, 306, 307, 308, 309, 310, 169, 221, 213, 214, 215, 216, 217, 218, 219, 220, 171, 222, 223, 224, 225, 172, 226, 242, 243, 244, 245, 253, 254, 255, 256, 209, 210, 211, 212, 261, 262, 263, 264, 311, 312, 313, 314, 315, 316, 317, 318, 607, 608, 609, 610, 611, 612, 613, 614, 615, 616, 617, 618, 619] (by decide +kernel) (by decide +kernel)
set_option maxRecDepth 20000 in
theorem gL_law_X4_hour : GoodIn wsL_law (wsV RL 22 RX4 yX4_hour wsX4_hour) := goodIn_app (goodIn_of _ (by decide +kernel)) ggL_law_X4_hour
set_option maxRecDepth 20000 in
theorem ggL_law_X3_lawAt : GoodIn wsL_law wsX3_lawAt := goodIn_r _ [322, 269, 15, 185, 323, 324, 325, 2, 326, 182, 327, 90, 91, 14, 92, 38, 328, 329, 330, 331, 332, 276, 277, 278, 84, 85, 86, 87, 88, 89, 596, 597, 598, 599, 600, 601, 602, 603, 604, 605, 606, 620, 621, 622, 623, 624, 625, 626, 627, 628, 629, 630] (by decide +kernel) (by decide +kernel)
set_option maxRecDepth 20000 in
theorem gL_law_X3_lawAt : GoodIn wsL_law (wsV RL 23 RX3 yX3_lawAt wsX3_lawAt) := goodIn_app (goodIn_of _ (by decide +kernel)) ggL_law_X3_lawAt
set_option maxRecDepth 20000 in
theorem ggL_law_X4_lawAt : GoodIn wsL_law wsX4_lawAt := goodIn_r _ [336, 299, 199, 163, 337, 338, 339, 5, 340, 200, 201, 202, 303, 304, 305, 306, 231, 232, 233, 234, 607, 608, 609, 610, 611, 612, 613, 614, 615, 616, 617, 618, 619] (by decide +kernel) (by decide +kernel)
set_option maxRecDepth 20000 in
theorem gL_law_X4_lawAt : GoodIn wsL_law (wsV RL 26 RX4 yX4_lawAt wsX4_lawAt) := goodIn_app (goodIn_of _ (by decide +kernel)) ggL_law_X4_lawAt
