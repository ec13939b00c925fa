set_option maxRecDepth 20000 in
theorem ggL_law_X6_bestCenter : GoodIn wsL_law wsX6_bestCenter := goodIn_r _ [579, 184, 127, 315, 316, 317, 318, 5, 319, 320, 321, 131, 322, 323, 324, 325, 245, 246, 247, 248, 326, 327, 328, 329, 330, 331, 332, 333, 334, 335, 336, 337, 338, 339, 340, 341, 342, 343, 344, 345, 346, 347, 132, 348, 357, 358, 359, 360, 361, 362, 363, 364, 735, 736, 737, 738, 739, 740, 741, 742, 743, 744, 745, 746, 747, 748, 749, 750, 751, 752, 753] (by decide +kernel) (by decide +kernel)
set_option maxRecDepth 20000 in
theorem gL_law_X6_bestCenter : GoodIn wsL_law (wsV RL 138 RX6 yX6_bestCenter wsX6_bestCenter) := goodIn_app (goodIn_of _ (by decide +kernel)) ggL_law_X6_bestCenter
set_option maxRecDepth 20000 in
theorem ggL_law_L_bestPlace : GoodIn wsL_law wsL_bestPlace := goodIn_ca (goodIn_r _ [582, 137, 583, 584, 585, 2, 586, 143, 144, 16, 21, 147, 22, 372, 148, 149, 150, 587, 588, 589, 15, 590, 40, 151, 152, 153, 154, 155, 156, 157, 158, 38, 39, 41, 42, 44, 45, 46, 47, 48, 159, 160, 161, 162, 74, 75, 76, 19, 77, 78, 79, 80, 52, 81, 82, 83, 84, 85, 86, 87, 88, 89, 90, 91, 92, 93, 94, 95, 96, 97, 98, 99, 100, 101, 102, 103, 104, 105, 106, 107, 108, 109, 110, 111, 112, 53, 113, 114, 115, 116, 117, 118, 119, 120, 121, 122, 300, 301, 302, 303, 304, 305, 173, 306, 728, 729, 730, 731, 732, 733, 734, 764, 765, 766, 767, 768, 769, 770, 771, 772, 754, 755, 756, 757, 758, 759, 760, 761, 762, 763] (by decide +kernel) (by decide +kernel)) (goodIn_sub (fun _ h => List.mem_append_left _ (List.mem_append_left _ (List.mem_append_right _ h))) (by decide +kernel))
set_option maxRecDepth 20000 in
theorem gL_law_L_bestPlace : GoodIn wsL_law (va_wsS RL 139 yL_bestPlace wsL_bestPlace) := goodIn_app (goodIn_of _ (by decide +kernel)) ggL_law_L_bestPlace
set_option maxRecDepth 20000 in
theorem ggL_law_X6_bestPlace : GoodIn wsL_law wsX6_bestPlace := goodIn_r _ [594, 184, 127, 197, 315, 188, 189, 5, 190, 206, 207, 208, 209, 210, 211, 212, 213, 316, 317, 318, 319, 320, 321, 131, 322, 323, 324, 325, 245, 246, 247, 248, 326, 327, 328, 329, 330, 331, 332, 333, 334, 335, 336, 337, 338, 339, 340, 341, 342, 343, 344, 345, 346, 347, 132, 348, 357, 358, 359, 360, 361, 362, 363, 364, 735, 736, 737, 738, 739, 740, 741, 742, 743, 744, 745, 746, 747, 748, 749, 750, 751, 752, 753] (by decide +kernel) (by decide +kernel)
set_option maxRecDepth 20000 in
theorem gL_law_X6_bestPlace : GoodIn wsL_law (wsV RL 141 RX6 yX6_bestPlace wsX6_bestPlace) := goodIn_app (goodIn_of _ (by decide +kernel)) ggL_law_X6_bestPlace
set_option maxRecDepth 20000 in
theorem ggL_law_L_append : GoodIn wsL_law wsL_append := goodIn_ca (goodIn_ca (goodIn_r _ [597, 137, 138, 598, 599, 600, 2, 601, 143, 144, 145, 146, 30, 602, 148, 149, 150, 603, 604, 605, 29, 606, 64, 66, 728, 729, 730, 731, 732, 733, 734, 776, 777] (by decide +kernel) (by decide +kernel)) (goodIn_sub (fun _ h => List.mem_append_left _ (List.mem_append_left _ (List.mem_append_right _ h))) (by decide +kernel))) (goodIn_sub (fun _ h => List.mem_append_left _ (List.mem_append_right _ h)) (by decide +kernel))
set_option maxRecDepth 20000 in
theorem gL_law_L_append : GoodIn wsL_law (va_wsS RL 142 yL_append wsL_append) := goodIn_app (goodIn_of _ (by decide +kernel)) ggL_law_L_append
set_option maxRecDepth 20000 in
theorem ggL_law_X6_append : GoodIn wsL_law wsX6_append := goodIn_r _ [610, 611, 184, 130, 188, 189, 5, 190, 735, 736, 737, 738, 739, 740, 741, 742, 743, 744, 745, 746, 747, 748, 749, 750, 751, 752, 753] (by decide +kernel) (by decide +kernel)
set_option maxRecDepth 20000 in
theorem gL_law_X6_append : GoodIn wsL_law (wsV RL 144 RX6 yX6_append wsX6_append) := goodIn_app (goodIn_of _ (by decide +kernel)) ggL_law_X6_append
set_option maxRecDepth 20000 in
theorem ggL_law_X5_clearText : GoodIn wsL_law wsX5_clearText := goodIn_r _ [615, 30, 602, 728, 729, 730, 731, 732, 733, 734, 776, 777] (by decide +kernel) (by decide +kernel)
set_option maxRecDepth 20000 in
theorem gL_law_X5_clearText : GoodIn wsL_law (wsV RL 145 RX5 yX5_clearText wsX5_clearText) := goodIn_app (goodIn_of _ (by decide +kernel)) ggL_law_X5_clearText
set_option maxRecDepth 20000 in
theorem ggL_law_X6_clearText : GoodIn wsL_law wsX6_clearText := goodIn_r _ [619, 184, 611, 735, 736, 737, 738, 739, 740, 741, 742, 743, 744, 745, 746, 747, 748, 749, 750, 751, 752, 753] (by decide +kernel) (by decide +kernel)
set_option maxRecDepth 20000 in
theorem gL_law_X6_clearText : GoodIn wsL_law (wsV RL 148 RX6 yX6_clearText wsX6_clearText) := goodIn_app (goodIn_of _ (by decide +kernel)) ggL_law_X6_clearText
set_option maxRecDepth 20000 in
theorem ggL_law_X5_parse : GoodIn wsL_law wsX5_parse := goodIn_r _ [623, 21, 34, 16, 477, 151, 152, 153, 2, 154, 155, 156, 157, 15, 158, 38, 39, 40, 41, 42, 44, 45, 46, 47, 48, 624, 625, 626, 627, 628, 629, 630, 33, 631, 71, 72, 73, 632, 633, 634, 635, 636, 637, 638, 639, 29, 640, 64, 66, 641, 588, 589, 590, 642, 643, 644, 645, 646, 647, 648, 649, 650, 651, 652, 653, 149, 150, 654, 160, 161, 162, 655, 656, 657, 658, 659, 660, 661, 163, 164, 165, 166, 26, 20, 167, 168, 169, 25, 170, 58, 60, 59, 14, 57, 171, 172, 173, 174, 175, 176, 177, 178, 35, 36, 37, 11, 12, 43, 179, 74, 75, 76, 19, 77, 78, 79, 80, 52, 81, 82, 83, 84, 85, 86, 87, 88, 89, 90, 91, 92, 93, 94, 95, 96, 97, 98, 99, 100, 101, 102, 103, 104, 105, 106, 107, 108, 109, 110, 111, 112, 53, 113, 114, 115, 116, 117, 118, 119, 120, 121, 122, 728, 729, 730, 731, 732, 733, 734, 754, 755, 756, 757, 758, 759, 760, 761, 762, 763, 778, 779, 780, 776, 777, 773, 774, 775, 764, 765, 766, 767, 768, 769, 770, 771, 772] (by decide +kernel) (by decide +kernel)
set_option maxRecDepth 20000 in
theorem gL_law_X5_parse : GoodIn wsL_law (wsV RL 149 RX5 yX5_parse wsX5_parse) := goodIn_app (goodIn_of _ (by decide +kernel)) ggL_law_X5_parse
