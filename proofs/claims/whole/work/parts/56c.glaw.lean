set_option maxRecDepth 20000 in
theorem ggL_law_X6_cascade : GoodIn wsL_law wsX6_cascade := goodIn_r _ [405, 184, 406, 198, 199, 200, 5, 201, 202, 129, 127, 203, 204, 205, 407, 408, 409, 410, 316, 317, 318, 319, 320, 321, 315, 131, 322, 323, 324, 325, 245, 246, 247, 248, 326, 327, 328, 329, 330, 331, 332, 333, 334, 335, 336, 337, 338, 339, 340, 341, 342, 343, 344, 345, 346, 347, 132, 348, 349, 350, 351, 352, 353, 354, 355, 356, 210, 211, 212, 213, 411, 412, 413, 735, 736, 737, 738, 739, 740, 741, 742, 743, 744, 745, 746, 747, 748, 749, 750, 751, 752, 753] (by decide +kernel) (by decide +kernel)
set_option maxRecDepth 20000 in
theorem gL_law_X6_cascade : GoodIn wsL_law (wsV RL 92 RX6 yX6_cascade wsX6_cascade) := goodIn_app (goodIn_of _ (by decide +kernel)) ggL_law_X6_cascade
set_option maxRecDepth 20000 in
theorem ggL_law_X5_shave : GoodIn wsL_law wsX5_shave := goodIn_r _ [417, 418, 419, 420, 2, 421, 22, 21, 151, 152, 153, 154, 16, 155, 156, 157, 15, 158, 38, 39, 40, 41, 42, 44, 45, 46, 47, 48, 74, 75, 76, 19, 77, 78, 79, 80, 52, 81, 82, 83, 84, 85, 86, 87, 88, 89, 90, 91, 92, 93, 94, 95, 96, 97, 98, 99, 100, 101, 102, 103, 104, 105, 106, 107, 108, 109, 110, 111, 112, 53, 113, 114, 115, 116, 117, 118, 119, 120, 121, 122, 422, 423, 424, 425, 426, 427, 428, 429, 430, 230, 231, 232, 163, 164, 165, 166, 26, 20, 167, 168, 169, 25, 170, 58, 60, 59, 14, 57, 171, 172, 173, 174, 175, 176, 177, 178, 35, 36, 37, 11, 12, 43, 179, 728, 729, 730, 731, 732, 733, 734, 754, 755, 756, 757, 758, 759, 760, 761, 762, 763, 764, 765, 766, 767, 768, 769, 770, 771, 772, 773, 774, 775] (by decide +kernel) (by decide +kernel)
set_option maxRecDepth 20000 in
theorem gL_law_X5_shave : GoodIn wsL_law (wsV RL 93 RX5 yX5_shave wsX5_shave) := goodIn_app (goodIn_of _ (by decide +kernel)) ggL_law_X5_shave
set_option maxRecDepth 20000 in
theorem ggL_law_X6_shave : GoodIn wsL_law wsX6_shave := goodIn_r _ [434, 184, 198, 199, 200, 5, 201, 202, 129, 127, 203, 204, 205, 435, 436, 437, 438, 316, 317, 318, 319, 320, 321, 315, 131, 322, 323, 324, 325, 245, 246, 247, 248, 326, 327, 328, 329, 330, 331, 332, 333, 334, 335, 336, 337, 338, 339, 340, 341, 342, 343, 344, 345, 346, 347, 132, 348, 439, 440, 441, 442, 353, 354, 355, 356, 210, 211, 212, 213, 735, 736, 737, 738, 739, 740, 741, 742, 743, 744, 745, 746, 747, 748, 749, 750, 751, 752, 753] (by decide +kernel) (by decide +kernel)
set_option maxRecDepth 20000 in
theorem gL_law_X6_shave : GoodIn wsL_law (wsV RL 96 RX6 yX6_shave wsX6_shave) := goodIn_app (goodIn_of _ (by decide +kernel)) ggL_law_X6_shave
set_option maxRecDepth 20000 in
theorem ggL_law_L_block : GoodIn wsL_law wsL_block := goodIn_ca (goodIn_ca (goodIn_r _ [445, 221, 137, 446, 447, 448, 2, 449, 226, 227, 143, 144, 16, 450, 451, 228, 256, 20, 373, 452, 390, 453, 229, 230, 231, 15, 232, 40, 454, 455, 456, 457, 41, 42, 99, 100, 291, 728, 729, 730, 731, 732, 733, 734, 754, 755, 756, 757, 758, 759, 760, 761, 762, 763, 764, 765, 766, 767, 768, 769, 770, 771, 772] (by decide +kernel) (by decide +kernel)) (goodIn_sub (fun _ h => List.mem_append_right _ h) (by decide +kernel))) (goodIn_sub (fun _ h => List.mem_append_left _ (List.mem_append_left _ (List.mem_append_right _ h))) (by decide +kernel))
set_option maxRecDepth 20000 in
theorem gL_law_L_block : GoodIn wsL_law (va_wsS RL 97 yL_block wsL_block) := goodIn_app (goodIn_of _ (by decide +kernel)) ggL_law_L_block
set_option maxRecDepth 20000 in
theorem ggL_law_X6_block : GoodIn wsL_law wsX6_block := goodIn_r _ [461, 184, 237, 238, 239, 5, 240, 127, 188, 189, 190, 316, 317, 318, 319, 320, 321, 315, 131, 322, 323, 324, 325, 245, 246, 247, 248, 326, 327, 328, 329, 330, 331, 332, 333, 334, 335, 336, 337, 338, 339, 340, 341, 342, 343, 344, 345, 346, 347, 132, 348, 462, 463, 464, 465, 466, 467, 468, 469, 353, 354, 355, 356, 735, 736, 737, 738, 739, 740, 741, 742, 743, 744, 745, 746, 747, 748, 749, 750, 751, 752, 753] (by decide +kernel) (by decide +kernel)
set_option maxRecDepth 20000 in
theorem gL_law_X6_block : GoodIn wsL_law (wsV RL 99 RX6 yX6_block wsX6_block) := goodIn_app (goodIn_of _ (by decide +kernel)) ggL_law_X6_block
set_option maxRecDepth 20000 in
theorem ggL_law_L_value : GoodIn wsL_law wsL_value := goodIn_ca (goodIn_r _ [472, 137, 473, 474, 475, 2, 476, 143, 144, 16, 269, 270, 477, 290, 20, 452, 390, 372, 478, 395, 396, 397, 398, 399, 400, 401, 300, 301, 302, 19, 303, 52, 304, 305, 173, 306, 479, 480, 481, 482, 78, 728, 729, 730, 731, 732, 733, 734, 754, 755, 756, 757, 758, 759, 760, 761, 762, 763, 764, 765, 766, 767, 768, 769, 770, 771, 772] (by decide +kernel) (by decide +kernel)) (goodIn_sub (fun _ h => List.mem_append_left _ (List.mem_append_left _ (List.mem_append_right _ h))) (by decide +kernel))
set_option maxRecDepth 20000 in
theorem gL_law_L_value : GoodIn wsL_law (va_wsS RL 100 yL_value wsL_value) := goodIn_app (goodIn_of _ (by decide +kernel)) ggL_law_L_value
set_option maxRecDepth 20000 in
theorem ggL_law_X6_value : GoodIn wsL_law wsX6_value := goodIn_r _ [486, 184, 188, 189, 5, 190, 316, 317, 318, 319, 320, 321, 315, 131, 322, 323, 324, 325, 127, 245, 246, 247, 248, 326, 327, 328, 329, 330, 331, 332, 333, 334, 335, 336, 337, 338, 339, 340, 341, 342, 343, 344, 345, 346, 347, 132, 348, 487, 488, 489, 490, 411, 412, 413, 349, 350, 351, 352, 353, 354, 355, 356, 357, 358, 359, 360, 361, 362, 363, 364, 735, 736, 737, 738, 739, 740, 741, 742, 743, 744, 745, 746, 747, 748, 749, 750, 751, 752, 753] (by decide +kernel) (by decide +kernel)
set_option maxRecDepth 20000 in
theorem gL_law_X6_value : GoodIn wsL_law (wsV RL 102 RX6 yX6_value wsX6_value) := goodIn_app (goodIn_of _ (by decide +kernel)) ggL_law_X6_value
set_option maxRecDepth 20000 in
theorem ggL_law_L_balance : GoodIn wsL_law wsL_balance := goodIn_ca (goodIn_r _ [493, 137, 494, 495, 496, 2, 497, 143, 144, 20, 372, 498, 499, 500, 148, 149, 150, 728, 729, 730, 731, 732, 733, 734, 764, 765, 766, 767, 768, 769, 770, 771, 772] (by decide +kernel) (by decide +kernel)) (goodIn_sub (fun _ h => List.mem_append_left _ (List.mem_append_left _ (List.mem_append_right _ h))) (by decide +kernel))
set_option maxRecDepth 20000 in
theorem gL_law_L_balance : GoodIn wsL_law (va_wsS RL 103 yL_balance wsL_balance) := goodIn_app (goodIn_of _ (by decide +kernel)) ggL_law_L_balance
