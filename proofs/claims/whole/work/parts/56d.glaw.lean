set_option maxRecDepth 20000 in
theorem ggL_law_X6_balance : GoodIn wsL_law wsX6_balance := goodIn_r _ [504, 184, 188, 189, 5, 190, 316, 317, 318, 319, 320, 321, 315, 131, 322, 323, 324, 325, 127, 245, 246, 247, 248, 326, 327, 328, 329, 330, 331, 332, 333, 334, 335, 336, 337, 338, 339, 340, 341, 342, 343, 344, 345, 346, 347, 132, 348, 505, 506, 507, 508, 735, 736, 737, 738, 739, 740, 741, 742, 743, 744, 745, 746, 747, 748, 749, 750, 751, 752, 753] (by decide +kernel) (by decide +kernel)
set_option maxRecDepth 20000 in
theorem gL_law_X6_balance : GoodIn wsL_law (wsV RL 105 RX6 yX6_balance wsX6_balance) := goodIn_app (goodIn_of _ (by decide +kernel)) ggL_law_X6_balance
set_option maxRecDepth 20000 in
theorem ggL_law_X5_tilt : GoodIn wsL_law wsX5_tilt := goodIn_r _ [512, 20, 500, 372, 499, 728, 729, 730, 731, 732, 733, 734, 764, 765, 766, 767, 768, 769, 770, 771, 772] (by decide +kernel) (by decide +kernel)
set_option maxRecDepth 20000 in
theorem gL_law_X5_tilt : GoodIn wsL_law (wsV RL 106 RX5 yX5_tilt wsX5_tilt) := goodIn_app (goodIn_of _ (by decide +kernel)) ggL_law_X5_tilt
set_option maxRecDepth 20000 in
theorem ggL_law_X6_tilt : GoodIn wsL_law wsX6_tilt := goodIn_r _ [516, 184, 315, 332, 330, 316, 317, 318, 5, 319, 320, 321, 131, 322, 323, 324, 325, 127, 245, 246, 247, 248, 326, 327, 328, 329, 331, 333, 334, 335, 336, 337, 338, 339, 340, 341, 342, 343, 344, 345, 346, 347, 132, 348, 735, 736, 737, 738, 739, 740, 741, 742, 743, 744, 745, 746, 747, 748, 749, 750, 751, 752, 753] (by decide +kernel) (by decide +kernel)
set_option maxRecDepth 20000 in
theorem gL_law_X6_tilt : GoodIn wsL_law (wsV RL 110 RX6 yX6_tilt wsX6_tilt) := goodIn_app (goodIn_of _ (by decide +kernel)) ggL_law_X6_tilt
set_option maxRecDepth 20000 in
theorem ggL_law_L_loadWithout : GoodIn wsL_law wsL_loadWithout := goodIn_ca (goodIn_r _ [519, 221, 520, 521, 522, 2, 523, 226, 227, 16, 21, 22, 372, 373, 229, 230, 231, 15, 232, 40, 151, 152, 153, 154, 155, 156, 157, 158, 38, 39, 41, 42, 44, 45, 46, 47, 48, 292, 293, 294, 295, 74, 75, 76, 19, 77, 78, 79, 80, 52, 81, 82, 83, 84, 85, 86, 87, 88, 89, 90, 91, 92, 93, 94, 95, 96, 97, 98, 99, 100, 101, 102, 103, 104, 105, 106, 107, 108, 109, 110, 111, 112, 53, 113, 114, 115, 116, 117, 118, 119, 120, 121, 122, 728, 729, 730, 731, 732, 733, 734, 764, 765, 766, 767, 768, 769, 770, 771, 772, 754, 755, 756, 757, 758, 759, 760, 761, 762, 763] (by decide +kernel) (by decide +kernel)) (goodIn_sub (fun _ h => List.mem_append_right _ h) (by decide +kernel))
set_option maxRecDepth 20000 in
theorem gL_law_L_loadWithout : GoodIn wsL_law (va_wsS RL 111 yL_loadWithout wsL_loadWithout) := goodIn_app (goodIn_of _ (by decide +kernel)) ggL_law_L_loadWithout
set_option maxRecDepth 20000 in
theorem ggL_law_X6_loadWithout : GoodIn wsL_law wsX6_loadWithout := goodIn_r _ [527, 184, 315, 131, 237, 238, 239, 5, 240, 127, 188, 189, 190, 245, 246, 247, 248, 210, 211, 212, 213, 316, 317, 318, 319, 320, 321, 322, 323, 324, 325, 326, 327, 328, 329, 330, 331, 332, 333, 334, 335, 336, 337, 338, 339, 340, 341, 342, 343, 344, 345, 346, 347, 132, 348, 735, 736, 737, 738, 739, 740, 741, 742, 743, 744, 745, 746, 747, 748, 749, 750, 751, 752, 753] (by decide +kernel) (by decide +kernel)
set_option maxRecDepth 20000 in
theorem gL_law_X6_loadWithout : GoodIn wsL_law (wsV RL 113 RX6 yX6_loadWithout wsX6_loadWithout) := goodIn_app (goodIn_of _ (by decide +kernel)) ggL_law_X6_loadWithout
set_option maxRecDepth 20000 in
theorem ggL_law_X5_pullable : GoodIn wsL_law wsX5_pullable := goodIn_r _ [531, 286, 287, 288, 2, 289, 16, 290, 21, 22, 291, 99, 100, 151, 152, 153, 154, 155, 156, 157, 15, 158, 38, 39, 40, 41, 42, 44, 45, 46, 47, 48, 292, 293, 294, 295, 74, 75, 76, 19, 77, 78, 79, 80, 52, 81, 82, 83, 84, 85, 86, 87, 88, 89, 90, 91, 92, 93, 94, 95, 96, 97, 98, 101, 102, 103, 104, 105, 106, 107, 108, 109, 110, 111, 112, 53, 113, 114, 115, 116, 117, 118, 119, 120, 121, 122, 296, 297, 298, 299, 728, 729, 730, 731, 732, 733, 734, 754, 755, 756, 757, 758, 759, 760, 761, 762, 763, 764, 765, 766, 767, 768, 769, 770, 771, 772] (by decide +kernel) (by decide +kernel)
set_option maxRecDepth 20000 in
theorem gL_law_X5_pullable : GoodIn wsL_law (wsV RL 114 RX5 yX5_pullable wsX5_pullable) := goodIn_app (goodIn_of _ (by decide +kernel)) ggL_law_X5_pullable
set_option maxRecDepth 20000 in
theorem ggL_law_X6_pullable : GoodIn wsL_law wsX6_pullable := goodIn_r _ [535, 184, 127, 311, 312, 313, 5, 314, 315, 245, 246, 247, 248, 210, 211, 212, 213, 316, 317, 318, 319, 320, 321, 131, 322, 323, 324, 325, 326, 327, 328, 329, 330, 331, 332, 333, 334, 335, 336, 337, 338, 339, 340, 341, 342, 343, 344, 345, 346, 347, 132, 348, 349, 350, 351, 352, 353, 354, 355, 356, 735, 736, 737, 738, 739, 740, 741, 742, 743, 744, 745, 746, 747, 748, 749, 750, 751, 752, 753] (by decide +kernel) (by decide +kernel)
set_option maxRecDepth 20000 in
theorem gL_law_X6_pullable : GoodIn wsL_law (wsV RL 117 RX6 yX6_pullable wsX6_pullable) := goodIn_app (goodIn_of _ (by decide +kernel)) ggL_law_X6_pullable
set_option maxRecDepth 20000 in
theorem ggL_law_X5_cascadeSteps : GoodIn wsL_law wsX5_cascadeSteps := goodIn_r _ [539, 386, 387, 388, 2, 389, 22, 21, 390, 151, 152, 153, 154, 16, 155, 156, 157, 15, 158, 38, 39, 40, 41, 42, 44, 45, 46, 47, 48, 74, 75, 76, 19, 77, 78, 79, 80, 52, 81, 82, 83, 84, 85, 86, 87, 88, 89, 90, 91, 92, 93, 94, 95, 96, 97, 98, 99, 100, 101, 102, 103, 104, 105, 106, 107, 108, 109, 110, 111, 112, 53, 113, 114, 115, 116, 117, 118, 119, 120, 121, 122, 391, 392, 393, 394, 728, 729, 730, 731, 732, 733, 734, 764, 765, 766, 767, 768, 769, 770, 771, 772, 754, 755, 756, 757, 758, 759, 760, 761, 762, 763] (by decide +kernel) (by decide +kernel)
set_option maxRecDepth 20000 in
theorem gL_law_X5_cascadeSteps : GoodIn wsL_law (wsV RL 118 RX5 yX5_cascadeSteps wsX5_cascadeSteps) := goodIn_app (goodIn_of _ (by decide +kernel)) ggL_law_X5_cascadeSteps
