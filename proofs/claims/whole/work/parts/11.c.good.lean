set_option maxRecDepth 20000 in
theorem gL_law_X5_areaByCells : GoodIn wsL_law (wsV RL 120 RX5 yX5_areaByCells wsX5_areaByCells) := goodIn_app (goodIn_of _ (by decide +kernel)) ggL_law_X5_areaByCells
set_option maxRecDepth 20000 in
theorem ggL_law_L_truth : GoodIn wsL_law wsL_truth := goodIn_ca (goodIn_ca (goodIn_r _ [255, 94, 95, 256, 257, 258, 2, 259, 103, 104, 260, 21, 261, 262, 263, 101, 102, 264, 265, 266, 20, 267, 41, 268, 269, 270, 271, 651, 652, 653, 654, 669] (by decide +kernel) (by decide +kernel)) (goodIn_sub (fun _ h => List.mem_append_left _ (List.mem_append_right _ h)) (by decide +kernel))) (goodIn_sub (fun _ h => List.mem_append_left _ (List.mem_append_left _ (List.mem_append_right _ h))) (by decide +kernel))
set_option maxRecDepth 20000 in
theorem gL_law_L_truth : GoodIn wsL_law (va_wsS RL 121 yL_truth wsL_truth) := goodIn_app (goodIn_of _ (by decide +kernel)) ggL_law_L_truth
set_option maxRecDepth 20000 in
theorem ggL_law_X5_truth : GoodIn wsL_law wsX5_truth := goodIn_r _ [275, 276, 77, 277, 278, 5, 279, 212, 213, 214, 215, 126, 655, 656, 657, 658, 659, 660, 661, 662, 663, 664, 665, 666] (by decide +kernel) (by decide +kernel)
set_option maxRecDepth 20000 in
theorem gL_law_X5_truth : GoodIn wsL_law (wsV RL 123 RX5 yX5_truth wsX5_truth) := goodIn_app (goodIn_of _ (by decide +kernel)) ggL_law_X5_truth
set_option maxRecDepth 20000 in
theorem ggL_law_X4_keepsAreas : GoodIn wsL_law wsX4_keepsAreas := goodIn_r _ [283, 21, 17, 284, 285, 286, 20, 287, 288, 289, 290, 291, 292, 293, 294, 16, 295, 35, 36, 296, 111, 112, 113, 268, 269, 270, 271, 41, 297, 298, 299, 300, 651, 652, 653, 654, 667, 668, 669] (by decide +kernel) (by decide +kernel)
set_option maxRecDepth 20000 in
theorem gL_law_X4_keepsAreas : GoodIn wsL_law (wsV RL 124 RX4 yX4_keepsAreas wsX4_keepsAreas) := goodIn_app (goodIn_of _ (by decide +kernel)) ggL_law_X4_keepsAreas
set_option maxRecDepth 20000 in
theorem ggL_law_X5_keepsAreas : GoodIn wsL_law wsX5_keepsAreas := goodIn_r _ [304, 126, 77, 305, 306, 307, 5, 308, 236, 237, 238, 239, 169, 170, 171, 172, 75, 188, 189, 190, 191, 76, 655, 656, 657, 658, 659, 660, 661, 662, 663, 664, 665, 666] (by decide +kernel) (by decide +kernel)
set_option maxRecDepth 20000 in
theorem gL_law_X5_keepsAreas : GoodIn wsL_law (wsV RL 128 RX5 yX5_keepsAreas wsX5_keepsAreas) := goodIn_app (goodIn_of _ (by decide +kernel)) ggL_law_X5_keepsAreas
set_option maxRecDepth 20000 in
theorem ggL_law_X4_widest : GoodIn wsL_law wsX4_widest := goodIn_r _ [312, 21, 17, 313, 314, 315, 20, 316, 288, 289, 290, 291, 292, 293, 294, 16, 295, 35, 36, 296, 111, 112, 113, 268, 269, 270, 271, 41, 297, 298, 299, 300, 651, 652, 653, 654, 667, 668, 669] (by decide +kernel) (by decide +kernel)
set_option maxRecDepth 20000 in
theorem gL_law_X4_widest : GoodIn wsL_law (wsV RL 129 RX4 yX4_widest wsX4_widest) := goodIn_app (goodIn_of _ (by decide +kernel)) ggL_law_X4_widest
set_option maxRecDepth 20000 in
theorem ggL_law_X5_widest : GoodIn wsL_law wsX5_widest := goodIn_r _ [320, 126, 77, 305, 306, 307, 5, 308, 236, 237, 238, 239, 169, 170, 171, 172, 75, 188, 189, 190, 191, 76, 655, 656, 657, 658, 659, 660, 661, 662, 663, 664, 665, 666] (by decide +kernel) (by decide +kernel)
set_option maxRecDepth 20000 in
theorem gL_law_X5_widest : GoodIn wsL_law (wsV RL 132 RX5 yX5_widest wsX5_widest) := goodIn_app (goodIn_of _ (by decide +kernel)) ggL_law_X5_widest
set_option maxRecDepth 20000 in
theorem ggL_law_L_stretch : GoodIn wsL_law wsL_stretch := goodIn_ca (goodIn_r _ [323, 94, 324, 325, 326, 2, 327, 21, 17, 261, 262, 263, 101, 102, 328, 329, 330, 20, 331, 292, 293, 294, 16, 295, 35, 36, 296, 111, 112, 113, 268, 269, 270, 271, 41, 651, 652, 653, 654, 667, 668, 669] (by decide +kernel) (by decide +kernel)) (goodIn_sub (fun _ h => List.mem_append_left _ (List.mem_append_left _ (List.mem_append_right _ h))) (by decide +kernel))
set_option maxRecDepth 20000 in
theorem gL_law_L_stretch : GoodIn wsL_law (va_wsS RL 133 yL_stretch wsL_stretch) := goodIn_app (goodIn_of _ (by decide +kernel)) ggL_law_L_stretch
set_option maxRecDepth 20000 in
theorem ggL_law_X5_stretch : GoodIn wsL_law wsX5_stretch := goodIn_r _ [335, 77, 277, 278, 5, 279, 165, 166, 167, 168, 126, 305, 306, 307, 308, 236, 237, 238, 239, 169, 170, 171, 172, 75, 188, 189, 190, 191, 76, 655, 656, 657, 658, 659, 660, 661, 662, 663, 664, 665, 666] (by decide +kernel) (by decide +kernel)
set_option maxRecDepth 20000 in
theorem gL_law_X5_stretch : GoodIn wsL_law (wsV RL 136 RX5 yX5_stretch wsX5_stretch) := goodIn_app (goodIn_of _ (by decide +kernel)) ggL_law_X5_stretch
set_option maxRecDepth 20000 in
theorem ggL_law_L_apart : GoodIn wsL_law wsL_apart := goodIn_ca (goodIn_r _ [338, 95, 339, 340, 341, 2, 342, 141, 142, 143, 103, 104, 343, 344, 345, 346, 347, 150, 348, 349, 350, 351] (by decide +kernel) (by decide +kernel)) (goodIn_sub (fun _ h => List.mem_append_left _ (List.mem_append_right _ h)) (by decide +kernel))
set_option maxRecDepth 20000 in
theorem gL_law_L_apart : GoodIn wsL_law (va_wsS RL 137 yL_apart wsL_apart) := goodIn_app (goodIn_of _ (by decide +kernel)) ggL_law_L_apart
set_option maxRecDepth 20000 in
theorem ggL_law_X5_apart : GoodIn wsL_law wsX5_apart := goodIn_r _ [355, 162, 163, 5, 164, 165, 166, 167, 168, 126, 356, 357, 358, 359, 360, 361, 655, 656, 657, 658, 659, 660, 661, 662, 663, 664, 665, 666] (by decide +kernel) (by decide +kernel)
set_option maxRecDepth 20000 in
theorem gL_law_X5_apart : GoodIn wsL_law (wsV RL 139 RX5 yX5_apart wsX5_apart) := goodIn_app (goodIn_of _ (by decide +kernel)) ggL_law_X5_apart
set_option maxRecDepth 20000 in
theorem ggL_law_L_ringWay : GoodIn wsL_law wsL_ringWay := goodIn_ca (goodIn_r _ [364, 95, 365, 366, 367, 2, 368, 17, 138, 139, 140, 103, 104, 141, 142, 143, 343, 344, 345, 346, 347, 150, 348, 349, 350, 351, 144, 145, 146, 16, 147, 35, 148, 149, 151, 152, 153, 154, 111, 112, 113, 651, 652, 653, 654, 667, 668] (by decide +kernel) (by decide +kernel)) (goodIn_sub (fun _ h => List.mem_append_left _ (List.mem_append_right _ h)) (by decide +kernel))
set_option maxRecDepth 20000 in
theorem gL_law_L_ringWay : GoodIn wsL_law (va_wsS RL 140 yL_ringWay wsL_ringWay) := goodIn_app (goodIn_of _ (by decide +kernel)) ggL_law_L_ringWay
set_option maxRecDepth 20000 in
theorem ggL_law_X5_ringWay : GoodIn wsL_law wsX5_ringWay := goodIn_r _ [372, 159, 160, 5, 161, 162, 163, 164, 165, 166, 167, 168, 126, 356, 357, 358, 359, 360, 361, 169, 170, 171, 172, 75, 655, 656, 657, 658, 659, 660, 661, 662, 663, 664, 665, 666] (by decide +kernel) (by decide +kernel)
set_option maxRecDepth 20000 in
theorem gL_law_X5_ringWay : GoodIn wsL_law (wsV RL 143 RX5 yX5_ringWay wsX5_ringWay) := goodIn_app (goodIn_of _ (by decide +kernel)) ggL_law_X5_ringWay
set_option maxRecDepth 20000 in
theorem ggL_law_L_zones : GoodIn wsL_law wsL_zones := goodIn_ca (goodIn_r _ [375, 95, 376, 377, 378, 2, 379, 103, 104, 25, 380, 381, 382, 24, 383, 46, 651, 652, 653, 654, 670] (by decide +kernel) (by decide +kernel)) (goodIn_sub (fun _ h => List.mem_append_left _ (List.mem_append_right _ h)) (by decide +kernel))
set_option maxRecDepth 20000 in
theorem gL_law_L_zones : GoodIn wsL_law (va_wsS RL 144 yL_zones wsL_zones) := goodIn_app (goodIn_of _ (by decide +kernel)) ggL_law_L_zones
set_option maxRecDepth 20000 in
theorem ggL_law_X5_zones : GoodIn wsL_law wsX5_zones := goodIn_r _ [387, 78, 165, 166, 167, 5, 168, 126, 655, 656, 657, 658, 659, 660, 661, 662, 663, 664, 665, 666] (by decide +kernel) (by decide +kernel)
set_option maxRecDepth 20000 in
theorem gL_law_X5_zones : GoodIn wsL_law (wsV RL 146 RX5 yX5_zones wsX5_zones) := goodIn_app (goodIn_of _ (by decide +kernel)) ggL_law_X5_zones
