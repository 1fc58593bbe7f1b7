set_option maxRecDepth 20000 in
theorem ggL_law_L_zone : GoodIn wsL_law wsL_zone := goodIn_ca (goodIn_r _ [390, 95, 391, 392, 393, 2, 394, 25, 141, 142, 143, 103, 104, 395, 396, 397, 24, 398, 46, 651, 652, 653, 654, 670] (by decide +kernel) (by decide +kernel)) (goodIn_sub (fun _ h => List.mem_append_left _ (List.mem_append_right _ h)) (by decide +kernel))
set_option maxRecDepth 20000 in
theorem gL_law_L_zone : GoodIn wsL_law (va_wsS RL 147 yL_zone wsL_zone) := goodIn_app (goodIn_of _ (by decide +kernel)) ggL_law_L_zone
set_option maxRecDepth 20000 in
theorem ggL_law_X5_zone : GoodIn wsL_law wsX5_zone := goodIn_r _ [402, 162, 163, 5, 164, 165, 166, 167, 168, 126, 403, 404, 405, 406, 78, 655, 656, 657, 658, 659, 660, 661, 662, 663, 664, 665, 666] (by decide +kernel) (by decide +kernel)
set_option maxRecDepth 20000 in
theorem gL_law_X5_zone : GoodIn wsL_law (wsV RL 149 RX5 yX5_zone wsX5_zone) := goodIn_app (goodIn_of _ (by decide +kernel)) ggL_law_X5_zone
set_option maxRecDepth 20000 in
theorem ggL_law_L_seams : GoodIn wsL_law wsL_seams := goodIn_ca (goodIn_r _ [409, 95, 410, 411, 412, 2, 413, 25, 141, 142, 143, 103, 104, 414, 415, 416, 349, 350, 351, 343, 344, 345, 346, 347, 150, 348, 417, 418, 419, 24, 420, 421, 396, 397, 398, 46, 651, 652, 653, 654, 670] (by decide +kernel) (by decide +kernel)) (goodIn_sub (fun _ h => List.mem_append_left _ (List.mem_append_right _ h)) (by decide +kernel))
set_option maxRecDepth 20000 in
theorem gL_law_L_seams : GoodIn wsL_law (va_wsS RL 150 yL_seams wsL_seams) := goodIn_app (goodIn_of _ (by decide +kernel)) ggL_law_L_seams
set_option maxRecDepth 20000 in
theorem ggL_law_X5_seams : GoodIn wsL_law wsX5_seams := goodIn_r _ [425, 162, 163, 5, 164, 165, 166, 167, 168, 126, 426, 427, 428, 429, 359, 360, 361, 403, 404, 405, 406, 78, 655, 656, 657, 658, 659, 660, 661, 662, 663, 664, 665, 666] (by decide +kernel) (by decide +kernel)
set_option maxRecDepth 20000 in
theorem gL_law_X5_seams : GoodIn wsL_law (wsV RL 152 RX5 yX5_seams wsX5_seams) := goodIn_app (goodIn_of _ (by decide +kernel)) ggL_law_X5_seams
set_option maxRecDepth 20000 in
theorem ggL_law_L_dateLine : GoodIn wsL_law wsL_dateLine := goodIn_ca (goodIn_r _ [432, 95, 433, 434, 435, 2, 436, 141, 142, 143, 103, 104, 414, 415, 416, 349, 350, 351] (by decide +kernel) (by decide +kernel)) (goodIn_sub (fun _ h => List.mem_append_left _ (List.mem_append_right _ h)) (by decide +kernel))
set_option maxRecDepth 20000 in
theorem gL_law_L_dateLine : GoodIn wsL_law (va_wsS RL 153 yL_dateLine wsL_dateLine) := goodIn_app (goodIn_of _ (by decide +kernel)) ggL_law_L_dateLine
set_option maxRecDepth 20000 in
theorem ggL_law_X5_dateLine : GoodIn wsL_law wsX5_dateLine := goodIn_r _ [440, 162, 163, 5, 164, 165, 166, 167, 168, 126, 426, 427, 428, 429, 359, 360, 361, 403, 404, 405, 406, 78, 655, 656, 657, 658, 659, 660, 661, 662, 663, 664, 665, 666] (by decide +kernel) (by decide +kernel)
set_option maxRecDepth 20000 in
theorem gL_law_X5_dateLine : GoodIn wsL_law (wsV RL 155 RX5 yX5_dateLine wsX5_dateLine) := goodIn_app (goodIn_of _ (by decide +kernel)) ggL_law_X5_dateLine
set_option maxRecDepth 20000 in
theorem ggL_law_L_sheet : GoodIn wsL_law wsL_sheet := goodIn_ca (goodIn_r _ [443, 95, 444, 445, 446, 2, 447, 103, 104, 29, 448, 57, 58, 28, 59, 60, 61, 62, 63, 64, 65, 51, 52, 53, 55, 66, 67, 68, 69, 70, 651, 652, 653, 654, 671, 672, 673, 674, 675, 676, 677] (by decide +kernel) (by decide +kernel)) (goodIn_sub (fun _ h => List.mem_append_left _ (List.mem_append_right _ h)) (by decide +kernel))
set_option maxRecDepth 20000 in
theorem gL_law_L_sheet : GoodIn wsL_law (va_wsS RL 156 yL_sheet wsL_sheet) := goodIn_app (goodIn_of _ (by decide +kernel)) ggL_law_L_sheet
set_option maxRecDepth 20000 in
theorem ggL_law_X5_sheet : GoodIn wsL_law wsX5_sheet := goodIn_r _ [452, 83, 84, 165, 166, 167, 5, 168, 126, 85, 86, 87, 88, 89, 79, 80, 81, 82, 655, 656, 657, 658, 659, 660, 661, 662, 663, 664, 665, 666] (by decide +kernel) (by decide +kernel)
set_option maxRecDepth 20000 in
theorem gL_law_X5_sheet : GoodIn wsL_law (wsV RL 159 RX5 yX5_sheet wsX5_sheet) := goodIn_app (goodIn_of _ (by decide +kernel)) ggL_law_X5_sheet
set_option maxRecDepth 20000 in
theorem ggL_law_L_foldColumns : GoodIn wsL_law wsL_foldColumns := goodIn_ca (goodIn_r _ [455, 96, 456, 457, 458, 2, 459, 29, 460, 461, 462, 28, 463, 51, 464, 465, 466, 467, 53, 55, 66, 468, 469, 470, 471, 472, 473, 474, 475, 60, 61, 476, 477, 478, 479, 480, 481, 150, 482, 483, 484, 485, 105, 106, 651, 652, 653, 654, 671, 672, 673, 674, 675, 676, 677] (by decide +kernel) (by decide +kernel)) (goodIn_sub (fun _ h => List.mem_append_right _ h) (by decide +kernel))
set_option maxRecDepth 20000 in
theorem gL_law_L_foldColumns : GoodIn wsL_law (va_wsS RL 160 yL_foldColumns wsL_foldColumns) := goodIn_app (goodIn_of _ (by decide +kernel)) ggL_law_L_foldColumns
set_option maxRecDepth 20000 in
theorem ggL_law_X5_foldColumns : GoodIn wsL_law wsX5_foldColumns := goodIn_r _ [489, 490, 491, 492, 5, 493, 83, 84, 81, 79, 80, 82, 89, 494, 495, 496, 497, 498, 499, 500, 501, 165, 166, 167, 168, 126, 655, 656, 657, 658, 659, 660, 661, 662, 663, 664, 665, 666] (by decide +kernel) (by decide +kernel)
set_option maxRecDepth 20000 in
theorem gL_law_X5_foldColumns : GoodIn wsL_law (wsV RL 162 RX5 yX5_foldColumns wsX5_foldColumns) := goodIn_app (goodIn_of _ (by decide +kernel)) ggL_law_X5_foldColumns
set_option maxRecDepth 20000 in
theorem ggL_law_L_foldRows : GoodIn wsL_law wsL_foldRows := goodIn_ca (goodIn_r _ [504, 96, 505, 506, 507, 2, 508, 29, 509, 510, 511, 28, 512, 52, 464, 465, 466, 467, 53, 55, 66, 468, 469, 470, 471, 472, 473, 474, 475, 60, 61, 476, 477, 478, 479, 480, 481, 150, 482, 483, 484, 485, 105, 106, 651, 652, 653, 654, 671, 672, 673, 674, 675, 676, 677] (by decide +kernel) (by decide +kernel)) (goodIn_sub (fun _ h => List.mem_append_right _ h) (by decide +kernel))
set_option maxRecDepth 20000 in
theorem gL_law_L_foldRows : GoodIn wsL_law (va_wsS RL 163 yL_foldRows wsL_foldRows) := goodIn_app (goodIn_of _ (by decide +kernel)) ggL_law_L_foldRows
set_option maxRecDepth 20000 in
theorem ggL_law_X5_foldRows : GoodIn wsL_law wsX5_foldRows := goodIn_r _ [516, 490, 491, 492, 5, 493, 83, 84, 81, 79, 80, 82, 89, 494, 495, 496, 497, 498, 499, 500, 501, 165, 166, 167, 168, 126, 655, 656, 657, 658, 659, 660, 661, 662, 663, 664, 665, 666] (by decide +kernel) (by decide +kernel)
set_option maxRecDepth 20000 in
theorem gL_law_X5_foldRows : GoodIn wsL_law (wsV RL 165 RX5 yX5_foldRows wsX5_foldRows) := goodIn_app (goodIn_of _ (by decide +kernel)) ggL_law_X5_foldRows
set_option maxRecDepth 20000 in
theorem ggL_law_X4_unfold : GoodIn wsL_law wsX4_unfold := goodIn_r _ [520, 29, 521, 63, 64, 28, 65, 60, 61, 51, 52, 53, 55, 66, 67, 68, 69, 70, 651, 652, 653, 654, 671, 672, 673, 674, 675, 676, 677] (by decide +kernel) (by decide +kernel)
set_option maxRecDepth 20000 in
theorem gL_law_X4_unfold : GoodIn wsL_law (wsV RL 166 RX4 yX4_unfold wsX4_unfold) := goodIn_app (goodIn_of _ (by decide +kernel)) ggL_law_X4_unfold
set_option maxRecDepth 20000 in
theorem ggL_law_X5_unfold : GoodIn wsL_law wsX5_unfold := goodIn_r _ [525, 126, 89, 85, 86, 87, 5, 88, 79, 80, 81, 82, 655, 656, 657, 658, 659, 660, 661, 662, 663, 664, 665, 666] (by decide +kernel) (by decide +kernel)
set_option maxRecDepth 20000 in
theorem gL_law_X5_unfold : GoodIn wsL_law (wsV RL 169 RX5 yX5_unfold wsX5_unfold) := goodIn_app (goodIn_of _ (by decide +kernel)) ggL_law_X5_unfold
set_option maxRecDepth 20000 in
theorem ggL_law_L_panel : GoodIn wsL_law wsL_panel := goodIn_ca (goodIn_r _ [528, 95, 529, 530, 531, 2, 532, 29, 138, 139, 140, 103, 104, 141, 142, 143, 533, 534, 535, 28, 536, 60, 537, 538, 539, 540, 61, 541, 347, 150, 348, 651, 652, 653, 654, 671, 672, 673, 674, 675, 676, 677] (by decide +kernel) (by decide +kernel)) (goodIn_sub (fun _ h => List.mem_append_left _ (List.mem_append_right _ h)) (by decide +kernel))
