set_option maxRecDepth 20000 in
theorem gL_law_L_panel : GoodIn wsL_law (va_wsS RL 170 yL_panel wsL_panel) := goodIn_app (goodIn_of _ (by decide +kernel)) ggL_law_L_panel
set_option maxRecDepth 20000 in
theorem ggL_law_X5_panel : GoodIn wsL_law wsX5_panel := goodIn_r _ [545, 84, 83, 159, 160, 5, 161, 162, 163, 164, 165, 166, 167, 168, 126, 655, 656, 657, 658, 659, 660, 661, 662, 663, 664, 665, 666] (by decide +kernel) (by decide +kernel)
set_option maxRecDepth 20000 in
theorem gL_law_X5_panel : GoodIn wsL_law (wsV RL 172 RX5 yX5_panel wsX5_panel) := goodIn_app (goodIn_of _ (by decide +kernel)) ggL_law_X5_panel
set_option maxRecDepth 20000 in
theorem ggL_law_L_placeX : GoodIn wsL_law wsL_placeX := goodIn_ca (goodIn_r _ [548, 94, 549, 550, 551, 2, 552, 29, 553, 554, 555, 556, 101, 102, 557, 558, 559, 28, 560, 60, 61, 561, 562, 563, 564, 51, 565, 67, 68, 69, 70, 651, 652, 653, 654, 671, 672, 673, 674, 675, 676, 677] (by decide +kernel) (by decide +kernel)) (goodIn_sub (fun _ h => List.mem_append_left _ (List.mem_append_left _ (List.mem_append_right _ h))) (by decide +kernel))
set_option maxRecDepth 20000 in
theorem gL_law_L_placeX : GoodIn wsL_law (va_wsS RL 173 yL_placeX wsL_placeX) := goodIn_app (goodIn_of _ (by decide +kernel)) ggL_law_L_placeX
set_option maxRecDepth 20000 in
theorem ggL_law_X5_placeX : GoodIn wsL_law wsX5_placeX := goodIn_r _ [569, 79, 570, 571, 572, 5, 573, 83, 84, 165, 166, 167, 168, 126, 655, 656, 657, 658, 659, 660, 661, 662, 663, 664, 665, 666] (by decide +kernel) (by decide +kernel)
set_option maxRecDepth 20000 in
theorem gL_law_X5_placeX : GoodIn wsL_law (wsV RL 175 RX5 yX5_placeX wsX5_placeX) := goodIn_app (goodIn_of _ (by decide +kernel)) ggL_law_X5_placeX
set_option maxRecDepth 20000 in
theorem ggL_law_L_placeY : GoodIn wsL_law wsL_placeY := goodIn_ca (goodIn_r _ [576, 94, 577, 578, 579, 2, 580, 29, 553, 554, 555, 556, 101, 102, 557, 558, 559, 28, 560, 60, 61, 581, 582, 583, 584, 52, 565, 67, 68, 69, 70, 651, 652, 653, 654, 671, 672, 673, 674, 675, 676, 677] (by decide +kernel) (by decide +kernel)) (goodIn_sub (fun _ h => List.mem_append_left _ (List.mem_append_left _ (List.mem_append_right _ h))) (by decide +kernel))
set_option maxRecDepth 20000 in
theorem gL_law_L_placeY : GoodIn wsL_law (va_wsS RL 176 yL_placeY wsL_placeY) := goodIn_app (goodIn_of _ (by decide +kernel)) ggL_law_L_placeY
set_option maxRecDepth 20000 in
theorem ggL_law_X5_placeY : GoodIn wsL_law wsX5_placeY := goodIn_r _ [588, 80, 570, 571, 572, 5, 573, 83, 84, 165, 166, 167, 168, 126, 655, 656, 657, 658, 659, 660, 661, 662, 663, 664, 665, 666] (by decide +kernel) (by decide +kernel)
set_option maxRecDepth 20000 in
theorem gL_law_X5_placeY : GoodIn wsL_law (wsV RL 178 RX5 yX5_placeY wsX5_placeY) := goodIn_app (goodIn_of _ (by decide +kernel)) ggL_law_X5_placeY
set_option maxRecDepth 20000 in
theorem ggL_law_L_above : GoodIn wsL_law wsL_above := goodIn_ca (goodIn_r _ [591, 94, 592, 593, 594, 2, 595, 29, 553, 554, 555, 556, 101, 102, 557, 558, 559, 28, 560, 60, 61, 596, 597, 598, 599, 565, 67, 68, 69, 70, 600, 601, 602, 603, 51, 52, 53, 472, 473, 474, 475, 651, 652, 653, 654, 671, 672, 673, 674, 675, 676, 677] (by decide +kernel) (by decide +kernel)) (goodIn_sub (fun _ h => List.mem_append_left _ (List.mem_append_left _ (List.mem_append_right _ h))) (by decide +kernel))
set_option maxRecDepth 20000 in
theorem gL_law_L_above : GoodIn wsL_law (va_wsS RL 179 yL_above wsL_above) := goodIn_app (goodIn_of _ (by decide +kernel)) ggL_law_L_above
set_option maxRecDepth 20000 in
theorem ggL_law_X5_above : GoodIn wsL_law wsX5_above := goodIn_r _ [607, 570, 571, 572, 5, 573, 83, 84, 165, 166, 167, 168, 126, 608, 609, 610, 611, 79, 80, 81, 498, 499, 500, 501, 655, 656, 657, 658, 659, 660, 661, 662, 663, 664, 665, 666] (by decide +kernel) (by decide +kernel)
set_option maxRecDepth 20000 in
theorem gL_law_X5_above : GoodIn wsL_law (wsV RL 181 RX5 yX5_above wsX5_above) := goodIn_app (goodIn_of _ (by decide +kernel)) ggL_law_X5_above
set_option maxRecDepth 20000 in
theorem ggL_law_L_isUp : GoodIn wsL_law wsL_isUp := goodIn_ca (goodIn_r _ [614, 94, 615, 616, 617, 2, 618, 29, 553, 554, 555, 556, 101, 102, 557, 558, 559, 28, 560, 60, 61, 619, 620, 621, 622, 55, 565, 67, 68, 69, 70, 651, 652, 653, 654, 671, 672, 673, 674, 675, 676, 677] (by decide +kernel) (by decide +kernel)) (goodIn_sub (fun _ h => List.mem_append_left _ (List.mem_append_left _ (List.mem_append_right _ h))) (by decide +kernel))
set_option maxRecDepth 20000 in
theorem gL_law_L_isUp : GoodIn wsL_law (va_wsS RL 182 yL_isUp wsL_isUp) := goodIn_app (goodIn_of _ (by decide +kernel)) ggL_law_L_isUp
set_option maxRecDepth 20000 in
theorem ggL_law_X5_isUp : GoodIn wsL_law wsX5_isUp := goodIn_r _ [626, 82, 570, 571, 572, 5, 573, 83, 84, 165, 166, 167, 168, 126, 655, 656, 657, 658, 659, 660, 661, 662, 663, 664, 665, 666] (by decide +kernel) (by decide +kernel)
set_option maxRecDepth 20000 in
theorem gL_law_X5_isUp : GoodIn wsL_law (wsV RL 184 RX5 yX5_isUp wsX5_isUp) := goodIn_app (goodIn_of _ (by decide +kernel)) ggL_law_X5_isUp
set_option maxRecDepth 20000 in
theorem ggL_law_X4_thickness : GoodIn wsL_law wsX4_thickness := goodIn_r _ [630, 29, 631, 632, 633, 28, 634, 480, 481, 150, 482, 472, 473, 474, 475, 60, 61, 600, 601, 602, 603, 51, 52, 53, 651, 652, 653, 654, 671, 672, 673, 674, 675, 676, 677] (by decide +kernel) (by decide +kernel)
set_option maxRecDepth 20000 in
theorem gL_law_X4_thickness : GoodIn wsL_law (wsV RL 185 RX4 yX4_thickness wsX4_thickness) := goodIn_app (goodIn_of _ (by decide +kernel)) ggL_law_X4_thickness
set_option maxRecDepth 20000 in
theorem ggL_law_X5_thickness : GoodIn wsL_law wsX5_thickness := goodIn_r _ [638, 126, 498, 499, 500, 5, 501, 83, 84, 608, 609, 610, 611, 79, 80, 81, 655, 656, 657, 658, 659, 660, 661, 662, 663, 664, 665, 666] (by decide +kernel) (by decide +kernel)
set_option maxRecDepth 20000 in
theorem gL_law_X5_thickness : GoodIn wsL_law (wsV RL 188 RX5 yX5_thickness wsX5_thickness) := goodIn_app (goodIn_of _ (by decide +kernel)) ggL_law_X5_thickness
set_option maxRecDepth 20000 in
theorem ggL_law_X4_readable : GoodIn wsL_law wsX4_readable := goodIn_r _ [642, 29, 643, 644, 645, 28, 646, 55, 472, 473, 474, 475, 60, 61, 600, 601, 602, 603, 51, 52, 53, 651, 652, 653, 654, 671, 672, 673, 674, 675, 676, 677] (by decide +kernel) (by decide +kernel)
set_option maxRecDepth 20000 in
theorem gL_law_X4_readable : GoodIn wsL_law (wsV RL 189 RX4 yX4_readable wsX4_readable) := goodIn_app (goodIn_of _ (by decide +kernel)) ggL_law_X4_readable
set_option maxRecDepth 20000 in
theorem ggL_law_X5_readable : GoodIn wsL_law wsX5_readable := goodIn_r _ [650, 126, 82, 498, 499, 500, 5, 501, 83, 84, 608, 609, 610, 611, 79, 80, 81, 655, 656, 657, 658, 659, 660, 661, 662, 663, 664, 665, 666] (by decide +kernel) (by decide +kernel)
set_option maxRecDepth 20000 in
theorem gL_law_X5_readable : GoodIn wsL_law (wsV RL 192 RX5 yX5_readable wsX5_readable) := goodIn_app (goodIn_of _ (by decide +kernel)) ggL_law_X5_readable
