set_option maxRecDepth 20000 in
theorem ggL_law_X4_init : GoodIn wsL_law wsX4_init := goodIn_r _ [10, 11, 12, 13, 14, 15, 16, 17, 18, 19, 20, 21, 22, 23, 24, 25, 26, 27, 28, 29, 30, 31, 32, 33, 34, 35, 36, 37, 38, 39, 40, 41, 42, 43, 44, 45, 46, 47, 48, 49, 50, 51, 52, 53, 54, 55, 56, 57, 58, 59, 60, 61, 62, 63, 64, 65, 66, 67, 68, 69, 70, 667, 668, 651, 652, 653, 654, 669, 670, 671, 672, 673, 674, 675, 676, 677] (by decide +kernel) (by decide +kernel)
set_option maxRecDepth 20000 in
theorem gL_law_X4_init : GoodIn wsL_law (wsX4_init) := ggL_law_X4_init
set_option maxRecDepth 20000 in
theorem ggL_law_X5_init : GoodIn wsL_law wsX5_init := goodIn_r _ [73, 74, 12, 13, 34, 75, 76, 77, 78, 79, 80, 81, 54, 82, 83, 84, 85, 86, 87, 5, 88, 89, 655, 656, 657, 658, 659, 660, 661, 662, 663, 664, 665, 666] (by decide +kernel) (by decide +kernel)
set_option maxRecDepth 20000 in
theorem gL_law_X5_init : GoodIn wsL_law (wsX5_init) := ggL_law_X5_init
set_option maxRecDepth 20000 in
theorem ggL_law_L_table : GoodIn wsL_law wsL_table := goodIn_ca (goodIn_ca (goodIn_ca (goodIn_r _ [93, 94, 95, 96, 97, 98, 99, 2, 100, 101, 102, 103, 104, 105, 106, 17, 107, 108, 109, 16, 110, 36, 111, 112, 113, 114, 115, 116, 117, 35, 651, 652, 653, 654, 667, 668] (by decide +kernel) (by decide +kernel)) (goodIn_sub (fun _ h => List.mem_append_left _ (List.mem_append_left _ (List.mem_append_right _ h))) (by decide +kernel))) (goodIn_sub (fun _ h => List.mem_append_left _ (List.mem_append_right _ h)) (by decide +kernel))) (goodIn_sub (fun _ h => List.mem_append_right _ h) (by decide +kernel))
set_option maxRecDepth 20000 in
theorem gL_law_L_table : GoodIn wsL_law (va_wsS RL 93 yL_table wsL_table) := goodIn_app (goodIn_of _ (by decide +kernel)) ggL_law_L_table
set_option maxRecDepth 20000 in
theorem ggL_law_X5_table : GoodIn wsL_law wsX5_table := goodIn_r _ [121, 76, 75, 122, 123, 124, 5, 125, 126, 655, 656, 657, 658, 659, 660, 661, 662, 663, 664, 665, 666] (by decide +kernel) (by decide +kernel)
set_option maxRecDepth 20000 in
theorem gL_law_X5_table : GoodIn wsL_law (wsV RL 98 RX5 yX5_table wsX5_table) := goodIn_app (goodIn_of _ (by decide +kernel)) ggL_law_X5_table
set_option maxRecDepth 20000 in
theorem ggL_law_X5_thrown : GoodIn wsL_law wsX5_thrown := goodIn_r _ [130, 126, 655, 656, 657, 658, 659, 660, 661, 662, 663, 664, 665, 666] (by decide +kernel) (by decide +kernel)
set_option maxRecDepth 20000 in
theorem gL_law_X5_thrown : GoodIn wsL_law (wsV RL 99 RX5 yX5_thrown wsX5_thrown) := goodIn_app (goodIn_of _ (by decide +kernel)) ggL_law_X5_thrown
set_option maxRecDepth 20000 in
theorem ggL_law_L_x : GoodIn wsL_law wsL_x := goodIn_ca (goodIn_r _ [133, 95, 134, 135, 136, 2, 137, 17, 138, 139, 140, 103, 104, 141, 142, 143, 144, 145, 146, 16, 147, 35, 148, 149, 150, 151, 152, 153, 154, 111, 112, 113, 651, 652, 653, 654, 667, 668] (by decide +kernel) (by decide +kernel)) (goodIn_sub (fun _ h => List.mem_append_left _ (List.mem_append_right _ h)) (by decide +kernel))
set_option maxRecDepth 20000 in
theorem gL_law_L_x : GoodIn wsL_law (va_wsS RL 103 yL_x wsL_x) := goodIn_app (goodIn_of _ (by decide +kernel)) ggL_law_L_x
set_option maxRecDepth 20000 in
theorem ggL_law_X5_x : GoodIn wsL_law wsX5_x := goodIn_r _ [158, 159, 160, 5, 161, 162, 163, 164, 165, 166, 167, 168, 126, 169, 170, 171, 172, 75, 655, 656, 657, 658, 659, 660, 661, 662, 663, 664, 665, 666] (by decide +kernel) (by decide +kernel)
set_option maxRecDepth 20000 in
theorem gL_law_X5_x : GoodIn wsL_law (wsV RL 106 RX5 yX5_x wsX5_x) := goodIn_app (goodIn_of _ (by decide +kernel)) ggL_law_X5_x
set_option maxRecDepth 20000 in
theorem ggL_law_L_y : GoodIn wsL_law wsL_y := goodIn_ca (goodIn_r _ [175, 95, 176, 177, 178, 2, 179, 17, 138, 139, 140, 103, 104, 180, 181, 182, 16, 183, 36, 148, 149, 150, 151, 152, 153, 154, 111, 112, 113, 651, 652, 653, 654, 667, 668] (by decide +kernel) (by decide +kernel)) (goodIn_sub (fun _ h => List.mem_append_left _ (List.mem_append_right _ h)) (by decide +kernel))
set_option maxRecDepth 20000 in
theorem gL_law_L_y : GoodIn wsL_law (va_wsS RL 107 yL_y wsL_y) := goodIn_app (goodIn_of _ (by decide +kernel)) ggL_law_L_y
set_option maxRecDepth 20000 in
theorem ggL_law_X5_y : GoodIn wsL_law wsX5_y := goodIn_r _ [187, 159, 160, 5, 161, 165, 166, 167, 168, 126, 188, 189, 190, 191, 76, 655, 656, 657, 658, 659, 660, 661, 662, 663, 664, 665, 666] (by decide +kernel) (by decide +kernel)
set_option maxRecDepth 20000 in
theorem gL_law_X5_y : GoodIn wsL_law (wsV RL 110 RX5 yX5_y wsX5_y) := goodIn_app (goodIn_of _ (by decide +kernel)) ggL_law_X5_y
set_option maxRecDepth 20000 in
theorem ggL_law_L_latitudeAt : GoodIn wsL_law wsL_latitudeAt := goodIn_ca (goodIn_ca (goodIn_r _ [194, 95, 96, 195, 196, 197, 2, 198, 103, 104, 105, 106, 199, 200, 17, 201, 202, 203, 16, 204, 205, 181, 182, 183, 36, 148, 149, 150, 151, 152, 153, 154, 111, 112, 113, 651, 652, 653, 654, 667, 668] (by decide +kernel) (by decide +kernel)) (goodIn_sub (fun _ h => List.mem_append_left _ (List.mem_append_right _ h)) (by decide +kernel))) (goodIn_sub (fun _ h => List.mem_append_right _ h) (by decide +kernel))
set_option maxRecDepth 20000 in
theorem gL_law_L_latitudeAt : GoodIn wsL_law (va_wsS RL 111 yL_latitudeAt wsL_latitudeAt) := goodIn_app (goodIn_of _ (by decide +kernel)) ggL_law_L_latitudeAt
set_option maxRecDepth 20000 in
theorem ggL_law_X5_latitudeAt : GoodIn wsL_law wsX5_latitudeAt := goodIn_r _ [209, 210, 211, 188, 189, 190, 5, 191, 76, 212, 213, 214, 215, 126, 655, 656, 657, 658, 659, 660, 661, 662, 663, 664, 665, 666] (by decide +kernel) (by decide +kernel)
set_option maxRecDepth 20000 in
theorem gL_law_X5_latitudeAt : GoodIn wsL_law (wsV RL 113 RX5 yX5_latitudeAt wsX5_latitudeAt) := goodIn_app (goodIn_of _ (by decide +kernel)) ggL_law_X5_latitudeAt
set_option maxRecDepth 20000 in
theorem ggL_law_L_area : GoodIn wsL_law wsL_area := goodIn_ca (goodIn_r _ [218, 95, 219, 220, 221, 2, 222, 103, 104, 17, 223, 224, 225, 16, 226, 227, 228, 229, 230, 231, 145, 146, 147, 35, 148, 149, 150, 151, 152, 153, 154, 111, 112, 113, 205, 181, 182, 183, 36, 651, 652, 653, 654, 667, 668] (by decide +kernel) (by decide +kernel)) (goodIn_sub (fun _ h => List.mem_append_left _ (List.mem_append_right _ h)) (by decide +kernel))
set_option maxRecDepth 20000 in
theorem gL_law_L_area : GoodIn wsL_law (va_wsS RL 114 yL_area wsL_area) := goodIn_app (goodIn_of _ (by decide +kernel)) ggL_law_L_area
set_option maxRecDepth 20000 in
theorem ggL_law_X5_area : GoodIn wsL_law wsX5_area := goodIn_r _ [235, 159, 160, 5, 161, 165, 166, 167, 168, 126, 236, 237, 238, 239, 169, 170, 171, 172, 75, 188, 189, 190, 191, 76, 655, 656, 657, 658, 659, 660, 661, 662, 663, 664, 665, 666] (by decide +kernel) (by decide +kernel)
set_option maxRecDepth 20000 in
theorem gL_law_X5_area : GoodIn wsL_law (wsV RL 117 RX5 yX5_area wsX5_area) := goodIn_app (goodIn_of _ (by decide +kernel)) ggL_law_X5_area
set_option maxRecDepth 20000 in
theorem ggL_law_L_areaByCells : GoodIn wsL_law wsL_areaByCells := goodIn_ca (goodIn_r _ [242, 95, 243, 244, 245, 2, 246, 247, 220, 221, 222, 103, 104, 17, 223, 224, 225, 16, 226, 227, 228, 229, 230, 231, 145, 146, 147, 35, 148, 149, 150, 151, 152, 153, 154, 111, 112, 113, 205, 181, 182, 183, 36, 651, 652, 653, 654, 667, 668] (by decide +kernel) (by decide +kernel)) (goodIn_sub (fun _ h => List.mem_append_left _ (List.mem_append_right _ h)) (by decide +kernel))
set_option maxRecDepth 20000 in
theorem gL_law_L_areaByCells : GoodIn wsL_law (va_wsS RL 118 yL_areaByCells wsL_areaByCells) := goodIn_app (goodIn_of _ (by decide +kernel)) ggL_law_L_areaByCells
set_option maxRecDepth 20000 in
theorem ggL_law_X5_areaByCells : GoodIn wsL_law wsX5_areaByCells := goodIn_r _ [251, 252, 233, 234, 5, 235, 159, 160, 161, 165, 166, 167, 168, 126, 236, 237, 238, 239, 169, 170, 171, 172, 75, 188, 189, 190, 191, 76, 655, 656, 657, 658, 659, 660, 661, 662, 663, 664, 665, 666] (by decide +kernel) (by decide +kernel)
