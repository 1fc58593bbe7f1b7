set_option maxRecDepth 20000 in
theorem gL_field_X4_areaByCells : GoodIn wsL_field (wsV RL 69 RX4 yX4_areaByCells wsX4_areaByCells) := goodIn_app (goodIn_of _ (by decide +kernel)) ggL_field_X4_areaByCells
set_option maxRecDepth 20000 in
theorem ggL_field_X4_area : GoodIn wsL_field wsX4_area := goodIn_ca (goodIn_r _ [11, 12, 13, 14, 15, 16, 17, 18, 19, 20, 21, 22, 23, 24, 25, 26, 27, 28, 29, 30, 31, 32, 33, 34, 35, 36, 37, 38, 39, 40, 41, 42, 43, 45, 46, 47, 48, 49, 50] (by decide +kernel) (by decide +kernel)) (goodIn_sub (fun _ h => List.mem_cons_of_mem _ (List.mem_append_right _ h)) (by decide +kernel))
set_option maxRecDepth 20000 in
theorem gL_field_X4_area : GoodIn wsL_field (wsV RL 73 RX4 yX4_area wsX4_area) := goodIn_app (goodIn_of _ (by decide +kernel)) ggL_field_X4_area
set_option maxRecDepth 20000 in
theorem ggL_truth_X4_truth : GoodIn wsL_truth wsX4_truth := goodIn_ca (goodIn_ca (goodIn_r _ [7, 8, 9, 10, 11, 12, 13, 6, 14, 15, 16, 17, 18, 19, 20, 21, 22, 23, 24, 25, 26, 27, 28, 29, 30, 31] (by decide +kernel) (by decide +kernel)) (goodIn_sub (fun _ h => List.mem_cons_of_mem _ (List.mem_append_left _ (List.mem_append_right _ h))) (by decide +kernel))) (goodIn_sub (fun _ h => List.mem_cons_of_mem _ (List.mem_append_right _ h)) (by decide +kernel))
set_option maxRecDepth 20000 in
theorem gL_truth_X4_truth : GoodIn wsL_truth (wsV RL 78 RX4 yX4_truth wsX4_truth) := goodIn_app (goodIn_of _ (by decide +kernel)) ggL_truth_X4_truth
set_option maxRecDepth 20000 in
theorem ggL_stretch_X4_stretch : GoodIn wsL_stretch wsX4_stretch := goodIn_ca (goodIn_r _ [7, 8, 9, 10, 11, 6, 12, 13, 14, 15, 16, 17, 18, 19, 20, 21, 22, 23, 24, 25, 26, 27, 28, 29, 30, 31, 32, 33, 34, 35, 36, 37, 38, 39, 40, 41, 42] (by decide +kernel) (by decide +kernel)) (goodIn_sub (fun _ h => List.mem_cons_of_mem _ (List.mem_append_right _ h)) (by decide +kernel))
set_option maxRecDepth 20000 in
theorem gL_stretch_X4_stretch : GoodIn wsL_stretch (wsV RL 81 RX4 yX4_stretch wsX4_stretch) := goodIn_app (goodIn_of _ (by decide +kernel)) ggL_stretch_X4_stretch
set_option maxRecDepth 20000 in
theorem ggL_sheet_X4_sheet : GoodIn wsL_sheet wsX4_sheet := goodIn_ca (goodIn_r _ [6, 7, 8, 9, 10, 11, 12, 13, 14, 15, 16, 17, 18, 19, 20, 21, 22, 23, 24, 25, 26, 27, 28, 29, 30, 31, 32, 33, 34, 35, 36, 37, 38, 39, 40] (by decide +kernel) (by decide +kernel)) (goodIn_sub (fun _ h => List.mem_cons_of_mem _ (List.mem_append_right _ h)) (by decide +kernel))
set_option maxRecDepth 20000 in
theorem gL_sheet_X4_sheet : GoodIn wsL_sheet (wsV RL 86 RX4 yX4_sheet wsX4_sheet) := goodIn_app (goodIn_of _ (by decide +kernel)) ggL_sheet_X4_sheet
set_option maxRecDepth 20000 in
theorem ggL_folded_X4_foldColumns : GoodIn wsL_folded wsX4_foldColumns := goodIn_ca (goodIn_r _ [6, 7, 8, 9, 10, 11, 12, 13, 14, 15, 16, 17, 18, 19, 20, 21, 22, 23, 24, 25, 26, 27, 28, 29, 30, 31, 32, 33, 34, 35, 36, 37, 38, 39, 40, 5, 41, 42, 43, 53, 54, 55, 56, 57, 58, 59, 60, 61, 62, 63] (by decide +kernel) (by decide +kernel)) (goodIn_sub (fun _ h => List.mem_cons_of_mem _ (List.mem_append_right _ h)) (by decide +kernel))
set_option maxRecDepth 20000 in
theorem gL_folded_X4_foldColumns : GoodIn wsL_folded (wsV RL 90 RX4 yX4_foldColumns wsX4_foldColumns) := goodIn_app (goodIn_of _ (by decide +kernel)) ggL_folded_X4_foldColumns
set_option maxRecDepth 20000 in
theorem ggL_folded_X4_foldRows : GoodIn wsL_folded wsX4_foldRows := goodIn_ca (goodIn_r _ [47, 7, 48, 49, 50, 11, 51, 52, 14, 15, 16, 17, 18, 19, 20, 21, 22, 23, 24, 25, 26, 27, 28, 29, 30, 31, 32, 33, 34, 35, 36, 37, 38, 39, 40, 5, 41, 42, 43, 53, 54, 55, 56, 57, 58, 59, 60, 61, 62, 63] (by decide +kernel) (by decide +kernel)) (goodIn_sub (fun _ h => List.mem_cons_of_mem _ (List.mem_append_right _ h)) (by decide +kernel))
set_option maxRecDepth 20000 in
theorem gL_folded_X4_foldRows : GoodIn wsL_folded (wsV RL 93 RX4 yX4_foldRows wsX4_foldRows) := goodIn_app (goodIn_of _ (by decide +kernel)) ggL_folded_X4_foldRows
set_option maxRecDepth 20000 in
theorem ggL_of_X4_placeX : GoodIn wsL_of wsX4_placeX := goodIn_ca (goodIn_r _ [6, 7, 8, 9, 10, 5, 11, 12, 13, 14, 15, 16, 17, 18, 19, 20, 21, 22, 23, 24, 25, 26, 27, 28, 29, 30, 66, 67, 68, 69, 70, 71, 72, 73, 74, 75, 76] (by decide +kernel) (by decide +kernel)) (goodIn_sub (fun _ h => List.mem_cons_of_mem _ (List.mem_append_right _ h)) (by decide +kernel))
set_option maxRecDepth 20000 in
theorem gL_of_X4_placeX : GoodIn wsL_of (wsV RL 96 RX4 yX4_placeX wsX4_placeX) := goodIn_app (goodIn_of _ (by decide +kernel)) ggL_of_X4_placeX
set_option maxRecDepth 20000 in
theorem ggL_of_X4_placeY : GoodIn wsL_of wsX4_placeY := goodIn_ca (goodIn_r _ [34, 7, 8, 9, 10, 5, 11, 12, 13, 14, 15, 16, 17, 18, 19, 20, 35, 36, 37, 38, 39, 26, 27, 28, 29, 30, 66, 67, 68, 69, 70, 71, 72, 73, 74, 75, 76] (by decide +kernel) (by decide +kernel)) (goodIn_sub (fun _ h => List.mem_cons_of_mem _ (List.mem_append_right _ h)) (by decide +kernel))
set_option maxRecDepth 20000 in
theorem gL_of_X4_placeY : GoodIn wsL_of (wsV RL 99 RX4 yX4_placeY wsX4_placeY) := goodIn_app (goodIn_of _ (by decide +kernel)) ggL_of_X4_placeY
set_option maxRecDepth 20000 in
theorem ggL_of_X4_above : GoodIn wsL_of wsX4_above := goodIn_ca (goodIn_r _ [43, 7, 8, 9, 10, 5, 11, 12, 13, 14, 15, 16, 17, 18, 19, 20, 44, 45, 46, 47, 26, 27, 28, 29, 30, 48, 49, 50, 51, 25, 39, 52, 53, 54, 55, 56, 66, 67, 68, 69, 70, 71, 72, 73, 74, 75, 76] (by decide +kernel) (by decide +kernel)) (goodIn_sub (fun _ h => List.mem_cons_of_mem _ (List.mem_append_right _ h)) (by decide +kernel))
set_option maxRecDepth 20000 in
theorem gL_of_X4_above : GoodIn wsL_of (wsV RL 102 RX4 yX4_above wsX4_above) := goodIn_app (goodIn_of _ (by decide +kernel)) ggL_of_X4_above
set_option maxRecDepth 20000 in
theorem ggL_of_X4_isUp : GoodIn wsL_of wsX4_isUp := goodIn_ca (goodIn_r _ [60, 7, 8, 9, 10, 5, 11, 12, 13, 14, 15, 16, 17, 18, 19, 20, 61, 62, 63, 64, 65, 26, 27, 28, 29, 30, 66, 67, 68, 69, 70, 71, 72, 73, 74, 75, 76] (by decide +kernel) (by decide +kernel)) (goodIn_sub (fun _ h => List.mem_cons_of_mem _ (List.mem_append_right _ h)) (by decide +kernel))
set_option maxRecDepth 20000 in
theorem gL_of_X4_isUp : GoodIn wsL_of (wsV RL 105 RX4 yX4_isUp wsX4_isUp) := goodIn_app (goodIn_of _ (by decide +kernel)) ggL_of_X4_isUp
set_option maxRecDepth 20000 in
theorem ggL_acts_L_some : GoodIn wsL_acts wsL_some := goodIn_r _ [9] (by decide +kernel) (by decide +kernel)
set_option maxRecDepth 20000 in
theorem gL_acts_L_some : GoodIn wsL_acts (va_wsS RL 109 yL_some wsL_some) := goodIn_app (goodIn_of _ (by decide +kernel)) ggL_acts_L_some
set_option maxRecDepth 20000 in
theorem ggL_acts_L_tabled : GoodIn wsL_acts wsL_tabled := goodIn_ca (goodIn_ca (goodIn_ca (goodIn_r _ [12, 13, 14, 15, 16, 17, 18, 19, 20, 21, 22, 23, 24, 25, 26, 27, 28, 29, 30, 31, 32, 33, 34, 35, 36, 37, 38, 39, 40, 41, 238, 239, 240, 241, 242, 243] (by decide +kernel) (by decide +kernel)) (goodIn_sub (fun _ h => List.mem_cons_of_mem _ (List.mem_append_left _ (List.mem_append_left _ (List.mem_append_right _ h)))) (by decide +kernel))) (goodIn_sub (fun _ h => List.mem_cons_of_mem _ (List.mem_append_left _ (List.mem_append_right _ h))) (by decide +kernel))) (goodIn_sub (fun _ h => List.mem_cons_of_mem _ (List.mem_append_right _ h)) (by decide +kernel))
set_option maxRecDepth 20000 in
theorem gL_acts_L_tabled : GoodIn wsL_acts (va_wsS RL 112 yL_tabled wsL_tabled) := goodIn_app (goodIn_of _ (by decide +kernel)) ggL_acts_L_tabled
set_option maxRecDepth 20000 in
theorem ggL_acts_L_truth : GoodIn wsL_acts wsL_truth := goodIn_ca (goodIn_ca (goodIn_r _ [44, 13, 14, 45, 46, 47, 19, 48, 23, 24, 49, 50, 51, 52, 53, 21, 22, 54, 55, 56, 57, 58, 59, 60, 61, 62, 63, 238, 239, 240, 241, 244] (by decide +kernel) (by decide +kernel)) (goodIn_sub (fun _ h => List.mem_cons_of_mem _ (List.mem_append_left _ (List.mem_append_right _ h))) (by decide +kernel))) (goodIn_sub (fun _ h => List.mem_cons_of_mem _ (List.mem_append_left _ (List.mem_append_left _ (List.mem_append_right _ h)))) (by decide +kernel))
set_option maxRecDepth 20000 in
theorem gL_acts_L_truth : GoodIn wsL_acts (va_wsS RL 116 yL_truth wsL_truth) := goodIn_app (goodIn_of _ (by decide +kernel)) ggL_acts_L_truth
set_option maxRecDepth 20000 in
theorem ggL_acts_L_by : GoodIn wsL_acts wsL_by := goodIn_ca (goodIn_r _ [66, 14, 1, 67, 68, 69, 19, 70, 27, 71, 72, 73, 23, 24, 74, 75, 76, 77, 78, 79, 31, 80, 41, 81, 82, 83, 84, 85, 86, 87, 34, 35, 36, 88, 89, 90, 91, 92, 93, 94, 95, 33, 96, 97, 98, 99, 100, 101, 102, 103, 104, 105, 106, 107, 108, 109, 110, 111, 112, 113, 114, 115, 116, 117, 118, 119, 120, 121, 122, 123, 124, 125, 126, 127, 128, 129, 130, 131, 132, 133, 134, 135, 136, 137, 138, 139, 140, 141, 142, 143, 144, 145, 146, 147, 148, 149, 150, 151, 152, 153, 154, 155, 156, 157, 158, 159, 160, 161, 162, 163, 164, 238, 239, 240, 241, 242, 243, 245, 246, 247, 248, 249, 250, 251, 252] (by decide +kernel) (by decide +kernel)) (goodIn_sub (fun _ h => List.mem_cons_of_mem _ (List.mem_append_left _ (List.mem_append_right _ h))) (by decide +kernel))
set_option maxRecDepth 20000 in
theorem gL_acts_L_by : GoodIn wsL_acts (va_wsS RL 119 yL_by wsL_by) := goodIn_app (goodIn_of _ (by decide +kernel)) ggL_acts_L_by
set_option maxRecDepth 20000 in
theorem ggL_acts_L_flat : GoodIn wsL_acts wsL_flat := goodIn_r _ [167] (by decide +kernel) (by decide +kernel)
set_option maxRecDepth 20000 in
theorem gL_acts_L_flat : GoodIn wsL_acts (va_wsS RL 123 yL_flat wsL_flat) := goodIn_app (goodIn_of _ (by decide +kernel)) ggL_acts_L_flat
set_option maxRecDepth 20000 in
theorem ggL_acts_L_sheet : GoodIn wsL_acts wsL_sheet := goodIn_ca (goodIn_r _ [170, 14, 171, 172, 173, 19, 174, 23, 24, 144, 175, 176, 177, 148, 178, 150, 155, 179, 180, 181, 182, 183, 184, 185, 186, 187, 188, 189, 190, 191, 238, 239, 240, 241, 246, 247, 248, 249, 250, 251, 252] (by decide +kernel) (by decide +kernel)) (goodIn_sub (fun _ h => List.mem_cons_of_mem _ (List.mem_append_left _ (List.mem_append_right _ h))) (by decide +kernel))
set_option maxRecDepth 20000 in
theorem gL_acts_L_sheet : GoodIn wsL_acts (va_wsS RL 127 yL_sheet wsL_sheet) := goodIn_app (goodIn_of _ (by decide +kernel)) ggL_acts_L_sheet
set_option maxRecDepth 20000 in
theorem ggL_acts_X4_unfold : GoodIn wsL_acts wsX4_unfold := goodIn_r _ [195, 144, 196, 180, 181, 148, 182, 150, 155, 183, 184, 185, 186, 187, 188, 189, 190, 191, 238, 239, 240, 241, 246, 247, 248, 249, 250, 251, 252] (by decide +kernel) (by decide +kernel)
set_option maxRecDepth 20000 in
theorem gL_acts_X4_unfold : GoodIn wsL_acts (wsV RL 129 RX4 yX4_unfold wsX4_unfold) := goodIn_app (goodIn_of _ (by decide +kernel)) ggL_acts_X4_unfold
set_option maxRecDepth 20000 in
theorem ggL_acts_L_folded : GoodIn wsL_acts wsL_folded := goodIn_ca (goodIn_r _ [199, 15, 200, 201, 202, 19, 203, 144, 204, 205, 206, 148, 207, 183, 208, 209, 210, 211, 185, 186, 187, 212, 213, 214, 215, 216, 217, 218, 219, 150, 155, 220, 221, 222, 223, 224, 225, 83, 226, 227, 228, 229, 25, 26, 230, 231, 232, 233, 234, 235, 236, 237, 184, 238, 239, 240, 241, 246, 247, 248, 249, 250, 251, 252] (by decide +kernel) (by decide +kernel)) (goodIn_sub (fun _ h => List.mem_cons_of_mem _ (List.mem_append_right _ h)) (by decide +kernel))
set_option maxRecDepth 20000 in
theorem gL_acts_L_folded : GoodIn wsL_acts (va_wsS RL 137 yL_folded wsL_folded) := goodIn_app (goodIn_of _ (by decide +kernel)) ggL_acts_L_folded
set_option maxRecDepth 20000 in
theorem ggL_maps_L_some : GoodIn wsL_maps wsL_some := goodIn_r _ [10] (by decide +kernel) (by decide +kernel)
set_option maxRecDepth 20000 in
theorem gL_maps_L_some : GoodIn wsL_maps (va_wsS RL 109 yL_some wsL_some) := goodIn_app (goodIn_of _ (by decide +kernel)) ggL_maps_L_some
set_option maxRecDepth 20000 in
theorem ggL_maps_L_by : GoodIn wsL_maps wsL_by := goodIn_ca (goodIn_r _ [13, 14, 1, 15, 16, 17, 18, 19, 20, 21, 22, 23, 24, 25, 26, 27, 28, 29, 30, 31, 32, 33, 34, 35, 36, 37, 38, 39, 40, 41, 42, 43, 44, 45, 46, 47, 48, 49, 50, 51, 52, 53, 54, 55, 56, 57, 58, 59, 60, 61, 62, 63, 64, 65, 66, 67, 68, 69, 70, 71, 72, 73, 74, 75, 76, 77, 78, 79, 80, 81, 82, 83, 84, 85, 86, 87, 88, 89, 90, 91, 92, 93, 94, 95, 96, 97, 98, 99, 100, 101, 102, 103, 104, 105, 106, 107, 108, 109, 110, 111, 112, 113, 114, 115, 116, 117, 118, 119, 120, 121, 122, 173, 174, 175, 176, 177, 178, 179, 180, 181, 182, 183, 184, 185, 186] (by decide +kernel) (by decide +kernel)) (goodIn_sub (fun _ h => List.mem_cons_of_mem _ (List.mem_append_left _ (List.mem_append_right _ h))) (by decide +kernel))
set_option maxRecDepth 20000 in
theorem gL_maps_L_by : GoodIn wsL_maps (va_wsS RL 119 yL_by wsL_by) := goodIn_app (goodIn_of _ (by decide +kernel)) ggL_maps_L_by
set_option maxRecDepth 20000 in
theorem ggL_maps_L_wide : GoodIn wsL_maps wsL_wide := goodIn_r _ [125, 126, 127, 9, 128] (by decide +kernel) (by decide +kernel)
set_option maxRecDepth 20000 in
theorem gL_maps_L_wide : GoodIn wsL_maps (va_wsS RL 20 yL_wide wsL_wide) := goodIn_app (goodIn_of _ (by decide +kernel)) ggL_maps_L_wide
set_option maxRecDepth 20000 in
theorem ggL_maps_L_high : GoodIn wsL_maps wsL_high := goodIn_r _ [131, 126, 127, 9, 128] (by decide +kernel) (by decide +kernel)
set_option maxRecDepth 20000 in
theorem gL_maps_L_high : GoodIn wsL_maps (va_wsS RL 16 yL_high wsL_high) := goodIn_app (goodIn_of _ (by decide +kernel)) ggL_maps_L_high
set_option maxRecDepth 20000 in
theorem ggL_maps_L_latitude : GoodIn wsL_maps wsL_latitude := goodIn_ca (goodIn_ca (goodIn_r _ [134, 14, 135, 136, 137, 138, 18, 139, 24, 25, 140, 141, 142, 143, 20, 144, 145, 146, 32, 147, 148, 50, 51, 52, 53, 35, 36, 37, 38, 39, 40, 41, 42, 43, 44, 173, 174, 175, 176, 177, 178] (by decide +kernel) (by decide +kernel)) (goodIn_sub (fun _ h => List.mem_cons_of_mem _ (List.mem_append_left _ (List.mem_append_right _ h))) (by decide +kernel))) (goodIn_sub (fun _ h => List.mem_cons_of_mem _ (List.mem_append_right _ h)) (by decide +kernel))
set_option maxRecDepth 20000 in
theorem gL_maps_L_latitude : GoodIn wsL_maps (va_wsS RL 144 yL_latitude wsL_latitude) := goodIn_app (goodIn_of _ (by decide +kernel)) ggL_maps_L_latitude
set_option maxRecDepth 20000 in
theorem ggL_maps_L_area : GoodIn wsL_maps wsL_area := goodIn_r _ [151, 129, 130, 9, 131, 126, 127, 128, 123, 124, 125] (by decide +kernel) (by decide +kernel)
set_option maxRecDepth 20000 in
theorem gL_maps_L_area : GoodIn wsL_maps (va_wsS RL 149 yL_area wsL_area) := goodIn_app (goodIn_of _ (by decide +kernel)) ggL_maps_L_area
set_option maxRecDepth 20000 in
theorem ggL_maps_L_field : GoodIn wsL_maps wsL_field := goodIn_ca (goodIn_r _ [154, 14, 6, 155, 156, 157, 18, 158, 159, 160, 161, 162, 24, 25, 20, 163, 164, 165, 32, 166, 167, 168, 169, 170, 171, 30, 31, 33, 34, 35, 36, 37, 38, 39, 40, 41, 42, 43, 44, 148, 50, 51, 52, 53, 172, 173, 174, 175, 176, 177, 178] (by decide +kernel) (by decide +kernel)) (goodIn_sub (fun _ h => List.mem_cons_of_mem _ (List.mem_append_left _ (List.mem_append_right _ h))) (by decide +kernel))
set_option maxRecDepth 20000 in
theorem gL_maps_L_field : GoodIn wsL_maps (va_wsS RL 152 yL_field wsL_field) := goodIn_app (goodIn_of _ (by decide +kernel)) ggL_maps_L_field
set_option maxRecDepth 20000 in
theorem ggL_bands_L_area : GoodIn wsL_bands wsL_area := goodIn_r _ [5, 6, 7, 4, 8, 9, 10, 11, 12, 13, 14] (by decide +kernel) (by decide +kernel)
set_option maxRecDepth 20000 in
theorem gL_bands_L_area : GoodIn wsL_bands (va_wsS RL 149 yL_area wsL_area) := goodIn_app (goodIn_of _ (by decide +kernel)) ggL_bands_L_area
set_option maxRecDepth 20000 in
theorem ggL_bands_L_stretch : GoodIn wsL_bands wsL_stretch := goodIn_ca (goodIn_r _ [17, 18, 1, 19, 20, 21, 22, 23, 24, 25, 26, 27, 28, 29, 30, 31, 32, 33, 34, 35, 36, 37, 38, 39, 40, 41, 42, 43, 44, 45, 46, 47, 48, 49, 50, 51, 76, 77, 78, 79, 80, 81, 82] (by decide +kernel) (by decide +kernel)) (goodIn_sub (fun _ h => List.mem_cons_of_mem _ (List.mem_append_right _ h)) (by decide +kernel))
set_option maxRecDepth 20000 in
theorem gL_bands_L_stretch : GoodIn wsL_bands (va_wsS RL 156 yL_stretch wsL_stretch) := goodIn_app (goodIn_of _ (by decide +kernel)) ggL_bands_L_stretch
set_option maxRecDepth 20000 in
theorem ggL_bands_X4_keepsAreas : GoodIn wsL_bands wsX4_keepsAreas := goodIn_r _ [55, 24, 25, 56, 57, 58, 34, 59, 60, 61, 62, 63, 36, 37, 38, 39, 40, 41, 42, 43, 44, 45, 46, 47, 48, 49, 50, 51, 64, 65, 66, 67, 76, 77, 78, 79, 80, 81, 82] (by decide +kernel) (by decide +kernel)
set_option maxRecDepth 20000 in
theorem gL_bands_X4_keepsAreas : GoodIn wsL_bands (wsV RL 159 RX4 yX4_keepsAreas wsX4_keepsAreas) := goodIn_app (goodIn_of _ (by decide +kernel)) ggL_bands_X4_keepsAreas
set_option maxRecDepth 20000 in
theorem ggL_bands_X4_widest : GoodIn wsL_bands wsX4_widest := goodIn_r _ [71, 24, 25, 72, 73, 74, 34, 75, 60, 61, 62, 63, 36, 37, 38, 39, 40, 41, 42, 43, 44, 45, 46, 47, 48, 49, 50, 51, 64, 65, 66, 67, 76, 77, 78, 79, 80, 81, 82] (by decide +kernel) (by decide +kernel)
set_option maxRecDepth 20000 in
theorem gL_bands_X4_widest : GoodIn wsL_bands (wsV RL 163 RX4 yX4_widest wsX4_widest) := goodIn_app (goodIn_of _ (by decide +kernel)) ggL_bands_X4_widest
set_option maxRecDepth 20000 in
theorem ggL_rings_L_some : GoodIn wsL_rings wsL_some := goodIn_r _ [5] (by decide +kernel) (by decide +kernel)
set_option maxRecDepth 20000 in
theorem gL_rings_L_some : GoodIn wsL_rings (va_wsS RL 109 yL_some wsL_some) := goodIn_app (goodIn_of _ (by decide +kernel)) ggL_rings_L_some
set_option maxRecDepth 20000 in
theorem ggL_rings_L_by : GoodIn wsL_rings wsL_by := goodIn_ca (goodIn_r _ [8, 9, 1, 10, 11, 12, 13, 14, 15, 16, 17, 18, 19, 20, 21, 22, 23, 24, 25, 26, 27, 28, 29, 30, 31, 32, 33, 34, 35, 36, 37, 38, 39, 40, 41, 42, 43, 44, 45, 46, 47, 48, 49, 50, 51, 52, 53, 54, 55, 56, 57, 58, 59, 60, 61, 62, 63, 64, 65, 66, 67, 68, 69, 70, 71, 72, 73, 74, 75, 76, 77, 78, 79, 80, 81, 82, 83, 84, 85, 86, 87, 88, 89, 90, 91, 92, 93, 94, 95, 96, 97, 98, 99, 100, 101, 102, 103, 104, 105, 106, 107, 108, 109, 110, 111, 112, 113, 114, 115, 116, 117, 124, 125, 126, 127, 128, 129, 130, 131, 132, 133, 134, 135, 136, 137] (by decide +kernel) (by decide +kernel)) (goodIn_sub (fun _ h => List.mem_cons_of_mem _ (List.mem_append_right _ h)) (by decide +kernel))
set_option maxRecDepth 20000 in
theorem gL_rings_L_by : GoodIn wsL_rings (va_wsS RL 119 yL_by wsL_by) := goodIn_app (goodIn_of _ (by decide +kernel)) ggL_rings_L_by
set_option maxRecDepth 20000 in
theorem ggL_rings_L_wide : GoodIn wsL_rings wsL_wide := goodIn_r _ [120, 121, 122, 4, 123] (by decide +kernel) (by decide +kernel)
set_option maxRecDepth 20000 in
theorem gL_rings_L_wide : GoodIn wsL_rings (va_wsS RL 20 yL_wide wsL_wide) := goodIn_app (goodIn_of _ (by decide +kernel)) ggL_rings_L_wide
set_option maxRecDepth 20000 in
theorem ggL_sheets_L_of : GoodIn wsL_sheets wsL_of := goodIn_ca (goodIn_r _ [5, 6, 7, 8, 9, 10, 11, 12, 13, 14, 15, 16, 17, 18, 19, 20, 21, 22, 23, 24, 25, 26, 27, 28, 29, 30, 31, 32, 33, 34, 35, 36, 37, 38, 39, 40, 41, 42, 43, 44, 45, 46, 47, 48, 49, 50, 51, 52, 53, 54, 55, 56, 57, 58, 59, 60, 61, 62, 63, 64, 65, 66, 67, 68, 69, 70, 200, 201, 202, 203, 204, 205, 206, 207, 208, 209, 210] (by decide +kernel) (by decide +kernel)) (goodIn_sub (fun _ h => List.mem_cons_of_mem _ (List.mem_append_left _ (List.mem_append_right _ h))) (by decide +kernel))
set_option maxRecDepth 20000 in
theorem gL_sheets_L_of : GoodIn wsL_sheets (va_wsS RL 166 yL_of wsL_of) := goodIn_app (goodIn_of _ (by decide +kernel)) ggL_sheets_L_of
set_option maxRecDepth 20000 in
theorem ggL_sheets_L_some : GoodIn wsL_sheets wsL_some := goodIn_r _ [73] (by decide +kernel) (by decide +kernel)
set_option maxRecDepth 20000 in
theorem gL_sheets_L_some : GoodIn wsL_sheets (va_wsS RL 109 yL_some wsL_some) := goodIn_app (goodIn_of _ (by decide +kernel)) ggL_sheets_L_some
set_option maxRecDepth 20000 in
theorem ggL_sheets_X4_thickness : GoodIn wsL_sheets wsX4_thickness := goodIn_r _ [77, 12, 78, 79, 80, 22, 81, 82, 83, 84, 85, 58, 59, 60, 61, 24, 25, 53, 54, 55, 56, 30, 44, 57, 200, 201, 202, 203, 204, 205, 206, 207, 208, 209, 210] (by decide +kernel) (by decide +kernel)
set_option maxRecDepth 20000 in
theorem gL_sheets_X4_thickness : GoodIn wsL_sheets (wsV RL 169 RX4 yX4_thickness wsX4_thickness) := goodIn_app (goodIn_of _ (by decide +kernel)) ggL_sheets_X4_thickness
set_option maxRecDepth 20000 in
theorem ggL_sheets_X4_readable : GoodIn wsL_sheets wsX4_readable := goodIn_r _ [89, 12, 90, 91, 92, 22, 93, 70, 58, 59, 60, 61, 24, 25, 53, 54, 55, 56, 30, 44, 57, 200, 201, 202, 203, 204, 205, 206, 207, 208, 209, 210] (by decide +kernel) (by decide +kernel)
set_option maxRecDepth 20000 in
theorem gL_sheets_X4_readable : GoodIn wsL_sheets (wsV RL 172 RX4 yX4_readable wsX4_readable) := goodIn_app (goodIn_of _ (by decide +kernel)) ggL_sheets_X4_readable
set_option maxRecDepth 20000 in
theorem ggL_sheets_L_by : GoodIn wsL_sheets wsL_by := goodIn_ca (goodIn_r _ [96, 97, 1, 98, 99, 100, 10, 101, 102, 103, 104, 105, 106, 107, 108, 109, 110, 111, 112, 113, 114, 115, 116, 117, 118, 84, 119, 120, 121, 122, 123, 124, 125, 126, 127, 128, 129, 130, 131, 132, 133, 134, 135, 136, 137, 138, 139, 140, 141, 142, 143, 144, 145, 146, 147, 148, 149, 150, 151, 152, 153, 154, 155, 156, 157, 158, 159, 160, 161, 162, 163, 164, 165, 166, 167, 168, 169, 170, 171, 172, 173, 174, 175, 176, 177, 178, 179, 180, 181, 182, 12, 183, 184, 185, 22, 186, 24, 187, 188, 189, 190, 25, 191, 192, 193, 194, 195, 196, 197, 198, 199, 200, 201, 202, 203, 211, 212, 213, 204, 205, 206, 207, 208, 209, 210] (by decide +kernel) (by decide +kernel)) (goodIn_sub (fun _ h => List.mem_cons_of_mem _ (List.mem_append_right _ h)) (by decide +kernel))
set_option maxRecDepth 20000 in
theorem gL_sheets_L_by : GoodIn wsL_sheets (va_wsS RL 119 yL_by wsL_by) := goodIn_app (goodIn_of _ (by decide +kernel)) ggL_sheets_L_by
