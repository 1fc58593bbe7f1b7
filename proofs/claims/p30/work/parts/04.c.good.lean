set_option maxRecDepth 20000 in
theorem ggX4_sheet_X1_layOut : GoodIn wsX4_sheet wsX1_layOut := goodIn_r _ [8, 9, 10, 11, 12, 13, 7, 14, 15, 16, 17, 18, 19, 20, 21, 22, 23, 28, 29, 30, 31, 32, 33, 34] (by decide +kernel) (by decide +kernel)
set_option maxRecDepth 20000 in
theorem gX4_sheet_X1_layOut : GoodIn wsX4_sheet (wsV RX4 138 RX1 yX1_layOut wsX1_layOut) := goodIn_app (goodIn_of _ (by decide +kernel)) ggX4_sheet_X1_layOut
set_option maxRecDepth 20000 in
theorem ggX4_foldColumns_X1_turnOverColumns : GoodIn wsX4_foldColumns wsX1_turnOverColumns := goodIn_r _ [6, 7, 8, 9, 10, 5, 11, 12, 13, 14, 15, 16, 17, 18, 19, 20, 21, 22, 23, 24, 25, 26, 27, 28, 29, 30, 31, 32, 43, 44, 45, 46, 47, 48, 49] (by decide +kernel) (by decide +kernel)
set_option maxRecDepth 20000 in
theorem gX4_foldColumns_X1_turnOverColumns : GoodIn wsX4_foldColumns (wsV RX4 142 RX1 yX1_turnOverColumns wsX1_turnOverColumns) := goodIn_app (goodIn_of _ (by decide +kernel)) ggX4_foldColumns_X1_turnOverColumns
set_option maxRecDepth 20000 in
theorem ggX4_foldColumns_X4_someTurned : GoodIn wsX4_foldColumns wsX4_someTurned := goodIn_ca (goodIn_r _ [36, 37, 38] (by decide +kernel) (by decide +kernel)) (goodIn_sub (fun _ h => List.mem_cons_of_mem _ (List.mem_append_right _ h)) (by decide +kernel))
set_option maxRecDepth 20000 in
theorem gX4_foldColumns_X4_someTurned : GoodIn wsX4_foldColumns (va_wsS RX4 145 yX4_someTurned wsX4_someTurned) := goodIn_app (goodIn_of _ (by decide +kernel)) ggX4_foldColumns_X4_someTurned
set_option maxRecDepth 20000 in
theorem ggX4_foldRows_X1_turnOverRows : GoodIn wsX4_foldRows wsX1_turnOverRows := goodIn_r _ [6, 7, 8, 9, 10, 5, 11, 12, 13, 14, 15, 16, 17, 18, 19, 20, 21, 22, 23, 24, 25, 26, 27, 28, 29, 30, 31, 32, 43, 44, 45, 46, 47, 48, 49] (by decide +kernel) (by decide +kernel)
set_option maxRecDepth 20000 in
theorem gX4_foldRows_X1_turnOverRows : GoodIn wsX4_foldRows (wsV RX4 148 RX1 yX1_turnOverRows wsX1_turnOverRows) := goodIn_app (goodIn_of _ (by decide +kernel)) ggX4_foldRows_X1_turnOverRows
set_option maxRecDepth 20000 in
theorem ggX4_foldRows_X4_someTurned : GoodIn wsX4_foldRows wsX4_someTurned := goodIn_ca (goodIn_r _ [36, 37, 38] (by decide +kernel) (by decide +kernel)) (goodIn_sub (fun _ h => List.mem_cons_of_mem _ (List.mem_append_right _ h)) (by decide +kernel))
set_option maxRecDepth 20000 in
theorem gX4_foldRows_X4_someTurned : GoodIn wsX4_foldRows (va_wsS RX4 145 yX4_someTurned wsX4_someTurned) := goodIn_app (goodIn_of _ (by decide +kernel)) ggX4_foldRows_X4_someTurned
set_option maxRecDepth 20000 in
theorem ggX4_unfold_X1_spread : GoodIn wsX4_unfold wsX1_spread := goodIn_r _ [6, 7, 8, 9, 10, 11, 12, 13, 14, 15, 16, 5, 17, 22, 23, 24, 25, 26, 27, 28] (by decide +kernel) (by decide +kernel)
set_option maxRecDepth 20000 in
theorem gX4_unfold_X1_spread : GoodIn wsX4_unfold (wsV RX4 151 RX1 yX1_spread wsX1_spread) := goodIn_app (goodIn_of _ (by decide +kernel)) ggX4_unfold_X1_spread
set_option maxRecDepth 20000 in
theorem ggX4_panel_X4_requireLatitude : GoodIn wsX4_panel wsX4_requireLatitude := goodIn_ca (goodIn_r _ [5, 6, 7] (by decide +kernel) (by decide +kernel)) (goodIn_sub (fun _ h => List.mem_cons_of_mem _ (List.mem_append_right _ h)) (by decide +kernel))
set_option maxRecDepth 20000 in
theorem gX4_panel_X4_requireLatitude : GoodIn wsX4_panel (va_wsS RX4 62 yX4_requireLatitude wsX4_requireLatitude) := goodIn_app (goodIn_of _ (by decide +kernel)) ggX4_panel_X4_requireLatitude
set_option maxRecDepth 20000 in
theorem ggX4_panel_X4_requireLongitude : GoodIn wsX4_panel wsX4_requireLongitude := goodIn_ca (goodIn_r _ [10, 6, 7] (by decide +kernel) (by decide +kernel)) (goodIn_sub (fun _ h => List.mem_cons_of_mem _ (List.mem_append_right _ h)) (by decide +kernel))
set_option maxRecDepth 20000 in
theorem gX4_panel_X4_requireLongitude : GoodIn wsX4_panel (va_wsS RX4 66 yX4_requireLongitude wsX4_requireLongitude) := goodIn_app (goodIn_of _ (by decide +kernel)) ggX4_panel_X4_requireLongitude
set_option maxRecDepth 20000 in
theorem ggX4_panel_X1_columnOf : GoodIn wsX4_panel wsX1_columnOf := goodIn_r _ [15, 16, 30, 31, 32, 33, 34, 35, 36] (by decide +kernel) (by decide +kernel)
set_option maxRecDepth 20000 in
theorem gX4_panel_X1_columnOf : GoodIn wsX4_panel (wsV RX4 155 RX1 yX1_columnOf wsX1_columnOf) := goodIn_app (goodIn_of _ (by decide +kernel)) ggX4_panel_X1_columnOf
set_option maxRecDepth 20000 in
theorem ggX4_panel_X1_rowOf : GoodIn wsX4_panel wsX1_rowOf := goodIn_r _ [20, 21, 22, 23, 24, 25, 30, 31, 32, 33, 34, 35, 36] (by decide +kernel) (by decide +kernel)
set_option maxRecDepth 20000 in
theorem gX4_panel_X1_rowOf : GoodIn wsX4_panel (wsV RX4 158 RX1 yX1_rowOf wsX1_rowOf) := goodIn_app (goodIn_of _ (by decide +kernel)) ggX4_panel_X1_rowOf
set_option maxRecDepth 20000 in
theorem ggX4_placeX_X4_requirePanel : GoodIn wsX4_placeX wsX4_requirePanel := goodIn_ca (goodIn_r _ [6, 7, 8, 1, 9, 10, 11, 12, 13, 14, 15, 26, 27, 28, 29, 30, 31, 32, 33, 34, 35, 36] (by decide +kernel) (by decide +kernel)) (goodIn_sub (fun _ h => List.mem_cons_of_mem _ (List.mem_append_right _ h)) (by decide +kernel))
set_option maxRecDepth 20000 in
theorem gX4_placeX_X4_requirePanel : GoodIn wsX4_placeX (wsV RX4 161 RX4 yX4_requirePanel wsX4_requirePanel) := goodIn_app (goodIn_of _ (by decide +kernel)) ggX4_placeX_X4_requirePanel
set_option maxRecDepth 20000 in
theorem ggX4_placeX_X1_columnPlace : GoodIn wsX4_placeX wsX1_columnPlace := goodIn_r _ [19, 20, 21, 10, 11, 12, 13, 14, 15, 22, 23, 24, 25, 30, 31, 32, 33, 34, 35, 36] (by decide +kernel) (by decide +kernel)
set_option maxRecDepth 20000 in
theorem gX4_placeX_X1_columnPlace : GoodIn wsX4_placeX (wsV RX4 164 RX1 yX1_columnPlace wsX1_columnPlace) := goodIn_app (goodIn_of _ (by decide +kernel)) ggX4_placeX_X1_columnPlace
set_option maxRecDepth 20000 in
theorem ggX4_placeY_X4_requirePanel : GoodIn wsX4_placeY wsX4_requirePanel := goodIn_ca (goodIn_r _ [6, 7, 8, 1, 9, 10, 11, 12, 13, 14, 15, 26, 27, 28, 29, 30, 31, 32, 33, 34, 35, 36] (by decide +kernel) (by decide +kernel)) (goodIn_sub (fun _ h => List.mem_cons_of_mem _ (List.mem_append_right _ h)) (by decide +kernel))
set_option maxRecDepth 20000 in
theorem gX4_placeY_X4_requirePanel : GoodIn wsX4_placeY (wsV RX4 161 RX4 yX4_requirePanel wsX4_requirePanel) := goodIn_app (goodIn_of _ (by decide +kernel)) ggX4_placeY_X4_requirePanel
set_option maxRecDepth 20000 in
theorem ggX4_placeY_X1_rowPlace : GoodIn wsX4_placeY wsX1_rowPlace := goodIn_r _ [19, 20, 21, 10, 11, 12, 13, 14, 15, 22, 23, 24, 25, 30, 31, 32, 33, 34, 35, 36] (by decide +kernel) (by decide +kernel)
set_option maxRecDepth 20000 in
theorem gX4_placeY_X1_rowPlace : GoodIn wsX4_placeY (wsV RX4 167 RX1 yX1_rowPlace wsX1_rowPlace) := goodIn_app (goodIn_of _ (by decide +kernel)) ggX4_placeY_X1_rowPlace
set_option maxRecDepth 20000 in
theorem ggX4_above_X4_requirePanel : GoodIn wsX4_above wsX4_requirePanel := goodIn_ca (goodIn_r _ [6, 7, 8, 1, 9, 10, 11, 12, 13, 14, 15, 36, 37, 38, 39, 40, 41, 42, 43, 44, 45, 46] (by decide +kernel) (by decide +kernel)) (goodIn_sub (fun _ h => List.mem_cons_of_mem _ (List.mem_append_right _ h)) (by decide +kernel))
set_option maxRecDepth 20000 in
theorem gX4_above_X4_requirePanel : GoodIn wsX4_above (wsV RX4 161 RX4 yX4_requirePanel wsX4_requirePanel) := goodIn_app (goodIn_of _ (by decide +kernel)) ggX4_above_X4_requirePanel
set_option maxRecDepth 20000 in
theorem ggX4_above_X1_panelsAbove : GoodIn wsX4_above wsX1_panelsAbove := goodIn_r _ [19, 20, 10, 11, 12, 13, 14, 15, 21, 22, 23, 24, 25, 26, 27, 28, 29, 30, 31, 32, 33, 34, 35, 40, 41, 42, 43, 44, 45, 46] (by decide +kernel) (by decide +kernel)
set_option maxRecDepth 20000 in
theorem gX4_above_X1_panelsAbove : GoodIn wsX4_above (wsV RX4 170 RX1 yX1_panelsAbove wsX1_panelsAbove) := goodIn_app (goodIn_of _ (by decide +kernel)) ggX4_above_X1_panelsAbove
set_option maxRecDepth 20000 in
theorem ggX4_isUp_X4_requirePanel : GoodIn wsX4_isUp wsX4_requirePanel := goodIn_ca (goodIn_r _ [6, 7, 8, 1, 9, 10, 11, 12, 13, 14, 15, 26, 27, 28, 29, 30, 31, 32, 33, 34, 35, 36] (by decide +kernel) (by decide +kernel)) (goodIn_sub (fun _ h => List.mem_cons_of_mem _ (List.mem_append_right _ h)) (by decide +kernel))
set_option maxRecDepth 20000 in
theorem gX4_isUp_X4_requirePanel : GoodIn wsX4_isUp (wsV RX4 161 RX4 yX4_requirePanel wsX4_requirePanel) := goodIn_app (goodIn_of _ (by decide +kernel)) ggX4_isUp_X4_requirePanel
set_option maxRecDepth 20000 in
theorem ggX4_isUp_X1_liesFaceUp : GoodIn wsX4_isUp wsX1_liesFaceUp := goodIn_r _ [19, 20, 21, 10, 11, 12, 13, 14, 15, 22, 23, 24, 25, 30, 31, 32, 33, 34, 35, 36] (by decide +kernel) (by decide +kernel)
set_option maxRecDepth 20000 in
theorem gX4_isUp_X1_liesFaceUp : GoodIn wsX4_isUp (wsV RX4 173 RX1 yX1_liesFaceUp wsX1_liesFaceUp) := goodIn_app (goodIn_of _ (by decide +kernel)) ggX4_isUp_X1_liesFaceUp
set_option maxRecDepth 20000 in
theorem ggX4_thickness_X1_mostPanels : GoodIn wsX4_thickness wsX1_mostPanels := goodIn_r _ [6, 7, 8, 9, 10, 11, 12, 13, 5, 14, 15, 16, 17, 18, 19, 20, 21, 22, 23, 28, 29, 30, 31, 32, 33, 34] (by decide +kernel) (by decide +kernel)
set_option maxRecDepth 20000 in
theorem gX4_thickness_X1_mostPanels : GoodIn wsX4_thickness (wsV RX4 176 RX1 yX1_mostPanels wsX1_mostPanels) := goodIn_app (goodIn_of _ (by decide +kernel)) ggX4_thickness_X1_mostPanels
set_option maxRecDepth 20000 in
theorem ggX4_readable_X1_readablePanels : GoodIn wsX4_readable wsX1_readablePanels := goodIn_r _ [6, 7, 8, 9, 10, 5, 11, 12, 13, 14, 15, 16, 17, 18, 19, 20, 25, 26, 27, 28, 29, 30, 31] (by decide +kernel) (by decide +kernel)
set_option maxRecDepth 20000 in
theorem gX4_readable_X1_readablePanels : GoodIn wsX4_readable (wsV RX4 179 RX1 yX1_readablePanels wsX1_readablePanels) := goodIn_app (goodIn_of _ (by decide +kernel)) ggX4_readable_X1_readablePanels
set_option maxRecDepth 20000 in
theorem ggX4_requirePanel_X1_hasPanel : GoodIn wsX4_requirePanel wsX1_hasPanel := goodIn_r _ [8, 9, 10, 15, 16, 17, 18, 19, 20, 21] (by decide +kernel) (by decide +kernel)
set_option maxRecDepth 20000 in
theorem gX4_requirePanel_X1_hasPanel : GoodIn wsX4_requirePanel (wsV RX4 188 RX1 yX1_hasPanel wsX1_hasPanel) := goodIn_app (goodIn_of _ (by decide +kernel)) ggX4_requirePanel_X1_hasPanel
set_option maxRecDepth 20000 in
theorem ggX4_goesEast_X4_degreesEast : GoodIn wsX4_goesEast wsX4_degreesEast := goodIn_r _ [4] (by decide +kernel) (by decide +kernel)
set_option maxRecDepth 20000 in
theorem gX4_goesEast_X4_degreesEast : GoodIn wsX4_goesEast (va_wsS RX4 195 yX4_degreesEast wsX4_degreesEast) := goodIn_app (goodIn_of _ (by decide +kernel)) ggX4_goesEast_X4_degreesEast
set_option maxRecDepth 20000 in
theorem ggX4_shorterWay_X4_degreesEast : GoodIn wsX4_shorterWay wsX4_degreesEast := goodIn_r _ [8] (by decide +kernel) (by decide +kernel)
set_option maxRecDepth 20000 in
theorem gX4_shorterWay_X4_degreesEast : GoodIn wsX4_shorterWay (va_wsS RX4 195 yX4_degreesEast wsX4_degreesEast) := goodIn_app (goodIn_of _ (by decide +kernel)) ggX4_shorterWay_X4_degreesEast
set_option maxRecDepth 20000 in
theorem ggL_wide_L_read : GoodIn wsL_wide wsL_read := goodIn_r _ [4] (by decide +kernel) (by decide +kernel)
set_option maxRecDepth 20000 in
theorem gL_wide_L_read : GoodIn wsL_wide (va_wsS RL 10 yL_read wsL_read) := goodIn_app (goodIn_of _ (by decide +kernel)) ggL_wide_L_read
set_option maxRecDepth 20000 in
theorem ggL_high_L_read : GoodIn wsL_high wsL_read := goodIn_r _ [4] (by decide +kernel) (by decide +kernel)
set_option maxRecDepth 20000 in
theorem gL_high_L_read : GoodIn wsL_high (va_wsS RL 10 yL_read wsL_read) := goodIn_app (goodIn_of _ (by decide +kernel)) ggL_high_L_read
set_option maxRecDepth 20000 in
theorem ggL_area_L_high : GoodIn wsL_area wsL_high := goodIn_r _ [4, 5, 6, 3, 7] (by decide +kernel) (by decide +kernel)
set_option maxRecDepth 20000 in
theorem gL_area_L_high : GoodIn wsL_area (va_wsS RL 16 yL_high wsL_high) := goodIn_app (goodIn_of _ (by decide +kernel)) ggL_area_L_high
set_option maxRecDepth 20000 in
theorem ggL_area_L_wide : GoodIn wsL_area wsL_wide := goodIn_r _ [10, 5, 6, 3, 7] (by decide +kernel) (by decide +kernel)
set_option maxRecDepth 20000 in
theorem gL_area_L_wide : GoodIn wsL_area (va_wsS RL 20 yL_wide wsL_wide) := goodIn_app (goodIn_of _ (by decide +kernel)) ggL_area_L_wide
set_option maxRecDepth 20000 in
theorem ggL_tabled_X4_table : GoodIn wsL_tabled wsX4_table := goodIn_ca (goodIn_ca (goodIn_ca (goodIn_r _ [8, 9, 10, 11, 12, 13, 14, 15, 16, 17, 18, 19, 20, 21, 22, 23, 24, 25, 26, 27, 28, 29, 30, 31, 32, 33, 34, 35] (by decide +kernel) (by decide +kernel)) (goodIn_sub (fun _ h => List.mem_cons_of_mem _ (List.mem_append_left _ (List.mem_append_left _ (List.mem_append_right _ h)))) (by decide +kernel))) (goodIn_sub (fun _ h => List.mem_cons_of_mem _ (List.mem_append_left _ (List.mem_append_right _ h))) (by decide +kernel))) (goodIn_sub (fun _ h => List.mem_cons_of_mem _ (List.mem_append_right _ h)) (by decide +kernel))
set_option maxRecDepth 20000 in
theorem gL_tabled_X4_table : GoodIn wsL_tabled (wsV RL 23 RX4 yX4_table wsX4_table) := goodIn_app (goodIn_of _ (by decide +kernel)) ggL_tabled_X4_table
set_option maxRecDepth 20000 in
theorem ggL_by_X4_x : GoodIn wsL_by wsX4_x := goodIn_ca (goodIn_r _ [7, 8, 9, 10, 6, 11, 12, 13, 14, 15, 16, 17, 18, 19, 20, 21, 22, 23, 24, 25, 26, 27, 28, 29, 30, 31, 32, 111, 112, 113, 114, 115, 116] (by decide +kernel) (by decide +kernel)) (goodIn_sub (fun _ h => List.mem_cons_of_mem _ (List.mem_append_right _ h)) (by decide +kernel))
set_option maxRecDepth 20000 in
theorem gL_by_X4_x : GoodIn wsL_by (wsV RL 35 RX4 yX4_x wsX4_x) := goodIn_app (goodIn_of _ (by decide +kernel)) ggL_by_X4_x
set_option maxRecDepth 20000 in
theorem ggL_by_X4_y : GoodIn wsL_by wsX4_y := goodIn_ca (goodIn_r _ [36, 8, 9, 10, 6, 11, 12, 13, 37, 38, 39, 20, 40, 41, 23, 24, 25, 26, 27, 28, 29, 30, 31, 32, 111, 112, 113, 114, 115, 116] (by decide +kernel) (by decide +kernel)) (goodIn_sub (fun _ h => List.mem_cons_of_mem _ (List.mem_append_right _ h)) (by decide +kernel))
set_option maxRecDepth 20000 in
theorem gL_by_X4_y : GoodIn wsL_by (wsV RL 39 RX4 yX4_y wsX4_y) := goodIn_app (goodIn_of _ (by decide +kernel)) ggL_by_X4_y
set_option maxRecDepth 20000 in
theorem ggL_by_X4_apart : GoodIn wsL_by wsX4_apart := goodIn_ca (goodIn_r _ [45, 14, 15, 6, 16, 12, 13, 46, 47, 48, 49, 50, 25, 51, 52, 53, 54] (by decide +kernel) (by decide +kernel)) (goodIn_sub (fun _ h => List.mem_cons_of_mem _ (List.mem_append_right _ h)) (by decide +kernel))
set_option maxRecDepth 20000 in
theorem gL_by_X4_apart : GoodIn wsL_by (wsV RL 43 RX4 yX4_apart wsX4_apart) := goodIn_app (goodIn_of _ (by decide +kernel)) ggL_by_X4_apart
set_option maxRecDepth 20000 in
theorem ggL_by_X4_ringWay : GoodIn wsL_by wsX4_ringWay := goodIn_ca (goodIn_r _ [58, 8, 9, 10, 6, 11, 12, 13, 14, 15, 16, 46, 47, 48, 49, 50, 25, 51, 52, 53, 54, 17, 18, 19, 20, 21, 22, 23, 24, 26, 27, 28, 29, 30, 31, 32, 111, 112, 113, 114, 115, 116] (by decide +kernel) (by decide +kernel)) (goodIn_sub (fun _ h => List.mem_cons_of_mem _ (List.mem_append_right _ h)) (by decide +kernel))
set_option maxRecDepth 20000 in
theorem gL_by_X4_ringWay : GoodIn wsL_by (wsV RL 46 RX4 yX4_ringWay wsX4_ringWay) := goodIn_app (goodIn_of _ (by decide +kernel)) ggL_by_X4_ringWay
set_option maxRecDepth 20000 in
theorem ggL_by_X4_zone : GoodIn wsL_by wsX4_zone := goodIn_ca (goodIn_r _ [62, 63, 14, 15, 6, 16, 12, 13, 64, 65, 66, 67, 68, 69, 111, 112, 113, 114, 117] (by decide +kernel) (by decide +kernel)) (goodIn_sub (fun _ h => List.mem_cons_of_mem _ (List.mem_append_right _ h)) (by decide +kernel))
set_option maxRecDepth 20000 in
theorem gL_by_X4_zone : GoodIn wsL_by (wsV RL 50 RX4 yX4_zone wsX4_zone) := goodIn_app (goodIn_of _ (by decide +kernel)) ggL_by_X4_zone
set_option maxRecDepth 20000 in
theorem ggL_by_X4_seams : GoodIn wsL_by wsX4_seams := goodIn_ca (goodIn_r _ [73, 63, 14, 15, 6, 16, 12, 13, 74, 75, 76, 52, 53, 54, 46, 47, 48, 49, 50, 25, 51, 77, 78, 79, 67, 80, 81, 65, 66, 68, 69, 111, 112, 113, 114, 117] (by decide +kernel) (by decide +kernel)) (goodIn_sub (fun _ h => List.mem_cons_of_mem _ (List.mem_append_right _ h)) (by decide +kernel))
set_option maxRecDepth 20000 in
theorem gL_by_X4_seams : GoodIn wsL_by (wsV RL 53 RX4 yX4_seams wsX4_seams) := goodIn_app (goodIn_of _ (by decide +kernel)) ggL_by_X4_seams
set_option maxRecDepth 20000 in
theorem ggL_by_X4_dateLine : GoodIn wsL_by wsX4_dateLine := goodIn_ca (goodIn_r _ [85, 14, 15, 6, 16, 12, 13, 74, 75, 76, 52, 53, 54] (by decide +kernel) (by decide +kernel)) (goodIn_sub (fun _ h => List.mem_cons_of_mem _ (List.mem_append_right _ h)) (by decide +kernel))
set_option maxRecDepth 20000 in
theorem gL_by_X4_dateLine : GoodIn wsL_by (wsV RL 56 RX4 yX4_dateLine wsX4_dateLine) := goodIn_app (goodIn_of _ (by decide +kernel)) ggL_by_X4_dateLine
set_option maxRecDepth 20000 in
theorem ggL_by_X4_panel : GoodIn wsL_by wsX4_panel := goodIn_ca (goodIn_r _ [89, 90, 9, 10, 6, 11, 12, 13, 14, 15, 16, 91, 92, 93, 94, 95, 96, 97, 98, 99, 100, 101, 102, 50, 25, 51, 111, 112, 113, 114, 118, 119, 120, 121, 122, 123, 124] (by decide +kernel) (by decide +kernel)) (goodIn_sub (fun _ h => List.mem_cons_of_mem _ (List.mem_append_right _ h)) (by decide +kernel))
set_option maxRecDepth 20000 in
theorem gL_by_X4_panel : GoodIn wsL_by (wsV RL 59 RX4 yX4_panel wsX4_panel) := goodIn_app (goodIn_of _ (by decide +kernel)) ggL_by_X4_panel
set_option maxRecDepth 20000 in
theorem ggL_by_X4_zones : GoodIn wsL_by wsX4_zones := goodIn_ca (goodIn_r _ [106, 12, 13, 63, 107, 108, 109, 67, 110, 69, 111, 112, 113, 114, 117] (by decide +kernel) (by decide +kernel)) (goodIn_sub (fun _ h => List.mem_cons_of_mem _ (List.mem_append_right _ h)) (by decide +kernel))
set_option maxRecDepth 20000 in
theorem gL_by_X4_zones : GoodIn wsL_by (wsV RL 62 RX4 yX4_zones wsX4_zones) := goodIn_app (goodIn_of _ (by decide +kernel)) ggL_by_X4_zones
set_option maxRecDepth 20000 in
theorem ggL_latitude_X4_latitudeAt : GoodIn wsL_latitude wsX4_latitudeAt := goodIn_ca (goodIn_ca (goodIn_r _ [7, 8, 9, 10, 11, 12, 13, 14, 15, 16, 17, 18, 19, 20, 21, 22, 23, 24, 25, 26, 27, 28, 29, 30, 31, 32, 33, 34, 35, 36, 37, 38, 39, 40] (by decide +kernel) (by decide +kernel)) (goodIn_sub (fun _ h => List.mem_cons_of_mem _ (List.mem_append_left _ (List.mem_append_right _ h))) (by decide +kernel))) (goodIn_sub (fun _ h => List.mem_cons_of_mem _ (List.mem_append_right _ h)) (by decide +kernel))
set_option maxRecDepth 20000 in
theorem gL_latitude_X4_latitudeAt : GoodIn wsL_latitude (wsV RL 66 RX4 yX4_latitudeAt wsX4_latitudeAt) := goodIn_app (goodIn_of _ (by decide +kernel)) ggL_latitude_X4_latitudeAt
set_option maxRecDepth 20000 in
theorem ggL_field_X4_areaByCells : GoodIn wsL_field wsX4_areaByCells := goodIn_ca (goodIn_r _ [7, 8, 9, 10, 6, 11, 12, 13, 14, 15, 16, 17, 18, 19, 20, 21, 22, 23, 24, 25, 26, 27, 28, 29, 30, 31, 32, 33, 34, 35, 36, 37, 38, 39, 40, 41, 42, 43, 45, 46, 47, 48, 49, 50] (by decide +kernel) (by decide +kernel)) (goodIn_sub (fun _ h => List.mem_cons_of_mem _ (List.mem_append_right _ h)) (by decide +kernel))
