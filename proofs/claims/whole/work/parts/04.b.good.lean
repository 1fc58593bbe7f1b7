set_option maxRecDepth 20000 in
theorem ggX4_ringWay_X4_requireLatitude : GoodIn wsX4_ringWay wsX4_requireLatitude := goodIn_ca (goodIn_r _ [5, 6, 7] (by decide +kernel) (by decide +kernel)) (goodIn_sub (fun _ h => List.mem_cons_of_mem _ (List.mem_append_right _ h)) (by decide +kernel))
set_option maxRecDepth 20000 in
theorem gX4_ringWay_X4_requireLatitude : GoodIn wsX4_ringWay (va_wsS RX4 62 yX4_requireLatitude wsX4_requireLatitude) := goodIn_app (goodIn_of _ (by decide +kernel)) ggX4_ringWay_X4_requireLatitude
set_option maxRecDepth 20000 in
theorem ggX4_ringWay_X4_requireLongitude : GoodIn wsX4_ringWay wsX4_requireLongitude := goodIn_ca (goodIn_r _ [10, 6, 7] (by decide +kernel) (by decide +kernel)) (goodIn_sub (fun _ h => List.mem_cons_of_mem _ (List.mem_append_right _ h)) (by decide +kernel))
set_option maxRecDepth 20000 in
theorem gX4_ringWay_X4_requireLongitude : GoodIn wsX4_ringWay (va_wsS RX4 66 yX4_requireLongitude wsX4_requireLongitude) := goodIn_app (goodIn_of _ (by decide +kernel)) ggX4_ringWay_X4_requireLongitude
set_option maxRecDepth 20000 in
theorem ggX4_ringWay_X4_shorterWay : GoodIn wsX4_ringWay wsX4_shorterWay := goodIn_r _ [13, 14, 15, 16, 17, 18, 19, 4, 20] (by decide +kernel) (by decide +kernel)
set_option maxRecDepth 20000 in
theorem gX4_ringWay_X4_shorterWay : GoodIn wsX4_ringWay (va_wsS RX4 119 yX4_shorterWay wsX4_shorterWay) := goodIn_app (goodIn_of _ (by decide +kernel)) ggX4_ringWay_X4_shorterWay
set_option maxRecDepth 20000 in
theorem ggX4_ringWay_X2_tenWidths : GoodIn wsX4_ringWay wsX2_tenWidths := goodIn_r _ [25, 26, 27, 28, 16, 29, 30, 31, 24, 32, 33, 34, 35, 40, 41] (by decide +kernel) (by decide +kernel)
set_option maxRecDepth 20000 in
theorem gX4_ringWay_X2_tenWidths : GoodIn wsX4_ringWay (wsV RX4 69 RX2 yX2_tenWidths wsX2_tenWidths) := goodIn_app (goodIn_of _ (by decide +kernel)) ggX4_ringWay_X2_tenWidths
set_option maxRecDepth 20000 in
theorem ggX4_zones_X3_replaceBreadth : GoodIn wsX4_zones wsX3_replaceBreadth := goodIn_r _ [8, 9, 14] (by decide +kernel) (by decide +kernel)
set_option maxRecDepth 20000 in
theorem gX4_zones_X3_replaceBreadth : GoodIn wsX4_zones (wsV RX4 124 RX3 yX3_replaceBreadth wsX3_replaceBreadth) := goodIn_app (goodIn_of _ (by decide +kernel)) ggX4_zones_X3_replaceBreadth
set_option maxRecDepth 20000 in
theorem ggX4_zone_X4_requireLongitude : GoodIn wsX4_zone wsX4_requireLongitude := goodIn_ca (goodIn_r _ [5, 6, 7] (by decide +kernel) (by decide +kernel)) (goodIn_sub (fun _ h => List.mem_cons_of_mem _ (List.mem_append_right _ h)) (by decide +kernel))
set_option maxRecDepth 20000 in
theorem gX4_zone_X4_requireLongitude : GoodIn wsX4_zone (va_wsS RX4 66 yX4_requireLongitude wsX4_requireLongitude) := goodIn_app (goodIn_of _ (by decide +kernel)) ggX4_zone_X4_requireLongitude
set_option maxRecDepth 20000 in
theorem ggX4_zone_X3_zonesBefore : GoodIn wsX4_zone wsX3_zonesBefore := goodIn_r _ [12, 13, 18] (by decide +kernel) (by decide +kernel)
set_option maxRecDepth 20000 in
theorem gX4_zone_X3_zonesBefore : GoodIn wsX4_zone (wsV RX4 127 RX3 yX3_zonesBefore wsX3_zonesBefore) := goodIn_app (goodIn_of _ (by decide +kernel)) ggX4_zone_X3_zonesBefore
set_option maxRecDepth 20000 in
theorem ggX4_seams_X4_requireLongitude : GoodIn wsX4_seams wsX4_requireLongitude := goodIn_ca (goodIn_r _ [5, 6, 7] (by decide +kernel) (by decide +kernel)) (goodIn_sub (fun _ h => List.mem_cons_of_mem _ (List.mem_append_right _ h)) (by decide +kernel))
set_option maxRecDepth 20000 in
theorem gX4_seams_X4_requireLongitude : GoodIn wsX4_seams (va_wsS RX4 66 yX4_requireLongitude wsX4_requireLongitude) := goodIn_app (goodIn_of _ (by decide +kernel)) ggX4_seams_X4_requireLongitude
set_option maxRecDepth 20000 in
theorem ggX4_seams_X4_goesEast : GoodIn wsX4_seams wsX4_goesEast := goodIn_r _ [10, 11, 12, 4, 13] (by decide +kernel) (by decide +kernel)
set_option maxRecDepth 20000 in
theorem gX4_seams_X4_goesEast : GoodIn wsX4_seams (va_wsS RX4 130 yX4_goesEast wsX4_goesEast) := goodIn_app (goodIn_of _ (by decide +kernel)) ggX4_seams_X4_goesEast
set_option maxRecDepth 20000 in
theorem ggX4_seams_X4_shorterWay : GoodIn wsX4_seams wsX4_shorterWay := goodIn_r _ [16, 17, 18, 19, 20, 11, 12, 4, 13] (by decide +kernel) (by decide +kernel)
set_option maxRecDepth 20000 in
theorem gX4_seams_X4_shorterWay : GoodIn wsX4_seams (va_wsS RX4 119 yX4_shorterWay wsX4_shorterWay) := goodIn_app (goodIn_of _ (by decide +kernel)) ggX4_seams_X4_shorterWay
set_option maxRecDepth 20000 in
theorem ggX4_seams_X3_seamsEastOf : GoodIn wsX4_seams wsX3_seamsEastOf := goodIn_r _ [25, 26, 27, 28, 24, 29, 30, 35] (by decide +kernel) (by decide +kernel)
set_option maxRecDepth 20000 in
theorem gX4_seams_X3_seamsEastOf : GoodIn wsX4_seams (wsV RX4 133 RX3 yX3_seamsEastOf wsX3_seamsEastOf) := goodIn_app (goodIn_of _ (by decide +kernel)) ggX4_seams_X3_seamsEastOf
set_option maxRecDepth 20000 in
theorem ggX4_dateLine_X4_requireLongitude : GoodIn wsX4_dateLine wsX4_requireLongitude := goodIn_ca (goodIn_r _ [4, 5, 6] (by decide +kernel) (by decide +kernel)) (goodIn_sub (fun _ h => List.mem_cons_of_mem _ (List.mem_append_right _ h)) (by decide +kernel))
set_option maxRecDepth 20000 in
theorem gX4_dateLine_X4_requireLongitude : GoodIn wsX4_dateLine (va_wsS RX4 66 yX4_requireLongitude wsX4_requireLongitude) := goodIn_app (goodIn_of _ (by decide +kernel)) ggX4_dateLine_X4_requireLongitude
set_option maxRecDepth 20000 in
theorem ggX4_dateLine_X4_goesEast : GoodIn wsX4_dateLine wsX4_goesEast := goodIn_r _ [9, 10, 11, 3, 12] (by decide +kernel) (by decide +kernel)
set_option maxRecDepth 20000 in
theorem gX4_dateLine_X4_goesEast : GoodIn wsX4_dateLine (va_wsS RX4 130 yX4_goesEast wsX4_goesEast) := goodIn_app (goodIn_of _ (by decide +kernel)) ggX4_dateLine_X4_goesEast
set_option maxRecDepth 20000 in
theorem ggX4_sheet_X1_layOut : GoodIn wsX4_sheet wsX1_layOut := goodIn_r _ [8, 9, 10, 11, 12, 13, 7, 14, 15, 16, 17, 18, 19, 20, 21, 22, 23, 28, 29, 30, 31, 32, 33, 34] (by decide +kernel) (by decide +kernel)
set_option maxRecDepth 20000 in
theorem gX4_sheet_X1_layOut : GoodIn wsX4_sheet (wsV RX4 138 RX1 yX1_layOut wsX1_layOut) := goodIn_app (goodIn_of _ (by decide +kernel)) ggX4_sheet_X1_layOut
set_option maxRecDepth 20000 in
theorem ggX4_foldColumns_X1_turnOverColumns : GoodIn wsX4_foldColumns wsX1_turnOverColumns := goodIn_r _ [6, 7, 8, 9, 10, 5, 11, 12, 13, 14, 15, 16, 17, 18, 19, 20, 21, 22, 23, 24, 25, 26, 27, 28, 29, 30, 31, 32, 43, 44, 45, 46, 47, 48, 49] (by decide +kernel) (by decide +kernel)
set_option maxRecDepth 20000 in
theorem gX4_foldColumns_X1_turnOverColumns : GoodIn wsX4_foldColumns (wsV RX4 142 RX1 yX1_turnOverColumns wsX1_turnOverColumns) := goodIn_app (goodIn_of _ (by decide +kernel)) ggX4_foldColumns_X1_turnOverColumns
set_option maxRecDepth 20000 in
theorem ggX4_foldColumns_X4_someTurned : GoodIn wsX4_foldColumns wsX4_someTurned := goodIn_ca (goodIn_r _ [36, 37, 38] (by decide +kernel) (by decide +kernel)) (goodIn_sub (fun _ h => List.mem_cons_of_mem _ (List.mem_append_right _ h)) (by decide +kernel))
set_option maxRecDepth 20000 in
theorem gX4_foldColumns_X4_someTurned : GoodIn wsX4_foldColumns (va_wsS RX4 145 yX4_someTurned wsX4_someTurned) := goodIn_app (goodIn_of _ (by decide +kernel)) ggX4_foldColumns_X4_someTurned
set_option maxRecDepth 20000 in
theorem ggX4_foldRows_X1_turnOverRows : GoodIn wsX4_foldRows wsX1_turnOverRows := goodIn_r _ [6, 7, 8, 9, 10, 5, 11, 12, 13, 14, 15, 16, 17, 18, 19, 20, 21, 22, 23, 24, 25, 26, 27, 28, 29, 30, 31, 32, 43, 44, 45, 46, 47, 48, 49] (by decide +kernel) (by decide +kernel)
set_option maxRecDepth 20000 in
theorem gX4_foldRows_X1_turnOverRows : GoodIn wsX4_foldRows (wsV RX4 148 RX1 yX1_turnOverRows wsX1_turnOverRows) := goodIn_app (goodIn_of _ (by decide +kernel)) ggX4_foldRows_X1_turnOverRows
set_option maxRecDepth 20000 in
theorem ggX4_foldRows_X4_someTurned : GoodIn wsX4_foldRows wsX4_someTurned := goodIn_ca (goodIn_r _ [36, 37, 38] (by decide +kernel) (by decide +kernel)) (goodIn_sub (fun _ h => List.mem_cons_of_mem _ (List.mem_append_right _ h)) (by decide +kernel))
set_option maxRecDepth 20000 in
theorem gX4_foldRows_X4_someTurned : GoodIn wsX4_foldRows (va_wsS RX4 145 yX4_someTurned wsX4_someTurned) := goodIn_app (goodIn_of _ (by decide +kernel)) ggX4_foldRows_X4_someTurned
set_option maxRecDepth 20000 in
theorem ggX4_unfold_X1_spread : GoodIn wsX4_unfold wsX1_spread := goodIn_r _ [6, 7, 8, 9, 10, 11, 12, 13, 14, 15, 16, 5, 17, 22, 23, 24, 25, 26, 27, 28] (by decide +kernel) (by decide +kernel)
set_option maxRecDepth 20000 in
theorem gX4_unfold_X1_spread : GoodIn wsX4_unfold (wsV RX4 151 RX1 yX1_spread wsX1_spread) := goodIn_app (goodIn_of _ (by decide +kernel)) ggX4_unfold_X1_spread
set_option maxRecDepth 20000 in
theorem ggX4_panel_X4_requireLatitude : GoodIn wsX4_panel wsX4_requireLatitude := goodIn_ca (goodIn_r _ [5, 6, 7] (by decide +kernel) (by decide +kernel)) (goodIn_sub (fun _ h => List.mem_cons_of_mem _ (List.mem_append_right _ h)) (by decide +kernel))
set_option maxRecDepth 20000 in
theorem gX4_panel_X4_requireLatitude : GoodIn wsX4_panel (va_wsS RX4 62 yX4_requireLatitude wsX4_requireLatitude) := goodIn_app (goodIn_of _ (by decide +kernel)) ggX4_panel_X4_requireLatitude
set_option maxRecDepth 20000 in
theorem ggX4_panel_X4_requireLongitude : GoodIn wsX4_panel wsX4_requireLongitude := goodIn_ca (goodIn_r _ [10, 6, 7] (by decide +kernel) (by decide +kernel)) (goodIn_sub (fun _ h => List.mem_cons_of_mem _ (List.mem_append_right _ h)) (by decide +kernel))
set_option maxRecDepth 20000 in
theorem gX4_panel_X4_requireLongitude : GoodIn wsX4_panel (va_wsS RX4 66 yX4_requireLongitude wsX4_requireLongitude) := goodIn_app (goodIn_of _ (by decide +kernel)) ggX4_panel_X4_requireLongitude
set_option maxRecDepth 20000 in
theorem ggX4_panel_X1_columnOf : GoodIn wsX4_panel wsX1_columnOf := goodIn_r _ [15, 16, 30, 31, 32, 33, 34, 35, 36] (by decide +kernel) (by decide +kernel)
set_option maxRecDepth 20000 in
theorem gX4_panel_X1_columnOf : GoodIn wsX4_panel (wsV RX4 155 RX1 yX1_columnOf wsX1_columnOf) := goodIn_app (goodIn_of _ (by decide +kernel)) ggX4_panel_X1_columnOf
set_option maxRecDepth 20000 in
theorem ggX4_panel_X1_rowOf : GoodIn wsX4_panel wsX1_rowOf := goodIn_r _ [20, 21, 22, 23, 24, 25, 30, 31, 32, 33, 34, 35, 36] (by decide +kernel) (by decide +kernel)
set_option maxRecDepth 20000 in
theorem gX4_panel_X1_rowOf : GoodIn wsX4_panel (wsV RX4 158 RX1 yX1_rowOf wsX1_rowOf) := goodIn_app (goodIn_of _ (by decide +kernel)) ggX4_panel_X1_rowOf
set_option maxRecDepth 20000 in
theorem ggX4_placeX_X4_requirePanel : GoodIn wsX4_placeX wsX4_requirePanel := goodIn_ca (goodIn_r _ [6, 7, 8, 1, 9, 10, 11, 12, 13, 14, 15, 26, 27, 28, 29, 30, 31, 32, 33, 34, 35, 36] (by decide +kernel) (by decide +kernel)) (goodIn_sub (fun _ h => List.mem_cons_of_mem _ (List.mem_append_right _ h)) (by decide +kernel))
set_option maxRecDepth 20000 in
theorem gX4_placeX_X4_requirePanel : GoodIn wsX4_placeX (wsV RX4 161 RX4 yX4_requirePanel wsX4_requirePanel) := goodIn_app (goodIn_of _ (by decide +kernel)) ggX4_placeX_X4_requirePanel
set_option maxRecDepth 20000 in
theorem ggX4_placeX_X1_columnPlace : GoodIn wsX4_placeX wsX1_columnPlace := goodIn_r _ [19, 20, 21, 10, 11, 12, 13, 14, 15, 22, 23, 24, 25, 30, 31, 32, 33, 34, 35, 36] (by decide +kernel) (by decide +kernel)
set_option maxRecDepth 20000 in
theorem gX4_placeX_X1_columnPlace : GoodIn wsX4_placeX (wsV RX4 164 RX1 yX1_columnPlace wsX1_columnPlace) := goodIn_app (goodIn_of _ (by decide +kernel)) ggX4_placeX_X1_columnPlace
set_option maxRecDepth 20000 in
theorem ggX4_placeY_X4_requirePanel : GoodIn wsX4_placeY wsX4_requirePanel := goodIn_ca (goodIn_r _ [6, 7, 8, 1, 9, 10, 11, 12, 13, 14, 15, 26, 27, 28, 29, 30, 31, 32, 33, 34, 35, 36] (by decide +kernel) (by decide +kernel)) (goodIn_sub (fun _ h => List.mem_cons_of_mem _ (List.mem_append_right _ h)) (by decide +kernel))
set_option maxRecDepth 20000 in
theorem gX4_placeY_X4_requirePanel : GoodIn wsX4_placeY (wsV RX4 161 RX4 yX4_requirePanel wsX4_requirePanel) := goodIn_app (goodIn_of _ (by decide +kernel)) ggX4_placeY_X4_requirePanel
set_option maxRecDepth 20000 in
theorem ggX4_placeY_X1_rowPlace : GoodIn wsX4_placeY wsX1_rowPlace := goodIn_r _ [19, 20, 21, 10, 11, 12, 13, 14, 15, 22, 23, 24, 25, 30, 31, 32, 33, 34, 35, 36] (by decide +kernel) (by decide +kernel)
set_option maxRecDepth 20000 in
theorem gX4_placeY_X1_rowPlace : GoodIn wsX4_placeY (wsV RX4 167 RX1 yX1_rowPlace wsX1_rowPlace) := goodIn_app (goodIn_of _ (by decide +kernel)) ggX4_placeY_X1_rowPlace
set_option maxRecDepth 20000 in
theorem ggX4_above_X4_requirePanel : GoodIn wsX4_above wsX4_requirePanel := goodIn_ca (goodIn_r _ [6, 7, 8, 1, 9, 10, 11, 12, 13, 14, 15, 36, 37, 38, 39, 40, 41, 42, 43, 44, 45, 46] (by decide +kernel) (by decide +kernel)) (goodIn_sub (fun _ h => List.mem_cons_of_mem _ (List.mem_append_right _ h)) (by decide +kernel))
set_option maxRecDepth 20000 in
theorem gX4_above_X4_requirePanel : GoodIn wsX4_above (wsV RX4 161 RX4 yX4_requirePanel wsX4_requirePanel) := goodIn_app (goodIn_of _ (by decide +kernel)) ggX4_above_X4_requirePanel
set_option maxRecDepth 20000 in
theorem ggX4_above_X1_panelsAbove : GoodIn wsX4_above wsX1_panelsAbove := goodIn_r _ [19, 20, 10, 11, 12, 13, 14, 15, 21, 22, 23, 24, 25, 26, 27, 28, 29, 30, 31, 32, 33, 34, 35, 40, 41, 42, 43, 44, 45, 46] (by decide +kernel) (by decide +kernel)
set_option maxRecDepth 20000 in
theorem gX4_above_X1_panelsAbove : GoodIn wsX4_above (wsV RX4 170 RX1 yX1_panelsAbove wsX1_panelsAbove) := goodIn_app (goodIn_of _ (by decide +kernel)) ggX4_above_X1_panelsAbove
set_option maxRecDepth 20000 in
theorem ggX4_isUp_X4_requirePanel : GoodIn wsX4_isUp wsX4_requirePanel := goodIn_ca (goodIn_r _ [6, 7, 8, 1, 9, 10, 11, 12, 13, 14, 15, 26, 27, 28, 29, 30, 31, 32, 33, 34, 35, 36] (by decide +kernel) (by decide +kernel)) (goodIn_sub (fun _ h => List.mem_cons_of_mem _ (List.mem_append_right _ h)) (by decide +kernel))
set_option maxRecDepth 20000 in
theorem gX4_isUp_X4_requirePanel : GoodIn wsX4_isUp (wsV RX4 161 RX4 yX4_requirePanel wsX4_requirePanel) := goodIn_app (goodIn_of _ (by decide +kernel)) ggX4_isUp_X4_requirePanel
set_option maxRecDepth 20000 in
theorem ggX4_isUp_X1_liesFaceUp : GoodIn wsX4_isUp wsX1_liesFaceUp := goodIn_r _ [19, 20, 21, 10, 11, 12, 13, 14, 15, 22, 23, 24, 25, 30, 31, 32, 33, 34, 35, 36] (by decide +kernel) (by decide +kernel)
set_option maxRecDepth 20000 in
theorem gX4_isUp_X1_liesFaceUp : GoodIn wsX4_isUp (wsV RX4 173 RX1 yX1_liesFaceUp wsX1_liesFaceUp) := goodIn_app (goodIn_of _ (by decide +kernel)) ggX4_isUp_X1_liesFaceUp
set_option maxRecDepth 20000 in
theorem ggX4_thickness_X1_mostPanels : GoodIn wsX4_thickness wsX1_mostPanels := goodIn_r _ [6, 7, 8, 9, 10, 11, 12, 13, 5, 14, 15, 16, 17, 18, 19, 20, 21, 22, 23, 28, 29, 30, 31, 32, 33, 34] (by decide +kernel) (by decide +kernel)
set_option maxRecDepth 20000 in
theorem gX4_thickness_X1_mostPanels : GoodIn wsX4_thickness (wsV RX4 176 RX1 yX1_mostPanels wsX1_mostPanels) := goodIn_app (goodIn_of _ (by decide +kernel)) ggX4_thickness_X1_mostPanels
set_option maxRecDepth 20000 in
theorem ggX4_readable_X1_readablePanels : GoodIn wsX4_readable wsX1_readablePanels := goodIn_r _ [6, 7, 8, 9, 10, 5, 11, 12, 13, 14, 15, 16, 17, 18, 19, 20, 25, 26, 27, 28, 29, 30, 31] (by decide +kernel) (by decide +kernel)
set_option maxRecDepth 20000 in
theorem gX4_readable_X1_readablePanels : GoodIn wsX4_readable (wsV RX4 179 RX1 yX1_readablePanels wsX1_readablePanels) := goodIn_app (goodIn_of _ (by decide +kernel)) ggX4_readable_X1_readablePanels
set_option maxRecDepth 20000 in
theorem ggX4_requirePanel_X1_hasPanel : GoodIn wsX4_requirePanel wsX1_hasPanel := goodIn_r _ [8, 9, 10, 15, 16, 17, 18, 19, 20, 21] (by decide +kernel) (by decide +kernel)
set_option maxRecDepth 20000 in
theorem gX4_requirePanel_X1_hasPanel : GoodIn wsX4_requirePanel (wsV RX4 188 RX1 yX1_hasPanel wsX1_hasPanel) := goodIn_app (goodIn_of _ (by decide +kernel)) ggX4_requirePanel_X1_hasPanel
set_option maxRecDepth 20000 in
theorem ggX4_goesEast_X4_degreesEast : GoodIn wsX4_goesEast wsX4_degreesEast := goodIn_r _ [4] (by decide +kernel) (by decide +kernel)
set_option maxRecDepth 20000 in
theorem gX4_goesEast_X4_degreesEast : GoodIn wsX4_goesEast (va_wsS RX4 195 yX4_degreesEast wsX4_degreesEast) := goodIn_app (goodIn_of _ (by decide +kernel)) ggX4_goesEast_X4_degreesEast
set_option maxRecDepth 20000 in
theorem ggX4_shorterWay_X4_degreesEast : GoodIn wsX4_shorterWay wsX4_degreesEast := goodIn_r _ [8] (by decide +kernel) (by decide +kernel)
set_option maxRecDepth 20000 in
theorem gX4_shorterWay_X4_degreesEast : GoodIn wsX4_shorterWay (va_wsS RX4 195 yX4_degreesEast wsX4_degreesEast) := goodIn_app (goodIn_of _ (by decide +kernel)) ggX4_shorterWay_X4_degreesEast
set_option maxRecDepth 20000 in
theorem ggX5_init_X5_lay : GoodIn wsX5_init wsX5_lay := goodIn_r _ [20, 21, 9, 10, 11, 13, 22, 23, 24, 25, 26, 27, 28, 29, 30, 31, 32, 33] (by decide +kernel) (by decide +kernel)
set_option maxRecDepth 20000 in
theorem gX5_init_X5_lay : GoodIn wsX5_init (wsV RX5 42 RX5 yX5_lay wsX5_lay) := goodIn_app (goodIn_of _ (by decide +kernel)) ggX5_init_X5_lay
set_option maxRecDepth 20000 in
theorem ggX5_table_X5_mayAll : GoodIn wsX5_table wsX5_mayAll := goodIn_r _ [7, 8, 9, 10, 11, 12, 13, 14, 15, 16, 17, 18, 19, 20] (by decide +kernel) (by decide +kernel)
set_option maxRecDepth 20000 in
theorem gX5_table_X5_mayAll : GoodIn wsX5_table (wsV RX5 48 RX5 yX5_mayAll wsX5_mayAll) := goodIn_app (goodIn_of _ (by decide +kernel)) ggX5_table_X5_mayAll
set_option maxRecDepth 20000 in
theorem ggX5_x_X5_isLatitude : GoodIn wsX5_x wsX5_isLatitude := goodIn_r _ [4] (by decide +kernel) (by decide +kernel)
set_option maxRecDepth 20000 in
theorem gX5_x_X5_isLatitude : GoodIn wsX5_x (va_wsS RX5 52 yX5_isLatitude wsX5_isLatitude) := goodIn_app (goodIn_of _ (by decide +kernel)) ggX5_x_X5_isLatitude
set_option maxRecDepth 20000 in
theorem ggX5_x_X5_isLongitude : GoodIn wsX5_x wsX5_isLongitude := goodIn_r _ [7] (by decide +kernel) (by decide +kernel)
set_option maxRecDepth 20000 in
theorem gX5_x_X5_isLongitude : GoodIn wsX5_x (va_wsS RX5 56 yX5_isLongitude wsX5_isLongitude) := goodIn_app (goodIn_of _ (by decide +kernel)) ggX5_x_X5_isLongitude
set_option maxRecDepth 20000 in
theorem ggX5_x_X5_may : GoodIn wsX5_x wsX5_may := goodIn_r _ [11, 12, 18, 19, 20, 21, 22, 23, 24, 25, 26, 27, 28, 29] (by decide +kernel) (by decide +kernel)
set_option maxRecDepth 20000 in
theorem gX5_x_X5_may : GoodIn wsX5_x (wsV RX5 59 RX5 yX5_may wsX5_may) := goodIn_app (goodIn_of _ (by decide +kernel)) ggX5_x_X5_may
set_option maxRecDepth 20000 in
theorem ggX5_x_X5_wide : GoodIn wsX5_x wsX5_wide := goodIn_r _ [16, 17, 18, 19, 20, 21, 22, 23, 24, 25, 26, 27, 28, 29] (by decide +kernel) (by decide +kernel)
set_option maxRecDepth 20000 in
theorem gX5_x_X5_wide : GoodIn wsX5_x (wsV RX5 63 RX5 yX5_wide wsX5_wide) := goodIn_app (goodIn_of _ (by decide +kernel)) ggX5_x_X5_wide
set_option maxRecDepth 20000 in
theorem ggX5_y_X5_isLatitude : GoodIn wsX5_y wsX5_isLatitude := goodIn_r _ [4] (by decide +kernel) (by decide +kernel)
set_option maxRecDepth 20000 in
theorem gX5_y_X5_isLatitude : GoodIn wsX5_y (va_wsS RX5 52 yX5_isLatitude wsX5_isLatitude) := goodIn_app (goodIn_of _ (by decide +kernel)) ggX5_y_X5_isLatitude
set_option maxRecDepth 20000 in
theorem ggX5_y_X5_may : GoodIn wsX5_y wsX5_may := goodIn_r _ [8, 9, 15, 16, 17, 18, 19, 20, 21, 22, 23, 24, 25, 26] (by decide +kernel) (by decide +kernel)
set_option maxRecDepth 20000 in
theorem gX5_y_X5_may : GoodIn wsX5_y (wsV RX5 59 RX5 yX5_may wsX5_may) := goodIn_app (goodIn_of _ (by decide +kernel)) ggX5_y_X5_may
set_option maxRecDepth 20000 in
theorem ggX5_y_X5_high : GoodIn wsX5_y wsX5_high := goodIn_r _ [13, 14, 15, 16, 17, 18, 19, 20, 21, 22, 23, 24, 25, 26] (by decide +kernel) (by decide +kernel)
set_option maxRecDepth 20000 in
theorem gX5_y_X5_high : GoodIn wsX5_y (wsV RX5 67 RX5 yX5_high wsX5_high) := goodIn_app (goodIn_of _ (by decide +kernel)) ggX5_y_X5_high
set_option maxRecDepth 20000 in
theorem ggX5_latitudeAt_X5_high : GoodIn wsX5_latitudeAt wsX5_high := goodIn_r _ [7, 8, 14, 15, 16, 17, 18, 19, 20, 21, 22, 23, 24, 25] (by decide +kernel) (by decide +kernel)
set_option maxRecDepth 20000 in
theorem gX5_latitudeAt_X5_high : GoodIn wsX5_latitudeAt (wsV RX5 67 RX5 yX5_high wsX5_high) := goodIn_app (goodIn_of _ (by decide +kernel)) ggX5_latitudeAt_X5_high
set_option maxRecDepth 20000 in
theorem ggX5_latitudeAt_X5_mayBoth : GoodIn wsX5_latitudeAt wsX5_mayBoth := goodIn_r _ [12, 13, 14, 15, 16, 17, 18, 19, 20, 21, 22, 23, 24, 25] (by decide +kernel) (by decide +kernel)
set_option maxRecDepth 20000 in
theorem gX5_latitudeAt_X5_mayBoth : GoodIn wsX5_latitudeAt (wsV RX5 72 RX5 yX5_mayBoth wsX5_mayBoth) := goodIn_app (goodIn_of _ (by decide +kernel)) ggX5_latitudeAt_X5_mayBoth
set_option maxRecDepth 20000 in
theorem ggX5_areaOf_X5_wide : GoodIn wsX5_areaOf wsX5_wide := goodIn_r _ [5, 6, 12, 13, 14, 15, 16, 17, 18, 19, 20, 21, 22, 23] (by decide +kernel) (by decide +kernel)
set_option maxRecDepth 20000 in
theorem gX5_areaOf_X5_wide : GoodIn wsX5_areaOf (wsV RX5 63 RX5 yX5_wide wsX5_wide) := goodIn_app (goodIn_of _ (by decide +kernel)) ggX5_areaOf_X5_wide
set_option maxRecDepth 20000 in
theorem ggX5_areaOf_X5_high : GoodIn wsX5_areaOf wsX5_high := goodIn_r _ [10, 11, 12, 13, 14, 15, 16, 17, 18, 19, 20, 21, 22, 23] (by decide +kernel) (by decide +kernel)
set_option maxRecDepth 20000 in
theorem gX5_areaOf_X5_high : GoodIn wsX5_areaOf (wsV RX5 67 RX5 yX5_high wsX5_high) := goodIn_app (goodIn_of _ (by decide +kernel)) ggX5_areaOf_X5_high
set_option maxRecDepth 20000 in
theorem ggX5_area_X5_isLatitude : GoodIn wsX5_area wsX5_isLatitude := goodIn_r _ [4] (by decide +kernel) (by decide +kernel)
set_option maxRecDepth 20000 in
theorem gX5_area_X5_isLatitude : GoodIn wsX5_area (va_wsS RX5 52 yX5_isLatitude wsX5_isLatitude) := goodIn_app (goodIn_of _ (by decide +kernel)) ggX5_area_X5_isLatitude
set_option maxRecDepth 20000 in
theorem ggX5_area_X5_may : GoodIn wsX5_area wsX5_may := goodIn_r _ [8, 9, 24, 25, 26, 27, 28, 29, 30, 31, 32, 33, 34, 35] (by decide +kernel) (by decide +kernel)
set_option maxRecDepth 20000 in
theorem gX5_area_X5_may : GoodIn wsX5_area (wsV RX5 59 RX5 yX5_may wsX5_may) := goodIn_app (goodIn_of _ (by decide +kernel)) ggX5_area_X5_may
set_option maxRecDepth 20000 in
theorem ggX5_area_X5_areaOf : GoodIn wsX5_area wsX5_areaOf := goodIn_r _ [13, 14, 15, 16, 3, 17, 18, 19, 20, 21, 22, 23, 24, 25, 26, 27, 28, 29, 30, 31, 32, 33, 34, 35] (by decide +kernel) (by decide +kernel)
set_option maxRecDepth 20000 in
theorem gX5_area_X5_areaOf : GoodIn wsX5_area (wsV RX5 76 RX5 yX5_areaOf wsX5_areaOf) := goodIn_app (goodIn_of _ (by decide +kernel)) ggX5_area_X5_areaOf
set_option maxRecDepth 20000 in
theorem ggX5_areaByCells_X5_area : GoodIn wsX5_areaByCells wsX5_area := goodIn_r _ [5, 6, 7, 4, 8, 9, 10, 11, 12, 13, 14, 15, 16, 17, 18, 19, 20, 21, 22, 23, 24, 25, 26, 27, 28, 29, 30, 31, 32, 33, 34, 35, 36, 37, 38, 39] (by decide +kernel) (by decide +kernel)
set_option maxRecDepth 20000 in
theorem gX5_areaByCells_X5_area : GoodIn wsX5_areaByCells (wsV RX5 80 RX5 yX5_area wsX5_area) := goodIn_app (goodIn_of _ (by decide +kernel)) ggX5_areaByCells_X5_area
set_option maxRecDepth 20000 in
theorem ggX5_bandOf_X5_areaOf : GoodIn wsX5_bandOf wsX5_areaOf := goodIn_r _ [5, 6, 7, 8, 4, 9, 10, 11, 12, 13, 14, 15, 16, 17, 18, 19, 20, 21, 22, 23, 24, 25, 26, 27] (by decide +kernel) (by decide +kernel)
set_option maxRecDepth 20000 in
theorem gX5_bandOf_X5_areaOf : GoodIn wsX5_bandOf (wsV RX5 76 RX5 yX5_areaOf wsX5_areaOf) := goodIn_app (goodIn_of _ (by decide +kernel)) ggX5_bandOf_X5_areaOf
set_option maxRecDepth 20000 in
theorem ggX5_truth_X5_isBand : GoodIn wsX5_truth wsX5_isBand := goodIn_r _ [6] (by decide +kernel) (by decide +kernel)
set_option maxRecDepth 20000 in
theorem gX5_truth_X5_isBand : GoodIn wsX5_truth (va_wsS RX5 84 yX5_isBand wsX5_isBand) := goodIn_app (goodIn_of _ (by decide +kernel)) ggX5_truth_X5_isBand
set_option maxRecDepth 20000 in
theorem ggX5_truth_X5_mayBoth : GoodIn wsX5_truth wsX5_mayBoth := goodIn_r _ [10, 11, 12, 13, 14, 15, 16, 17, 18, 19, 20, 21, 22, 23] (by decide +kernel) (by decide +kernel)
set_option maxRecDepth 20000 in
theorem gX5_truth_X5_mayBoth : GoodIn wsX5_truth (wsV RX5 72 RX5 yX5_mayBoth wsX5_mayBoth) := goodIn_app (goodIn_of _ (by decide +kernel)) ggX5_truth_X5_mayBoth
set_option maxRecDepth 20000 in
theorem ggX5_keepsAreas_X5_bandOf : GoodIn wsX5_keepsAreas wsX5_bandOf := goodIn_r _ [7, 8, 9, 10, 6, 11, 12, 13, 14, 15, 16, 17, 18, 19, 20, 21, 22, 23, 24, 25, 26, 27, 28, 29, 30, 31, 32, 33] (by decide +kernel) (by decide +kernel)
set_option maxRecDepth 20000 in
theorem gX5_keepsAreas_X5_bandOf : GoodIn wsX5_keepsAreas (wsV RX5 88 RX5 yX5_bandOf wsX5_bandOf) := goodIn_app (goodIn_of _ (by decide +kernel)) ggX5_keepsAreas_X5_bandOf
set_option maxRecDepth 20000 in
theorem ggX5_widest_X5_bandOf : GoodIn wsX5_widest wsX5_bandOf := goodIn_r _ [7, 8, 9, 10, 6, 11, 12, 13, 14, 15, 16, 17, 18, 19, 20, 21, 22, 23, 24, 25, 26, 27, 28, 29, 30, 31, 32, 33] (by decide +kernel) (by decide +kernel)
set_option maxRecDepth 20000 in
theorem gX5_widest_X5_bandOf : GoodIn wsX5_widest (wsV RX5 88 RX5 yX5_bandOf wsX5_bandOf) := goodIn_app (goodIn_of _ (by decide +kernel)) ggX5_widest_X5_bandOf
set_option maxRecDepth 20000 in
theorem ggX5_stretch_X5_isBand : GoodIn wsX5_stretch wsX5_isBand := goodIn_r _ [5] (by decide +kernel) (by decide +kernel)
set_option maxRecDepth 20000 in
theorem gX5_stretch_X5_isBand : GoodIn wsX5_stretch (va_wsS RX5 84 yX5_isBand wsX5_isBand) := goodIn_app (goodIn_of _ (by decide +kernel)) ggX5_stretch_X5_isBand
set_option maxRecDepth 20000 in
theorem ggX5_stretch_X5_may : GoodIn wsX5_stretch wsX5_may := goodIn_r _ [9, 10, 29, 30, 31, 32, 33, 34, 35, 36, 37, 38, 39, 40] (by decide +kernel) (by decide +kernel)
set_option maxRecDepth 20000 in
theorem gX5_stretch_X5_may : GoodIn wsX5_stretch (wsV RX5 59 RX5 yX5_may wsX5_may) := goodIn_app (goodIn_of _ (by decide +kernel)) ggX5_stretch_X5_may
set_option maxRecDepth 20000 in
theorem ggX5_stretch_X5_bandOf : GoodIn wsX5_stretch wsX5_bandOf := goodIn_r _ [14, 15, 16, 17, 4, 18, 19, 20, 21, 22, 23, 24, 25, 26, 27, 28, 29, 30, 31, 32, 33, 34, 35, 36, 37, 38, 39, 40] (by decide +kernel) (by decide +kernel)
set_option maxRecDepth 20000 in
theorem gX5_stretch_X5_bandOf : GoodIn wsX5_stretch (wsV RX5 88 RX5 yX5_bandOf wsX5_bandOf) := goodIn_app (goodIn_of _ (by decide +kernel)) ggX5_stretch_X5_bandOf
set_option maxRecDepth 20000 in
theorem ggX5_shorter_X5_east : GoodIn wsX5_shorter wsX5_east := goodIn_r _ [4] (by decide +kernel) (by decide +kernel)
set_option maxRecDepth 20000 in
theorem gX5_shorter_X5_east : GoodIn wsX5_shorter (va_wsS RX5 92 yX5_east wsX5_east) := goodIn_app (goodIn_of _ (by decide +kernel)) ggX5_shorter_X5_east
set_option maxRecDepth 20000 in
theorem ggX5_apart_X5_isLongitude : GoodIn wsX5_apart wsX5_isLongitude := goodIn_r _ [4] (by decide +kernel) (by decide +kernel)
set_option maxRecDepth 20000 in
theorem gX5_apart_X5_isLongitude : GoodIn wsX5_apart (va_wsS RX5 56 yX5_isLongitude wsX5_isLongitude) := goodIn_app (goodIn_of _ (by decide +kernel)) ggX5_apart_X5_isLongitude
set_option maxRecDepth 20000 in
theorem ggX5_apart_X5_may : GoodIn wsX5_apart wsX5_may := goodIn_r _ [8, 9, 16, 17, 18, 19, 20, 21, 22, 23, 24, 25, 26, 27] (by decide +kernel) (by decide +kernel)
set_option maxRecDepth 20000 in
theorem gX5_apart_X5_may : GoodIn wsX5_apart (wsV RX5 59 RX5 yX5_may wsX5_may) := goodIn_app (goodIn_of _ (by decide +kernel)) ggX5_apart_X5_may
