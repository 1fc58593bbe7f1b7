set_option maxRecDepth 20000 in
theorem gX2_cellArea_X2_tenHeights : GoodIn wsX2_cellArea (wsV RX2 31 RX2 yX2_tenHeights wsX2_tenHeights) := goodIn_app (goodIn_of _ (by decide +kernel)) ggX2_cellArea_X2_tenHeights
set_option maxRecDepth 20000 in
theorem ggX2_bandArea_X2_valueAt : GoodIn wsX2_bandArea wsX2_valueAt := goodIn_r _ [7] (by decide +kernel) (by decide +kernel)
set_option maxRecDepth 20000 in
theorem gX2_bandArea_X2_valueAt : GoodIn wsX2_bandArea (va_wsS RX2 18 yX2_valueAt wsX2_valueAt) := goodIn_app (goodIn_of _ (by decide +kernel)) ggX2_bandArea_X2_valueAt
set_option maxRecDepth 20000 in
theorem ggX2_tenTimesAt_X2_valueAt : GoodIn wsX2_tenTimesAt wsX2_valueAt := goodIn_r _ [4] (by decide +kernel) (by decide +kernel)
set_option maxRecDepth 20000 in
theorem gX2_tenTimesAt_X2_valueAt : GoodIn wsX2_tenTimesAt (va_wsS RX2 18 yX2_valueAt wsX2_valueAt) := goodIn_app (goodIn_of _ (by decide +kernel)) ggX2_tenTimesAt_X2_valueAt
set_option maxRecDepth 20000 in
theorem ggX3_seamsEastOf_X3_zonesBefore : GoodIn wsX3_seamsEastOf wsX3_zonesBefore := goodIn_r _ [5, 6, 7] (by decide +kernel) (by decide +kernel)
set_option maxRecDepth 20000 in
theorem gX3_seamsEastOf_X3_zonesBefore : GoodIn wsX3_seamsEastOf (wsV RX3 15 RX3 yX3_zonesBefore wsX3_zonesBefore) := goodIn_app (goodIn_of _ (by decide +kernel)) ggX3_seamsEastOf_X3_zonesBefore
set_option maxRecDepth 20000 in
theorem ggX4_init_X2_init : GoodIn wsX4_init wsX2_init := goodIn_r _ [22, 23, 2, 3, 24, 25, 26, 61, 62] (by decide +kernel) (by decide +kernel)
set_option maxRecDepth 20000 in
theorem gX4_init_X2_init : GoodIn wsX4_init (wsX2_init) := ggX4_init_X2_init
set_option maxRecDepth 20000 in
theorem ggX4_init_X0_init : GoodIn wsX4_init wsX0_init := goodIn_r _ [29, 30, 2, 3, 24, 31, 67] (by decide +kernel) (by decide +kernel)
set_option maxRecDepth 20000 in
theorem gX4_init_X0_init : GoodIn wsX4_init (wsX0_init) := ggX4_init_X0_init
set_option maxRecDepth 20000 in
theorem ggX4_init_X3_init : GoodIn wsX4_init wsX3_init := goodIn_r _ [34, 35, 2, 3, 36, 68] (by decide +kernel) (by decide +kernel)
set_option maxRecDepth 20000 in
theorem gX4_init_X3_init : GoodIn wsX4_init (wsX3_init) := ggX4_init_X3_init
set_option maxRecDepth 20000 in
theorem ggX4_init_X1_init : GoodIn wsX4_init wsX1_init := goodIn_r _ [39, 40, 2, 3, 24, 41, 42, 43, 44, 45, 46, 47, 48, 18, 49, 50, 51, 52, 53, 54, 55, 56, 57, 58, 59, 60, 69, 70, 71, 72, 73, 74, 75] (by decide +kernel) (by decide +kernel)
set_option maxRecDepth 20000 in
theorem gX4_init_X1_init : GoodIn wsX4_init (wsX1_init) := ggX4_init_X1_init
set_option maxRecDepth 20000 in
theorem ggX4_table_X2_wouldRise : GoodIn wsX4_table wsX2_wouldRise := goodIn_r _ [12, 13, 14, 15, 11, 16, 26, 27] (by decide +kernel) (by decide +kernel)
set_option maxRecDepth 20000 in
theorem gX4_table_X2_wouldRise : GoodIn wsX4_table (wsV RX4 49 RX2 yX2_wouldRise wsX2_wouldRise) := goodIn_app (goodIn_of _ (by decide +kernel)) ggX4_table_X2_wouldRise
set_option maxRecDepth 20000 in
theorem ggX4_table_X2_setRow : GoodIn wsX4_table wsX2_setRow := goodIn_r _ [20, 21, 13, 26, 27] (by decide +kernel) (by decide +kernel)
set_option maxRecDepth 20000 in
theorem gX4_table_X2_setRow : GoodIn wsX4_table (wsV RX4 58 RX2 yX2_setRow wsX2_setRow) := goodIn_app (goodIn_of _ (by decide +kernel)) ggX4_table_X2_setRow
set_option maxRecDepth 20000 in
theorem ggX4_x_X4_requireLatitude : GoodIn wsX4_x wsX4_requireLatitude := goodIn_ca (goodIn_r _ [5, 6, 7] (by decide +kernel) (by decide +kernel)) (goodIn_sub (fun _ h => List.mem_cons_of_mem _ (List.mem_append_right _ h)) (by decide +kernel))
set_option maxRecDepth 20000 in
theorem gX4_x_X4_requireLatitude : GoodIn wsX4_x (va_wsS RX4 62 yX4_requireLatitude wsX4_requireLatitude) := goodIn_app (goodIn_of _ (by decide +kernel)) ggX4_x_X4_requireLatitude
set_option maxRecDepth 20000 in
theorem ggX4_x_X4_requireLongitude : GoodIn wsX4_x wsX4_requireLongitude := goodIn_ca (goodIn_r _ [10, 6, 7] (by decide +kernel) (by decide +kernel)) (goodIn_sub (fun _ h => List.mem_cons_of_mem _ (List.mem_append_right _ h)) (by decide +kernel))
set_option maxRecDepth 20000 in
theorem gX4_x_X4_requireLongitude : GoodIn wsX4_x (va_wsS RX4 66 yX4_requireLongitude wsX4_requireLongitude) := goodIn_app (goodIn_of _ (by decide +kernel)) ggX4_x_X4_requireLongitude
set_option maxRecDepth 20000 in
theorem ggX4_x_X2_tenWidths : GoodIn wsX4_x wsX2_tenWidths := goodIn_r _ [15, 16, 17, 18, 19, 20, 21, 22, 14, 23, 24, 25, 26, 31, 32] (by decide +kernel) (by decide +kernel)
set_option maxRecDepth 20000 in
theorem gX4_x_X2_tenWidths : GoodIn wsX4_x (wsV RX4 69 RX2 yX2_tenWidths wsX2_tenWidths) := goodIn_app (goodIn_of _ (by decide +kernel)) ggX4_x_X2_tenWidths
set_option maxRecDepth 20000 in
theorem ggX4_y_X4_requireLatitude : GoodIn wsX4_y wsX4_requireLatitude := goodIn_ca (goodIn_r _ [5, 6, 7] (by decide +kernel) (by decide +kernel)) (goodIn_sub (fun _ h => List.mem_cons_of_mem _ (List.mem_append_right _ h)) (by decide +kernel))
set_option maxRecDepth 20000 in
theorem gX4_y_X4_requireLatitude : GoodIn wsX4_y (va_wsS RX4 62 yX4_requireLatitude wsX4_requireLatitude) := goodIn_app (goodIn_of _ (by decide +kernel)) ggX4_y_X4_requireLatitude
set_option maxRecDepth 20000 in
theorem ggX4_y_X2_tenHeights : GoodIn wsX4_y wsX2_tenHeights := goodIn_r _ [12, 13, 14, 15, 16, 17, 18, 19, 11, 20, 21, 22, 23, 28, 29] (by decide +kernel) (by decide +kernel)
set_option maxRecDepth 20000 in
theorem gX4_y_X2_tenHeights : GoodIn wsX4_y (wsV RX4 73 RX2 yX2_tenHeights wsX2_tenHeights) := goodIn_app (goodIn_of _ (by decide +kernel)) ggX4_y_X2_tenHeights
set_option maxRecDepth 20000 in
theorem ggX4_latitudeAt_X2_greatestNotAbove : GoodIn wsX4_latitudeAt wsX2_greatestNotAbove := goodIn_r _ [12, 13, 14, 15, 11, 16, 17, 18, 19, 20, 21, 22, 23, 24, 25, 26, 27, 32, 33] (by decide +kernel) (by decide +kernel)
set_option maxRecDepth 20000 in
theorem gX4_latitudeAt_X2_greatestNotAbove : GoodIn wsX4_latitudeAt (wsV RX4 80 RX2 yX2_greatestNotAbove wsX2_greatestNotAbove) := goodIn_app (goodIn_of _ (by decide +kernel)) ggX4_latitudeAt_X2_greatestNotAbove
set_option maxRecDepth 20000 in
theorem ggX4_area_X2_fieldArea : GoodIn wsX4_area wsX2_fieldArea := goodIn_r _ [8, 9, 10, 11, 7, 12, 13, 14, 15, 16, 17, 18, 19, 20, 21, 22, 23, 24, 25, 26, 27, 28, 29, 30, 31, 32, 37, 38] (by decide +kernel) (by decide +kernel)
set_option maxRecDepth 20000 in
theorem gX4_area_X2_fieldArea : GoodIn wsX4_area (wsV RX4 89 RX2 yX2_fieldArea wsX2_fieldArea) := goodIn_app (goodIn_of _ (by decide +kernel)) ggX4_area_X2_fieldArea
set_option maxRecDepth 20000 in
theorem ggX4_areaByCells_X4_area : GoodIn wsX4_areaByCells wsX4_area := goodIn_ca (goodIn_r _ [5, 6, 7, 8, 9, 10, 11, 12, 13, 14, 15, 16, 17, 18, 19, 20, 21, 22, 23, 24, 25, 26, 27, 28, 29, 30, 31, 32, 33, 34, 35, 36, 37, 38, 39, 40, 41, 42, 43] (by decide +kernel) (by decide +kernel)) (goodIn_sub (fun _ h => List.mem_cons_of_mem _ (List.mem_append_right _ h)) (by decide +kernel))
set_option maxRecDepth 20000 in
theorem gX4_areaByCells_X4_area : GoodIn wsX4_areaByCells (wsV RX4 93 RX4 yX4_area wsX4_area) := goodIn_app (goodIn_of _ (by decide +kernel)) ggX4_areaByCells_X4_area
set_option maxRecDepth 20000 in
theorem ggX4_truth_X4_requireBand : GoodIn wsX4_truth wsX4_requireBand := goodIn_ca (goodIn_r _ [8, 9, 10] (by decide +kernel) (by decide +kernel)) (goodIn_sub (fun _ h => List.mem_cons_of_mem _ (List.mem_append_right _ h)) (by decide +kernel))
set_option maxRecDepth 20000 in
theorem gX4_truth_X4_requireBand : GoodIn wsX4_truth (va_wsS RX4 97 yX4_requireBand wsX4_requireBand) := goodIn_app (goodIn_of _ (by decide +kernel)) ggX4_truth_X4_requireBand
set_option maxRecDepth 20000 in
theorem ggX4_truth_X0_replaceTruth : GoodIn wsX4_truth wsX0_replaceTruth := goodIn_r _ [15, 16, 17, 18, 19, 14, 20, 25] (by decide +kernel) (by decide +kernel)
set_option maxRecDepth 20000 in
theorem gX4_truth_X0_replaceTruth : GoodIn wsX4_truth (wsV RX4 103 RX0 yX0_replaceTruth wsX0_replaceTruth) := goodIn_app (goodIn_of _ (by decide +kernel)) ggX4_truth_X0_replaceTruth
set_option maxRecDepth 20000 in
theorem ggX4_keepsAreas_X0_areAllAlike : GoodIn wsX4_keepsAreas wsX0_areAllAlike := goodIn_r _ [7, 8, 9, 10, 6, 11, 12, 13, 14, 15, 16, 17, 18, 19, 20, 21, 22, 23, 24, 25, 26, 27, 28, 29, 30, 31, 36, 37, 38] (by decide +kernel) (by decide +kernel)
set_option maxRecDepth 20000 in
theorem gX4_keepsAreas_X0_areAllAlike : GoodIn wsX4_keepsAreas (wsV RX4 107 RX0 yX0_areAllAlike wsX0_areAllAlike) := goodIn_app (goodIn_of _ (by decide +kernel)) ggX4_keepsAreas_X0_areAllAlike
set_option maxRecDepth 20000 in
theorem ggX4_widest_X0_greatest : GoodIn wsX4_widest wsX0_greatest := goodIn_r _ [7, 8, 9, 10, 6, 11, 12, 13, 14, 15, 16, 17, 18, 19, 20, 21, 22, 23, 24, 25, 26, 27, 28, 29, 30, 31, 36, 37, 38] (by decide +kernel) (by decide +kernel)
set_option maxRecDepth 20000 in
theorem gX4_widest_X0_greatest : GoodIn wsX4_widest (wsV RX4 111 RX0 yX0_greatest wsX0_greatest) := goodIn_app (goodIn_of _ (by decide +kernel)) ggX4_widest_X0_greatest
set_option maxRecDepth 20000 in
theorem ggX4_stretch_X4_requireBand : GoodIn wsX4_stretch wsX4_requireBand := goodIn_ca (goodIn_r _ [6, 7, 8] (by decide +kernel) (by decide +kernel)) (goodIn_sub (fun _ h => List.mem_cons_of_mem _ (List.mem_append_right _ h)) (by decide +kernel))
set_option maxRecDepth 20000 in
theorem gX4_stretch_X4_requireBand : GoodIn wsX4_stretch (va_wsS RX4 97 yX4_requireBand wsX4_requireBand) := goodIn_app (goodIn_of _ (by decide +kernel)) ggX4_stretch_X4_requireBand
set_option maxRecDepth 20000 in
theorem ggX4_stretch_X0_areaByTruth : GoodIn wsX4_stretch wsX0_areaByTruth := goodIn_r _ [13, 14, 15, 16, 17, 18, 19, 20, 21, 22, 23, 24, 25, 26, 27, 12, 28, 29, 34, 35, 36] (by decide +kernel) (by decide +kernel)
set_option maxRecDepth 20000 in
theorem gX4_stretch_X0_areaByTruth : GoodIn wsX4_stretch (wsV RX4 115 RX0 yX0_areaByTruth wsX0_areaByTruth) := goodIn_app (goodIn_of _ (by decide +kernel)) ggX4_stretch_X0_areaByTruth
set_option maxRecDepth 20000 in
theorem ggX4_apart_X4_requireLongitude : GoodIn wsX4_apart wsX4_requireLongitude := goodIn_ca (goodIn_r _ [4, 5, 6] (by decide +kernel) (by decide +kernel)) (goodIn_sub (fun _ h => List.mem_cons_of_mem _ (List.mem_append_right _ h)) (by decide +kernel))
set_option maxRecDepth 20000 in
theorem gX4_apart_X4_requireLongitude : GoodIn wsX4_apart (va_wsS RX4 66 yX4_requireLongitude wsX4_requireLongitude) := goodIn_app (goodIn_of _ (by decide +kernel)) ggX4_apart_X4_requireLongitude
set_option maxRecDepth 20000 in
theorem ggX4_apart_X4_shorterWay : GoodIn wsX4_apart wsX4_shorterWay := goodIn_r _ [9, 10, 11, 12, 13, 14, 15, 3, 16] (by decide +kernel) (by decide +kernel)
set_option maxRecDepth 20000 in
theorem gX4_apart_X4_shorterWay : GoodIn wsX4_apart (va_wsS RX4 119 yX4_shorterWay wsX4_shorterWay) := goodIn_app (goodIn_of _ (by decide +kernel)) ggX4_apart_X4_shorterWay
set_option maxRecDepth 20000 in
theorem ggX4_ringWay_X4_requireLatitude : GoodIn wsX4_ringWay wsX4_requireLatitude := goodIn_ca (goodIn_r _ [5, 6, 7] (by decide +kernel) (by decide +kernel)) (goodIn_sub (fun _ h => List.mem_cons_of_mem _ (List.mem_append_right _ h)) (by decide +kernel))
set_option maxRecDepth 20000 in
theorem gX4_ringWay_X4_requireLatitude : GoodIn wsX4_ringWay (va_wsS RX4 62 yX4_requireLatitude wsX4_requireLatitude) := goodIn_app (goodIn_of _ (by decide +kernel)) ggX4_ringWay_X4_requireLatitude
set_option maxRecDepth 20000 in
theorem ggX4_ringWay_X4_requireLongitude : GoodIn wsX4_ringWay wsX4_requireLongitude := goodIn_ca (goodIn_r _ [10, 6, 7] (by decide +kernel) (by decide +kernel)) (goodIn_sub (fun _ h => List.mem_cons_of_mem _ (List.mem_append_right _ h)) (by decide +kernel))
set_option maxRecDepth 20000 in
theorem gX4_ringWay_X4_requireLongitude : GoodIn wsX4_ringWay (va_wsS RX4 66 yX4_requireLongitude wsX4_requireLongitude) := goodIn_app (goodIn_of _ (by decide +kernel)) ggX4_ringWay_X4_requireLongitude
set_option maxRecDepth 20000 in
theorem ggX4_ringWay_X4_shorterWay : GoodIn wsX4_ringWay wsX4_shorterWay := goodIn_r _ [13, 14, 15, 16, 17, 18, 19, 4, 20] (by decide +kernel) (by decide +kernel)
set_option maxRecDepth 20000 in
theorem gX4_ringWay_X4_shorterWay : GoodIn wsX4_ringWay (va_wsS RX4 119 yX4_shorterWay wsX4_shorterWay) := goodIn_app (goodIn_of _ (by decide +kernel)) ggX4_ringWay_X4_shorterWay
set_option maxRecDepth 20000 in
theorem ggX4_ringWay_X2_tenWidths : GoodIn wsX4_ringWay wsX2_tenWidths := goodIn_r _ [25, 26, 27, 28, 16, 29, 30, 31, 24, 32, 33, 34, 35, 40, 41] (by decide +kernel) (by decide +kernel)
set_option maxRecDepth 20000 in
theorem gX4_ringWay_X2_tenWidths : GoodIn wsX4_ringWay (wsV RX4 69 RX2 yX2_tenWidths wsX2_tenWidths) := goodIn_app (goodIn_of _ (by decide +kernel)) ggX4_ringWay_X2_tenWidths
set_option maxRecDepth 20000 in
theorem ggX4_zones_X3_replaceBreadth : GoodIn wsX4_zones wsX3_replaceBreadth := goodIn_r _ [8, 9, 14] (by decide +kernel) (by decide +kernel)
set_option maxRecDepth 20000 in
theorem gX4_zones_X3_replaceBreadth : GoodIn wsX4_zones (wsV RX4 124 RX3 yX3_replaceBreadth wsX3_replaceBreadth) := goodIn_app (goodIn_of _ (by decide +kernel)) ggX4_zones_X3_replaceBreadth
set_option maxRecDepth 20000 in
theorem ggX4_zone_X4_requireLongitude : GoodIn wsX4_zone wsX4_requireLongitude := goodIn_ca (goodIn_r _ [5, 6, 7] (by decide +kernel) (by decide +kernel)) (goodIn_sub (fun _ h => List.mem_cons_of_mem _ (List.mem_append_right _ h)) (by decide +kernel))
set_option maxRecDepth 20000 in
theorem gX4_zone_X4_requireLongitude : GoodIn wsX4_zone (va_wsS RX4 66 yX4_requireLongitude wsX4_requireLongitude) := goodIn_app (goodIn_of _ (by decide +kernel)) ggX4_zone_X4_requireLongitude
set_option maxRecDepth 20000 in
theorem ggX4_zone_X3_zonesBefore : GoodIn wsX4_zone wsX3_zonesBefore := goodIn_r _ [12, 13, 18] (by decide +kernel) (by decide +kernel)
set_option maxRecDepth 20000 in
theorem gX4_zone_X3_zonesBefore : GoodIn wsX4_zone (wsV RX4 127 RX3 yX3_zonesBefore wsX3_zonesBefore) := goodIn_app (goodIn_of _ (by decide +kernel)) ggX4_zone_X3_zonesBefore
set_option maxRecDepth 20000 in
theorem ggX4_seams_X4_requireLongitude : GoodIn wsX4_seams wsX4_requireLongitude := goodIn_ca (goodIn_r _ [5, 6, 7] (by decide +kernel) (by decide +kernel)) (goodIn_sub (fun _ h => List.mem_cons_of_mem _ (List.mem_append_right _ h)) (by decide +kernel))
set_option maxRecDepth 20000 in
theorem gX4_seams_X4_requireLongitude : GoodIn wsX4_seams (va_wsS RX4 66 yX4_requireLongitude wsX4_requireLongitude) := goodIn_app (goodIn_of _ (by decide +kernel)) ggX4_seams_X4_requireLongitude
set_option maxRecDepth 20000 in
theorem ggX4_seams_X4_goesEast : GoodIn wsX4_seams wsX4_goesEast := goodIn_r _ [10, 11, 12, 4, 13] (by decide +kernel) (by decide +kernel)
set_option maxRecDepth 20000 in
theorem gX4_seams_X4_goesEast : GoodIn wsX4_seams (va_wsS RX4 130 yX4_goesEast wsX4_goesEast) := goodIn_app (goodIn_of _ (by decide +kernel)) ggX4_seams_X4_goesEast
set_option maxRecDepth 20000 in
theorem ggX4_seams_X4_shorterWay : GoodIn wsX4_seams wsX4_shorterWay := goodIn_r _ [16, 17, 18, 19, 20, 11, 12, 4, 13] (by decide +kernel) (by decide +kernel)
set_option maxRecDepth 20000 in
theorem gX4_seams_X4_shorterWay : GoodIn wsX4_seams (va_wsS RX4 119 yX4_shorterWay wsX4_shorterWay) := goodIn_app (goodIn_of _ (by decide +kernel)) ggX4_seams_X4_shorterWay
set_option maxRecDepth 20000 in
theorem ggX4_seams_X3_seamsEastOf : GoodIn wsX4_seams wsX3_seamsEastOf := goodIn_r _ [25, 26, 27, 28, 24, 29, 30, 35] (by decide +kernel) (by decide +kernel)
set_option maxRecDepth 20000 in
theorem gX4_seams_X3_seamsEastOf : GoodIn wsX4_seams (wsV RX4 133 RX3 yX3_seamsEastOf wsX3_seamsEastOf) := goodIn_app (goodIn_of _ (by decide +kernel)) ggX4_seams_X3_seamsEastOf
set_option maxRecDepth 20000 in
theorem ggX4_dateLine_X4_requireLongitude : GoodIn wsX4_dateLine wsX4_requireLongitude := goodIn_ca (goodIn_r _ [4, 5, 6] (by decide +kernel) (by decide +kernel)) (goodIn_sub (fun _ h => List.mem_cons_of_mem _ (List.mem_append_right _ h)) (by decide +kernel))
set_option maxRecDepth 20000 in
theorem gX4_dateLine_X4_requireLongitude : GoodIn wsX4_dateLine (va_wsS RX4 66 yX4_requireLongitude wsX4_requireLongitude) := goodIn_app (goodIn_of _ (by decide +kernel)) ggX4_dateLine_X4_requireLongitude
set_option maxRecDepth 20000 in
theorem ggX4_dateLine_X4_goesEast : GoodIn wsX4_dateLine wsX4_goesEast := goodIn_r _ [9, 10, 11, 3, 12] (by decide +kernel) (by decide +kernel)
set_option maxRecDepth 20000 in
theorem gX4_dateLine_X4_goesEast : GoodIn wsX4_dateLine (va_wsS RX4 130 yX4_goesEast wsX4_goesEast) := goodIn_app (goodIn_of _ (by decide +kernel)) ggX4_dateLine_X4_goesEast
