set_option maxRecDepth 20000 in
theorem ggX5_apart_X5_shorter : GoodIn wsX5_apart wsX5_shorter := goodIn_r _ [12, 13, 14, 3, 15] (by decide +kernel) (by decide +kernel)
set_option maxRecDepth 20000 in
theorem gX5_apart_X5_shorter : GoodIn wsX5_apart (va_wsS RX5 96 yX5_shorter wsX5_shorter) := goodIn_app (goodIn_of _ (by decide +kernel)) ggX5_apart_X5_shorter
set_option maxRecDepth 20000 in
theorem ggX5_ringWay_X5_isLatitude : GoodIn wsX5_ringWay wsX5_isLatitude := goodIn_r _ [4] (by decide +kernel) (by decide +kernel)
set_option maxRecDepth 20000 in
theorem gX5_ringWay_X5_isLatitude : GoodIn wsX5_ringWay (va_wsS RX5 52 yX5_isLatitude wsX5_isLatitude) := goodIn_app (goodIn_of _ (by decide +kernel)) ggX5_ringWay_X5_isLatitude
set_option maxRecDepth 20000 in
theorem ggX5_ringWay_X5_isLongitude : GoodIn wsX5_ringWay wsX5_isLongitude := goodIn_r _ [7] (by decide +kernel) (by decide +kernel)
set_option maxRecDepth 20000 in
theorem gX5_ringWay_X5_isLongitude : GoodIn wsX5_ringWay (va_wsS RX5 56 yX5_isLongitude wsX5_isLongitude) := goodIn_app (goodIn_of _ (by decide +kernel)) ggX5_ringWay_X5_isLongitude
set_option maxRecDepth 20000 in
theorem ggX5_ringWay_X5_may : GoodIn wsX5_ringWay wsX5_may := goodIn_r _ [11, 12, 24, 25, 26, 27, 28, 29, 30, 31, 32, 33, 34, 35] (by decide +kernel) (by decide +kernel)
set_option maxRecDepth 20000 in
theorem gX5_ringWay_X5_may : GoodIn wsX5_ringWay (wsV RX5 59 RX5 yX5_may wsX5_may) := goodIn_app (goodIn_of _ (by decide +kernel)) ggX5_ringWay_X5_may
set_option maxRecDepth 20000 in
theorem ggX5_ringWay_X5_shorter : GoodIn wsX5_ringWay wsX5_shorter := goodIn_r _ [15, 16, 17, 3, 18] (by decide +kernel) (by decide +kernel)
set_option maxRecDepth 20000 in
theorem gX5_ringWay_X5_shorter : GoodIn wsX5_ringWay (va_wsS RX5 96 yX5_shorter wsX5_shorter) := goodIn_app (goodIn_of _ (by decide +kernel)) ggX5_ringWay_X5_shorter
set_option maxRecDepth 20000 in
theorem ggX5_ringWay_X5_wide : GoodIn wsX5_ringWay wsX5_wide := goodIn_r _ [22, 23, 24, 25, 26, 27, 28, 29, 30, 31, 32, 33, 34, 35] (by decide +kernel) (by decide +kernel)
set_option maxRecDepth 20000 in
theorem gX5_ringWay_X5_wide : GoodIn wsX5_ringWay (wsV RX5 63 RX5 yX5_wide wsX5_wide) := goodIn_app (goodIn_of _ (by decide +kernel)) ggX5_ringWay_X5_wide
set_option maxRecDepth 20000 in
theorem ggX5_zones_X5_may : GoodIn wsX5_zones wsX5_may := goodIn_r _ [6, 7, 8, 9, 10, 11, 12, 13, 14, 15, 16, 17, 18, 19] (by decide +kernel) (by decide +kernel)
set_option maxRecDepth 20000 in
theorem gX5_zones_X5_may : GoodIn wsX5_zones (wsV RX5 59 RX5 yX5_may wsX5_may) := goodIn_app (goodIn_of _ (by decide +kernel)) ggX5_zones_X5_may
set_option maxRecDepth 20000 in
theorem ggX5_zone_X5_isLongitude : GoodIn wsX5_zone wsX5_isLongitude := goodIn_r _ [4] (by decide +kernel) (by decide +kernel)
set_option maxRecDepth 20000 in
theorem gX5_zone_X5_isLongitude : GoodIn wsX5_zone (va_wsS RX5 56 yX5_isLongitude wsX5_isLongitude) := goodIn_app (goodIn_of _ (by decide +kernel)) ggX5_zone_X5_isLongitude
set_option maxRecDepth 20000 in
theorem ggX5_zone_X5_may : GoodIn wsX5_zone wsX5_may := goodIn_r _ [8, 9, 15, 16, 17, 18, 19, 20, 21, 22, 23, 24, 25, 26] (by decide +kernel) (by decide +kernel)
set_option maxRecDepth 20000 in
theorem gX5_zone_X5_may : GoodIn wsX5_zone (wsV RX5 59 RX5 yX5_may wsX5_may) := goodIn_app (goodIn_of _ (by decide +kernel)) ggX5_zone_X5_may
set_option maxRecDepth 20000 in
theorem ggX5_zone_X5_zoneOf : GoodIn wsX5_zone wsX5_zoneOf := goodIn_r _ [13, 14, 15, 16, 17, 18, 19, 20, 21, 22, 23, 24, 25, 26] (by decide +kernel) (by decide +kernel)
set_option maxRecDepth 20000 in
theorem gX5_zone_X5_zoneOf : GoodIn wsX5_zone (wsV RX5 99 RX5 yX5_zoneOf wsX5_zoneOf) := goodIn_app (goodIn_of _ (by decide +kernel)) ggX5_zone_X5_zoneOf
set_option maxRecDepth 20000 in
theorem ggX5_crossed_X5_east : GoodIn wsX5_crossed wsX5_east := goodIn_r _ [4] (by decide +kernel) (by decide +kernel)
set_option maxRecDepth 20000 in
theorem gX5_crossed_X5_east : GoodIn wsX5_crossed (va_wsS RX5 92 yX5_east wsX5_east) := goodIn_app (goodIn_of _ (by decide +kernel)) ggX5_crossed_X5_east
set_option maxRecDepth 20000 in
theorem ggX5_crossed_X5_zoneOf : GoodIn wsX5_crossed wsX5_zoneOf := goodIn_r _ [8, 9, 10, 11, 12, 13, 14, 15, 16, 17, 18, 19, 20, 21] (by decide +kernel) (by decide +kernel)
set_option maxRecDepth 20000 in
theorem gX5_crossed_X5_zoneOf : GoodIn wsX5_crossed (wsV RX5 99 RX5 yX5_zoneOf wsX5_zoneOf) := goodIn_app (goodIn_of _ (by decide +kernel)) ggX5_crossed_X5_zoneOf
set_option maxRecDepth 20000 in
theorem ggX5_seams_X5_isLongitude : GoodIn wsX5_seams wsX5_isLongitude := goodIn_r _ [4] (by decide +kernel) (by decide +kernel)
set_option maxRecDepth 20000 in
theorem gX5_seams_X5_isLongitude : GoodIn wsX5_seams (va_wsS RX5 56 yX5_isLongitude wsX5_isLongitude) := goodIn_app (goodIn_of _ (by decide +kernel)) ggX5_seams_X5_isLongitude
set_option maxRecDepth 20000 in
theorem ggX5_seams_X5_may : GoodIn wsX5_seams wsX5_may := goodIn_r _ [8, 9, 22, 23, 24, 25, 26, 27, 28, 29, 30, 31, 32, 33] (by decide +kernel) (by decide +kernel)
set_option maxRecDepth 20000 in
theorem gX5_seams_X5_may : GoodIn wsX5_seams (wsV RX5 59 RX5 yX5_may wsX5_may) := goodIn_app (goodIn_of _ (by decide +kernel)) ggX5_seams_X5_may
set_option maxRecDepth 20000 in
theorem ggX5_seams_X5_crossed : GoodIn wsX5_seams wsX5_crossed := goodIn_r _ [13, 14, 15, 3, 16, 17, 18, 19, 20, 21, 22, 23, 24, 25, 26, 27, 28, 29, 30, 31, 32, 33] (by decide +kernel) (by decide +kernel)
set_option maxRecDepth 20000 in
theorem gX5_seams_X5_crossed : GoodIn wsX5_seams (wsV RX5 102 RX5 yX5_crossed wsX5_crossed) := goodIn_app (goodIn_of _ (by decide +kernel)) ggX5_seams_X5_crossed
set_option maxRecDepth 20000 in
theorem ggX5_dateLine_X5_isLongitude : GoodIn wsX5_dateLine wsX5_isLongitude := goodIn_r _ [4] (by decide +kernel) (by decide +kernel)
set_option maxRecDepth 20000 in
theorem gX5_dateLine_X5_isLongitude : GoodIn wsX5_dateLine (va_wsS RX5 56 yX5_isLongitude wsX5_isLongitude) := goodIn_app (goodIn_of _ (by decide +kernel)) ggX5_dateLine_X5_isLongitude
set_option maxRecDepth 20000 in
theorem ggX5_dateLine_X5_may : GoodIn wsX5_dateLine wsX5_may := goodIn_r _ [8, 9, 22, 23, 24, 25, 26, 27, 28, 29, 30, 31, 32, 33] (by decide +kernel) (by decide +kernel)
set_option maxRecDepth 20000 in
theorem gX5_dateLine_X5_may : GoodIn wsX5_dateLine (wsV RX5 59 RX5 yX5_may wsX5_may) := goodIn_app (goodIn_of _ (by decide +kernel)) ggX5_dateLine_X5_may
set_option maxRecDepth 20000 in
theorem ggX5_dateLine_X5_crossed : GoodIn wsX5_dateLine wsX5_crossed := goodIn_r _ [13, 14, 15, 3, 16, 17, 18, 19, 20, 21, 22, 23, 24, 25, 26, 27, 28, 29, 30, 31, 32, 33] (by decide +kernel) (by decide +kernel)
set_option maxRecDepth 20000 in
theorem gX5_dateLine_X5_crossed : GoodIn wsX5_dateLine (wsV RX5 102 RX5 yX5_crossed wsX5_crossed) := goodIn_app (goodIn_of _ (by decide +kernel)) ggX5_dateLine_X5_crossed
set_option maxRecDepth 20000 in
theorem ggX5_sheet_X5_may : GoodIn wsX5_sheet wsX5_may := goodIn_r _ [7, 8, 18, 19, 20, 21, 22, 23, 24, 25, 26, 27, 28, 29] (by decide +kernel) (by decide +kernel)
set_option maxRecDepth 20000 in
theorem gX5_sheet_X5_may : GoodIn wsX5_sheet (wsV RX5 59 RX5 yX5_may wsX5_may) := goodIn_app (goodIn_of _ (by decide +kernel)) ggX5_sheet_X5_may
set_option maxRecDepth 20000 in
theorem ggX5_sheet_X5_lay : GoodIn wsX5_sheet wsX5_lay := goodIn_r _ [12, 13, 14, 15, 16, 17, 18, 19, 20, 21, 22, 23, 24, 25, 26, 27, 28, 29] (by decide +kernel) (by decide +kernel)
set_option maxRecDepth 20000 in
theorem gX5_sheet_X5_lay : GoodIn wsX5_sheet (wsV RX5 42 RX5 yX5_lay wsX5_lay) := goodIn_app (goodIn_of _ (by decide +kernel)) ggX5_sheet_X5_lay
set_option maxRecDepth 20000 in
theorem ggX5_ahead_X5_isPanel : GoodIn wsX5_ahead wsX5_isPanel := goodIn_r _ [7, 8, 9, 10, 11, 12, 13, 14, 15, 16, 17, 18, 19, 20, 21] (by decide +kernel) (by decide +kernel)
set_option maxRecDepth 20000 in
theorem gX5_ahead_X5_isPanel : GoodIn wsX5_ahead (wsV RX5 109 RX5 yX5_isPanel wsX5_isPanel) := goodIn_app (goodIn_of _ (by decide +kernel)) ggX5_ahead_X5_isPanel
set_option maxRecDepth 20000 in
theorem ggX5_fold_X5_ahead : GoodIn wsX5_fold wsX5_ahead := goodIn_r _ [12, 4, 5, 13, 14, 15, 11, 16, 1, 2, 22, 23, 24, 25, 26, 27, 28, 29, 30, 31, 32, 33] (by decide +kernel) (by decide +kernel)
set_option maxRecDepth 20000 in
theorem gX5_fold_X5_ahead : GoodIn wsX5_fold (wsV RX5 112 RX5 yX5_ahead wsX5_ahead) := goodIn_app (goodIn_of _ (by decide +kernel)) ggX5_fold_X5_ahead
set_option maxRecDepth 20000 in
theorem ggX5_fold_X5_may : GoodIn wsX5_fold wsX5_may := goodIn_r _ [20, 21, 22, 23, 24, 25, 26, 27, 28, 29, 30, 31, 32, 33] (by decide +kernel) (by decide +kernel)
set_option maxRecDepth 20000 in
theorem gX5_fold_X5_may : GoodIn wsX5_fold (wsV RX5 59 RX5 yX5_may wsX5_may) := goodIn_app (goodIn_of _ (by decide +kernel)) ggX5_fold_X5_may
set_option maxRecDepth 20000 in
theorem ggX5_fold_X5_isPanel : GoodIn wsX5_fold wsX5_isPanel := goodIn_r _ [16, 1, 2, 22, 23, 24, 25, 26, 27, 28, 29, 30, 31, 32, 33] (by decide +kernel) (by decide +kernel)
set_option maxRecDepth 20000 in
theorem gX5_fold_X5_isPanel : GoodIn wsX5_fold (wsV RX5 109 RX5 yX5_isPanel wsX5_isPanel) := goodIn_app (goodIn_of _ (by decide +kernel)) ggX5_fold_X5_isPanel
set_option maxRecDepth 20000 in
theorem ggX5_foldColumns_X5_fold : GoodIn wsX5_foldColumns wsX5_fold := goodIn_r _ [5, 6, 7, 8, 9, 10, 11, 12, 13, 14, 15, 4, 16, 17, 18, 19, 20, 21, 22, 23, 24, 25, 26, 27, 28, 29, 30, 31, 32, 33, 34, 35, 36, 37] (by decide +kernel) (by decide +kernel)
set_option maxRecDepth 20000 in
theorem gX5_foldColumns_X5_fold : GoodIn wsX5_foldColumns (wsV RX5 116 RX5 yX5_fold wsX5_fold) := goodIn_app (goodIn_of _ (by decide +kernel)) ggX5_foldColumns_X5_fold
set_option maxRecDepth 20000 in
theorem ggX5_foldRows_X5_fold : GoodIn wsX5_foldRows wsX5_fold := goodIn_r _ [5, 6, 7, 8, 9, 10, 11, 12, 13, 14, 15, 4, 16, 17, 18, 19, 20, 21, 22, 23, 24, 25, 26, 27, 28, 29, 30, 31, 32, 33, 34, 35, 36, 37] (by decide +kernel) (by decide +kernel)
set_option maxRecDepth 20000 in
theorem gX5_foldRows_X5_fold : GoodIn wsX5_foldRows (wsV RX5 116 RX5 yX5_fold wsX5_fold) := goodIn_app (goodIn_of _ (by decide +kernel)) ggX5_foldRows_X5_fold
set_option maxRecDepth 20000 in
theorem ggX5_unfold_X5_lay : GoodIn wsX5_unfold wsX5_lay := goodIn_r _ [7, 2, 8, 9, 10, 11, 12, 13, 14, 15, 16, 17, 18, 19, 20, 21, 22, 23] (by decide +kernel) (by decide +kernel)
set_option maxRecDepth 20000 in
theorem gX5_unfold_X5_lay : GoodIn wsX5_unfold (wsV RX5 42 RX5 yX5_lay wsX5_lay) := goodIn_app (goodIn_of _ (by decide +kernel)) ggX5_unfold_X5_lay
set_option maxRecDepth 20000 in
theorem ggX5_panel_X5_isLatitude : GoodIn wsX5_panel wsX5_isLatitude := goodIn_r _ [6] (by decide +kernel) (by decide +kernel)
set_option maxRecDepth 20000 in
theorem gX5_panel_X5_isLatitude : GoodIn wsX5_panel (va_wsS RX5 52 yX5_isLatitude wsX5_isLatitude) := goodIn_app (goodIn_of _ (by decide +kernel)) ggX5_panel_X5_isLatitude
set_option maxRecDepth 20000 in
theorem ggX5_panel_X5_isLongitude : GoodIn wsX5_panel wsX5_isLongitude := goodIn_r _ [9] (by decide +kernel) (by decide +kernel)
set_option maxRecDepth 20000 in
theorem gX5_panel_X5_isLongitude : GoodIn wsX5_panel (va_wsS RX5 56 yX5_isLongitude wsX5_isLongitude) := goodIn_app (goodIn_of _ (by decide +kernel)) ggX5_panel_X5_isLongitude
set_option maxRecDepth 20000 in
theorem ggX5_panel_X5_may : GoodIn wsX5_panel wsX5_may := goodIn_r _ [13, 14, 15, 16, 17, 18, 19, 20, 21, 22, 23, 24, 25, 26] (by decide +kernel) (by decide +kernel)
set_option maxRecDepth 20000 in
theorem gX5_panel_X5_may : GoodIn wsX5_panel (wsV RX5 59 RX5 yX5_may wsX5_may) := goodIn_app (goodIn_of _ (by decide +kernel)) ggX5_panel_X5_may
set_option maxRecDepth 20000 in
theorem ggX5_has_X5_may : GoodIn wsX5_has wsX5_may := goodIn_r _ [7, 8, 9, 10, 11, 12, 13, 14, 15, 16, 17, 18, 19, 20] (by decide +kernel) (by decide +kernel)
set_option maxRecDepth 20000 in
theorem gX5_has_X5_may : GoodIn wsX5_has (wsV RX5 59 RX5 yX5_may wsX5_may) := goodIn_app (goodIn_of _ (by decide +kernel)) ggX5_has_X5_may
set_option maxRecDepth 20000 in
theorem ggX5_placeX_X5_has : GoodIn wsX5_placeX wsX5_has := goodIn_r _ [6, 7, 8, 9, 10, 11, 5, 12, 13, 14, 15, 16, 17, 18, 19, 20, 21, 22, 23, 24, 25] (by decide +kernel) (by decide +kernel)
set_option maxRecDepth 20000 in
theorem gX5_placeX_X5_has : GoodIn wsX5_placeX (wsV RX5 119 RX5 yX5_has wsX5_has) := goodIn_app (goodIn_of _ (by decide +kernel)) ggX5_placeX_X5_has
set_option maxRecDepth 20000 in
theorem ggX5_placeY_X5_has : GoodIn wsX5_placeY wsX5_has := goodIn_r _ [6, 7, 8, 9, 10, 11, 5, 12, 13, 14, 15, 16, 17, 18, 19, 20, 21, 22, 23, 24, 25] (by decide +kernel) (by decide +kernel)
set_option maxRecDepth 20000 in
theorem gX5_placeY_X5_has : GoodIn wsX5_placeY (wsV RX5 119 RX5 yX5_has wsX5_has) := goodIn_app (goodIn_of _ (by decide +kernel)) ggX5_placeY_X5_has
set_option maxRecDepth 20000 in
theorem ggX5_stacked_X5_isPanel : GoodIn wsX5_stacked wsX5_isPanel := goodIn_r _ [8, 9, 10, 11, 12, 13, 14, 15, 16, 17, 18, 19, 20, 21, 22] (by decide +kernel) (by decide +kernel)
set_option maxRecDepth 20000 in
theorem gX5_stacked_X5_isPanel : GoodIn wsX5_stacked (wsV RX5 109 RX5 yX5_isPanel wsX5_isPanel) := goodIn_app (goodIn_of _ (by decide +kernel)) ggX5_stacked_X5_isPanel
set_option maxRecDepth 20000 in
theorem ggX5_above_X5_has : GoodIn wsX5_above wsX5_has := goodIn_r _ [5, 6, 7, 8, 9, 10, 4, 11, 12, 24, 25, 26, 27, 28, 29, 30, 31, 32, 33, 34, 35] (by decide +kernel) (by decide +kernel)
set_option maxRecDepth 20000 in
theorem gX5_above_X5_has : GoodIn wsX5_above (wsV RX5 119 RX5 yX5_has wsX5_has) := goodIn_app (goodIn_of _ (by decide +kernel)) ggX5_above_X5_has
set_option maxRecDepth 20000 in
theorem ggX5_above_X5_stacked : GoodIn wsX5_above wsX5_stacked := goodIn_r _ [16, 17, 18, 19, 20, 21, 22, 4, 23, 6, 7, 24, 25, 26, 27, 28, 29, 30, 31, 32, 33, 34, 35] (by decide +kernel) (by decide +kernel)
set_option maxRecDepth 20000 in
theorem gX5_above_X5_stacked : GoodIn wsX5_above (wsV RX5 123 RX5 yX5_stacked wsX5_stacked) := goodIn_app (goodIn_of _ (by decide +kernel)) ggX5_above_X5_stacked
set_option maxRecDepth 20000 in
theorem ggX5_isUp_X5_has : GoodIn wsX5_isUp wsX5_has := goodIn_r _ [6, 7, 8, 9, 10, 11, 5, 12, 13, 14, 15, 16, 17, 18, 19, 20, 21, 22, 23, 24, 25] (by decide +kernel) (by decide +kernel)
set_option maxRecDepth 20000 in
theorem gX5_isUp_X5_has : GoodIn wsX5_isUp (wsV RX5 119 RX5 yX5_has wsX5_has) := goodIn_app (goodIn_of _ (by decide +kernel)) ggX5_isUp_X5_has
set_option maxRecDepth 20000 in
theorem ggX5_thickness_X5_isPanel : GoodIn wsX5_thickness wsX5_isPanel := goodIn_r _ [6, 7, 8, 16, 17, 18, 19, 20, 21, 22, 23, 24, 25, 26, 27] (by decide +kernel) (by decide +kernel)
set_option maxRecDepth 20000 in
theorem gX5_thickness_X5_isPanel : GoodIn wsX5_thickness (wsV RX5 109 RX5 yX5_isPanel wsX5_isPanel) := goodIn_app (goodIn_of _ (by decide +kernel)) ggX5_thickness_X5_isPanel
set_option maxRecDepth 20000 in
theorem ggX5_thickness_X5_stacked : GoodIn wsX5_thickness wsX5_stacked := goodIn_r _ [12, 13, 14, 15, 2, 3, 4, 5, 6, 7, 8, 16, 17, 18, 19, 20, 21, 22, 23, 24, 25, 26, 27] (by decide +kernel) (by decide +kernel)
set_option maxRecDepth 20000 in
theorem gX5_thickness_X5_stacked : GoodIn wsX5_thickness (wsV RX5 123 RX5 yX5_stacked wsX5_stacked) := goodIn_app (goodIn_of _ (by decide +kernel)) ggX5_thickness_X5_stacked
set_option maxRecDepth 20000 in
theorem ggX5_readable_X5_isPanel : GoodIn wsX5_readable wsX5_isPanel := goodIn_r _ [7, 8, 9, 17, 18, 19, 20, 21, 22, 23, 24, 25, 26, 27, 28] (by decide +kernel) (by decide +kernel)
set_option maxRecDepth 20000 in
theorem gX5_readable_X5_isPanel : GoodIn wsX5_readable (wsV RX5 109 RX5 yX5_isPanel wsX5_isPanel) := goodIn_app (goodIn_of _ (by decide +kernel)) ggX5_readable_X5_isPanel
set_option maxRecDepth 20000 in
theorem ggX5_readable_X5_stacked : GoodIn wsX5_readable wsX5_stacked := goodIn_r _ [13, 14, 15, 16, 3, 4, 5, 6, 7, 8, 9, 17, 18, 19, 20, 21, 22, 23, 24, 25, 26, 27, 28] (by decide +kernel) (by decide +kernel)
set_option maxRecDepth 20000 in
theorem gX5_readable_X5_stacked : GoodIn wsX5_readable (wsV RX5 123 RX5 yX5_stacked wsX5_stacked) := goodIn_app (goodIn_of _ (by decide +kernel)) ggX5_readable_X5_stacked
set_option maxRecDepth 20000 in
theorem ggL_table_X4_table : GoodIn wsL_table wsX4_table := goodIn_ca (goodIn_ca (goodIn_ca (goodIn_r _ [8, 9, 10, 11, 12, 13, 14, 15, 16, 17, 18, 19, 20, 21, 22, 23, 24, 25, 26, 27, 28, 29, 30, 31, 32, 33, 34, 35] (by decide +kernel) (by decide +kernel)) (goodIn_sub (fun _ h => List.mem_cons_of_mem _ (List.mem_append_left _ (List.mem_append_left _ (List.mem_append_right _ h)))) (by decide +kernel))) (goodIn_sub (fun _ h => List.mem_cons_of_mem _ (List.mem_append_left _ (List.mem_append_right _ h))) (by decide +kernel))) (goodIn_sub (fun _ h => List.mem_cons_of_mem _ (List.mem_append_right _ h)) (by decide +kernel))
set_option maxRecDepth 20000 in
theorem gL_table_X4_table : GoodIn wsL_table (wsV RL 7 RX4 yX4_table wsX4_table) := goodIn_app (goodIn_of _ (by decide +kernel)) ggL_table_X4_table
set_option maxRecDepth 20000 in
theorem ggL_x_X4_x : GoodIn wsL_x wsX4_x := goodIn_ca (goodIn_r _ [6, 7, 8, 9, 5, 10, 11, 12, 13, 14, 15, 16, 17, 18, 19, 20, 21, 22, 23, 24, 25, 26, 27, 28, 29, 30, 31, 32, 33, 34, 35, 36, 37] (by decide +kernel) (by decide +kernel)) (goodIn_sub (fun _ h => List.mem_cons_of_mem _ (List.mem_append_right _ h)) (by decide +kernel))
set_option maxRecDepth 20000 in
theorem gL_x_X4_x : GoodIn wsL_x (wsV RL 19 RX4 yX4_x wsX4_x) := goodIn_app (goodIn_of _ (by decide +kernel)) ggL_x_X4_x
set_option maxRecDepth 20000 in
theorem ggL_y_X4_y : GoodIn wsL_y wsX4_y := goodIn_ca (goodIn_r _ [6, 7, 8, 9, 5, 10, 11, 12, 13, 14, 15, 16, 17, 18, 19, 20, 21, 22, 23, 24, 25, 26, 27, 28, 29, 30, 31, 32, 33, 34] (by decide +kernel) (by decide +kernel)) (goodIn_sub (fun _ h => List.mem_cons_of_mem _ (List.mem_append_right _ h)) (by decide +kernel))
set_option maxRecDepth 20000 in
theorem gL_y_X4_y : GoodIn wsL_y (wsV RL 23 RX4 yX4_y wsX4_y) := goodIn_app (goodIn_of _ (by decide +kernel)) ggL_y_X4_y
set_option maxRecDepth 20000 in
theorem ggL_latitudeAt_X4_latitudeAt : GoodIn wsL_latitudeAt wsX4_latitudeAt := goodIn_ca (goodIn_ca (goodIn_r _ [7, 8, 9, 10, 11, 12, 13, 14, 15, 16, 17, 18, 19, 20, 21, 22, 23, 24, 25, 26, 27, 28, 29, 30, 31, 32, 33, 34, 35, 36, 37, 38, 39, 40] (by decide +kernel) (by decide +kernel)) (goodIn_sub (fun _ h => List.mem_cons_of_mem _ (List.mem_append_left _ (List.mem_append_right _ h))) (by decide +kernel))) (goodIn_sub (fun _ h => List.mem_cons_of_mem _ (List.mem_append_right _ h)) (by decide +kernel))
set_option maxRecDepth 20000 in
theorem gL_latitudeAt_X4_latitudeAt : GoodIn wsL_latitudeAt (wsV RL 27 RX4 yX4_latitudeAt wsX4_latitudeAt) := goodIn_app (goodIn_of _ (by decide +kernel)) ggL_latitudeAt_X4_latitudeAt
set_option maxRecDepth 20000 in
theorem ggL_area_X4_area : GoodIn wsL_area wsX4_area := goodIn_ca (goodIn_r _ [6, 7, 8, 9, 10, 11, 12, 13, 14, 15, 16, 17, 18, 19, 20, 21, 22, 23, 24, 25, 26, 27, 28, 29, 30, 31, 32, 33, 34, 35, 36, 37, 38, 39, 40, 41, 42, 43, 44] (by decide +kernel) (by decide +kernel)) (goodIn_sub (fun _ h => List.mem_cons_of_mem _ (List.mem_append_right _ h)) (by decide +kernel))
set_option maxRecDepth 20000 in
theorem gL_area_X4_area : GoodIn wsL_area (wsV RL 30 RX4 yX4_area wsX4_area) := goodIn_app (goodIn_of _ (by decide +kernel)) ggL_area_X4_area
set_option maxRecDepth 20000 in
theorem ggL_areaByCells_X4_areaByCells : GoodIn wsL_areaByCells wsX4_areaByCells := goodIn_ca (goodIn_r _ [6, 7, 8, 9, 5, 10, 11, 12, 13, 14, 15, 16, 17, 18, 19, 20, 21, 22, 23, 24, 25, 26, 27, 28, 29, 30, 31, 32, 33, 34, 35, 36, 37, 38, 39, 40, 41, 42, 43, 44, 45, 46, 47, 48] (by decide +kernel) (by decide +kernel)) (goodIn_sub (fun _ h => List.mem_cons_of_mem _ (List.mem_append_right _ h)) (by decide +kernel))
set_option maxRecDepth 20000 in
theorem gL_areaByCells_X4_areaByCells : GoodIn wsL_areaByCells (wsV RL 34 RX4 yX4_areaByCells wsX4_areaByCells) := goodIn_app (goodIn_of _ (by decide +kernel)) ggL_areaByCells_X4_areaByCells
set_option maxRecDepth 20000 in
theorem ggL_truth_X4_truth : GoodIn wsL_truth wsX4_truth := goodIn_ca (goodIn_ca (goodIn_r _ [7, 8, 9, 10, 11, 12, 13, 6, 14, 15, 16, 17, 18, 19, 20, 21, 22, 23, 24, 25, 26, 27, 28, 29, 30, 31] (by decide +kernel) (by decide +kernel)) (goodIn_sub (fun _ h => List.mem_cons_of_mem _ (List.mem_append_left _ (List.mem_append_right _ h))) (by decide +kernel))) (goodIn_sub (fun _ h => List.mem_cons_of_mem _ (List.mem_append_right _ h)) (by decide +kernel))
set_option maxRecDepth 20000 in
theorem gL_truth_X4_truth : GoodIn wsL_truth (wsV RL 37 RX4 yX4_truth wsX4_truth) := goodIn_app (goodIn_of _ (by decide +kernel)) ggL_truth_X4_truth
set_option maxRecDepth 20000 in
theorem ggL_stretch_X4_stretch : GoodIn wsL_stretch wsX4_stretch := goodIn_ca (goodIn_r _ [6, 7, 8, 9, 10, 5, 11, 12, 13, 14, 15, 16, 17, 18, 19, 20, 21, 22, 23, 24, 25, 26, 27, 28, 29, 30, 31, 32, 33, 34, 35, 36, 37, 38, 39, 40, 41] (by decide +kernel) (by decide +kernel)) (goodIn_sub (fun _ h => List.mem_cons_of_mem _ (List.mem_append_right _ h)) (by decide +kernel))
set_option maxRecDepth 20000 in
theorem gL_stretch_X4_stretch : GoodIn wsL_stretch (wsV RL 40 RX4 yX4_stretch wsX4_stretch) := goodIn_app (goodIn_of _ (by decide +kernel)) ggL_stretch_X4_stretch
set_option maxRecDepth 20000 in
theorem ggL_apart_X4_apart : GoodIn wsL_apart wsX4_apart := goodIn_ca (goodIn_r _ [6, 7, 8, 5, 9, 10, 11, 12, 13, 14, 15, 16, 17, 18, 19, 20, 21] (by decide +kernel) (by decide +kernel)) (goodIn_sub (fun _ h => List.mem_cons_of_mem _ (List.mem_append_right _ h)) (by decide +kernel))
set_option maxRecDepth 20000 in
theorem gL_apart_X4_apart : GoodIn wsL_apart (wsV RL 44 RX4 yX4_apart wsX4_apart) := goodIn_app (goodIn_of _ (by decide +kernel)) ggL_apart_X4_apart
set_option maxRecDepth 20000 in
theorem ggL_ringWay_X4_ringWay : GoodIn wsL_ringWay wsX4_ringWay := goodIn_ca (goodIn_r _ [6, 7, 8, 9, 5, 10, 11, 12, 13, 14, 15, 16, 17, 18, 19, 20, 21, 22, 23, 24, 25, 26, 27, 28, 29, 30, 31, 32, 33, 34, 35, 36, 37, 38, 39, 40, 41, 42, 43, 44, 45, 46] (by decide +kernel) (by decide +kernel)) (goodIn_sub (fun _ h => List.mem_cons_of_mem _ (List.mem_append_right _ h)) (by decide +kernel))
set_option maxRecDepth 20000 in
theorem gL_ringWay_X4_ringWay : GoodIn wsL_ringWay (wsV RL 47 RX4 yX4_ringWay wsX4_ringWay) := goodIn_app (goodIn_of _ (by decide +kernel)) ggL_ringWay_X4_ringWay
set_option maxRecDepth 20000 in
theorem ggL_zones_X4_zones : GoodIn wsL_zones wsX4_zones := goodIn_ca (goodIn_r _ [6, 7, 8, 9, 10, 11, 12, 13, 14, 15, 16, 17, 18, 19, 20] (by decide +kernel) (by decide +kernel)) (goodIn_sub (fun _ h => List.mem_cons_of_mem _ (List.mem_append_right _ h)) (by decide +kernel))
set_option maxRecDepth 20000 in
theorem gL_zones_X4_zones : GoodIn wsL_zones (wsV RL 51 RX4 yX4_zones wsX4_zones) := goodIn_app (goodIn_of _ (by decide +kernel)) ggL_zones_X4_zones
set_option maxRecDepth 20000 in
theorem ggL_zone_X4_zone : GoodIn wsL_zone wsX4_zone := goodIn_ca (goodIn_r _ [6, 7, 8, 9, 5, 10, 11, 12, 13, 14, 15, 16, 17, 18, 19, 20, 21, 22, 23] (by decide +kernel) (by decide +kernel)) (goodIn_sub (fun _ h => List.mem_cons_of_mem _ (List.mem_append_right _ h)) (by decide +kernel))
set_option maxRecDepth 20000 in
theorem gL_zone_X4_zone : GoodIn wsL_zone (wsV RL 54 RX4 yX4_zone wsX4_zone) := goodIn_app (goodIn_of _ (by decide +kernel)) ggL_zone_X4_zone
set_option maxRecDepth 20000 in
theorem ggL_seams_X4_seams : GoodIn wsL_seams wsX4_seams := goodIn_ca (goodIn_r _ [6, 7, 8, 9, 5, 10, 11, 12, 13, 14, 15, 16, 17, 18, 19, 20, 21, 22, 23, 24, 25, 26, 27, 28, 29, 30, 31, 32, 33, 34, 35, 36, 37, 38, 39, 40] (by decide +kernel) (by decide +kernel)) (goodIn_sub (fun _ h => List.mem_cons_of_mem _ (List.mem_append_right _ h)) (by decide +kernel))
set_option maxRecDepth 20000 in
theorem gL_seams_X4_seams : GoodIn wsL_seams (wsV RL 57 RX4 yX4_seams wsX4_seams) := goodIn_app (goodIn_of _ (by decide +kernel)) ggL_seams_X4_seams
set_option maxRecDepth 20000 in
theorem ggL_dateLine_X4_dateLine : GoodIn wsL_dateLine wsX4_dateLine := goodIn_ca (goodIn_r _ [6, 7, 8, 5, 9, 10, 11, 12, 13, 14, 15, 16, 17] (by decide +kernel) (by decide +kernel)) (goodIn_sub (fun _ h => List.mem_cons_of_mem _ (List.mem_append_right _ h)) (by decide +kernel))
set_option maxRecDepth 20000 in
theorem gL_dateLine_X4_dateLine : GoodIn wsL_dateLine (wsV RL 60 RX4 yX4_dateLine wsX4_dateLine) := goodIn_app (goodIn_of _ (by decide +kernel)) ggL_dateLine_X4_dateLine
set_option maxRecDepth 20000 in
theorem ggL_sheet_X4_sheet : GoodIn wsL_sheet wsX4_sheet := goodIn_ca (goodIn_r _ [6, 7, 8, 9, 10, 11, 12, 13, 14, 15, 16, 17, 18, 19, 20, 21, 22, 23, 24, 25, 26, 27, 28, 29, 30, 31, 32, 33, 34, 35, 36, 37, 38, 39, 40] (by decide +kernel) (by decide +kernel)) (goodIn_sub (fun _ h => List.mem_cons_of_mem _ (List.mem_append_right _ h)) (by decide +kernel))
set_option maxRecDepth 20000 in
theorem gL_sheet_X4_sheet : GoodIn wsL_sheet (wsV RL 63 RX4 yX4_sheet wsX4_sheet) := goodIn_app (goodIn_of _ (by decide +kernel)) ggL_sheet_X4_sheet
set_option maxRecDepth 20000 in
theorem ggL_foldColumns_X4_foldColumns : GoodIn wsL_foldColumns wsX4_foldColumns := goodIn_ca (goodIn_r _ [6, 7, 8, 9, 10, 11, 12, 13, 14, 15, 16, 17, 18, 19, 20, 21, 22, 23, 24, 25, 26, 27, 28, 29, 30, 31, 32, 33, 34, 35, 36, 37, 38, 39, 40, 5, 41, 42, 43, 44, 45, 46, 47, 48, 49, 50, 51, 52, 53, 54] (by decide +kernel) (by decide +kernel)) (goodIn_sub (fun _ h => List.mem_cons_of_mem _ (List.mem_append_right _ h)) (by decide +kernel))
set_option maxRecDepth 20000 in
theorem gL_foldColumns_X4_foldColumns : GoodIn wsL_foldColumns (wsV RL 67 RX4 yX4_foldColumns wsX4_foldColumns) := goodIn_app (goodIn_of _ (by decide +kernel)) ggL_foldColumns_X4_foldColumns
set_option maxRecDepth 20000 in
theorem ggL_foldRows_X4_foldRows : GoodIn wsL_foldRows wsX4_foldRows := goodIn_ca (goodIn_r _ [6, 7, 8, 9, 10, 11, 12, 13, 14, 15, 16, 17, 18, 19, 20, 21, 22, 23, 24, 25, 26, 27, 28, 29, 30, 31, 32, 33, 34, 35, 36, 37, 38, 39, 40, 5, 41, 42, 43, 44, 45, 46, 47, 48, 49, 50, 51, 52, 53, 54] (by decide +kernel) (by decide +kernel)) (goodIn_sub (fun _ h => List.mem_cons_of_mem _ (List.mem_append_right _ h)) (by decide +kernel))
set_option maxRecDepth 20000 in
theorem gL_foldRows_X4_foldRows : GoodIn wsL_foldRows (wsV RL 70 RX4 yX4_foldRows wsX4_foldRows) := goodIn_app (goodIn_of _ (by decide +kernel)) ggL_foldRows_X4_foldRows
set_option maxRecDepth 20000 in
theorem ggL_panel_X4_panel : GoodIn wsL_panel wsX4_panel := goodIn_ca (goodIn_r _ [6, 7, 8, 9, 5, 10, 11, 12, 13, 14, 15, 16, 17, 18, 19, 20, 21, 22, 23, 24, 25, 26, 27, 28, 29, 30, 31, 32, 33, 34, 35, 36, 37, 38, 39, 40, 41] (by decide +kernel) (by decide +kernel)) (goodIn_sub (fun _ h => List.mem_cons_of_mem _ (List.mem_append_right _ h)) (by decide +kernel))
set_option maxRecDepth 20000 in
theorem gL_panel_X4_panel : GoodIn wsL_panel (wsV RL 73 RX4 yX4_panel wsX4_panel) := goodIn_app (goodIn_of _ (by decide +kernel)) ggL_panel_X4_panel
set_option maxRecDepth 20000 in
theorem ggL_placeX_X4_placeX : GoodIn wsL_placeX wsX4_placeX := goodIn_ca (goodIn_r _ [6, 7, 8, 9, 10, 5, 11, 12, 13, 14, 15, 16, 17, 18, 19, 20, 21, 22, 23, 24, 25, 26, 27, 28, 29, 30, 31, 32, 33, 34, 35, 36, 37, 38, 39, 40, 41] (by decide +kernel) (by decide +kernel)) (goodIn_sub (fun _ h => List.mem_cons_of_mem _ (List.mem_append_right _ h)) (by decide +kernel))
set_option maxRecDepth 20000 in
theorem gL_placeX_X4_placeX : GoodIn wsL_placeX (wsV RL 76 RX4 yX4_placeX wsX4_placeX) := goodIn_app (goodIn_of _ (by decide +kernel)) ggL_placeX_X4_placeX
set_option maxRecDepth 20000 in
theorem ggL_placeY_X4_placeY : GoodIn wsL_placeY wsX4_placeY := goodIn_ca (goodIn_r _ [6, 7, 8, 9, 10, 5, 11, 12, 13, 14, 15, 16, 17, 18, 19, 20, 21, 22, 23, 24, 25, 26, 27, 28, 29, 30, 31, 32, 33, 34, 35, 36, 37, 38, 39, 40, 41] (by decide +kernel) (by decide +kernel)) (goodIn_sub (fun _ h => List.mem_cons_of_mem _ (List.mem_append_right _ h)) (by decide +kernel))
set_option maxRecDepth 20000 in
theorem gL_placeY_X4_placeY : GoodIn wsL_placeY (wsV RL 79 RX4 yX4_placeY wsX4_placeY) := goodIn_app (goodIn_of _ (by decide +kernel)) ggL_placeY_X4_placeY
set_option maxRecDepth 20000 in
theorem ggL_above_X4_above : GoodIn wsL_above wsX4_above := goodIn_ca (goodIn_r _ [6, 7, 8, 9, 10, 5, 11, 12, 13, 14, 15, 16, 17, 18, 19, 20, 21, 22, 23, 24, 25, 26, 27, 28, 29, 30, 31, 32, 33, 34, 35, 36, 37, 38, 39, 40, 41, 42, 43, 44, 45, 46, 47, 48, 49, 50, 51] (by decide +kernel) (by decide +kernel)) (goodIn_sub (fun _ h => List.mem_cons_of_mem _ (List.mem_append_right _ h)) (by decide +kernel))
set_option maxRecDepth 20000 in
theorem gL_above_X4_above : GoodIn wsL_above (wsV RL 82 RX4 yX4_above wsX4_above) := goodIn_app (goodIn_of _ (by decide +kernel)) ggL_above_X4_above
set_option maxRecDepth 20000 in
theorem ggL_isUp_X4_isUp : GoodIn wsL_isUp wsX4_isUp := goodIn_ca (goodIn_r _ [6, 7, 8, 9, 10, 5, 11, 12, 13, 14, 15, 16, 17, 18, 19, 20, 21, 22, 23, 24, 25, 26, 27, 28, 29, 30, 31, 32, 33, 34, 35, 36, 37, 38, 39, 40, 41] (by decide +kernel) (by decide +kernel)) (goodIn_sub (fun _ h => List.mem_cons_of_mem _ (List.mem_append_right _ h)) (by decide +kernel))
set_option maxRecDepth 20000 in
theorem gL_isUp_X4_isUp : GoodIn wsL_isUp (wsV RL 85 RX4 yX4_isUp wsX4_isUp) := goodIn_app (goodIn_of _ (by decide +kernel)) ggL_isUp_X4_isUp
