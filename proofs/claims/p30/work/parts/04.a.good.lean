set_option maxRecDepth 20000 in
theorem ggX0_replaceTruth_X0_truthOf : GoodIn wsX0_replaceTruth wsX0_truthOf := goodIn_r _ [6, 1, 7] (by decide +kernel) (by decide +kernel)
set_option maxRecDepth 20000 in
theorem gX0_replaceTruth_X0_truthOf : GoodIn wsX0_replaceTruth (wsV RX0 15 RX0 yX0_truthOf wsX0_truthOf) := goodIn_app (goodIn_of _ (by decide +kernel)) ggX0_replaceTruth_X0_truthOf
set_option maxRecDepth 20000 in
theorem ggX0_areAllAlike_X0_compareBands : GoodIn wsX0_areAllAlike wsX0_compareBands := goodIn_r _ [5, 6, 7, 8, 9, 10, 11, 12, 13, 14, 15, 16, 17, 18, 19, 4, 20, 21, 22, 23, 24, 25, 26, 27, 28] (by decide +kernel) (by decide +kernel)
set_option maxRecDepth 20000 in
theorem gX0_areAllAlike_X0_compareBands : GoodIn wsX0_areAllAlike (wsV RX0 19 RX0 yX0_compareBands wsX0_compareBands) := goodIn_app (goodIn_of _ (by decide +kernel)) ggX0_areAllAlike_X0_compareBands
set_option maxRecDepth 20000 in
theorem ggX0_greatest_X0_compareBands : GoodIn wsX0_greatest wsX0_compareBands := goodIn_r _ [5, 6, 7, 8, 9, 10, 11, 12, 13, 14, 15, 16, 17, 18, 19, 4, 20, 21, 22, 23, 24, 25, 26, 27, 28] (by decide +kernel) (by decide +kernel)
set_option maxRecDepth 20000 in
theorem gX0_greatest_X0_compareBands : GoodIn wsX0_greatest (wsV RX0 19 RX0 yX0_compareBands wsX0_compareBands) := goodIn_app (goodIn_of _ (by decide +kernel)) ggX0_greatest_X0_compareBands
set_option maxRecDepth 20000 in
theorem ggX0_areaByTruth_X2_bandArea : GoodIn wsX0_areaByTruth wsX2_bandArea := goodIn_r _ [5, 6, 7, 8, 9, 10, 4, 11, 18, 19] (by decide +kernel) (by decide +kernel)
set_option maxRecDepth 20000 in
theorem gX0_areaByTruth_X2_bandArea : GoodIn wsX0_areaByTruth (wsV RX0 23 RX2 yX2_bandArea wsX2_bandArea) := goodIn_app (goodIn_of _ (by decide +kernel)) ggX0_areaByTruth_X2_bandArea
set_option maxRecDepth 20000 in
theorem ggX0_areaByTruth_X0_truthOf : GoodIn wsX0_areaByTruth wsX0_truthOf := goodIn_r _ [16, 17, 20] (by decide +kernel) (by decide +kernel)
set_option maxRecDepth 20000 in
theorem gX0_areaByTruth_X0_truthOf : GoodIn wsX0_areaByTruth (wsV RX0 15 RX0 yX0_truthOf wsX0_truthOf) := goodIn_app (goodIn_of _ (by decide +kernel)) ggX0_areaByTruth_X0_truthOf
set_option maxRecDepth 20000 in
theorem ggX0_compareBands_X2_bandArea : GoodIn wsX0_compareBands wsX2_bandArea := goodIn_r _ [5, 6, 7, 8, 9, 10, 4, 11, 22, 23] (by decide +kernel) (by decide +kernel)
set_option maxRecDepth 20000 in
theorem gX0_compareBands_X2_bandArea : GoodIn wsX0_compareBands (wsV RX0 23 RX2 yX2_bandArea wsX2_bandArea) := goodIn_app (goodIn_of _ (by decide +kernel)) ggX0_compareBands_X2_bandArea
set_option maxRecDepth 20000 in
theorem ggX0_compareBands_X0_truthOf : GoodIn wsX0_compareBands wsX0_truthOf := goodIn_r _ [16, 17, 24] (by decide +kernel) (by decide +kernel)
set_option maxRecDepth 20000 in
theorem gX0_compareBands_X0_truthOf : GoodIn wsX0_compareBands (wsV RX0 15 RX0 yX0_truthOf wsX0_truthOf) := goodIn_app (goodIn_of _ (by decide +kernel)) ggX0_compareBands_X0_truthOf
set_option maxRecDepth 20000 in
theorem ggX0_compareBands_J13_compare_74951 : GoodIn wsX0_compareBands wsJ13_compare_74951 := goodIn_r _ [21] (by decide +kernel) (by decide +kernel)
set_option maxRecDepth 20000 in
theorem gX0_compareBands_J13_compare_74951 : GoodIn wsX0_compareBands (va_wsS RX0 29 yJ13_compare_74951 wsJ13_compare_74951) := goodIn_app (goodIn_of _ (by decide +kernel)) ggX0_compareBands_J13_compare_74951
set_option maxRecDepth 20000 in
theorem ggX1_init_X1_layOut : GoodIn wsX1_init wsX1_layOut := goodIn_r _ [14, 15, 16, 17, 18, 19, 13, 20, 5, 6, 7, 9, 21, 22, 23, 24, 25, 26, 27, 28, 29, 30, 31, 32] (by decide +kernel) (by decide +kernel)
set_option maxRecDepth 20000 in
theorem gX1_init_X1_layOut : GoodIn wsX1_init (wsV RX1 25 RX1 yX1_layOut wsX1_layOut) := goodIn_app (goodIn_of _ (by decide +kernel)) ggX1_init_X1_layOut
set_option maxRecDepth 20000 in
theorem ggX1_layOut_X1_spread : GoodIn wsX1_layOut wsX1_spread := goodIn_r _ [7, 1, 2, 8, 9, 10, 11, 12, 13, 14, 15, 6, 16, 17, 18, 19, 20, 21, 22, 23] (by decide +kernel) (by decide +kernel)
set_option maxRecDepth 20000 in
theorem gX1_layOut_X1_spread : GoodIn wsX1_layOut (wsV RX1 36 RX1 yX1_spread wsX1_spread) := goodIn_app (goodIn_of _ (by decide +kernel)) ggX1_layOut_X1_spread
set_option maxRecDepth 20000 in
theorem ggX1_spread_X1_number : GoodIn wsX1_spread wsX1_number := goodIn_r _ [12, 2, 13, 14, 15, 16, 17, 18, 19] (by decide +kernel) (by decide +kernel)
set_option maxRecDepth 20000 in
theorem gX1_spread_X1_number : GoodIn wsX1_spread (wsV RX1 40 RX1 yX1_number wsX1_number) := goodIn_app (goodIn_of _ (by decide +kernel)) ggX1_spread_X1_number
set_option maxRecDepth 20000 in
theorem ggX1_columnPlace_X1_hasPanel : GoodIn wsX1_columnPlace wsX1_hasPanel := goodIn_r _ [6, 7, 8, 13, 14, 15, 16, 17, 18, 19] (by decide +kernel) (by decide +kernel)
set_option maxRecDepth 20000 in
theorem gX1_columnPlace_X1_hasPanel : GoodIn wsX1_columnPlace (wsV RX1 52 RX1 yX1_hasPanel wsX1_hasPanel) := goodIn_app (goodIn_of _ (by decide +kernel)) ggX1_columnPlace_X1_hasPanel
set_option maxRecDepth 20000 in
theorem ggX1_columnPlace_X1_number : GoodIn wsX1_columnPlace wsX1_number := goodIn_r _ [12, 8, 13, 14, 15, 16, 17, 18, 19] (by decide +kernel) (by decide +kernel)
set_option maxRecDepth 20000 in
theorem gX1_columnPlace_X1_number : GoodIn wsX1_columnPlace (wsV RX1 40 RX1 yX1_number wsX1_number) := goodIn_app (goodIn_of _ (by decide +kernel)) ggX1_columnPlace_X1_number
set_option maxRecDepth 20000 in
theorem ggX1_rowPlace_X1_hasPanel : GoodIn wsX1_rowPlace wsX1_hasPanel := goodIn_r _ [6, 7, 8, 13, 14, 15, 16, 17, 18, 19] (by decide +kernel) (by decide +kernel)
set_option maxRecDepth 20000 in
theorem gX1_rowPlace_X1_hasPanel : GoodIn wsX1_rowPlace (wsV RX1 52 RX1 yX1_hasPanel wsX1_hasPanel) := goodIn_app (goodIn_of _ (by decide +kernel)) ggX1_rowPlace_X1_hasPanel
set_option maxRecDepth 20000 in
theorem ggX1_rowPlace_X1_number : GoodIn wsX1_rowPlace wsX1_number := goodIn_r _ [12, 8, 13, 14, 15, 16, 17, 18, 19] (by decide +kernel) (by decide +kernel)
set_option maxRecDepth 20000 in
theorem gX1_rowPlace_X1_number : GoodIn wsX1_rowPlace (wsV RX1 40 RX1 yX1_number wsX1_number) := goodIn_app (goodIn_of _ (by decide +kernel)) ggX1_rowPlace_X1_number
set_option maxRecDepth 20000 in
theorem ggX1_liesFaceUp_X1_hasPanel : GoodIn wsX1_liesFaceUp wsX1_hasPanel := goodIn_r _ [6, 7, 8, 13, 14, 15, 16, 17, 18, 19] (by decide +kernel) (by decide +kernel)
set_option maxRecDepth 20000 in
theorem gX1_liesFaceUp_X1_hasPanel : GoodIn wsX1_liesFaceUp (wsV RX1 52 RX1 yX1_hasPanel wsX1_hasPanel) := goodIn_app (goodIn_of _ (by decide +kernel)) ggX1_liesFaceUp_X1_hasPanel
set_option maxRecDepth 20000 in
theorem ggX1_liesFaceUp_X1_number : GoodIn wsX1_liesFaceUp wsX1_number := goodIn_r _ [12, 8, 13, 14, 15, 16, 17, 18, 19] (by decide +kernel) (by decide +kernel)
set_option maxRecDepth 20000 in
theorem gX1_liesFaceUp_X1_number : GoodIn wsX1_liesFaceUp (wsV RX1 40 RX1 yX1_number wsX1_number) := goodIn_app (goodIn_of _ (by decide +kernel)) ggX1_liesFaceUp_X1_number
set_option maxRecDepth 20000 in
theorem ggX1_panelsAbove_X1_hasPanel : GoodIn wsX1_panelsAbove wsX1_hasPanel := goodIn_r _ [5, 6, 7, 23, 24, 25, 26, 27, 28, 29] (by decide +kernel) (by decide +kernel)
set_option maxRecDepth 20000 in
theorem gX1_panelsAbove_X1_hasPanel : GoodIn wsX1_panelsAbove (wsV RX1 52 RX1 yX1_hasPanel wsX1_hasPanel) := goodIn_app (goodIn_of _ (by decide +kernel)) ggX1_panelsAbove_X1_hasPanel
set_option maxRecDepth 20000 in
theorem ggX1_panelsAbove_X1_number : GoodIn wsX1_panelsAbove wsX1_number := goodIn_r _ [11, 7, 23, 24, 25, 26, 27, 28, 29] (by decide +kernel) (by decide +kernel)
set_option maxRecDepth 20000 in
theorem gX1_panelsAbove_X1_number : GoodIn wsX1_panelsAbove (wsV RX1 40 RX1 yX1_number wsX1_number) := goodIn_app (goodIn_of _ (by decide +kernel)) ggX1_panelsAbove_X1_number
set_option maxRecDepth 20000 in
theorem ggX1_panelsAbove_X1_higherThan : GoodIn wsX1_panelsAbove wsX1_higherThan := goodIn_r _ [15, 16, 17, 18, 19, 20, 21, 4, 22, 6, 7, 23, 24, 25, 26, 27, 28, 29] (by decide +kernel) (by decide +kernel)
set_option maxRecDepth 20000 in
theorem gX1_panelsAbove_X1_higherThan : GoodIn wsX1_panelsAbove (wsV RX1 56 RX1 yX1_higherThan wsX1_higherThan) := goodIn_app (goodIn_of _ (by decide +kernel)) ggX1_panelsAbove_X1_higherThan
set_option maxRecDepth 20000 in
theorem ggX1_turnOverColumns_X1_turnOver : GoodIn wsX1_turnOverColumns wsX1_turnOver := goodIn_r _ [6, 7, 8, 9, 10, 11, 12, 5, 13, 14, 15, 16, 17, 18, 19, 20, 21, 22, 23, 24, 25, 26, 27, 28, 29, 30, 31, 32, 33, 34] (by decide +kernel) (by decide +kernel)
set_option maxRecDepth 20000 in
theorem gX1_turnOverColumns_X1_turnOver : GoodIn wsX1_turnOverColumns (wsV RX1 60 RX1 yX1_turnOver wsX1_turnOver) := goodIn_app (goodIn_of _ (by decide +kernel)) ggX1_turnOverColumns_X1_turnOver
set_option maxRecDepth 20000 in
theorem ggX1_turnOverRows_X1_turnOver : GoodIn wsX1_turnOverRows wsX1_turnOver := goodIn_r _ [6, 7, 8, 9, 10, 11, 12, 5, 13, 14, 15, 16, 17, 18, 19, 20, 21, 22, 23, 24, 25, 26, 27, 28, 29, 30, 31, 32, 33, 34] (by decide +kernel) (by decide +kernel)
set_option maxRecDepth 20000 in
theorem gX1_turnOverRows_X1_turnOver : GoodIn wsX1_turnOverRows (wsV RX1 60 RX1 yX1_turnOver wsX1_turnOver) := goodIn_app (goodIn_of _ (by decide +kernel)) ggX1_turnOverRows_X1_turnOver
set_option maxRecDepth 20000 in
theorem ggX1_mostPanels_X1_panels : GoodIn wsX1_mostPanels wsX1_panels := goodIn_r _ [9, 10, 11, 19, 20, 21, 22, 23, 24, 25] (by decide +kernel) (by decide +kernel)
set_option maxRecDepth 20000 in
theorem gX1_mostPanels_X1_panels : GoodIn wsX1_mostPanels (wsV RX1 64 RX1 yX1_panels wsX1_panels) := goodIn_app (goodIn_of _ (by decide +kernel)) ggX1_mostPanels_X1_panels
set_option maxRecDepth 20000 in
theorem ggX1_mostPanels_X1_higherThan : GoodIn wsX1_mostPanels wsX1_higherThan := goodIn_r _ [15, 16, 17, 18, 5, 6, 7, 8, 9, 10, 11, 19, 20, 21, 22, 23, 24, 25] (by decide +kernel) (by decide +kernel)
set_option maxRecDepth 20000 in
theorem gX1_mostPanels_X1_higherThan : GoodIn wsX1_mostPanels (wsV RX1 56 RX1 yX1_higherThan wsX1_higherThan) := goodIn_app (goodIn_of _ (by decide +kernel)) ggX1_mostPanels_X1_higherThan
set_option maxRecDepth 20000 in
theorem ggX1_readablePanels_X1_panels : GoodIn wsX1_readablePanels wsX1_panels := goodIn_r _ [6, 7, 8, 16, 17, 18, 19, 20, 21, 22] (by decide +kernel) (by decide +kernel)
set_option maxRecDepth 20000 in
theorem gX1_readablePanels_X1_panels : GoodIn wsX1_readablePanels (wsV RX1 64 RX1 yX1_panels wsX1_panels) := goodIn_app (goodIn_of _ (by decide +kernel)) ggX1_readablePanels_X1_panels
set_option maxRecDepth 20000 in
theorem ggX1_readablePanels_X1_higherThan : GoodIn wsX1_readablePanels wsX1_higherThan := goodIn_r _ [12, 13, 14, 15, 2, 3, 4, 5, 6, 7, 8, 16, 17, 18, 19, 20, 21, 22] (by decide +kernel) (by decide +kernel)
set_option maxRecDepth 20000 in
theorem gX1_readablePanels_X1_higherThan : GoodIn wsX1_readablePanels (wsV RX1 56 RX1 yX1_higherThan wsX1_higherThan) := goodIn_app (goodIn_of _ (by decide +kernel)) ggX1_readablePanels_X1_higherThan
set_option maxRecDepth 20000 in
theorem ggX1_turnOver_X1_placesBelow : GoodIn wsX1_turnOver wsX1_placesBelow := goodIn_r _ [8, 9, 10, 11, 7, 12, 13, 14, 23, 24, 25, 26, 27, 28, 29] (by decide +kernel) (by decide +kernel)
set_option maxRecDepth 20000 in
theorem gX1_turnOver_X1_placesBelow : GoodIn wsX1_turnOver (wsV RX1 70 RX1 yX1_placesBelow wsX1_placesBelow) := goodIn_app (goodIn_of _ (by decide +kernel)) ggX1_turnOver_X1_placesBelow
set_option maxRecDepth 20000 in
theorem ggX1_turnOver_X1_panels : GoodIn wsX1_turnOver wsX1_panels := goodIn_r _ [12, 13, 14, 23, 24, 25, 26, 27, 28, 29] (by decide +kernel) (by decide +kernel)
set_option maxRecDepth 20000 in
theorem gX1_turnOver_X1_panels : GoodIn wsX1_turnOver (wsV RX1 64 RX1 yX1_panels wsX1_panels) := goodIn_app (goodIn_of _ (by decide +kernel)) ggX1_turnOver_X1_panels
set_option maxRecDepth 20000 in
theorem ggX1_turnOver_X1_highestLayer : GoodIn wsX1_turnOver wsX1_highestLayer := goodIn_r _ [18, 1, 19, 20, 21, 22, 9, 10, 11, 7, 12, 13, 14, 23, 24, 25, 26, 27, 28, 29] (by decide +kernel) (by decide +kernel)
set_option maxRecDepth 20000 in
theorem gX1_turnOver_X1_highestLayer : GoodIn wsX1_turnOver (wsV RX1 73 RX1 yX1_highestLayer wsX1_highestLayer) := goodIn_app (goodIn_of _ (by decide +kernel)) ggX1_turnOver_X1_highestLayer
set_option maxRecDepth 20000 in
theorem ggX1_placesBelow_X1_panels : GoodIn wsX1_placesBelow wsX1_panels := goodIn_r _ [5, 6, 7, 8, 9, 10, 11, 12, 13, 14] (by decide +kernel) (by decide +kernel)
set_option maxRecDepth 20000 in
theorem gX1_placesBelow_X1_panels : GoodIn wsX1_placesBelow (wsV RX1 64 RX1 yX1_panels wsX1_panels) := goodIn_app (goodIn_of _ (by decide +kernel)) ggX1_placesBelow_X1_panels
set_option maxRecDepth 20000 in
theorem ggX1_highestLayer_X1_panels : GoodIn wsX1_highestLayer wsX1_panels := goodIn_r _ [10, 11, 12, 13, 14, 15, 16, 17, 18, 19] (by decide +kernel) (by decide +kernel)
set_option maxRecDepth 20000 in
theorem gX1_highestLayer_X1_panels : GoodIn wsX1_highestLayer (wsV RX1 64 RX1 yX1_panels wsX1_panels) := goodIn_app (goodIn_of _ (by decide +kernel)) ggX1_highestLayer_X1_panels
set_option maxRecDepth 20000 in
theorem ggX1_higherThan_X1_panels : GoodIn wsX1_higherThan wsX1_panels := goodIn_r _ [8, 9, 10, 11, 12, 13, 14, 15, 16, 17] (by decide +kernel) (by decide +kernel)
set_option maxRecDepth 20000 in
theorem gX1_higherThan_X1_panels : GoodIn wsX1_higherThan (wsV RX1 64 RX1 yX1_panels wsX1_panels) := goodIn_app (goodIn_of _ (by decide +kernel)) ggX1_higherThan_X1_panels
set_option maxRecDepth 20000 in
theorem ggX2_wouldRise_X2_valueAt : GoodIn wsX2_wouldRise wsX2_valueAt := goodIn_r _ [5] (by decide +kernel) (by decide +kernel)
set_option maxRecDepth 20000 in
theorem gX2_wouldRise_X2_valueAt : GoodIn wsX2_wouldRise (va_wsS RX2 18 yX2_valueAt wsX2_valueAt) := goodIn_app (goodIn_of _ (by decide +kernel)) ggX2_wouldRise_X2_valueAt
set_option maxRecDepth 20000 in
theorem ggX2_tenWidths_X2_tenTimesAt : GoodIn wsX2_tenWidths wsX2_tenTimesAt := goodIn_r _ [9, 10, 11, 8, 12] (by decide +kernel) (by decide +kernel)
set_option maxRecDepth 20000 in
theorem gX2_tenWidths_X2_tenTimesAt : GoodIn wsX2_tenWidths (va_wsS RX2 28 yX2_tenTimesAt wsX2_tenTimesAt) := goodIn_app (goodIn_of _ (by decide +kernel)) ggX2_tenWidths_X2_tenTimesAt
set_option maxRecDepth 20000 in
theorem ggX2_tenHeights_X2_tenTimesAt : GoodIn wsX2_tenHeights wsX2_tenTimesAt := goodIn_r _ [9, 10, 11, 8, 12] (by decide +kernel) (by decide +kernel)
set_option maxRecDepth 20000 in
theorem gX2_tenHeights_X2_tenTimesAt : GoodIn wsX2_tenHeights (va_wsS RX2 28 yX2_tenTimesAt wsX2_tenTimesAt) := goodIn_app (goodIn_of _ (by decide +kernel)) ggX2_tenHeights_X2_tenTimesAt
set_option maxRecDepth 20000 in
theorem ggX2_greatestNotAbove_X2_tenHeights : GoodIn wsX2_greatestNotAbove wsX2_tenHeights := goodIn_r _ [5, 6, 7, 8, 9, 10, 11, 12, 4, 13, 14, 15, 16, 17, 18] (by decide +kernel) (by decide +kernel)
set_option maxRecDepth 20000 in
theorem gX2_greatestNotAbove_X2_tenHeights : GoodIn wsX2_greatestNotAbove (wsV RX2 31 RX2 yX2_tenHeights wsX2_tenHeights) := goodIn_app (goodIn_of _ (by decide +kernel)) ggX2_greatestNotAbove_X2_tenHeights
set_option maxRecDepth 20000 in
theorem ggX2_fieldArea_X2_cellArea : GoodIn wsX2_fieldArea wsX2_cellArea := goodIn_r _ [5, 6, 7, 8, 4, 9, 10, 11, 12, 13, 14, 15, 16, 17, 18, 19, 20, 21, 22, 23, 24, 25, 26, 27] (by decide +kernel) (by decide +kernel)
set_option maxRecDepth 20000 in
theorem gX2_fieldArea_X2_cellArea : GoodIn wsX2_fieldArea (wsV RX2 34 RX2 yX2_cellArea wsX2_cellArea) := goodIn_app (goodIn_of _ (by decide +kernel)) ggX2_fieldArea_X2_cellArea
set_option maxRecDepth 20000 in
theorem ggX2_cellArea_X2_tenWidths : GoodIn wsX2_cellArea wsX2_tenWidths := goodIn_r _ [5, 6, 7, 8, 9, 10, 11, 12, 4, 13, 14, 15, 16, 22, 23] (by decide +kernel) (by decide +kernel)
set_option maxRecDepth 20000 in
theorem gX2_cellArea_X2_tenWidths : GoodIn wsX2_cellArea (wsV RX2 38 RX2 yX2_tenWidths wsX2_tenWidths) := goodIn_app (goodIn_of _ (by decide +kernel)) ggX2_cellArea_X2_tenWidths
set_option maxRecDepth 20000 in
theorem ggX2_cellArea_X2_tenHeights : GoodIn wsX2_cellArea wsX2_tenHeights := goodIn_r _ [20, 21, 7, 8, 9, 10, 11, 12, 4, 13, 14, 15, 16, 22, 23] (by decide +kernel) (by decide +kernel)
