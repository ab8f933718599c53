set_option maxRecDepth 20000 in
theorem ggX0_rowArrangesAll_X0_listStarts : GoodIn wsX0_rowArrangesAll wsX0_listStarts := goodIn_r _ [5, 6, 7, 8, 9, 10, 11, 12, 13, 14, 15, 16, 17, 18, 19, 20, 4, 21, 22, 23, 24, 25, 26, 27, 28, 29, 30, 31, 32, 33, 34, 35, 36, 37, 38, 39, 40, 41, 80, 81, 82, 83, 84, 85, 86, 87, 88, 89, 90, 91, 92, 93, 94, 95, 96, 97, 98, 99, 100, 101, 102, 103, 104, 105, 106, 107, 108, 109, 110, 111, 112, 113, 114] (by decide +kernel) (by decide +kernel)
set_option maxRecDepth 20000 in
theorem gX0_rowArrangesAll_X0_listStarts : GoodIn wsX0_rowArrangesAll (wsV RX0 48 RX0 yX0_listStarts wsX0_listStarts) := goodIn_app (goodIn_of _ (by decide +kernel)) ggX0_rowArrangesAll_X0_listStarts
set_option maxRecDepth 20000 in
theorem ggX0_rowArrangesAll_X0_arrangesAll : GoodIn wsX0_rowArrangesAll wsX0_arrangesAll := goodIn_r _ [45, 6, 10, 46, 47, 48, 4, 49, 50, 51, 8, 52, 53, 54, 55, 33, 56, 40, 57, 58, 59, 60, 61, 62, 63, 64, 65, 66, 67, 68, 69, 70, 71, 72, 73, 74, 75, 76, 77, 78, 79, 80, 81, 82, 83, 84, 85, 86, 87, 88, 89, 90, 91, 92, 93, 94, 95, 96, 97, 115, 116, 117, 118, 119, 120, 98, 99, 100, 101, 102, 103, 104, 105, 106, 107, 108, 109, 110, 111, 112, 113, 114] (by decide +kernel) (by decide +kernel)
set_option maxRecDepth 20000 in
theorem gX0_rowArrangesAll_X0_arrangesAll : GoodIn wsX0_rowArrangesAll (wsV RX0 51 RX0 yX0_arrangesAll wsX0_arrangesAll) := goodIn_app (goodIn_of _ (by decide +kernel)) ggX0_rowArrangesAll_X0_arrangesAll
set_option maxRecDepth 20000 in
theorem ggX0_shortestRow_X0_listStarts : GoodIn wsX0_shortestRow wsX0_listStarts := goodIn_r _ [5, 6, 7, 8, 9, 10, 11, 12, 13, 14, 15, 16, 17, 18, 19, 20, 4, 21, 22, 23, 24, 25, 26, 27, 28, 29, 30, 31, 32, 33, 34, 35, 36, 37, 38, 39, 40, 41, 90, 91, 92, 93, 94, 95, 96, 97, 98, 99, 100, 101, 102, 103, 104, 105, 106, 107, 108, 109, 110, 111, 112, 113, 114, 115, 116, 117, 118, 119, 120, 121, 122, 123, 124] (by decide +kernel) (by decide +kernel)
set_option maxRecDepth 20000 in
theorem gX0_shortestRow_X0_listStarts : GoodIn wsX0_shortestRow (wsV RX0 48 RX0 yX0_listStarts wsX0_listStarts) := goodIn_app (goodIn_of _ (by decide +kernel)) ggX0_shortestRow_X0_listStarts
set_option maxRecDepth 20000 in
theorem ggX0_shortestRow_X0_findRow : GoodIn wsX0_shortestRow wsX0_findRow := goodIn_r _ [45, 8, 46, 47, 48, 49, 50, 51, 52, 4, 53, 6, 10, 54, 55, 56, 57, 58, 59, 60, 61, 33, 62, 40, 63, 64, 65, 66, 67, 68, 69, 70, 71, 72, 73, 74, 75, 76, 77, 78, 79, 80, 81, 82, 83, 84, 85, 86, 87, 88, 89, 90, 91, 92, 93, 94, 95, 96, 97, 98, 99, 100, 101, 102, 103, 104, 105, 106, 107, 125, 126, 127, 128, 129, 130, 108, 109, 110, 111, 112, 113, 114, 115, 116, 117, 118, 119, 120, 121, 122, 123, 124] (by decide +kernel) (by decide +kernel)
set_option maxRecDepth 20000 in
theorem gX0_shortestRow_X0_findRow : GoodIn wsX0_shortestRow (wsV RX0 55 RX0 yX0_findRow wsX0_findRow) := goodIn_app (goodIn_of _ (by decide +kernel)) ggX0_shortestRow_X0_findRow
set_option maxRecDepth 20000 in
theorem ggX0_listStarts_X6_burntPlates : GoodIn wsX0_listStarts wsX6_burntPlates := goodIn_r _ [10, 11, 12, 56, 57, 58, 59, 60, 61, 62, 63, 64, 65, 66, 67, 68, 69, 70, 71, 72] (by decide +kernel) (by decide +kernel)
set_option maxRecDepth 20000 in
theorem gX0_listStarts_X6_burntPlates : GoodIn wsX0_listStarts (wsV RX0 62 RX6 yX6_burntPlates wsX6_burntPlates) := goodIn_app (goodIn_of _ (by decide +kernel)) ggX0_listStarts_X6_burntPlates
set_option maxRecDepth 20000 in
theorem ggX0_listStarts_X0_isAllowed : GoodIn wsX0_listStarts wsX0_isAllowed := goodIn_r _ [17, 2, 18, 19, 20, 21, 22, 23, 16, 24, 3, 25, 26, 27, 28, 29, 30, 31, 38, 39, 40, 41, 42, 43, 44, 56, 57, 58, 59, 60, 61, 62, 63, 64, 65, 66, 67, 68, 69, 70, 71, 72, 45, 46, 47, 48, 49, 50, 51, 52, 53, 54, 55] (by decide +kernel) (by decide +kernel)
set_option maxRecDepth 20000 in
theorem gX0_listStarts_X0_isAllowed : GoodIn wsX0_listStarts (wsV RX0 69 RX0 yX0_isAllowed wsX0_isAllowed) := goodIn_app (goodIn_of _ (by decide +kernel)) ggX0_listStarts_X0_isAllowed
set_option maxRecDepth 20000 in
theorem ggX0_listStarts_X5_stateWith : GoodIn wsX0_listStarts wsX5_stateWith := goodIn_r _ [35, 36, 37, 27, 28, 29, 30, 31, 45, 46, 47, 48, 49, 50, 51, 52, 53, 54, 55] (by decide +kernel) (by decide +kernel)
set_option maxRecDepth 20000 in
theorem gX0_listStarts_X5_stateWith : GoodIn wsX0_listStarts (wsV RX0 72 RX5 yX5_stateWith wsX5_stateWith) := goodIn_app (goodIn_of _ (by decide +kernel)) ggX0_listStarts_X5_stateWith
set_option maxRecDepth 20000 in
theorem ggX0_findRow_X0_arrangesAll : GoodIn wsX0_findRow wsX0_arrangesAll := goodIn_r _ [10, 11, 12, 13, 14, 15, 9, 16, 3, 17, 1, 4, 18, 19, 20, 21, 22, 23, 24, 25, 26, 27, 28, 29, 30, 31, 32, 33, 34, 35, 36, 37, 38, 39, 40, 41, 42, 43, 44, 45, 46, 51, 52, 53, 54, 55, 56, 57, 58, 59, 60, 61, 62, 63, 64, 65, 66, 67, 68, 69, 70, 71, 72, 73, 74, 75, 76, 77, 78, 79, 80, 81, 82, 83, 84, 85, 86, 87, 88, 89, 90, 91] (by decide +kernel) (by decide +kernel)
set_option maxRecDepth 20000 in
theorem gX0_findRow_X0_arrangesAll : GoodIn wsX0_findRow (wsV RX0 51 RX0 yX0_arrangesAll wsX0_arrangesAll) := goodIn_app (goodIn_of _ (by decide +kernel)) ggX0_findRow_X0_arrangesAll
set_option maxRecDepth 20000 in
theorem ggX0_arrangesAll_X0_arranges : GoodIn wsX0_arrangesAll wsX0_arranges := goodIn_r _ [7, 8, 9, 10, 11, 12, 13, 14, 15, 16, 17, 18, 19, 20, 21, 22, 23, 24, 25, 26, 27, 28, 29, 30, 31, 32, 33, 34, 35, 36, 37, 38, 39, 40, 41, 42, 43, 44, 45, 46, 47, 48, 49, 50, 51, 52, 53, 54, 55, 56, 57, 58, 59, 60, 61, 62, 63, 64, 65, 66, 67, 68, 69, 70, 71, 72, 73, 74, 75, 76, 77, 78, 79, 80, 81] (by decide +kernel) (by decide +kernel)
set_option maxRecDepth 20000 in
theorem gX0_arrangesAll_X0_arranges : GoodIn wsX0_arrangesAll (wsV RX0 101 RX0 yX0_arranges wsX0_arranges) := goodIn_app (goodIn_of _ (by decide +kernel)) ggX0_arrangesAll_X0_arranges
set_option maxRecDepth 20000 in
theorem ggX0_arranges_X3_arranged : GoodIn wsX0_arranges wsX3_arranged := goodIn_r _ [27, 28, 29, 30, 31, 32, 33, 52, 53, 54, 55, 56, 57, 41, 42, 43, 44, 45, 46, 47, 48, 49, 50, 51, 58, 59, 60, 61, 62, 63, 64, 65, 66, 67, 68, 69, 70, 71, 72, 73, 74] (by decide +kernel) (by decide +kernel)
set_option maxRecDepth 20000 in
theorem gX0_arranges_X3_arranged : GoodIn wsX0_arranges (wsV RX0 116 RX3 yX3_arranged wsX3_arranged) := goodIn_app (goodIn_of _ (by decide +kernel)) ggX0_arranges_X3_arranged
set_option maxRecDepth 20000 in
theorem ggX1_leastOf_X1_measure : GoodIn wsX1_leastOf wsX1_measure := goodIn_r _ [6, 7, 8, 9, 1, 10, 11, 12, 13, 14, 15, 16, 17, 18, 19, 20, 21, 22, 23, 24, 25, 26, 5, 27, 28, 29, 30, 31, 32, 33, 34, 35, 36, 37, 38, 39, 40, 41, 42, 43, 44, 45, 46, 47, 48, 49, 50, 51, 52, 53, 54, 55, 56, 57, 58, 59, 60, 61, 62, 63, 64, 65, 66, 67, 68, 69, 70, 71, 72, 73, 74, 75, 76, 77, 78, 79, 80, 81, 82, 83, 84, 85, 86, 87, 88, 89] (by decide +kernel) (by decide +kernel)
set_option maxRecDepth 20000 in
theorem gX1_leastOf_X1_measure : GoodIn wsX1_leastOf (wsV RX1 48 RX1 yX1_measure wsX1_measure) := goodIn_app (goodIn_of _ (by decide +kernel)) ggX1_leastOf_X1_measure
set_option maxRecDepth 20000 in
theorem ggX1_waysOf_X1_measure : GoodIn wsX1_waysOf wsX1_measure := goodIn_r _ [7, 8, 9, 10, 1, 11, 2, 12, 13, 14, 15, 16, 17, 18, 19, 20, 21, 22, 23, 24, 25, 26, 6, 27, 28, 29, 30, 31, 32, 33, 34, 35, 36, 37, 38, 39, 40, 41, 42, 43, 44, 45, 46, 47, 48, 49, 50, 51, 52, 53, 54, 55, 56, 57, 58, 59, 60, 61, 62, 63, 64, 65, 66, 67, 68, 69, 70, 71, 72, 73, 74, 75, 76, 77, 78, 79, 80, 81, 82, 83, 84, 85, 86, 87, 88, 89] (by decide +kernel) (by decide +kernel)
set_option maxRecDepth 20000 in
theorem gX1_waysOf_X1_measure : GoodIn wsX1_waysOf (wsV RX1 48 RX1 yX1_measure wsX1_measure) := goodIn_app (goodIn_of _ (by decide +kernel)) ggX1_waysOf_X1_measure
set_option maxRecDepth 20000 in
theorem ggX1_priceOf_X1_setPrices : GoodIn wsX1_priceOf wsX1_setPrices := goodIn_r _ [6, 7, 8, 9, 10, 11, 12, 1, 13, 14, 15, 16, 5, 17, 18, 19, 20, 21, 22, 23, 24, 25, 26, 27, 28, 29, 30, 31, 32, 33, 34, 35, 36, 37, 38, 39, 40, 41, 42, 43, 44, 45, 46, 47, 48, 49, 50, 51, 52, 53, 54, 55, 56, 57, 58, 59, 60, 61, 62, 63, 64, 65, 66, 67, 68, 69, 70, 71, 72, 73, 74, 75, 76, 77, 78, 79, 80, 81, 82, 83, 84, 85, 86, 87, 88, 89, 90, 91, 92, 93, 94, 95, 96, 97, 98, 99, 100] (by decide +kernel) (by decide +kernel)
set_option maxRecDepth 20000 in
theorem gX1_priceOf_X1_setPrices : GoodIn wsX1_priceOf (wsV RX1 51 RX1 yX1_setPrices wsX1_setPrices) := goodIn_app (goodIn_of _ (by decide +kernel)) ggX1_priceOf_X1_setPrices
set_option maxRecDepth 20000 in
theorem ggX1_howManyAt_X1_measure : GoodIn wsX1_howManyAt wsX1_measure := goodIn_r _ [8, 9, 1, 2, 3, 10, 11, 12, 13, 14, 15, 16, 17, 18, 19, 20, 21, 22, 23, 24, 25, 26, 7, 27, 28, 29, 30, 31, 32, 33, 34, 35, 36, 37, 38, 39, 40, 41, 42, 43, 44, 45, 46, 47, 48, 49, 50, 51, 52, 53, 54, 55, 56, 57, 58, 59, 60, 61, 62, 63, 64, 65, 66, 67, 68, 69, 70, 71, 72, 73, 74, 75, 76, 77, 78, 79, 80, 81, 82, 83, 84, 85, 86, 87, 88, 89] (by decide +kernel) (by decide +kernel)
set_option maxRecDepth 20000 in
theorem gX1_howManyAt_X1_measure : GoodIn wsX1_howManyAt (wsV RX1 48 RX1 yX1_measure wsX1_measure) := goodIn_app (goodIn_of _ (by decide +kernel)) ggX1_howManyAt_X1_measure
set_option maxRecDepth 20000 in
theorem ggX1_measure_X3_arranged : GoodIn wsX1_measure wsX3_arranged := goodIn_r _ [12, 13, 14, 15, 16, 17, 18, 63, 64, 65, 66, 67, 68, 52, 53, 54, 55, 56, 57, 58, 59, 60, 61, 62, 69, 70, 71, 72, 73, 74, 75, 76, 77, 78, 79, 80, 81, 82, 83, 84, 85] (by decide +kernel) (by decide +kernel)
set_option maxRecDepth 20000 in
theorem gX1_measure_X3_arranged : GoodIn wsX1_measure (wsV RX1 60 RX3 yX3_arranged wsX3_arranged) := goodIn_app (goodIn_of _ (by decide +kernel)) ggX1_measure_X3_arranged
set_option maxRecDepth 20000 in
theorem ggX1_measure_X1_flood : GoodIn wsX1_measure wsX1_flood := goodIn_r _ [23, 7, 2, 24, 5, 25, 26, 27, 28, 29, 30, 31, 32, 33, 11, 34, 35, 36, 37, 38, 39, 40, 41, 42, 43, 44, 45, 46, 47, 48, 49, 50, 51, 52, 53, 54, 55, 56, 57, 58, 59, 60, 61, 62, 63, 64, 65, 66, 67, 68] (by decide +kernel) (by decide +kernel)
set_option maxRecDepth 20000 in
theorem gX1_measure_X1_flood : GoodIn wsX1_measure (wsV RX1 66 RX1 yX1_flood wsX1_flood) := goodIn_app (goodIn_of _ (by decide +kernel)) ggX1_measure_X1_flood
set_option maxRecDepth 20000 in
theorem ggX1_flood_X5_orderIn : GoodIn wsX1_flood wsX5_orderIn := goodIn_r _ [9, 10, 33, 34, 35, 36, 37, 38, 39, 40, 41, 42, 43] (by decide +kernel) (by decide +kernel)
set_option maxRecDepth 20000 in
theorem gX1_flood_X5_orderIn : GoodIn wsX1_flood (wsV RX1 70 RX5 yX5_orderIn wsX5_orderIn) := goodIn_app (goodIn_of _ (by decide +kernel)) ggX1_flood_X5_orderIn
set_option maxRecDepth 20000 in
theorem ggX1_setPrices_X1_seedPrices : GoodIn wsX1_setPrices wsX1_seedPrices := goodIn_r _ [13, 5, 14, 7, 4, 8, 3, 15, 16, 17, 18, 19, 20, 21, 22, 23, 24, 25, 54, 55, 56, 57, 58, 59, 60, 61, 62, 63, 64, 65, 66, 67, 68, 69, 70, 71, 72, 73, 74, 75, 76, 77, 78, 79, 80, 81, 82, 83, 84, 85, 86, 87, 88, 89, 90, 91, 92, 93, 94, 95, 96] (by decide +kernel) (by decide +kernel)
set_option maxRecDepth 20000 in
theorem gX1_setPrices_X1_seedPrices : GoodIn wsX1_setPrices (wsV RX1 85 RX1 yX1_seedPrices wsX1_seedPrices) := goodIn_app (goodIn_of _ (by decide +kernel)) ggX1_setPrices_X1_seedPrices
set_option maxRecDepth 20000 in
theorem ggX1_setPrices_X1_roundTheQueue : GoodIn wsX1_setPrices wsX1_roundTheQueue := goodIn_r _ [28] (by decide +kernel) (by decide +kernel)
set_option maxRecDepth 20000 in
theorem gX1_setPrices_X1_roundTheQueue : GoodIn wsX1_setPrices (va_wsS RX1 90 yX1_roundTheQueue wsX1_roundTheQueue) := goodIn_app (goodIn_of _ (by decide +kernel)) ggX1_setPrices_X1_roundTheQueue
set_option maxRecDepth 20000 in
theorem ggX1_setPrices_X5_orderIn : GoodIn wsX1_setPrices wsX5_orderIn := goodIn_r _ [33, 34, 63, 64, 65, 66, 67, 68, 69, 70, 71, 72, 73] (by decide +kernel) (by decide +kernel)
set_option maxRecDepth 20000 in
theorem gX1_setPrices_X5_orderIn : GoodIn wsX1_setPrices (wsV RX1 70 RX5 yX5_orderIn wsX5_orderIn) := goodIn_app (goodIn_of _ (by decide +kernel)) ggX1_setPrices_X5_orderIn
set_option maxRecDepth 20000 in
theorem ggX1_seedPrices_X3_arranged : GoodIn wsX1_seedPrices wsX3_arranged := goodIn_r _ [11, 12, 13, 14, 15, 16, 17, 38, 39, 40, 41, 42, 43, 27, 28, 29, 30, 31, 32, 33, 34, 35, 36, 37, 44, 45, 46, 47, 48, 49, 50, 51, 52, 53, 54, 55, 56, 57, 58, 59, 60] (by decide +kernel) (by decide +kernel)
set_option maxRecDepth 20000 in
theorem gX1_seedPrices_X3_arranged : GoodIn wsX1_seedPrices (wsV RX1 60 RX3 yX3_arranged wsX3_arranged) := goodIn_app (goodIn_of _ (by decide +kernel)) ggX1_seedPrices_X3_arranged
set_option maxRecDepth 20000 in
theorem ggX2_read_X2_firstMisfit : GoodIn wsX2_read wsX2_firstMisfit := goodIn_r _ [11, 1, 2, 12, 13, 14, 10, 15, 16, 17, 18, 19, 20, 21, 22, 23, 50, 51, 52, 53, 54, 55, 56, 57, 58, 59, 60, 61, 62, 63, 64, 65, 66, 67] (by decide +kernel) (by decide +kernel)
set_option maxRecDepth 20000 in
theorem gX2_read_X2_firstMisfit : GoodIn wsX2_read (wsV RX2 15 RX2 yX2_firstMisfit wsX2_firstMisfit) := goodIn_app (goodIn_of _ (by decide +kernel)) ggX2_read_X2_firstMisfit
set_option maxRecDepth 20000 in
theorem ggX2_firstMisfit_X2_letterAt : GoodIn wsX2_firstMisfit wsX2_letterAt := goodIn_r _ [7, 1, 2, 8, 16, 17, 18, 19, 20, 21, 22, 23, 24, 25, 26, 27, 28, 29, 30, 31, 32, 33] (by decide +kernel) (by decide +kernel)
set_option maxRecDepth 20000 in
theorem gX2_firstMisfit_X2_letterAt : GoodIn wsX2_firstMisfit (wsV RX2 29 RX2 yX2_letterAt wsX2_letterAt) := goodIn_app (goodIn_of _ (by decide +kernel)) ggX2_firstMisfit_X2_letterAt
set_option maxRecDepth 20000 in
theorem ggX2_firstMisfit_X2_lengthOf : GoodIn wsX2_firstMisfit wsX2_lengthOf := goodIn_r _ [11] (by decide +kernel) (by decide +kernel)
set_option maxRecDepth 20000 in
theorem gX2_firstMisfit_X2_lengthOf : GoodIn wsX2_firstMisfit (va_wsS RX2 33 yX2_lengthOf wsX2_lengthOf) := goodIn_app (goodIn_of _ (by decide +kernel)) ggX2_firstMisfit_X2_lengthOf
set_option maxRecDepth 20000 in
theorem ggX3_settle_X3_rankSizes : GoodIn wsX3_settle wsX3_rankSizes := goodIn_r _ [10, 11, 12, 13, 14, 15, 16, 17, 18, 19, 20, 21, 22, 51, 52, 53, 54, 55, 56, 68, 69, 70, 71, 72, 73, 74, 75, 76, 77, 78, 79, 80, 81, 82, 83, 84] (by decide +kernel) (by decide +kernel)
set_option maxRecDepth 20000 in
theorem gX3_settle_X3_rankSizes : GoodIn wsX3_settle (wsV RX3 30 RX3 yX3_rankSizes wsX3_rankSizes) := goodIn_app (goodIn_of _ (by decide +kernel)) ggX3_settle_X3_rankSizes
set_option maxRecDepth 20000 in
theorem ggX3_settle_X3_isSorted : GoodIn wsX3_settle wsX3_isSorted := goodIn_r _ [26, 1, 27, 28, 29, 30, 9, 31, 11, 13, 32, 33, 34, 35, 36, 37, 51, 52, 53, 54, 55, 56, 57, 58, 59, 60, 61, 62, 63, 64, 65, 66, 67, 68, 69, 70, 71, 72, 73, 74, 75, 76, 77, 78, 79, 80, 81, 82, 83, 84] (by decide +kernel) (by decide +kernel)
set_option maxRecDepth 20000 in
theorem gX3_settle_X3_isSorted : GoodIn wsX3_settle (wsV RX3 39 RX3 yX3_isSorted wsX3_isSorted) := goodIn_app (goodIn_of _ (by decide +kernel)) ggX3_settle_X3_isSorted
set_option maxRecDepth 20000 in
theorem ggX3_rankSizes_J6_bitCount_0f7a4 : GoodIn wsX3_rankSizes wsJ6_bitCount_0f7a4 := goodIn_r _ [9, 10, 11, 12] (by decide +kernel) (by decide +kernel)
set_option maxRecDepth 20000 in
theorem gX3_rankSizes_J6_bitCount_0f7a4 : GoodIn wsX3_rankSizes (va_wsS RX3 58 yJ6_bitCount_0f7a4 wsJ6_bitCount_0f7a4) := goodIn_app (goodIn_of _ (by decide +kernel)) ggX3_rankSizes_J6_bitCount_0f7a4
set_option maxRecDepth 20000 in
theorem ggX5_stateOf_X5_orderOf : GoodIn wsX5_stateOf wsX5_orderOf := goodIn_r _ [6, 1, 11, 12, 13, 14, 15, 16, 17, 18, 19, 20, 21] (by decide +kernel) (by decide +kernel)
set_option maxRecDepth 20000 in
theorem gX5_stateOf_X5_orderOf : GoodIn wsX5_stateOf (wsV RX5 76 RX5 yX5_orderOf wsX5_orderOf) := goodIn_app (goodIn_of _ (by decide +kernel)) ggX5_stateOf_X5_orderOf
set_option maxRecDepth 20000 in
theorem ggX5_stateOf_X5_sidesOf : GoodIn wsX5_stateOf wsX5_sidesOf := goodIn_r _ [10, 1, 11, 12, 13, 14, 15, 16, 17, 18, 19, 20, 21] (by decide +kernel) (by decide +kernel)
set_option maxRecDepth 20000 in
theorem gX5_stateOf_X5_sidesOf : GoodIn wsX5_stateOf (wsV RX5 84 RX5 yX5_sidesOf wsX5_sidesOf) := goodIn_app (goodIn_of _ (by decide +kernel)) ggX5_stateOf_X5_sidesOf
set_option maxRecDepth 20000 in
theorem ggX7_advise_X3_arranged : GoodIn wsX7_advise wsX3_arranged := goodIn_r _ [7, 8, 9, 10, 11, 12, 13, 160, 161, 162, 163, 164, 165, 166, 167, 168, 169, 170, 171, 172, 173, 174, 175, 176, 177, 178, 179, 180, 181, 182, 183, 184, 185, 186, 187, 188, 189, 190, 191, 192, 193] (by decide +kernel) (by decide +kernel)
set_option maxRecDepth 20000 in
theorem gX7_advise_X3_arranged : GoodIn wsX7_advise (wsV RX7 23 RX3 yX3_arranged wsX3_arranged) := goodIn_app (goodIn_of _ (by decide +kernel)) ggX7_advise_X3_arranged
set_option maxRecDepth 20000 in
theorem ggX7_turnsMade_X3_arranged : GoodIn wsX7_turnsMade wsX3_arranged := goodIn_r _ [7, 8, 9, 10, 11, 12, 13, 164, 165, 166, 167, 168, 169, 170, 171, 172, 173, 174, 175, 176, 177, 178, 179, 180, 181, 182, 183, 184, 185, 186, 187, 188, 189, 190, 191, 192, 193, 194, 195, 196, 197] (by decide +kernel) (by decide +kernel)
set_option maxRecDepth 20000 in
theorem gX7_turnsMade_X3_arranged : GoodIn wsX7_turnsMade (wsV RX7 23 RX3 yX3_arranged wsX3_arranged) := goodIn_app (goodIn_of _ (by decide +kernel)) ggX7_turnsMade_X3_arranged
set_option maxRecDepth 20000 in
theorem ggX8_turnsBetween_X8_fillFirst : GoodIn wsX8_turnsBetween wsX8_fillFirst := goodIn_r _ [9, 10, 11, 1, 40, 41, 42, 43, 44, 45, 46, 47, 48, 49, 50, 51, 52, 53, 54, 55, 56] (by decide +kernel) (by decide +kernel)
set_option maxRecDepth 20000 in
theorem gX8_turnsBetween_X8_fillFirst : GoodIn wsX8_turnsBetween (wsV RX8 38 RX8 yX8_fillFirst wsX8_fillFirst) := goodIn_app (goodIn_of _ (by decide +kernel)) ggX8_turnsBetween_X8_fillFirst
set_option maxRecDepth 20000 in
theorem ggX8_turnsBetween_X1_flood : GoodIn wsX8_turnsBetween wsX1_flood := goodIn_r _ [16, 17, 18, 19, 20, 21, 22, 23, 24, 25, 26, 27, 28, 29, 30, 31, 32, 33, 34, 35, 36, 37, 38, 39, 57, 58, 59, 60, 61, 62, 63, 64, 65, 46, 47, 48, 49, 50, 51, 52, 53, 54, 55, 56, 66, 67, 68, 69, 70, 71] (by decide +kernel) (by decide +kernel)
set_option maxRecDepth 20000 in
theorem gX8_turnsBetween_X1_flood : GoodIn wsX8_turnsBetween (wsV RX8 42 RX1 yX1_flood wsX1_flood) := goodIn_app (goodIn_of _ (by decide +kernel)) ggX8_turnsBetween_X1_flood
set_option maxRecDepth 20000 in
theorem ggX8_howManyBehind_X8_fillFirst : GoodIn wsX8_howManyBehind wsX8_fillFirst := goodIn_r _ [8, 2, 3, 1, 34, 35, 36, 37, 38, 39, 40, 41, 42, 43, 44, 45, 46, 47, 48, 49, 50] (by decide +kernel) (by decide +kernel)
set_option maxRecDepth 20000 in
theorem gX8_howManyBehind_X8_fillFirst : GoodIn wsX8_howManyBehind (wsV RX8 38 RX8 yX8_fillFirst wsX8_fillFirst) := goodIn_app (goodIn_of _ (by decide +kernel)) ggX8_howManyBehind_X8_fillFirst
set_option maxRecDepth 20000 in
theorem ggX8_howManyBehind_X8_markBehind : GoodIn wsX8_howManyBehind wsX8_markBehind := goodIn_r _ [12, 2, 13, 14, 1, 15, 16, 17, 18, 19, 20, 21, 22, 23, 24, 25, 26, 27, 28, 29, 30, 31, 32, 33, 34, 35, 36, 37, 38, 39, 40, 41, 42, 43, 44, 45, 46, 47, 48, 49, 50, 51, 52, 53, 54, 55, 56] (by decide +kernel) (by decide +kernel)
set_option maxRecDepth 20000 in
theorem gX8_howManyBehind_X8_markBehind : GoodIn wsX8_howManyBehind (wsV RX8 54 RX8 yX8_markBehind wsX8_markBehind) := goodIn_app (goodIn_of _ (by decide +kernel)) ggX8_howManyBehind_X8_markBehind
set_option maxRecDepth 20000 in
theorem ggX8_markBehind_X5_orderIn : GoodIn wsX8_markBehind wsX5_orderIn := goodIn_r _ [9, 10, 30, 31, 32, 33, 34, 35, 36, 37, 38, 39, 40] (by decide +kernel) (by decide +kernel)
set_option maxRecDepth 20000 in
theorem gX8_markBehind_X5_orderIn : GoodIn wsX8_markBehind (wsV RX8 58 RX5 yX5_orderIn wsX5_orderIn) := goodIn_app (goodIn_of _ (by decide +kernel)) ggX8_markBehind_X5_orderIn
set_option maxRecDepth 20000 in
theorem ggX8_shuffle_X5_orderIn : GoodIn wsX8_shuffle wsX5_orderIn := goodIn_r _ [10, 11, 41, 42, 43, 44, 45, 46, 47, 48, 49, 50, 51] (by decide +kernel) (by decide +kernel)
set_option maxRecDepth 20000 in
theorem gX8_shuffle_X5_orderIn : GoodIn wsX8_shuffle (wsV RX8 58 RX5 yX5_orderIn wsX5_orderIn) := goodIn_app (goodIn_of _ (by decide +kernel)) ggX8_shuffle_X5_orderIn
set_option maxRecDepth 20000 in
theorem ggX8_shuffle_X3_howManyLawful : GoodIn wsX8_shuffle wsX3_howManyLawful := goodIn_r _ [16, 17, 18, 19, 20, 21, 15, 22, 23, 52, 53, 54, 55, 56, 57, 41, 42, 43, 44, 45, 46, 47, 48, 49, 50, 51] (by decide +kernel) (by decide +kernel)
set_option maxRecDepth 20000 in
theorem gX8_shuffle_X3_howManyLawful : GoodIn wsX8_shuffle (wsV RX8 75 RX3 yX3_howManyLawful wsX3_howManyLawful) := goodIn_app (goodIn_of _ (by decide +kernel)) ggX8_shuffle_X3_howManyLawful
set_option maxRecDepth 20000 in
theorem ggX8_matchFrom_X8_seedMatch : GoodIn wsX8_matchFrom wsX8_seedMatch := goodIn_r _ [10, 2, 11, 12, 4, 5, 1, 13, 14, 15, 16, 17, 18, 19, 20, 21, 22, 23, 24, 25, 26, 27, 28, 29, 30, 31, 32, 33, 34, 35, 36, 37, 38, 39, 52, 53, 54, 55, 56, 57, 58, 59, 60, 61, 62, 63, 64, 65, 66, 67, 68, 69, 70, 71, 72, 73, 74, 75, 76, 77, 78, 79, 80, 81, 82, 83, 84, 85, 86, 87, 88, 89, 90, 91] (by decide +kernel) (by decide +kernel)
set_option maxRecDepth 20000 in
theorem gX8_matchFrom_X8_seedMatch : GoodIn wsX8_matchFrom (wsV RX8 84 RX8 yX8_seedMatch wsX8_seedMatch) := goodIn_app (goodIn_of _ (by decide +kernel)) ggX8_matchFrom_X8_seedMatch
set_option maxRecDepth 20000 in
theorem ggX8_matchFrom_X5_orderIn : GoodIn wsX8_matchFrom wsX5_orderIn := goodIn_r _ [17, 18, 58, 59, 60, 61, 62, 63, 64, 65, 66, 67, 68] (by decide +kernel) (by decide +kernel)
set_option maxRecDepth 20000 in
theorem gX8_matchFrom_X5_orderIn : GoodIn wsX8_matchFrom (wsV RX8 58 RX5 yX5_orderIn wsX5_orderIn) := goodIn_app (goodIn_of _ (by decide +kernel)) ggX8_matchFrom_X5_orderIn
set_option maxRecDepth 20000 in
theorem ggX8_seedMatch_X5_orderIn : GoodIn wsX8_seedMatch wsX5_orderIn := goodIn_r _ [11, 12, 40, 41, 42, 43, 44, 45, 46, 47, 48, 49, 50] (by decide +kernel) (by decide +kernel)
set_option maxRecDepth 20000 in
theorem gX8_seedMatch_X5_orderIn : GoodIn wsX8_seedMatch (wsV RX8 58 RX5 yX5_orderIn wsX5_orderIn) := goodIn_app (goodIn_of _ (by decide +kernel)) ggX8_seedMatch_X5_orderIn
set_option maxRecDepth 20000 in
theorem ggX8_seedMatch_X3_howManyLawful : GoodIn wsX8_seedMatch wsX3_howManyLawful := goodIn_r _ [17, 18, 19, 20, 21, 22, 16, 23, 24, 51, 52, 53, 54, 55, 56, 40, 41, 42, 43, 44, 45, 46, 47, 48, 49, 50] (by decide +kernel) (by decide +kernel)
set_option maxRecDepth 20000 in
theorem gX8_seedMatch_X3_howManyLawful : GoodIn wsX8_seedMatch (wsV RX8 75 RX3 yX3_howManyLawful wsX3_howManyLawful) := goodIn_app (goodIn_of _ (by decide +kernel)) ggX8_seedMatch_X3_howManyLawful
set_option maxRecDepth 20000 in
theorem ggX9_init_X6_init : GoodIn wsX9_init wsX6_init := goodIn_r _ [45, 46, 2, 3, 42, 47, 48, 49, 50, 51, 52, 53, 54, 55, 131, 132, 133, 134, 135, 136, 137, 138, 139, 140, 141, 142, 143, 144, 145, 146, 147] (by decide +kernel) (by decide +kernel)
set_option maxRecDepth 20000 in
theorem gX9_init_X6_init_n9 : GoodIn wsX9_init (wsX6_init) := ggX9_init_X6_init
set_option maxRecDepth 20000 in
theorem ggX9_init_X2_init : GoodIn wsX9_init wsX2_init := goodIn_r _ [58, 59, 2, 3, 60, 160] (by decide +kernel) (by decide +kernel)
set_option maxRecDepth 20000 in
theorem gX9_init_X2_init : GoodIn wsX9_init (wsX2_init) := ggX9_init_X2_init
set_option maxRecDepth 20000 in
theorem ggX9_init_X5_init : GoodIn wsX9_init wsX5_init := goodIn_r _ [62, 63, 2, 3, 64, 65, 66, 42, 67, 68, 69, 70, 71, 72, 161, 162, 163, 164, 165, 166, 167, 168, 169, 170, 171] (by decide +kernel) (by decide +kernel)
set_option maxRecDepth 20000 in
theorem gX9_init_X5_init_n37 : GoodIn wsX9_init (wsX5_init) := ggX9_init_X5_init
set_option maxRecDepth 20000 in
theorem ggX9_init_X3_init : GoodIn wsX9_init wsX3_init := goodIn_r _ [75, 76, 2, 3, 77, 78, 79, 42, 80, 81, 82, 172, 173, 174, 175, 176, 177] (by decide +kernel) (by decide +kernel)
set_option maxRecDepth 20000 in
theorem gX9_init_X3_init : GoodIn wsX9_init (wsX3_init) := ggX9_init_X3_init
set_option maxRecDepth 20000 in
theorem ggX9_init_X4_init : GoodIn wsX9_init wsX4_init := goodIn_r _ [84, 85, 2, 3, 42, 86, 87, 88, 178, 179, 180] (by decide +kernel) (by decide +kernel)
set_option maxRecDepth 20000 in
theorem gX9_init_X4_init_n53 : GoodIn wsX9_init (wsX4_init) := ggX9_init_X4_init
set_option maxRecDepth 20000 in
theorem ggX9_init_X1_init : GoodIn wsX9_init wsX1_init := goodIn_r _ [91, 92, 2, 3, 42, 93, 94, 95, 96, 97, 98, 99, 100, 101, 181, 182, 183, 184, 185, 186, 187, 188, 189, 178, 179, 180] (by decide +kernel) (by decide +kernel)
set_option maxRecDepth 20000 in
theorem gX9_init_X1_init : GoodIn wsX9_init (wsX1_init) := ggX9_init_X1_init
set_option maxRecDepth 20000 in
theorem ggX9_init_X8_init : GoodIn wsX9_init wsX8_init := goodIn_r _ [104, 105, 2, 3, 106, 107, 108, 109, 110, 111, 112, 113, 114, 190, 191, 192, 193, 194, 195, 178, 179, 180] (by decide +kernel) (by decide +kernel)
set_option maxRecDepth 20000 in
theorem gX9_init_X8_init : GoodIn wsX9_init (wsX8_init) := ggX9_init_X8_init
set_option maxRecDepth 20000 in
theorem ggX9_init_X7_init : GoodIn wsX9_init wsX7_init := goodIn_r _ [117, 118, 2, 3, 119, 120, 121, 196, 197, 198] (by decide +kernel) (by decide +kernel)
set_option maxRecDepth 20000 in
theorem gX9_init_X7_init : GoodIn wsX9_init (wsX7_init) := ggX9_init_X7_init
set_option maxRecDepth 20000 in
theorem ggX9_init_X0_init : GoodIn wsX9_init wsX0_init := goodIn_r _ [124, 125, 2, 3, 42, 126, 127, 128, 129, 130, 199, 200, 201, 202, 203, 204, 205] (by decide +kernel) (by decide +kernel)
set_option maxRecDepth 20000 in
theorem gX9_init_X0_init : GoodIn wsX9_init (wsX0_init) := ggX9_init_X0_init
set_option maxRecDepth 20000 in
theorem ggX9_letter_X9_refuse : GoodIn wsX9_letter wsX9_refuse := goodIn_r _ [8, 9, 10, 11, 12, 13, 14, 15, 16, 17, 18, 19, 20, 21] (by decide +kernel) (by decide +kernel)
set_option maxRecDepth 20000 in
theorem gX9_letter_X9_refuse : GoodIn wsX9_letter (wsV RX9 94 RX9 yX9_refuse wsX9_refuse) := goodIn_app (goodIn_of _ (by decide +kernel)) ggX9_letter_X9_refuse
set_option maxRecDepth 20000 in
theorem ggX9_kitchen_X6_takeFrom : GoodIn wsX9_kitchen wsX6_takeFrom := goodIn_r _ [9, 10, 11, 12, 13, 14, 15, 16, 17, 18, 19, 20, 21, 22, 23, 24, 25, 26, 27, 28, 29, 30, 215, 216, 217, 218, 219, 220, 221, 222, 223, 224, 225, 226, 227, 228, 229, 230, 231] (by decide +kernel) (by decide +kernel)
set_option maxRecDepth 20000 in
theorem gX9_kitchen_X6_takeFrom : GoodIn wsX9_kitchen (wsV RX9 105 RX6 yX6_takeFrom wsX6_takeFrom) := goodIn_app (goodIn_of _ (by decide +kernel)) ggX9_kitchen_X6_takeFrom
set_option maxRecDepth 20000 in
theorem ggX9_kitchen_X2_read : GoodIn wsX9_kitchen wsX2_read := goodIn_r _ [35, 36, 37, 38, 39, 40, 41, 42, 43, 44, 34, 45, 46, 47, 48, 49, 50, 51, 52, 53, 54, 55, 56, 57, 58, 59, 60, 61, 62, 63, 64, 65, 66, 67, 68, 69, 70, 71, 8, 72, 10, 21, 26, 73, 74, 75, 76, 17, 27, 28, 232, 215, 216, 217, 218, 219, 220, 221, 222, 223, 224, 225, 226, 227, 228, 229, 230, 231] (by decide +kernel) (by decide +kernel)
set_option maxRecDepth 20000 in
theorem gX9_kitchen_X2_read : GoodIn wsX9_kitchen (wsV RX9 108 RX2 yX2_read wsX2_read) := goodIn_app (goodIn_of _ (by decide +kernel)) ggX9_kitchen_X2_read
set_option maxRecDepth 20000 in
theorem ggX9_place_X9_refuse : GoodIn wsX9_place wsX9_refuse := goodIn_r _ [9, 10, 11, 12, 13, 14, 15, 16, 17, 18, 19, 20, 21, 22] (by decide +kernel) (by decide +kernel)
set_option maxRecDepth 20000 in
theorem gX9_place_X9_refuse : GoodIn wsX9_place (wsV RX9 94 RX9 yX9_refuse wsX9_refuse) := goodIn_app (goodIn_of _ (by decide +kernel)) ggX9_place_X9_refuse
set_option maxRecDepth 20000 in
theorem ggX9_law_X9_refuse : GoodIn wsX9_law wsX9_refuse := goodIn_r _ [7, 8, 137, 138, 139, 140, 141, 142, 143, 144, 145, 146, 147, 148] (by decide +kernel) (by decide +kernel)
set_option maxRecDepth 20000 in
theorem gX9_law_X9_refuse : GoodIn wsX9_law (wsV RX9 94 RX9 yX9_refuse wsX9_refuse) := goodIn_app (goodIn_of _ (by decide +kernel)) ggX9_law_X9_refuse
set_option maxRecDepth 20000 in
theorem ggX9_law_X9_settle : GoodIn wsX9_law wsX9_settle := goodIn_r _ [12, 13, 1, 14, 15, 16, 17, 18, 19, 20, 21, 22, 23, 24, 25, 26, 27, 28, 29, 30, 31, 32, 33, 34, 35, 36, 37, 38, 39, 40, 41, 42, 43, 44, 45, 46, 47, 48, 49, 50, 51, 52, 53, 54, 55, 56, 6, 57, 58, 59, 60, 61, 62, 63, 64, 65, 66, 67, 68, 69, 70, 71, 72, 73, 74, 75, 76, 77, 78, 79, 80, 81, 82, 83, 84, 85, 86, 87, 88, 89, 90, 91, 92, 93, 94, 95, 96, 97, 98, 99, 100, 101, 102, 103, 104, 105, 106, 107, 108, 109, 110, 111, 112, 113, 114, 115, 116, 117, 118, 119, 120, 121, 122, 123, 124, 125, 126, 127, 128, 129, 130, 131, 132, 133, 134, 135, 136, 137, 138, 139, 140, 141, 142, 143, 144, 145, 146, 147, 148, 149, 150, 151, 152, 153, 154, 155, 156, 157, 158, 159, 160, 161, 162, 163, 164, 165, 166, 167, 168, 169, 170, 171, 172, 173, 174, 175, 176, 177, 178, 179, 180, 181, 182, 183, 184, 185, 186, 187, 188, 189, 190, 191] (by decide +kernel) (by decide +kernel)
set_option maxRecDepth 20000 in
theorem gX9_law_X9_settle : GoodIn wsX9_law (wsV RX9 112 RX9 yX9_settle wsX9_settle) := goodIn_app (goodIn_of _ (by decide +kernel)) ggX9_law_X9_settle
set_option maxRecDepth 20000 in
theorem ggX9_may_X5_turnOf : GoodIn wsX9_may wsX5_turnOf := goodIn_r _ [9, 10, 11, 12, 59, 60, 61, 62, 63, 64, 65, 66, 67, 68, 69] (by decide +kernel) (by decide +kernel)
set_option maxRecDepth 20000 in
theorem gX9_may_X5_turnOf : GoodIn wsX9_may (wsV RX9 127 RX5 yX5_turnOf wsX5_turnOf) := goodIn_app (goodIn_of _ (by decide +kernel)) ggX9_may_X5_turnOf
set_option maxRecDepth 20000 in
theorem ggX9_may_X9_refuse : GoodIn wsX9_may wsX9_refuse := goodIn_r _ [17, 18, 30, 31, 32, 33, 34, 35, 36, 37, 38, 39, 40, 41] (by decide +kernel) (by decide +kernel)
set_option maxRecDepth 20000 in
theorem gX9_may_X9_refuse : GoodIn wsX9_may (wsV RX9 94 RX9 yX9_refuse wsX9_refuse) := goodIn_app (goodIn_of _ (by decide +kernel)) ggX9_may_X9_refuse
set_option maxRecDepth 20000 in
theorem ggX9_turn_X5_turnOf : GoodIn wsX9_turn wsX5_turnOf := goodIn_r _ [10, 11, 12, 13, 75, 76, 77, 78, 79, 80, 81, 82, 83, 84, 85] (by decide +kernel) (by decide +kernel)
set_option maxRecDepth 20000 in
theorem gX9_turn_X5_turnOf : GoodIn wsX9_turn (wsV RX9 127 RX5 yX5_turnOf wsX5_turnOf) := goodIn_app (goodIn_of _ (by decide +kernel)) ggX9_turn_X5_turnOf
set_option maxRecDepth 20000 in
theorem ggX9_turn_X9_refuse : GoodIn wsX9_turn wsX9_refuse := goodIn_r _ [18, 19, 46, 47, 48, 49, 50, 51, 52, 53, 54, 55, 56, 57] (by decide +kernel) (by decide +kernel)
set_option maxRecDepth 20000 in
theorem gX9_turn_X9_refuse : GoodIn wsX9_turn (wsV RX9 94 RX9 yX9_refuse wsX9_refuse) := goodIn_app (goodIn_of _ (by decide +kernel)) ggX9_turn_X9_refuse
set_option maxRecDepth 20000 in
theorem ggX9_inOrder_X9_heapState : GoodIn wsX9_inOrder wsX9_heapState := goodIn_r _ [6, 7, 8, 9, 10, 11, 12, 13, 14, 15, 16, 17, 18, 19, 20, 21, 22, 23, 35, 36, 37, 38, 39, 40, 41, 42, 43, 44, 45, 46, 47, 48, 49, 50, 51, 52, 53, 54, 55, 56, 57, 58, 59, 60, 61, 62, 63, 64, 65, 66, 67, 68, 69, 70, 71, 72, 73, 74] (by decide +kernel) (by decide +kernel)
set_option maxRecDepth 20000 in
theorem gX9_inOrder_X9_heapState : GoodIn wsX9_inOrder (wsV RX9 149 RX9 yX9_heapState wsX9_heapState) := goodIn_app (goodIn_of _ (by decide +kernel)) ggX9_inOrder_X9_heapState
set_option maxRecDepth 20000 in
theorem ggX9_inOrder_X3_arranged : GoodIn wsX9_inOrder wsX3_arranged := goodIn_r _ [28, 29, 30, 31, 32, 33, 34, 75, 76, 77, 78, 79, 80, 64, 65, 66, 67, 68, 69, 70, 71, 72, 73, 74, 47, 48, 49, 50, 51, 52, 53, 54, 55, 56, 57, 58, 59, 60, 61, 62, 63] (by decide +kernel) (by decide +kernel)
set_option maxRecDepth 20000 in
theorem gX9_inOrder_X3_arranged : GoodIn wsX9_inOrder (wsV RX9 152 RX3 yX3_arranged wsX3_arranged) := goodIn_app (goodIn_of _ (by decide +kernel)) ggX9_inOrder_X3_arranged
set_option maxRecDepth 20000 in
theorem ggX9_gaps_X9_heapState : GoodIn wsX9_gaps wsX9_heapState := goodIn_r _ [6, 7, 8, 9, 10, 11, 12, 13, 14, 15, 16, 17, 18, 19, 20, 21, 22, 23, 60, 61, 62, 63, 64, 65, 66, 67, 68, 69, 70, 71, 72, 73, 74, 75, 76, 77, 78, 79, 80, 81, 82, 83, 84, 85, 86, 87, 88, 89, 90, 91, 92, 93, 94, 95, 96, 97, 98, 99] (by decide +kernel) (by decide +kernel)
set_option maxRecDepth 20000 in
theorem gX9_gaps_X9_heapState : GoodIn wsX9_gaps (wsV RX9 149 RX9 yX9_heapState wsX9_heapState) := goodIn_app (goodIn_of _ (by decide +kernel)) ggX9_gaps_X9_heapState
set_option maxRecDepth 20000 in
theorem ggX9_gaps_X3_gapsOf : GoodIn wsX9_gaps wsX3_gapsOf := goodIn_r _ [28, 29, 30, 31, 32, 33, 27, 34, 35, 36, 37, 38, 39, 40, 41, 42, 43, 44, 45, 13, 46, 15, 47, 48, 49, 50, 51, 52, 53, 54, 55, 56, 57, 58, 59, 100, 101, 102, 103, 104, 105, 89, 90, 91, 92, 93, 94, 95, 96, 97, 98, 99, 72, 73, 74, 75, 76, 77, 78, 79, 80, 81, 82, 83, 84, 85, 86, 87, 88] (by decide +kernel) (by decide +kernel)
set_option maxRecDepth 20000 in
theorem gX9_gaps_X3_gapsOf : GoodIn wsX9_gaps (wsV RX9 156 RX3 yX3_gapsOf wsX3_gapsOf) := goodIn_app (goodIn_of _ (by decide +kernel)) ggX9_gaps_X3_gapsOf
set_option maxRecDepth 20000 in
theorem ggX9_least_X9_heapState : GoodIn wsX9_least wsX9_heapState := goodIn_r _ [6, 7, 8, 9, 10, 11, 12, 13, 14, 15, 16, 17, 18, 19, 20, 21, 22, 23, 75, 76, 77, 78, 79, 80, 81, 82, 83, 84, 85, 86, 87, 88, 89, 90, 91, 92, 93, 94, 95, 96, 97, 98, 99, 100, 101, 102, 103, 104, 105, 106, 107, 108, 109, 110, 111, 112, 113, 114] (by decide +kernel) (by decide +kernel)
set_option maxRecDepth 20000 in
theorem gX9_least_X9_heapState : GoodIn wsX9_least (wsV RX9 149 RX9 yX9_heapState wsX9_heapState) := goodIn_app (goodIn_of _ (by decide +kernel)) ggX9_least_X9_heapState
set_option maxRecDepth 20000 in
theorem ggX9_least_X1_leastOf : GoodIn wsX9_least wsX1_leastOf := goodIn_r _ [28, 29, 30, 31, 32, 27, 33, 34, 35, 36, 37, 38, 39, 40, 41, 42, 43, 44, 45, 46, 47, 48, 49, 50, 51, 52, 53, 54, 55, 56, 57, 58, 13, 59, 15, 60, 61, 62, 63, 64, 65, 66, 67, 68, 69, 70, 71, 115, 116, 117, 118, 119, 120, 121, 122, 123, 104, 105, 106, 107, 108, 109, 110, 111, 112, 113, 114, 124, 125, 126, 127, 128, 129, 87, 88, 89, 90, 91, 92, 93, 94, 95, 96, 97, 98, 99, 100, 101, 102, 103] (by decide +kernel) (by decide +kernel)
set_option maxRecDepth 20000 in
theorem gX9_least_X1_leastOf : GoodIn wsX9_least (wsV RX9 159 RX1 yX1_leastOf wsX1_leastOf) := goodIn_app (goodIn_of _ (by decide +kernel)) ggX9_least_X1_leastOf
set_option maxRecDepth 20000 in
theorem ggX9_least_X9_orNone : GoodIn wsX9_least wsX9_orNone := goodIn_r _ [74] (by decide +kernel) (by decide +kernel)
set_option maxRecDepth 20000 in
theorem gX9_least_X9_orNone : GoodIn wsX9_least (va_wsS RX9 162 yX9_orNone wsX9_orNone) := goodIn_app (goodIn_of _ (by decide +kernel)) ggX9_least_X9_orNone
set_option maxRecDepth 20000 in
theorem ggX9_cheapest_X9_heapState : GoodIn wsX9_cheapest wsX9_heapState := goodIn_r _ [6, 7, 8, 9, 10, 11, 12, 13, 14, 15, 16, 17, 18, 19, 20, 21, 22, 23, 86, 87, 88, 89, 90, 91, 92, 93, 94, 95, 96, 97, 98, 99, 100, 101, 102, 103, 104, 105, 106, 107, 108, 109, 110, 111, 112, 113, 114, 115, 116, 117, 118, 119, 120, 121, 122, 123, 124, 125] (by decide +kernel) (by decide +kernel)
set_option maxRecDepth 20000 in
theorem gX9_cheapest_X9_heapState : GoodIn wsX9_cheapest (wsV RX9 149 RX9 yX9_heapState wsX9_heapState) := goodIn_app (goodIn_of _ (by decide +kernel)) ggX9_cheapest_X9_heapState
set_option maxRecDepth 20000 in
theorem ggX9_cheapest_X1_priceOf : GoodIn wsX9_cheapest wsX1_priceOf := goodIn_r _ [28, 29, 30, 31, 32, 27, 33, 34, 35, 36, 37, 38, 39, 40, 41, 42, 43, 44, 45, 46, 47, 48, 49, 50, 51, 52, 53, 54, 55, 56, 57, 58, 59, 60, 61, 62, 13, 63, 15, 64, 65, 66, 67, 68, 69, 70, 71, 72, 73, 74, 75, 76, 77, 78, 79, 80, 81, 82, 126, 127, 128, 129, 130, 131, 132, 133, 134, 115, 116, 117, 118, 119, 120, 121, 122, 123, 124, 125, 135, 136, 137, 138, 139, 140, 98, 99, 100, 101, 102, 103, 104, 105, 106, 107, 108, 109, 110, 111, 112, 113, 114] (by decide +kernel) (by decide +kernel)
set_option maxRecDepth 20000 in
theorem gX9_cheapest_X1_priceOf : GoodIn wsX9_cheapest (wsV RX9 165 RX1 yX1_priceOf wsX1_priceOf) := goodIn_app (goodIn_of _ (by decide +kernel)) ggX9_cheapest_X1_priceOf
set_option maxRecDepth 20000 in
theorem ggX9_cheapest_X9_orNone : GoodIn wsX9_cheapest wsX9_orNone := goodIn_r _ [85] (by decide +kernel) (by decide +kernel)
set_option maxRecDepth 20000 in
theorem gX9_cheapest_X9_orNone : GoodIn wsX9_cheapest (va_wsS RX9 162 yX9_orNone wsX9_orNone) := goodIn_app (goodIn_of _ (by decide +kernel)) ggX9_cheapest_X9_orNone
set_option maxRecDepth 20000 in
theorem ggX9_ways_X9_heapState : GoodIn wsX9_ways wsX9_heapState := goodIn_r _ [6, 7, 8, 9, 10, 11, 12, 13, 14, 15, 16, 17, 18, 19, 20, 21, 22, 23, 72, 73, 74, 75, 76, 77, 78, 79, 80, 81, 82, 83, 84, 85, 86, 87, 88, 89, 90, 91, 92, 93, 94, 95, 96, 97, 98, 99, 100, 101, 102, 103, 104, 105, 106, 107, 108, 109, 110, 111] (by decide +kernel) (by decide +kernel)
set_option maxRecDepth 20000 in
theorem gX9_ways_X9_heapState : GoodIn wsX9_ways (wsV RX9 149 RX9 yX9_heapState wsX9_heapState) := goodIn_app (goodIn_of _ (by decide +kernel)) ggX9_ways_X9_heapState
set_option maxRecDepth 20000 in
theorem ggX9_ways_X1_waysOf : GoodIn wsX9_ways wsX1_waysOf := goodIn_r _ [28, 29, 30, 31, 32, 33, 27, 34, 35, 36, 37, 38, 39, 40, 41, 42, 43, 44, 45, 46, 47, 48, 49, 50, 51, 52, 53, 54, 55, 56, 57, 58, 13, 59, 15, 60, 61, 62, 63, 64, 65, 66, 67, 68, 69, 70, 71, 112, 113, 114, 115, 116, 117, 118, 119, 120, 101, 102, 103, 104, 105, 106, 107, 108, 109, 110, 111, 121, 122, 123, 124, 125, 126, 84, 85, 86, 87, 88, 89, 90, 91, 92, 93, 94, 95, 96, 97, 98, 99, 100] (by decide +kernel) (by decide +kernel)
set_option maxRecDepth 20000 in
theorem gX9_ways_X1_waysOf : GoodIn wsX9_ways (wsV RX9 168 RX1 yX1_waysOf wsX1_waysOf) := goodIn_app (goodIn_of _ (by decide +kernel)) ggX9_ways_X1_waysOf
set_option maxRecDepth 20000 in
theorem ggX9_far_X9_refuse : GoodIn wsX9_far wsX9_refuse := goodIn_r _ [6, 7, 58, 59, 60, 61, 62, 63, 64, 65, 66, 67, 68, 69] (by decide +kernel) (by decide +kernel)
set_option maxRecDepth 20000 in
theorem gX9_far_X9_refuse : GoodIn wsX9_far (wsV RX9 94 RX9 yX9_refuse wsX9_refuse) := goodIn_app (goodIn_of _ (by decide +kernel)) ggX9_far_X9_refuse
set_option maxRecDepth 20000 in
theorem ggX9_far_X1_howManyAt : GoodIn wsX9_far wsX1_howManyAt := goodIn_r _ [12, 13, 14, 15, 16, 17, 18, 11, 19, 20, 21, 22, 23, 24, 25, 26, 27, 28, 29, 30, 31, 32, 33, 34, 35, 36, 37, 38, 39, 40, 41, 42, 43, 44, 45, 46, 47, 48, 49, 50, 51, 52, 53, 54, 55, 56, 57, 70, 71, 72, 73, 74, 75, 76, 77, 78, 79, 80, 81, 82, 83, 84, 85, 86, 87, 88, 89, 90, 91, 92, 93, 94, 95, 96, 97, 98, 99, 100, 101, 102, 103, 104, 105, 106, 107, 108, 109, 110, 111, 112] (by decide +kernel) (by decide +kernel)
set_option maxRecDepth 20000 in
theorem gX9_far_X1_howManyAt : GoodIn wsX9_far (wsV RX9 171 RX1 yX1_howManyAt wsX1_howManyAt) := goodIn_app (goodIn_of _ (by decide +kernel)) ggX9_far_X1_howManyAt
set_option maxRecDepth 20000 in
theorem ggX9_worst_X9_refuse : GoodIn wsX9_worst wsX9_refuse := goodIn_r _ [9, 10, 83, 84, 85, 86, 87, 88, 89, 90, 91, 92, 93, 94] (by decide +kernel) (by decide +kernel)
set_option maxRecDepth 20000 in
theorem gX9_worst_X9_refuse : GoodIn wsX9_worst (wsV RX9 94 RX9 yX9_refuse wsX9_refuse) := goodIn_app (goodIn_of _ (by decide +kernel)) ggX9_worst_X9_refuse
set_option maxRecDepth 20000 in
theorem ggX9_before_X9_refuse : GoodIn wsX9_before wsX9_refuse := goodIn_r _ [6, 7, 64, 65, 66, 67, 68, 69, 70, 71, 72, 73, 74, 75] (by decide +kernel) (by decide +kernel)
set_option maxRecDepth 20000 in
theorem gX9_before_X9_refuse : GoodIn wsX9_before (wsV RX9 94 RX9 yX9_refuse wsX9_refuse) := goodIn_app (goodIn_of _ (by decide +kernel)) ggX9_before_X9_refuse
set_option maxRecDepth 20000 in
theorem ggX9_before_X9_heapState : GoodIn wsX9_before wsX9_heapState := goodIn_r _ [11, 12, 13, 14, 15, 16, 17, 18, 19, 20, 21, 22, 23, 24, 25, 26, 27, 28, 64, 65, 66, 67, 68, 69, 70, 71, 72, 73, 74, 75, 76, 77, 78, 79, 80, 81, 82, 83, 84, 85, 86, 87, 88, 89, 90, 91, 92, 93, 94, 95, 96, 97, 98, 99, 100, 101, 102, 103] (by decide +kernel) (by decide +kernel)
set_option maxRecDepth 20000 in
theorem gX9_before_X9_heapState : GoodIn wsX9_before (wsV RX9 149 RX9 yX9_heapState wsX9_heapState) := goodIn_app (goodIn_of _ (by decide +kernel)) ggX9_before_X9_heapState
set_option maxRecDepth 20000 in
theorem ggX9_before_X8_howManyBehind : GoodIn wsX9_before wsX8_howManyBehind := goodIn_r _ [33, 34, 35, 36, 37, 38, 39, 32, 40, 41, 42, 43, 44, 45, 46, 47, 48, 49, 18, 50, 20, 51, 52, 53, 54, 55, 56, 57, 58, 59, 60, 61, 62, 63, 104, 105, 106, 107, 108, 109, 93, 94, 95, 96, 97, 98, 99, 100, 101, 102, 103, 110, 111, 112, 113, 114, 115] (by decide +kernel) (by decide +kernel)
set_option maxRecDepth 20000 in
theorem gX9_before_X8_howManyBehind : GoodIn wsX9_before (wsV RX9 180 RX8 yX8_howManyBehind wsX8_howManyBehind) := goodIn_app (goodIn_of _ (by decide +kernel)) ggX9_before_X8_howManyBehind
set_option maxRecDepth 20000 in
theorem ggX9_next_X9_refuse : GoodIn wsX9_next wsX9_refuse := goodIn_r _ [7, 8, 191, 192, 193, 194, 195, 196, 197, 198, 199, 200, 201, 202] (by decide +kernel) (by decide +kernel)
set_option maxRecDepth 20000 in
theorem gX9_next_X9_refuse : GoodIn wsX9_next (wsV RX9 94 RX9 yX9_refuse wsX9_refuse) := goodIn_app (goodIn_of _ (by decide +kernel)) ggX9_next_X9_refuse
set_option maxRecDepth 20000 in
theorem ggX9_next_X9_heapState : GoodIn wsX9_next wsX9_heapState := goodIn_r _ [12, 2, 13, 14, 15, 16, 17, 18, 19, 20, 21, 22, 23, 24, 25, 26, 27, 28, 191, 192, 193, 194, 195, 196, 197, 198, 199, 200, 201, 202, 203, 204, 205, 206, 207, 208, 209, 210, 211, 212, 213, 214, 215, 216, 217, 218, 219, 220, 221, 222, 223, 224, 225, 226, 227, 228, 229, 230] (by decide +kernel) (by decide +kernel)
set_option maxRecDepth 20000 in
theorem gX9_next_X9_heapState : GoodIn wsX9_next (wsV RX9 149 RX9 yX9_heapState wsX9_heapState) := goodIn_app (goodIn_of _ (by decide +kernel)) ggX9_next_X9_heapState
set_option maxRecDepth 20000 in
theorem ggX9_next_X7_advise : GoodIn wsX9_next wsX7_advise := goodIn_r _ [33, 34, 35, 36, 37, 38, 39, 40, 41, 42, 43, 44, 45, 46, 47, 48, 49, 18, 50, 20, 51, 52, 53, 54, 55, 56, 57, 58, 59, 60, 61, 62, 63, 32, 64, 65, 66, 67, 68, 69, 70, 71, 72, 73, 74, 75, 76, 77, 78, 79, 80, 81, 82, 83, 84, 85, 86, 87, 88, 89, 90, 91, 92, 93, 94, 95, 96, 97, 98, 99, 100, 101, 102, 103, 104, 105, 106, 107, 108, 109, 110, 111, 112, 113, 114, 115, 116, 117, 118, 119, 120, 121, 122, 123, 124, 125, 126, 127, 128, 129, 130, 131, 132, 133, 134, 135, 136, 137, 138, 139, 140, 141, 142, 143, 144, 145, 146, 147, 148, 149, 150, 151, 152, 153, 154, 155, 156, 157, 158, 159, 160, 161, 162, 163, 164, 165, 166, 167, 168, 169, 170, 171, 172, 173, 174, 175, 176, 177, 178, 179, 180, 181, 182, 183, 184, 185, 186, 231, 232, 233, 234, 235, 236, 237, 238, 239, 220, 221, 222, 223, 224, 225, 226, 227, 228, 229, 230, 203, 204, 205, 206, 207, 208, 209, 210, 211, 212, 213, 214, 215, 216, 217, 218, 219, 240, 241, 242, 243, 244, 245, 246, 247, 248] (by decide +kernel) (by decide +kernel)
set_option maxRecDepth 20000 in
theorem gX9_next_X7_advise : GoodIn wsX9_next (wsV RX9 183 RX7 yX7_advise wsX7_advise) := goodIn_app (goodIn_of _ (by decide +kernel)) ggX9_next_X7_advise
set_option maxRecDepth 20000 in
theorem ggX9_rule_X9_refuse : GoodIn wsX9_rule wsX9_refuse := goodIn_r _ [6, 7, 194, 195, 196, 197, 198, 199, 200, 201, 202, 203, 204, 205] (by decide +kernel) (by decide +kernel)
set_option maxRecDepth 20000 in
theorem gX9_rule_X9_refuse : GoodIn wsX9_rule (wsV RX9 94 RX9 yX9_refuse wsX9_refuse) := goodIn_app (goodIn_of _ (by decide +kernel)) ggX9_rule_X9_refuse
set_option maxRecDepth 20000 in
theorem ggX9_rule_X9_heapState : GoodIn wsX9_rule wsX9_heapState := goodIn_r _ [11, 12, 13, 14, 15, 16, 17, 18, 19, 20, 21, 22, 23, 24, 25, 26, 27, 28, 194, 195, 196, 197, 198, 199, 200, 201, 202, 203, 204, 205, 206, 207, 208, 209, 210, 211, 212, 213, 214, 215, 216, 217, 218, 219, 220, 221, 222, 223, 224, 225, 226, 227, 228, 229, 230, 231, 232, 233] (by decide +kernel) (by decide +kernel)
set_option maxRecDepth 20000 in
theorem gX9_rule_X9_heapState : GoodIn wsX9_rule (wsV RX9 149 RX9 yX9_heapState wsX9_heapState) := goodIn_app (goodIn_of _ (by decide +kernel)) ggX9_rule_X9_heapState
set_option maxRecDepth 20000 in
theorem ggX9_rule_X7_turnsMade : GoodIn wsX9_rule wsX7_turnsMade := goodIn_r _ [33, 34, 35, 36, 37, 38, 39, 40, 41, 42, 43, 44, 45, 46, 47, 48, 49, 32, 50, 51, 52, 53, 18, 54, 20, 55, 56, 57, 58, 59, 60, 61, 62, 63, 64, 65, 66, 67, 68, 69, 70, 71, 72, 73, 74, 75, 76, 77, 78, 79, 80, 81, 82, 83, 84, 85, 86, 87, 88, 89, 90, 91, 92, 93, 94, 95, 96, 97, 98, 99, 100, 101, 102, 103, 104, 105, 106, 107, 108, 109, 110, 111, 112, 113, 114, 115, 116, 117, 118, 119, 120, 121, 122, 123, 124, 125, 126, 127, 128, 129, 130, 131, 132, 133, 134, 135, 136, 137, 138, 139, 140, 141, 142, 143, 144, 145, 146, 147, 148, 149, 150, 151, 152, 153, 154, 155, 156, 157, 158, 159, 160, 161, 162, 163, 164, 165, 166, 167, 168, 169, 170, 171, 172, 173, 174, 175, 176, 177, 178, 179, 180, 181, 182, 183, 184, 185, 186, 187, 188, 189, 190, 234, 235, 236, 237, 238, 239, 240, 241, 242, 223, 224, 225, 226, 227, 228, 229, 230, 231, 232, 233, 206, 207, 208, 209, 210, 211, 212, 213, 214, 215, 216, 217, 218, 219, 220, 221, 222, 243, 244, 245, 246, 247, 248, 249, 250, 251] (by decide +kernel) (by decide +kernel)
set_option maxRecDepth 20000 in
theorem gX9_rule_X7_turnsMade : GoodIn wsX9_rule (wsV RX9 189 RX7 yX7_turnsMade wsX7_turnsMade) := goodIn_app (goodIn_of _ (by decide +kernel)) ggX9_rule_X7_turnsMade
set_option maxRecDepth 20000 in
theorem ggX9_rule_X9_orNone : GoodIn wsX9_rule wsX9_orNone := goodIn_r _ [193] (by decide +kernel) (by decide +kernel)
set_option maxRecDepth 20000 in
theorem gX9_rule_X9_orNone : GoodIn wsX9_rule (va_wsS RX9 162 yX9_orNone wsX9_orNone) := goodIn_app (goodIn_of _ (by decide +kernel)) ggX9_rule_X9_orNone
set_option maxRecDepth 20000 in
theorem ggX9_row_X9_refuse : GoodIn wsX9_row wsX9_refuse := goodIn_r _ [8, 9, 10, 11, 12, 13, 14, 15, 16, 17, 18, 19, 20, 21] (by decide +kernel) (by decide +kernel)
set_option maxRecDepth 20000 in
theorem gX9_row_X9_refuse : GoodIn wsX9_row (wsV RX9 94 RX9 yX9_refuse wsX9_refuse) := goodIn_app (goodIn_of _ (by decide +kernel)) ggX9_row_X9_refuse
set_option maxRecDepth 20000 in
theorem ggX9_path_X6_rowIsOrder : GoodIn wsX9_path wsX6_rowIsOrder := goodIn_r _ [10, 11, 12, 13, 95, 96, 97, 98, 99, 100, 101, 102, 103, 104, 105, 106, 107, 108, 109, 110, 111] (by decide +kernel) (by decide +kernel)
set_option maxRecDepth 20000 in
theorem gX9_path_X6_rowIsOrder : GoodIn wsX9_path (wsV RX9 198 RX6 yX6_rowIsOrder wsX6_rowIsOrder) := goodIn_app (goodIn_of _ (by decide +kernel)) ggX9_path_X6_rowIsOrder
set_option maxRecDepth 20000 in
theorem ggX9_path_X9_heapState : GoodIn wsX9_path wsX9_heapState := goodIn_r _ [23, 4, 1, 24, 25, 26, 27, 28, 29, 30, 31, 32, 33, 34, 35, 36, 37, 38, 83, 84, 85, 86, 87, 88, 89, 90, 91, 92, 93, 94, 95, 96, 97, 98, 99, 100, 101, 102, 103, 104, 105, 106, 107, 108, 109, 110, 111, 112, 113, 114, 115, 116, 117, 118, 119, 120, 121, 122] (by decide +kernel) (by decide +kernel)
set_option maxRecDepth 20000 in
theorem gX9_path_X9_heapState : GoodIn wsX9_path (wsV RX9 149 RX9 yX9_heapState wsX9_heapState) := goodIn_app (goodIn_of _ (by decide +kernel)) ggX9_path_X9_heapState
set_option maxRecDepth 20000 in
theorem ggX9_path_X5_stateOf : GoodIn wsX9_path wsX5_stateOf := goodIn_r _ [29, 30, 31, 32, 33, 28, 34, 35, 36, 37, 38, 112, 113, 114, 115, 116, 117, 118, 119, 120, 121, 122] (by decide +kernel) (by decide +kernel)
set_option maxRecDepth 20000 in
theorem gX9_path_X5_stateOf : GoodIn wsX9_path (wsV RX9 202 RX5 yX5_stateOf wsX5_stateOf) := goodIn_app (goodIn_of _ (by decide +kernel)) ggX9_path_X5_stateOf
set_option maxRecDepth 20000 in
theorem ggX9_path_X8_turnsBetween : GoodIn wsX9_path wsX8_turnsBetween := goodIn_r _ [43, 44, 45, 46, 47, 48, 49, 50, 42, 51, 52, 53, 54, 55, 56, 57, 58, 59, 60, 61, 62, 63, 64, 65, 28, 66, 30, 67, 68, 69, 70, 71, 72, 73, 74, 75, 76, 77, 78, 79, 123, 124, 125, 126, 127, 128, 112, 113, 114, 115, 116, 117, 118, 119, 120, 121, 122, 129, 130, 131, 132, 133, 134, 135, 136, 137, 138, 139, 140, 141, 142, 143] (by decide +kernel) (by decide +kernel)
set_option maxRecDepth 20000 in
theorem gX9_path_X8_turnsBetween : GoodIn wsX9_path (wsV RX9 205 RX8 yX8_turnsBetween wsX8_turnsBetween) := goodIn_app (goodIn_of _ (by decide +kernel)) ggX9_path_X8_turnsBetween
set_option maxRecDepth 20000 in
theorem ggX9_path_X9_orNone : GoodIn wsX9_path wsX9_orNone := goodIn_r _ [82] (by decide +kernel) (by decide +kernel)
set_option maxRecDepth 20000 in
theorem gX9_path_X9_orNone : GoodIn wsX9_path (va_wsS RX9 162 yX9_orNone wsX9_orNone) := goodIn_app (goodIn_of _ (by decide +kernel)) ggX9_path_X9_orNone
set_option maxRecDepth 20000 in
theorem ggX9_judge_X9_heapState : GoodIn wsX9_judge wsX9_heapState := goodIn_r _ [10, 3, 1, 11, 12, 13, 14, 15, 16, 17, 18, 19, 20, 21, 22, 23, 24, 25, 64, 65, 66, 67, 68, 69, 70, 71, 72, 73, 74, 75, 76, 77, 78, 79, 80, 81, 82, 83, 84, 85, 86, 87, 88, 89, 90, 91, 92, 93, 94, 95, 96, 97, 98, 99, 100, 101, 102, 103] (by decide +kernel) (by decide +kernel)
set_option maxRecDepth 20000 in
theorem gX9_judge_X9_heapState : GoodIn wsX9_judge (wsV RX9 149 RX9 yX9_heapState wsX9_heapState) := goodIn_app (goodIn_of _ (by decide +kernel)) ggX9_judge_X9_heapState
set_option maxRecDepth 20000 in
theorem ggX9_judge_X3_arranged : GoodIn wsX9_judge wsX3_arranged := goodIn_r _ [57, 58, 59, 60, 61, 62, 63, 104, 105, 106, 107, 108, 109, 93, 94, 95, 96, 97, 98, 99, 100, 101, 102, 103, 76, 77, 78, 79, 80, 81, 82, 83, 84, 85, 86, 87, 88, 89, 90, 91, 92] (by decide +kernel) (by decide +kernel)
set_option maxRecDepth 20000 in
theorem gX9_judge_X3_arranged : GoodIn wsX9_judge (wsV RX9 152 RX3 yX3_arranged wsX3_arranged) := goodIn_app (goodIn_of _ (by decide +kernel)) ggX9_judge_X3_arranged
set_option maxRecDepth 20000 in
theorem ggX9_blind_X0_takesRow : GoodIn wsX9_blind wsX0_takesRow := goodIn_r _ [8, 9, 10, 11, 12, 13, 14, 15, 16, 17, 18, 19, 20, 21, 22, 23, 24, 25, 26, 139, 140, 141, 142, 143, 144, 145, 122, 123, 124, 125, 126, 127, 128, 129, 130, 131, 132, 133, 134, 135, 136, 137, 138, 146, 147, 148, 149, 150, 151, 152, 153, 154, 155, 156] (by decide +kernel) (by decide +kernel)
set_option maxRecDepth 20000 in
theorem gX9_blind_X0_takesRow : GoodIn wsX9_blind (wsV RX9 217 RX0 yX0_takesRow wsX0_takesRow) := goodIn_app (goodIn_of _ (by decide +kernel)) ggX9_blind_X0_takesRow
set_option maxRecDepth 20000 in
theorem ggX9_blind_X0_rowArrangesAll : GoodIn wsX9_blind wsX0_rowArrangesAll := goodIn_r _ [36, 37, 38, 39, 7, 40, 41, 9, 13, 42, 43, 44, 45, 46, 47, 48, 49, 50, 51, 52, 53, 54, 55, 56, 57, 58, 59, 60, 61, 62, 63, 64, 65, 18, 66, 67, 68, 69, 70, 71, 72, 73, 74, 75, 76, 77, 78, 79, 80, 81, 11, 82, 12, 83, 84, 85, 86, 87, 88, 89, 90, 91, 92, 93, 94, 95, 96, 97, 98, 99, 100, 101, 102, 103, 104, 105, 106, 107, 108, 109, 139, 140, 141, 142, 143, 144, 145, 146, 147, 148, 149, 150, 151, 152, 153, 154, 155, 156, 122, 123, 124, 125, 126, 127, 128, 129, 130, 131, 132, 133, 134, 135, 136, 137, 138, 157, 158, 159, 160, 161, 162] (by decide +kernel) (by decide +kernel)
set_option maxRecDepth 20000 in
theorem gX9_blind_X0_rowArrangesAll : GoodIn wsX9_blind (wsV RX9 220 RX0 yX0_rowArrangesAll wsX0_rowArrangesAll) := goodIn_app (goodIn_of _ (by decide +kernel)) ggX9_blind_X0_rowArrangesAll
set_option maxRecDepth 20000 in
theorem ggX9_fewest_X9_refuse : GoodIn wsX9_fewest wsX9_refuse := goodIn_r _ [7, 8, 115, 116, 117, 118, 119, 120, 121, 122, 123, 124, 125, 126] (by decide +kernel) (by decide +kernel)
set_option maxRecDepth 20000 in
theorem gX9_fewest_X9_refuse : GoodIn wsX9_fewest (wsV RX9 94 RX9 yX9_refuse wsX9_refuse) := goodIn_app (goodIn_of _ (by decide +kernel)) ggX9_fewest_X9_refuse
set_option maxRecDepth 20000 in
theorem ggX9_fewest_X0_shortestRow : GoodIn wsX9_fewest wsX0_shortestRow := goodIn_r _ [13, 14, 15, 16, 12, 17, 18, 19, 20, 21, 22, 23, 24, 25, 26, 27, 28, 29, 30, 31, 32, 33, 34, 35, 36, 37, 38, 39, 40, 41, 42, 43, 44, 45, 46, 47, 48, 49, 50, 51, 52, 53, 54, 55, 56, 57, 58, 59, 60, 61, 62, 63, 64, 65, 66, 67, 68, 69, 70, 71, 72, 73, 74, 75, 76, 77, 78, 79, 80, 81, 82, 83, 84, 85, 86, 87, 88, 89, 90, 91, 92, 93, 94, 95, 96, 97, 98, 99, 100, 101, 127, 128, 129, 130, 131, 132, 133, 134, 135, 136, 137, 138, 139, 140, 141, 142, 143, 144, 145, 146, 147, 148, 149, 150, 151, 152, 153, 154, 155, 156, 157, 158, 159, 160, 161, 162, 163, 164, 165, 166, 167] (by decide +kernel) (by decide +kernel)
set_option maxRecDepth 20000 in
theorem gX9_fewest_X0_shortestRow : GoodIn wsX9_fewest (wsV RX9 223 RX0 yX0_shortestRow wsX0_shortestRow) := goodIn_app (goodIn_of _ (by decide +kernel)) ggX9_fewest_X0_shortestRow
set_option maxRecDepth 20000 in
theorem ggX9_fewest_X9_orNone : GoodIn wsX9_fewest wsX9_orNone := goodIn_r _ [104] (by decide +kernel) (by decide +kernel)
set_option maxRecDepth 20000 in
theorem gX9_fewest_X9_orNone : GoodIn wsX9_fewest (va_wsS RX9 162 yX9_orNone wsX9_orNone) := goodIn_app (goodIn_of _ (by decide +kernel)) ggX9_fewest_X9_orNone
set_option maxRecDepth 20000 in
theorem ggX9_match_X9_heapState : GoodIn wsX9_match wsX9_heapState := goodIn_r _ [6, 7, 8, 9, 10, 11, 12, 13, 14, 15, 16, 17, 18, 19, 20, 21, 22, 23, 77, 78, 79, 80, 81, 82, 83, 84, 85, 86, 87, 88, 89, 90, 91, 92, 93, 94, 95, 96, 97, 98, 99, 100, 101, 102, 103, 104, 105, 106, 107, 108, 109, 110, 111, 112, 113, 114, 115, 116] (by decide +kernel) (by decide +kernel)
set_option maxRecDepth 20000 in
theorem gX9_match_X9_heapState : GoodIn wsX9_match (wsV RX9 149 RX9 yX9_heapState wsX9_heapState) := goodIn_app (goodIn_of _ (by decide +kernel)) ggX9_match_X9_heapState
set_option maxRecDepth 20000 in
theorem ggX9_match_X8_matchFrom : GoodIn wsX9_match wsX8_matchFrom := goodIn_r _ [28, 29, 30, 31, 32, 33, 34, 35, 36, 27, 37, 38, 39, 40, 41, 42, 13, 43, 15, 44, 45, 46, 47, 48, 49, 50, 51, 52, 53, 54, 55, 56, 57, 58, 59, 60, 61, 62, 63, 64, 65, 66, 67, 68, 69, 70, 71, 72, 73, 74, 75, 76, 117, 118, 119, 120, 121, 122, 106, 107, 108, 109, 110, 111, 112, 113, 114, 115, 116, 123, 124, 125, 126, 127, 128, 89, 90, 91, 92, 93, 94, 95, 96, 97, 98, 99, 100, 101, 102, 103, 104, 105] (by decide +kernel) (by decide +kernel)
set_option maxRecDepth 20000 in
theorem gX9_match_X8_matchFrom : GoodIn wsX9_match (wsV RX9 229 RX8 yX8_matchFrom wsX8_matchFrom) := goodIn_app (goodIn_of _ (by decide +kernel)) ggX9_match_X8_matchFrom
set_option maxRecDepth 20000 in
theorem ggX9_shuffled_X9_refuse : GoodIn wsX9_shuffled wsX9_refuse := goodIn_r _ [7, 8, 103, 104, 105, 106, 107, 108, 109, 110, 111, 112, 113, 114] (by decide +kernel) (by decide +kernel)
set_option maxRecDepth 20000 in
theorem gX9_shuffled_X9_refuse : GoodIn wsX9_shuffled (wsV RX9 94 RX9 yX9_refuse wsX9_refuse) := goodIn_app (goodIn_of _ (by decide +kernel)) ggX9_shuffled_X9_refuse
set_option maxRecDepth 20000 in
theorem ggX9_shuffled_X9_heapState : GoodIn wsX9_shuffled wsX9_heapState := goodIn_r _ [12, 13, 14, 15, 16, 17, 18, 19, 20, 21, 22, 23, 24, 25, 26, 27, 28, 29, 103, 104, 105, 106, 107, 108, 109, 110, 111, 112, 113, 114, 115, 116, 117, 118, 119, 120, 121, 122, 123, 124, 125, 126, 127, 128, 129, 130, 131, 132, 133, 134, 135, 136, 137, 138, 139, 140, 141, 142] (by decide +kernel) (by decide +kernel)
set_option maxRecDepth 20000 in
theorem gX9_shuffled_X9_heapState : GoodIn wsX9_shuffled (wsV RX9 149 RX9 yX9_heapState wsX9_heapState) := goodIn_app (goodIn_of _ (by decide +kernel)) ggX9_shuffled_X9_heapState
set_option maxRecDepth 20000 in
theorem ggX9_shuffled_X8_shuffle : GoodIn wsX9_shuffled wsX8_shuffle := goodIn_r _ [34, 35, 36, 37, 38, 39, 40, 41, 42, 19, 43, 21, 44, 45, 46, 47, 48, 49, 50, 51, 52, 53, 54, 55, 56, 57, 58, 59, 60, 61, 62, 63, 64, 65, 66, 143, 144, 145, 146, 147, 148, 132, 133, 134, 135, 136, 137, 138, 139, 140, 141, 142, 149, 150, 151, 152, 153, 154] (by decide +kernel) (by decide +kernel)
set_option maxRecDepth 20000 in
theorem gX9_shuffled_X8_shuffle : GoodIn wsX9_shuffled (wsV RX9 232 RX8 yX8_shuffle wsX8_shuffle) := goodIn_app (goodIn_of _ (by decide +kernel)) ggX9_shuffled_X8_shuffle
set_option maxRecDepth 20000 in
theorem ggX9_shuffled_X1_leastOf : GoodIn wsX9_shuffled wsX1_leastOf := goodIn_r _ [71, 72, 73, 74, 75, 70, 76, 77, 78, 79, 80, 81, 82, 83, 84, 85, 47, 86, 49, 87, 88, 89, 90, 91, 92, 93, 94, 95, 96, 97, 41, 42, 19, 43, 21, 98, 52, 53, 54, 55, 99, 61, 62, 63, 64, 65, 66, 155, 156, 157, 158, 159, 160, 161, 162, 163, 132, 133, 134, 135, 136, 137, 138, 139, 140, 141, 142, 149, 150, 151, 152, 153, 154, 115, 116, 117, 118, 119, 120, 121, 122, 123, 124, 125, 126, 127, 128, 129, 130, 131] (by decide +kernel) (by decide +kernel)
set_option maxRecDepth 20000 in
theorem gX9_shuffled_X1_leastOf : GoodIn wsX9_shuffled (wsV RX9 159 RX1 yX1_leastOf wsX1_leastOf) := goodIn_app (goodIn_of _ (by decide +kernel)) ggX9_shuffled_X1_leastOf
set_option maxRecDepth 20000 in
theorem ggX9_shuffled_X9_orNone : GoodIn wsX9_shuffled wsX9_orNone := goodIn_r _ [102] (by decide +kernel) (by decide +kernel)
set_option maxRecDepth 20000 in
theorem gX9_shuffled_X9_orNone : GoodIn wsX9_shuffled (va_wsS RX9 162 yX9_orNone wsX9_orNone) := goodIn_app (goodIn_of _ (by decide +kernel)) ggX9_shuffled_X9_orNone
set_option maxRecDepth 20000 in
theorem ggX9_sights_X9_refuse : GoodIn wsX9_sights wsX9_refuse := goodIn_r _ [9, 10, 11, 12, 13, 14, 15, 16, 17, 18, 19, 20, 21, 22] (by decide +kernel) (by decide +kernel)
set_option maxRecDepth 20000 in
theorem gX9_sights_X9_refuse : GoodIn wsX9_sights (wsV RX9 94 RX9 yX9_refuse wsX9_refuse) := goodIn_app (goodIn_of _ (by decide +kernel)) ggX9_sights_X9_refuse
set_option maxRecDepth 20000 in
theorem ggX9_image_X6_takeFrom : GoodIn wsX9_image wsX6_takeFrom := goodIn_r _ [9, 10, 11, 12, 13, 14, 15, 16, 17, 18, 19, 20, 21, 22, 23, 24, 25, 26, 27, 28, 29, 30, 43, 44, 45, 46, 47, 48, 49, 50, 51, 52, 53, 54, 55, 56, 57, 58, 59] (by decide +kernel) (by decide +kernel)
set_option maxRecDepth 20000 in
theorem gX9_image_X6_takeFrom : GoodIn wsX9_image (wsV RX9 105 RX6 yX6_takeFrom wsX6_takeFrom) := goodIn_app (goodIn_of _ (by decide +kernel)) ggX9_image_X6_takeFrom
set_option maxRecDepth 20000 in
theorem ggX9_on_X9_refuse : GoodIn wsX9_on wsX9_refuse := goodIn_r _ [9, 10, 161, 162, 163, 164, 165, 166, 167, 168, 169, 170, 171, 172] (by decide +kernel) (by decide +kernel)
set_option maxRecDepth 20000 in
theorem gX9_on_X9_refuse : GoodIn wsX9_on (wsV RX9 94 RX9 yX9_refuse wsX9_refuse) := goodIn_app (goodIn_of _ (by decide +kernel)) ggX9_on_X9_refuse
set_option maxRecDepth 20000 in
theorem ggX9_count_X5_orderOf : GoodIn wsX9_count wsX5_orderOf := goodIn_r _ [19, 20, 62, 63, 64, 65, 66, 67, 68, 69, 70, 71, 72] (by decide +kernel) (by decide +kernel)
set_option maxRecDepth 20000 in
theorem gX9_count_X5_orderOf : GoodIn wsX9_count (wsV RX9 131 RX5 yX5_orderOf wsX5_orderOf) := goodIn_app (goodIn_of _ (by decide +kernel)) ggX9_count_X5_orderOf
set_option maxRecDepth 20000 in
theorem ggX9_count_X3_howManyLawful : GoodIn wsX9_count wsX3_howManyLawful := goodIn_r _ [25, 26, 27, 28, 29, 30, 24, 31, 32, 73, 74, 75, 76, 77, 78, 62, 63, 64, 65, 66, 67, 68, 69, 70, 71, 72] (by decide +kernel) (by decide +kernel)
set_option maxRecDepth 20000 in
theorem gX9_count_X3_howManyLawful : GoodIn wsX9_count (wsV RX9 254 RX3 yX3_howManyLawful wsX3_howManyLawful) := goodIn_app (goodIn_of _ (by decide +kernel)) ggX9_count_X3_howManyLawful
set_option maxRecDepth 20000 in
theorem ggX9_settle_X5_shape : GoodIn wsX9_settle wsX5_shape := goodIn_r _ [10, 11, 12, 13, 14, 15, 16, 17, 9, 18, 19, 20, 21, 22, 23, 24, 25, 26, 27, 28, 29, 30, 31, 32, 33, 34, 35, 36, 37, 38, 39, 40, 41, 42, 43, 44, 45, 46, 47, 48, 49, 50, 51, 52, 53, 54, 55, 56, 57, 58, 59, 60, 61, 62, 63, 64, 65, 66, 67, 156, 157, 158, 159, 160, 161, 162, 163, 164, 165, 166] (by decide +kernel) (by decide +kernel)
set_option maxRecDepth 20000 in
theorem gX9_settle_X5_shape : GoodIn wsX9_settle (wsV RX9 257 RX5 yX5_shape wsX5_shape) := goodIn_app (goodIn_of _ (by decide +kernel)) ggX9_settle_X5_shape
set_option maxRecDepth 20000 in
theorem ggX9_settle_X3_settle : GoodIn wsX9_settle wsX3_settle := goodIn_r _ [72, 73, 74, 75, 76, 77, 78, 79, 80, 71, 81, 82, 83, 84, 85, 86, 87, 88, 89, 90, 91, 92, 93, 94, 95, 96, 97, 98, 99, 100, 101, 102, 103, 104, 105, 9, 106, 27, 107, 108, 109, 110, 111, 112, 113, 114, 115, 116, 117, 118, 119, 167, 168, 169, 170, 171, 172, 156, 157, 158, 159, 160, 161, 162, 163, 164, 165, 166, 139, 140, 141, 142, 143, 144, 145, 146, 147, 148, 149, 150, 151, 152, 153, 154, 155] (by decide +kernel) (by decide +kernel)
set_option maxRecDepth 20000 in
theorem gX9_settle_X3_settle : GoodIn wsX9_settle (wsV RX9 261 RX3 yX3_settle wsX3_settle) := goodIn_app (goodIn_of _ (by decide +kernel)) ggX9_settle_X3_settle
set_option maxRecDepth 20000 in
theorem ggX9_settle_X1_forget : GoodIn wsX9_settle wsX1_forget := goodIn_r _ [124, 125, 126, 173, 174, 175, 176, 177, 178, 179, 180, 181] (by decide +kernel) (by decide +kernel)
set_option maxRecDepth 20000 in
theorem gX9_settle_X1_forget : GoodIn wsX9_settle (wsV RX9 262 RX1 yX1_forget wsX1_forget) := goodIn_app (goodIn_of _ (by decide +kernel)) ggX9_settle_X1_forget
set_option maxRecDepth 20000 in
theorem ggX9_heapState_X5_stateOf : GoodIn wsX9_heapState wsX5_stateOf := goodIn_r _ [8, 9, 10, 11, 12, 7, 13, 14, 15, 16, 17, 47, 48, 49, 50, 51, 52, 53, 54, 55, 56, 57] (by decide +kernel) (by decide +kernel)
set_option maxRecDepth 20000 in
theorem gX9_heapState_X5_stateOf : GoodIn wsX9_heapState (wsV RX9 202 RX5 yX5_stateOf wsX5_stateOf) := goodIn_app (goodIn_of _ (by decide +kernel)) ggX9_heapState_X5_stateOf
