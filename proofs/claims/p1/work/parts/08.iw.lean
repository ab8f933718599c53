set_option maxRecDepth 100000 in
theorem iw_X0_arranges_X0 : ∀ w ∈ wsX00, w ∈ wsX0_arranges := by decide +kernel
set_option maxRecDepth 100000 in
theorem iw_X0_arrangesAll_X0 : ∀ w ∈ wsX00, w ∈ wsX0_arrangesAll := by decide +kernel
set_option maxRecDepth 100000 in
theorem iw_X0_findRow_X0 : ∀ w ∈ wsX00, w ∈ wsX0_findRow := by decide +kernel
set_option maxRecDepth 100000 in
theorem iw_X0_init_X0 : ∀ w ∈ wsX00, w ∈ wsX0_init := by decide +kernel
set_option maxRecDepth 100000 in
theorem iw_X0_isAllowed_X0 : ∀ w ∈ wsX00, w ∈ wsX0_isAllowed := by decide +kernel
set_option maxRecDepth 100000 in
theorem iw_X0_isAllowed_X6 : ∀ w ∈ wsX60, w ∈ wsX0_isAllowed := by decide +kernel
set_option maxRecDepth 100000 in
theorem iw_X0_listStarts_X0 : ∀ w ∈ wsX00, w ∈ wsX0_listStarts := by decide +kernel
set_option maxRecDepth 100000 in
theorem iw_X0_listStarts_X5 : ∀ w ∈ wsX50, w ∈ wsX0_listStarts := by decide +kernel
set_option maxRecDepth 100000 in
theorem iw_X0_takesRow_X0 : ∀ w ∈ wsX00, w ∈ wsX0_takesRow := by decide +kernel
set_option maxRecDepth 100000 in
theorem iw_X0_takesRow_X6 : ∀ w ∈ wsX60, w ∈ wsX0_takesRow := by decide +kernel
set_option maxRecDepth 100000 in
theorem iw_X10_before_X10 : ∀ w ∈ wsX100, w ∈ wsX10_before := by decide +kernel
set_option maxRecDepth 100000 in
theorem iw_X10_blind_X10 : ∀ w ∈ wsX100, w ∈ wsX10_blind := by decide +kernel
set_option maxRecDepth 100000 in
theorem iw_X10_cheapest_X10 : ∀ w ∈ wsX100, w ∈ wsX10_cheapest := by decide +kernel
set_option maxRecDepth 100000 in
theorem iw_X10_comes_X10 : ∀ w ∈ wsX100, w ∈ wsX10_comes := by decide +kernel
set_option maxRecDepth 100000 in
theorem iw_X10_costs_X10 : ∀ w ∈ wsX100, w ∈ wsX10_costs := by decide +kernel
set_option maxRecDepth 100000 in
theorem iw_X10_count_X10 : ∀ w ∈ wsX100, w ∈ wsX10_count := by decide +kernel
set_option maxRecDepth 100000 in
theorem iw_X10_enter_X10 : ∀ w ∈ wsX100, w ∈ wsX10_enter := by decide +kernel
set_option maxRecDepth 100000 in
theorem iw_X10_far_X10 : ∀ w ∈ wsX100, w ∈ wsX10_far := by decide +kernel
set_option maxRecDepth 100000 in
theorem iw_X10_figure_X10 : ∀ w ∈ wsX100, w ∈ wsX10_figure := by decide +kernel
set_option maxRecDepth 100000 in
theorem iw_X10_fromOrder_X10 : ∀ w ∈ wsX100, w ∈ wsX10_fromOrder := by decide +kernel
set_option maxRecDepth 100000 in
theorem iw_X10_gapsSeen_X10 : ∀ w ∈ wsX100, w ∈ wsX10_gapsSeen := by decide +kernel
set_option maxRecDepth 100000 in
theorem iw_X10_goOut_X10 : ∀ w ∈ wsX100, w ∈ wsX10_goOut := by decide +kernel
set_option maxRecDepth 100000 in
theorem iw_X10_image_X10 : ∀ w ∈ wsX100, w ∈ wsX10_image := by decide +kernel
set_option maxRecDepth 100000 in
theorem iw_X10_init_X10 : ∀ w ∈ wsX100, w ∈ wsX10_init := by decide +kernel
set_option maxRecDepth 100000 in
theorem iw_X10_isBlind_X10 : ∀ w ∈ wsX100, w ∈ wsX10_isBlind := by decide +kernel
set_option maxRecDepth 100000 in
theorem iw_X10_isRow_X10 : ∀ w ∈ wsX100, w ∈ wsX10_isRow := by decide +kernel
set_option maxRecDepth 100000 in
theorem iw_X10_isSorted_X10 : ∀ w ∈ wsX100, w ∈ wsX10_isSorted := by decide +kernel
set_option maxRecDepth 100000 in
theorem iw_X10_isTurn_X10 : ∀ w ∈ wsX100, w ∈ wsX10_isTurn := by decide +kernel
set_option maxRecDepth 100000 in
theorem iw_X10_judge_X10 : ∀ w ∈ wsX100, w ∈ wsX10_judge := by decide +kernel
set_option maxRecDepth 100000 in
theorem iw_X10_kitchen_X10 : ∀ w ∈ wsX100, w ∈ wsX10_kitchen := by decide +kernel
set_option maxRecDepth 100000 in
theorem iw_X10_law_X10 : ∀ w ∈ wsX100, w ∈ wsX10_law := by decide +kernel
set_option maxRecDepth 100000 in
theorem iw_X10_least_X10 : ∀ w ∈ wsX100, w ∈ wsX10_least := by decide +kernel
set_option maxRecDepth 100000 in
theorem iw_X10_letter_X10 : ∀ w ∈ wsX100, w ∈ wsX10_letter := by decide +kernel
set_option maxRecDepth 100000 in
theorem iw_X10_look_X10 : ∀ w ∈ wsX100, w ∈ wsX10_look := by decide +kernel
set_option maxRecDepth 100000 in
theorem iw_X10_look__X10 : ∀ w ∈ wsX100, w ∈ wsX10_look_ := by decide +kernel
set_option maxRecDepth 100000 in
theorem iw_X10_many_X10 : ∀ w ∈ wsX100, w ∈ wsX10_many := by decide +kernel
set_option maxRecDepth 100000 in
theorem iw_X10_match_X10 : ∀ w ∈ wsX100, w ∈ wsX10_match := by decide +kernel
set_option maxRecDepth 100000 in
theorem iw_X10_mays_X10 : ∀ w ∈ wsX100, w ∈ wsX10_mays := by decide +kernel
set_option maxRecDepth 100000 in
theorem iw_X10_no_X10 : ∀ w ∈ wsX100, w ∈ wsX10_no := by decide +kernel
set_option maxRecDepth 100000 in
theorem iw_X10_number_X10 : ∀ w ∈ wsX100, w ∈ wsX10_number := by decide +kernel
set_option maxRecDepth 100000 in
theorem iw_X10_on_X10 : ∀ w ∈ wsX100, w ∈ wsX10_on := by decide +kernel
set_option maxRecDepth 100000 in
theorem iw_X10_oneOf_X10 : ∀ w ∈ wsX100, w ∈ wsX10_oneOf := by decide +kernel
set_option maxRecDepth 100000 in
theorem iw_X10_path_X10 : ∀ w ∈ wsX100, w ∈ wsX10_path := by decide +kernel
set_option maxRecDepth 100000 in
theorem iw_X10_place_X10 : ∀ w ∈ wsX100, w ∈ wsX10_place := by decide +kernel
set_option maxRecDepth 100000 in
theorem iw_X10_read_X10 : ∀ w ∈ wsX100, w ∈ wsX10_read := by decide +kernel
set_option maxRecDepth 100000 in
theorem iw_X10_row_X10 : ∀ w ∈ wsX100, w ∈ wsX10_row := by decide +kernel
set_option maxRecDepth 100000 in
theorem iw_X10_shuffled_X10 : ∀ w ∈ wsX100, w ∈ wsX10_shuffled := by decide +kernel
set_option maxRecDepth 100000 in
theorem iw_X10_sights_X10 : ∀ w ∈ wsX100, w ∈ wsX10_sights := by decide +kernel
set_option maxRecDepth 100000 in
theorem iw_X10_statement_X10 : ∀ w ∈ wsX100, w ∈ wsX10_statement := by decide +kernel
set_option maxRecDepth 100000 in
theorem iw_X10_ways_X10 : ∀ w ∈ wsX100, w ∈ wsX10_ways := by decide +kernel
set_option maxRecDepth 100000 in
theorem iw_X10_worst_X10 : ∀ w ∈ wsX100, w ∈ wsX10_worst := by decide +kernel
set_option maxRecDepth 100000 in
theorem iw_X1_flood_X1 : ∀ w ∈ wsX10, w ∈ wsX1_flood := by decide +kernel
set_option maxRecDepth 100000 in
theorem iw_X1_flood_X5 : ∀ w ∈ wsX50, w ∈ wsX1_flood := by decide +kernel
set_option maxRecDepth 100000 in
theorem iw_X1_forget_X1 : ∀ w ∈ wsX10, w ∈ wsX1_forget := by decide +kernel
set_option maxRecDepth 100000 in
theorem iw_X1_howManyAt_X1 : ∀ w ∈ wsX10, w ∈ wsX1_howManyAt := by decide +kernel
set_option maxRecDepth 100000 in
theorem iw_X1_howManyAt_X5 : ∀ w ∈ wsX50, w ∈ wsX1_howManyAt := by decide +kernel
set_option maxRecDepth 100000 in
theorem iw_X1_init_X1 : ∀ w ∈ wsX10, w ∈ wsX1_init := by decide +kernel
set_option maxRecDepth 100000 in
theorem iw_X1_init_X4 : ∀ w ∈ wsX40, w ∈ wsX1_init := by decide +kernel
set_option maxRecDepth 100000 in
theorem iw_X1_leastOf_X1 : ∀ w ∈ wsX10, w ∈ wsX1_leastOf := by decide +kernel
set_option maxRecDepth 100000 in
theorem iw_X1_measure_X1 : ∀ w ∈ wsX10, w ∈ wsX1_measure := by decide +kernel
set_option maxRecDepth 100000 in
theorem iw_X1_measure_X5 : ∀ w ∈ wsX50, w ∈ wsX1_measure := by decide +kernel
set_option maxRecDepth 100000 in
theorem iw_X1_priceOf_X1 : ∀ w ∈ wsX10, w ∈ wsX1_priceOf := by decide +kernel
set_option maxRecDepth 100000 in
theorem iw_X1_seedPrices_X1 : ∀ w ∈ wsX10, w ∈ wsX1_seedPrices := by decide +kernel
set_option maxRecDepth 100000 in
theorem iw_X1_seedPrices_X5 : ∀ w ∈ wsX50, w ∈ wsX1_seedPrices := by decide +kernel
set_option maxRecDepth 100000 in
theorem iw_X1_setPrices_X1 : ∀ w ∈ wsX10, w ∈ wsX1_setPrices := by decide +kernel
set_option maxRecDepth 100000 in
theorem iw_X1_setPrices_X5 : ∀ w ∈ wsX50, w ∈ wsX1_setPrices := by decide +kernel
set_option maxRecDepth 100000 in
theorem iw_X1_waysOf_X1 : ∀ w ∈ wsX10, w ∈ wsX1_waysOf := by decide +kernel
set_option maxRecDepth 100000 in
theorem iw_X2_init_X2 : ∀ w ∈ wsX20, w ∈ wsX2_init := by decide +kernel
set_option maxRecDepth 100000 in
theorem iw_X2_letterAt_X2 : ∀ w ∈ wsX20, w ∈ wsX2_letterAt := by decide +kernel
set_option maxRecDepth 100000 in
theorem iw_X2_letterAt_X6 : ∀ w ∈ wsX60, w ∈ wsX2_letterAt := by decide +kernel
set_option maxRecDepth 100000 in
theorem iw_X3_arranged_X3 : ∀ w ∈ wsX30, w ∈ wsX3_arranged := by decide +kernel
set_option maxRecDepth 100000 in
theorem iw_X3_arranged_X5 : ∀ w ∈ wsX50, w ∈ wsX3_arranged := by decide +kernel
set_option maxRecDepth 100000 in
theorem iw_X3_gapsOf_X3 : ∀ w ∈ wsX30, w ∈ wsX3_gapsOf := by decide +kernel
set_option maxRecDepth 100000 in
theorem iw_X3_gapsOf_X5 : ∀ w ∈ wsX50, w ∈ wsX3_gapsOf := by decide +kernel
set_option maxRecDepth 100000 in
theorem iw_X3_howManyLawful_X3 : ∀ w ∈ wsX30, w ∈ wsX3_howManyLawful := by decide +kernel
set_option maxRecDepth 100000 in
theorem iw_X3_howManyLawful_X5 : ∀ w ∈ wsX50, w ∈ wsX3_howManyLawful := by decide +kernel
set_option maxRecDepth 100000 in
theorem iw_X3_init_X3 : ∀ w ∈ wsX30, w ∈ wsX3_init := by decide +kernel
set_option maxRecDepth 100000 in
theorem iw_X3_isSorted_X3 : ∀ w ∈ wsX30, w ∈ wsX3_isSorted := by decide +kernel
set_option maxRecDepth 100000 in
theorem iw_X3_isSorted_X5 : ∀ w ∈ wsX50, w ∈ wsX3_isSorted := by decide +kernel
set_option maxRecDepth 100000 in
theorem iw_X3_rankSizes_X3 : ∀ w ∈ wsX30, w ∈ wsX3_rankSizes := by decide +kernel
set_option maxRecDepth 100000 in
theorem iw_X3_rankSizes_X6 : ∀ w ∈ wsX60, w ∈ wsX3_rankSizes := by decide +kernel
set_option maxRecDepth 100000 in
theorem iw_X3_settle_X3 : ∀ w ∈ wsX30, w ∈ wsX3_settle := by decide +kernel
set_option maxRecDepth 100000 in
theorem iw_X3_settle_X5 : ∀ w ∈ wsX50, w ∈ wsX3_settle := by decide +kernel
set_option maxRecDepth 100000 in
theorem iw_X4_init_X4 : ∀ w ∈ wsX40, w ∈ wsX4_init := by decide +kernel
set_option maxRecDepth 100000 in
theorem iw_X5_init_X5 : ∀ w ∈ wsX50, w ∈ wsX5_init := by decide +kernel
set_option maxRecDepth 100000 in
theorem iw_X5_orderIn_X5 : ∀ w ∈ wsX50, w ∈ wsX5_orderIn := by decide +kernel
set_option maxRecDepth 100000 in
theorem iw_X5_orderOf_X5 : ∀ w ∈ wsX50, w ∈ wsX5_orderOf := by decide +kernel
set_option maxRecDepth 100000 in
theorem iw_X5_shape_X5 : ∀ w ∈ wsX50, w ∈ wsX5_shape := by decide +kernel
set_option maxRecDepth 100000 in
theorem iw_X5_sidesOf_X5 : ∀ w ∈ wsX50, w ∈ wsX5_sidesOf := by decide +kernel
set_option maxRecDepth 100000 in
theorem iw_X5_stateOf_X5 : ∀ w ∈ wsX50, w ∈ wsX5_stateOf := by decide +kernel
set_option maxRecDepth 100000 in
theorem iw_X5_stateWith_X5 : ∀ w ∈ wsX50, w ∈ wsX5_stateWith := by decide +kernel
set_option maxRecDepth 100000 in
theorem iw_X5_turnOf_X5 : ∀ w ∈ wsX50, w ∈ wsX5_turnOf := by decide +kernel
set_option maxRecDepth 100000 in
theorem iw_X6_burntPlates_X6 : ∀ w ∈ wsX60, w ∈ wsX6_burntPlates := by decide +kernel
set_option maxRecDepth 100000 in
theorem iw_X6_init_X6 : ∀ w ∈ wsX60, w ∈ wsX6_init := by decide +kernel
set_option maxRecDepth 100000 in
theorem iw_X6_rowIsOrder_X6 : ∀ w ∈ wsX60, w ∈ wsX6_rowIsOrder := by decide +kernel
set_option maxRecDepth 100000 in
theorem iw_X6_takeFrom_X6 : ∀ w ∈ wsX60, w ∈ wsX6_takeFrom := by decide +kernel
set_option maxRecDepth 100000 in
theorem iw_X7_advise_X7 : ∀ w ∈ wsX70, w ∈ wsX7_advise := by decide +kernel
set_option maxRecDepth 100000 in
theorem iw_X7_init_X7 : ∀ w ∈ wsX70, w ∈ wsX7_init := by decide +kernel
set_option maxRecDepth 100000 in
theorem iw_X7_turnsMade_X7 : ∀ w ∈ wsX70, w ∈ wsX7_turnsMade := by decide +kernel
set_option maxRecDepth 100000 in
theorem iw_X8_fillFirst_X5 : ∀ w ∈ wsX50, w ∈ wsX8_fillFirst := by decide +kernel
set_option maxRecDepth 100000 in
theorem iw_X8_fillFirst_X8 : ∀ w ∈ wsX80, w ∈ wsX8_fillFirst := by decide +kernel
set_option maxRecDepth 100000 in
theorem iw_X8_howManyBehind_X5 : ∀ w ∈ wsX50, w ∈ wsX8_howManyBehind := by decide +kernel
set_option maxRecDepth 100000 in
theorem iw_X8_howManyBehind_X8 : ∀ w ∈ wsX80, w ∈ wsX8_howManyBehind := by decide +kernel
set_option maxRecDepth 100000 in
theorem iw_X8_init_X4 : ∀ w ∈ wsX40, w ∈ wsX8_init := by decide +kernel
set_option maxRecDepth 100000 in
theorem iw_X8_init_X8 : ∀ w ∈ wsX80, w ∈ wsX8_init := by decide +kernel
set_option maxRecDepth 100000 in
theorem iw_X8_markBehind_X5 : ∀ w ∈ wsX50, w ∈ wsX8_markBehind := by decide +kernel
set_option maxRecDepth 100000 in
theorem iw_X8_markBehind_X8 : ∀ w ∈ wsX80, w ∈ wsX8_markBehind := by decide +kernel
set_option maxRecDepth 100000 in
theorem iw_X8_matchFrom_X5 : ∀ w ∈ wsX50, w ∈ wsX8_matchFrom := by decide +kernel
set_option maxRecDepth 100000 in
theorem iw_X8_matchFrom_X8 : ∀ w ∈ wsX80, w ∈ wsX8_matchFrom := by decide +kernel
set_option maxRecDepth 100000 in
theorem iw_X8_seedMatch_X5 : ∀ w ∈ wsX50, w ∈ wsX8_seedMatch := by decide +kernel
set_option maxRecDepth 100000 in
theorem iw_X8_seedMatch_X8 : ∀ w ∈ wsX80, w ∈ wsX8_seedMatch := by decide +kernel
set_option maxRecDepth 100000 in
theorem iw_X8_shuffle_X8 : ∀ w ∈ wsX80, w ∈ wsX8_shuffle := by decide +kernel
set_option maxRecDepth 100000 in
theorem iw_X8_turnsBetween_X8 : ∀ w ∈ wsX80, w ∈ wsX8_turnsBetween := by decide +kernel
set_option maxRecDepth 100000 in
theorem iw_X9_before_X9 : ∀ w ∈ wsX90, w ∈ wsX9_before := by decide +kernel
set_option maxRecDepth 100000 in
theorem iw_X9_blind_X6 : ∀ w ∈ wsX60, w ∈ wsX9_blind := by decide +kernel
set_option maxRecDepth 100000 in
theorem iw_X9_blind_X9 : ∀ w ∈ wsX90, w ∈ wsX9_blind := by decide +kernel
set_option maxRecDepth 100000 in
theorem iw_X9_cheapest_X9 : ∀ w ∈ wsX90, w ∈ wsX9_cheapest := by decide +kernel
set_option maxRecDepth 100000 in
theorem iw_X9_count_X6 : ∀ w ∈ wsX60, w ∈ wsX9_count := by decide +kernel
set_option maxRecDepth 100000 in
theorem iw_X9_count_X9 : ∀ w ∈ wsX90, w ∈ wsX9_count := by decide +kernel
set_option maxRecDepth 100000 in
theorem iw_X9_far_X9 : ∀ w ∈ wsX90, w ∈ wsX9_far := by decide +kernel
set_option maxRecDepth 100000 in
theorem iw_X9_fewest_X9 : ∀ w ∈ wsX90, w ∈ wsX9_fewest := by decide +kernel
set_option maxRecDepth 100000 in
theorem iw_X9_gaps_X9 : ∀ w ∈ wsX90, w ∈ wsX9_gaps := by decide +kernel
set_option maxRecDepth 100000 in
theorem iw_X9_heapState_X6 : ∀ w ∈ wsX60, w ∈ wsX9_heapState := by decide +kernel
set_option maxRecDepth 100000 in
theorem iw_X9_heapState_X9 : ∀ w ∈ wsX90, w ∈ wsX9_heapState := by decide +kernel
set_option maxRecDepth 100000 in
theorem iw_X9_image_X6 : ∀ w ∈ wsX60, w ∈ wsX9_image := by decide +kernel
set_option maxRecDepth 100000 in
theorem iw_X9_image_X9 : ∀ w ∈ wsX90, w ∈ wsX9_image := by decide +kernel
set_option maxRecDepth 100000 in
theorem iw_X9_inOrder_X9 : ∀ w ∈ wsX90, w ∈ wsX9_inOrder := by decide +kernel
set_option maxRecDepth 100000 in
theorem iw_X9_init_X0 : ∀ w ∈ wsX00, w ∈ wsX9_init := by decide +kernel
set_option maxRecDepth 100000 in
theorem iw_X9_init_X1 : ∀ w ∈ wsX10, w ∈ wsX9_init := by decide +kernel
set_option maxRecDepth 100000 in
theorem iw_X9_init_X2 : ∀ w ∈ wsX20, w ∈ wsX9_init := by decide +kernel
set_option maxRecDepth 100000 in
theorem iw_X9_init_X3 : ∀ w ∈ wsX30, w ∈ wsX9_init := by decide +kernel
set_option maxRecDepth 100000 in
theorem iw_X9_init_X4 : ∀ w ∈ wsX40, w ∈ wsX9_init := by decide +kernel
set_option maxRecDepth 100000 in
theorem iw_X9_init_X5 : ∀ w ∈ wsX50, w ∈ wsX9_init := by decide +kernel
set_option maxRecDepth 100000 in
theorem iw_X9_init_X6 : ∀ w ∈ wsX60, w ∈ wsX9_init := by decide +kernel
set_option maxRecDepth 100000 in
theorem iw_X9_init_X7 : ∀ w ∈ wsX70, w ∈ wsX9_init := by decide +kernel
set_option maxRecDepth 100000 in
theorem iw_X9_init_X8 : ∀ w ∈ wsX80, w ∈ wsX9_init := by decide +kernel
set_option maxRecDepth 100000 in
theorem iw_X9_init_X9 : ∀ w ∈ wsX90, w ∈ wsX9_init := by decide +kernel
set_option maxRecDepth 100000 in
theorem iw_X9_judge_X6 : ∀ w ∈ wsX60, w ∈ wsX9_judge := by decide +kernel
set_option maxRecDepth 100000 in
theorem iw_X9_judge_X9 : ∀ w ∈ wsX90, w ∈ wsX9_judge := by decide +kernel
set_option maxRecDepth 100000 in
theorem iw_X9_kitchen_X6 : ∀ w ∈ wsX60, w ∈ wsX9_kitchen := by decide +kernel
set_option maxRecDepth 100000 in
theorem iw_X9_kitchen_X9 : ∀ w ∈ wsX90, w ∈ wsX9_kitchen := by decide +kernel
set_option maxRecDepth 100000 in
theorem iw_X9_law_X6 : ∀ w ∈ wsX60, w ∈ wsX9_law := by decide +kernel
set_option maxRecDepth 100000 in
theorem iw_X9_law_X9 : ∀ w ∈ wsX90, w ∈ wsX9_law := by decide +kernel
set_option maxRecDepth 100000 in
theorem iw_X9_least_X9 : ∀ w ∈ wsX90, w ∈ wsX9_least := by decide +kernel
set_option maxRecDepth 100000 in
theorem iw_X9_letter_X6 : ∀ w ∈ wsX60, w ∈ wsX9_letter := by decide +kernel
set_option maxRecDepth 100000 in
theorem iw_X9_letter_X9 : ∀ w ∈ wsX90, w ∈ wsX9_letter := by decide +kernel
set_option maxRecDepth 100000 in
theorem iw_X9_match_X9 : ∀ w ∈ wsX90, w ∈ wsX9_match := by decide +kernel
set_option maxRecDepth 100000 in
theorem iw_X9_may_X9 : ∀ w ∈ wsX90, w ∈ wsX9_may := by decide +kernel
set_option maxRecDepth 100000 in
theorem iw_X9_next_X9 : ∀ w ∈ wsX90, w ∈ wsX9_next := by decide +kernel
set_option maxRecDepth 100000 in
theorem iw_X9_on_X9 : ∀ w ∈ wsX90, w ∈ wsX9_on := by decide +kernel
set_option maxRecDepth 100000 in
theorem iw_X9_path_X6 : ∀ w ∈ wsX60, w ∈ wsX9_path := by decide +kernel
set_option maxRecDepth 100000 in
theorem iw_X9_path_X9 : ∀ w ∈ wsX90, w ∈ wsX9_path := by decide +kernel
set_option maxRecDepth 100000 in
theorem iw_X9_place_X6 : ∀ w ∈ wsX60, w ∈ wsX9_place := by decide +kernel
set_option maxRecDepth 100000 in
theorem iw_X9_place_X9 : ∀ w ∈ wsX90, w ∈ wsX9_place := by decide +kernel
set_option maxRecDepth 100000 in
theorem iw_X9_refuse_X9 : ∀ w ∈ wsX90, w ∈ wsX9_refuse := by decide +kernel
set_option maxRecDepth 100000 in
theorem iw_X9_row_X6 : ∀ w ∈ wsX60, w ∈ wsX9_row := by decide +kernel
set_option maxRecDepth 100000 in
theorem iw_X9_row_X9 : ∀ w ∈ wsX90, w ∈ wsX9_row := by decide +kernel
set_option maxRecDepth 100000 in
theorem iw_X9_rule_X9 : ∀ w ∈ wsX90, w ∈ wsX9_rule := by decide +kernel
set_option maxRecDepth 100000 in
theorem iw_X9_settle_X6 : ∀ w ∈ wsX60, w ∈ wsX9_settle := by decide +kernel
set_option maxRecDepth 100000 in
theorem iw_X9_settle_X9 : ∀ w ∈ wsX90, w ∈ wsX9_settle := by decide +kernel
set_option maxRecDepth 100000 in
theorem iw_X9_shuffled_X9 : ∀ w ∈ wsX90, w ∈ wsX9_shuffled := by decide +kernel
set_option maxRecDepth 100000 in
theorem iw_X9_sights_X6 : ∀ w ∈ wsX60, w ∈ wsX9_sights := by decide +kernel
set_option maxRecDepth 100000 in
theorem iw_X9_sights_X9 : ∀ w ∈ wsX90, w ∈ wsX9_sights := by decide +kernel
set_option maxRecDepth 100000 in
theorem iw_X9_turn_X9 : ∀ w ∈ wsX90, w ∈ wsX9_turn := by decide +kernel
set_option maxRecDepth 100000 in
theorem iw_X9_ways_X9 : ∀ w ∈ wsX90, w ∈ wsX9_ways := by decide +kernel
set_option maxRecDepth 100000 in
theorem iw_X9_worst_X6 : ∀ w ∈ wsX60, w ∈ wsX9_worst := by decide +kernel
set_option maxRecDepth 100000 in
theorem iw_X9_worst_X9 : ∀ w ∈ wsX90, w ∈ wsX9_worst := by decide +kernel
