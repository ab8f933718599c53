set_option maxRecDepth 20000 in
theorem ggX10_image_X10_copy : GoodIn wsX10_image wsX10_copy := goodIn_r _ [17] (by decide +kernel) (by decide +kernel)
set_option maxRecDepth 20000 in
theorem gX10_image_X10_copy : GoodIn wsX10_image (va_wsS RX10 90 yX10_copy wsX10_copy) := goodIn_app (goodIn_of _ (by decide +kernel)) ggX10_image_X10_copy
set_option maxRecDepth 20000 in
theorem ggX10_on_X10_no : GoodIn wsX10_on wsX10_no := goodIn_r _ [18, 19, 23, 24, 25, 26, 27, 28, 29, 30, 31, 32, 33, 34, 35, 36, 37, 38, 39, 40, 41, 42, 43, 44, 45, 46, 47, 48, 49, 50, 51, 52, 53, 54, 55, 56] (by decide +kernel) (by decide +kernel)
set_option maxRecDepth 20000 in
theorem gX10_on_X10_no : GoodIn wsX10_on (wsV RX10 94 RX10 yX10_no wsX10_no) := goodIn_app (goodIn_of _ (by decide +kernel)) ggX10_on_X10_no
set_option maxRecDepth 20000 in
theorem ggX10_letter_X10_no : GoodIn wsX10_letter wsX10_no := goodIn_r _ [7, 8, 9, 10, 11, 12, 13, 14, 15, 16, 17, 18, 19, 20, 21, 22, 23, 24, 25, 26, 27, 28, 29, 30, 31, 32, 33, 34, 35, 36, 37, 38, 39, 40, 41, 42] (by decide +kernel) (by decide +kernel)
set_option maxRecDepth 20000 in
theorem gX10_letter_X10_no : GoodIn wsX10_letter (wsV RX10 94 RX10 yX10_no wsX10_no) := goodIn_app (goodIn_of _ (by decide +kernel)) ggX10_letter_X10_no
set_option maxRecDepth 20000 in
theorem ggX10_oneOf_X10_comes : GoodIn wsX10_oneOf wsX10_comes := goodIn_r _ [7, 2, 8, 9, 10, 11, 12, 13, 14, 15, 16, 17, 18, 19, 20, 21, 22, 23, 24, 25, 26, 27, 28, 29, 30, 31, 32, 33, 34, 35, 36, 37, 38, 39, 40, 41, 42, 43] (by decide +kernel) (by decide +kernel)
set_option maxRecDepth 20000 in
theorem gX10_oneOf_X10_comes : GoodIn wsX10_oneOf (wsV RX10 108 RX10 yX10_comes wsX10_comes) := goodIn_app (goodIn_of _ (by decide +kernel)) ggX10_oneOf_X10_comes
set_option maxRecDepth 20000 in
theorem ggX10_statement_X10_oneOf : GoodIn wsX10_statement wsX10_oneOf := goodIn_r _ [12, 6, 7, 13, 14, 15, 11, 16, 17, 18, 23, 24, 25, 26, 27, 28, 29, 30, 31, 32, 33, 34, 35, 36, 37, 38, 39, 40, 41, 42, 43, 44, 45, 46, 47, 48, 49, 50, 51, 52, 53, 54, 55, 56] (by decide +kernel) (by decide +kernel)
set_option maxRecDepth 20000 in
theorem gX10_statement_X10_oneOf : GoodIn wsX10_statement (wsV RX10 112 RX10 yX10_oneOf wsX10_oneOf) := goodIn_app (goodIn_of _ (by decide +kernel)) ggX10_statement_X10_oneOf
set_option maxRecDepth 20000 in
theorem ggX10_statement_X10_figure : GoodIn wsX10_statement wsX10_figure := goodIn_r _ [22, 6, 7, 17, 18, 23, 24, 25, 26, 27, 28, 29, 30, 31, 32, 33, 34, 35, 36, 37, 38, 39, 40, 41, 42, 43, 44, 45, 46, 47, 48, 49, 50, 51, 52, 53, 54, 55, 56] (by decide +kernel) (by decide +kernel)
set_option maxRecDepth 20000 in
theorem gX10_statement_X10_figure : GoodIn wsX10_statement (wsV RX10 119 RX10 yX10_figure wsX10_figure) := goodIn_app (goodIn_of _ (by decide +kernel)) ggX10_statement_X10_figure
set_option maxRecDepth 20000 in
theorem ggX10_read_X10_statement : GoodIn wsX10_read wsX10_statement := goodIn_r _ [10, 11, 5, 12, 13, 14, 2, 1, 15, 16, 17, 9, 18, 19, 20, 21, 22, 3, 23, 24, 25, 26, 27, 41, 42, 43, 44, 45, 46, 47, 48, 49, 50, 51, 52, 53, 54, 55, 56, 57, 58, 59, 60, 61, 62, 63, 64, 65, 66, 67, 68, 69, 70, 71, 72, 73, 74] (by decide +kernel) (by decide +kernel)
set_option maxRecDepth 20000 in
theorem gX10_read_X10_statement : GoodIn wsX10_read (wsV RX10 129 RX10 yX10_statement wsX10_statement) := goodIn_app (goodIn_of _ (by decide +kernel)) ggX10_read_X10_statement
set_option maxRecDepth 20000 in
theorem ggX10_kitchen_X10_read : GoodIn wsX10_kitchen wsX10_read := goodIn_r _ [6, 7, 8, 1, 9, 10, 11, 12, 13, 5, 14, 15, 16, 17, 18, 19, 20, 21, 22, 23, 24, 25, 26, 27, 28, 29, 30, 31, 32, 33, 34, 35, 36, 37, 38, 39, 40, 41, 42, 43, 44, 45, 46, 47, 48, 49, 50, 51, 52, 53, 54, 55, 56, 57, 58, 59, 60, 61, 62, 63, 64, 65, 66, 67, 68, 69, 70, 71, 72, 73, 74, 75, 76, 77, 78] (by decide +kernel) (by decide +kernel)
set_option maxRecDepth 20000 in
theorem gX10_kitchen_X10_read : GoodIn wsX10_kitchen (wsV RX10 139 RX10 yX10_read wsX10_read) := goodIn_app (goodIn_of _ (by decide +kernel)) ggX10_kitchen_X10_read
set_option maxRecDepth 20000 in
theorem ggX10_look_X10_copy : GoodIn wsX10_look wsX10_copy := goodIn_r _ [8] (by decide +kernel) (by decide +kernel)
set_option maxRecDepth 20000 in
theorem gX10_look_X10_copy : GoodIn wsX10_look (va_wsS RX10 90 yX10_copy wsX10_copy) := goodIn_app (goodIn_of _ (by decide +kernel)) ggX10_look_X10_copy
set_option maxRecDepth 20000 in
theorem ggX10_place_X10_no : GoodIn wsX10_place wsX10_no := goodIn_r _ [9, 10, 11, 12, 13, 14, 15, 16, 17, 18, 19, 20, 21, 22, 23, 24, 25, 26, 27, 28, 29, 30, 31, 32, 33, 34, 35, 36, 37, 38, 39, 40, 41, 42, 43, 44] (by decide +kernel) (by decide +kernel)
set_option maxRecDepth 20000 in
theorem gX10_place_X10_no : GoodIn wsX10_place (wsV RX10 94 RX10 yX10_no wsX10_no) := goodIn_app (goodIn_of _ (by decide +kernel)) ggX10_place_X10_no
set_option maxRecDepth 20000 in
theorem ggX10_law_X10_no : GoodIn wsX10_law wsX10_no := goodIn_r _ [6, 7, 8, 9, 10, 11, 12, 13, 14, 15, 16, 17, 18, 19, 20, 21, 22, 23, 24, 25, 26, 27, 28, 29, 30, 31, 32, 33, 34, 35, 36, 37, 38, 39, 40, 41] (by decide +kernel) (by decide +kernel)
set_option maxRecDepth 20000 in
theorem gX10_law_X10_no : GoodIn wsX10_law (wsV RX10 94 RX10 yX10_no wsX10_no) := goodIn_app (goodIn_of _ (by decide +kernel)) ggX10_law_X10_no
set_option maxRecDepth 20000 in
theorem ggX10_may_X10_isTurn : GoodIn wsX10_may wsX10_isTurn := goodIn_r _ [5, 6, 27, 28, 29, 30, 31, 32, 33, 34, 35, 36, 37, 38, 39, 40, 41, 42, 43, 44, 45, 46, 47, 48, 49, 50, 51, 52, 53, 54, 55, 56, 57, 58, 59, 60] (by decide +kernel) (by decide +kernel)
set_option maxRecDepth 20000 in
theorem gX10_may_X10_isTurn : GoodIn wsX10_may (wsV RX10 158 RX10 yX10_isTurn wsX10_isTurn) := goodIn_app (goodIn_of _ (by decide +kernel)) ggX10_may_X10_isTurn
set_option maxRecDepth 20000 in
theorem ggX10_may_X10_no : GoodIn wsX10_may wsX10_no := goodIn_r _ [10, 11, 27, 28, 29, 30, 31, 32, 33, 34, 35, 36, 37, 38, 39, 40, 41, 42, 43, 44, 45, 46, 47, 48, 49, 50, 51, 52, 53, 54, 55, 56, 57, 58, 59, 60] (by decide +kernel) (by decide +kernel)
set_option maxRecDepth 20000 in
theorem gX10_may_X10_no : GoodIn wsX10_may (wsV RX10 94 RX10 yX10_no wsX10_no) := goodIn_app (goodIn_of _ (by decide +kernel)) ggX10_may_X10_no
set_option maxRecDepth 20000 in
theorem ggX10_turn_X10_isTurn : GoodIn wsX10_turn wsX10_isTurn := goodIn_r _ [10, 5, 35, 36, 37, 38, 39, 40, 41, 42, 43, 44, 45, 46, 47, 48, 49, 50, 51, 52, 53, 54, 55, 56, 57, 58, 59, 60, 61, 62, 63, 64, 65, 66, 67, 68] (by decide +kernel) (by decide +kernel)
set_option maxRecDepth 20000 in
theorem gX10_turn_X10_isTurn : GoodIn wsX10_turn (wsV RX10 158 RX10 yX10_isTurn wsX10_isTurn) := goodIn_app (goodIn_of _ (by decide +kernel)) ggX10_turn_X10_isTurn
set_option maxRecDepth 20000 in
theorem ggX10_turn_X10_no : GoodIn wsX10_turn wsX10_no := goodIn_r _ [14, 15, 35, 36, 37, 38, 39, 40, 41, 42, 43, 44, 45, 46, 47, 48, 49, 50, 51, 52, 53, 54, 55, 56, 57, 58, 59, 60, 61, 62, 63, 64, 65, 66, 67, 68] (by decide +kernel) (by decide +kernel)
set_option maxRecDepth 20000 in
theorem gX10_turn_X10_no : GoodIn wsX10_turn (wsV RX10 94 RX10 yX10_no wsX10_no) := goodIn_app (goodIn_of _ (by decide +kernel)) ggX10_turn_X10_no
set_option maxRecDepth 20000 in
theorem ggX10_inOrder_X10_look : GoodIn wsX10_inOrder wsX10_look := goodIn_r _ [5, 6, 7, 8, 9, 10, 11, 4, 12, 19, 20, 21, 22, 23, 24, 25, 26, 27, 28, 29, 30, 31, 32, 33, 34, 35, 36, 37, 38, 39, 40, 41, 42, 43, 44, 45, 46, 47, 48, 49, 50, 51, 52] (by decide +kernel) (by decide +kernel)
set_option maxRecDepth 20000 in
theorem gX10_inOrder_X10_look : GoodIn wsX10_inOrder (wsV RX10 161 RX10 yX10_look wsX10_look) := goodIn_app (goodIn_of _ (by decide +kernel)) ggX10_inOrder_X10_look
set_option maxRecDepth 20000 in
theorem ggX10_inOrder_X10_isSorted : GoodIn wsX10_inOrder wsX10_isSorted := goodIn_r _ [16, 17, 18, 7, 9, 19, 20, 21, 22, 23, 24, 25, 26, 27, 28, 29, 30, 31, 32, 33, 34, 35, 36, 37, 38, 39, 40, 41, 42, 43, 44, 45, 46, 47, 48, 49, 50, 51, 52] (by decide +kernel) (by decide +kernel)
set_option maxRecDepth 20000 in
theorem gX10_inOrder_X10_isSorted : GoodIn wsX10_inOrder (wsV RX10 174 RX10 yX10_isSorted wsX10_isSorted) := goodIn_app (goodIn_of _ (by decide +kernel)) ggX10_inOrder_X10_isSorted
set_option maxRecDepth 20000 in
theorem ggX10_gaps_X10_look : GoodIn wsX10_gaps wsX10_look := goodIn_r _ [5, 6, 7, 8, 9, 10, 11, 4, 12, 34, 35, 36, 37, 38, 39, 40, 41, 42, 43, 44, 45, 46, 47, 48, 49, 50, 51, 52, 53, 54, 55, 56, 57, 58, 59, 60, 61, 62, 63, 64, 65, 66, 67] (by decide +kernel) (by decide +kernel)
set_option maxRecDepth 20000 in
theorem gX10_gaps_X10_look : GoodIn wsX10_gaps (wsV RX10 161 RX10 yX10_look wsX10_look) := goodIn_app (goodIn_of _ (by decide +kernel)) ggX10_gaps_X10_look
set_option maxRecDepth 20000 in
theorem ggX10_gaps_X10_gapsSeen : GoodIn wsX10_gaps wsX10_gapsSeen := goodIn_r _ [16, 17, 18, 7, 9, 19, 20, 21, 4, 22, 23, 24, 25, 26, 27, 28, 29, 30, 31, 32, 33, 34, 35, 36, 37, 38, 39, 40, 41, 42, 43, 44, 45, 46, 47, 48, 49, 50, 51, 52, 53, 54, 55, 56, 57, 58, 59, 60, 61, 62, 63, 64, 65, 66, 67] (by decide +kernel) (by decide +kernel)
set_option maxRecDepth 20000 in
theorem gX10_gaps_X10_gapsSeen : GoodIn wsX10_gaps (wsV RX10 178 RX10 yX10_gapsSeen wsX10_gapsSeen) := goodIn_app (goodIn_of _ (by decide +kernel)) ggX10_gaps_X10_gapsSeen
set_option maxRecDepth 20000 in
theorem ggX10_fromOrder_X10_many : GoodIn wsX10_fromOrder wsX10_many := goodIn_r _ [8, 9, 43, 44, 45, 46, 47, 48, 49, 50, 51, 52, 53, 54, 55, 56, 57, 58, 59, 60, 61, 62, 63, 64, 65, 66, 67, 68, 69, 70, 71, 72, 73, 74, 75, 76] (by decide +kernel) (by decide +kernel)
set_option maxRecDepth 20000 in
theorem gX10_fromOrder_X10_many : GoodIn wsX10_fromOrder (wsV RX10 190 RX10 yX10_many wsX10_many) := goodIn_app (goodIn_of _ (by decide +kernel)) ggX10_fromOrder_X10_many
set_option maxRecDepth 20000 in
theorem ggX10_fromOrder_X10_look_ : GoodIn wsX10_fromOrder wsX10_look_ := goodIn_r _ [13, 9, 14, 15, 16, 43, 44, 45, 46, 47, 48, 49, 50, 51, 52, 53, 54, 55, 56, 57, 58, 59, 60, 61, 62, 63, 64, 65, 66, 67, 68, 69, 70, 71, 72, 73, 74, 75, 76] (by decide +kernel) (by decide +kernel)
set_option maxRecDepth 20000 in
theorem gX10_fromOrder_X10_look_ : GoodIn wsX10_fromOrder (wsV RX10 184 RX10 yX10_look_ wsX10_look_) := goodIn_app (goodIn_of _ (by decide +kernel)) ggX10_fromOrder_X10_look_
set_option maxRecDepth 20000 in
theorem ggX10_fromOrder_X10_isSorted : GoodIn wsX10_fromOrder wsX10_isSorted := goodIn_r _ [20, 9, 21, 16, 14, 43, 44, 45, 46, 47, 48, 49, 50, 51, 52, 53, 54, 55, 56, 57, 58, 59, 60, 61, 62, 63, 64, 65, 66, 67, 68, 69, 70, 71, 72, 73, 74, 75, 76] (by decide +kernel) (by decide +kernel)
set_option maxRecDepth 20000 in
theorem gX10_fromOrder_X10_isSorted : GoodIn wsX10_fromOrder (wsV RX10 174 RX10 yX10_isSorted wsX10_isSorted) := goodIn_app (goodIn_of _ (by decide +kernel)) ggX10_fromOrder_X10_isSorted
set_option maxRecDepth 20000 in
theorem ggX10_fromOrder_X10_enter : GoodIn wsX10_fromOrder wsX10_enter := goodIn_r _ [25, 2, 3, 26, 1, 43, 44, 45, 46, 47, 48, 49, 50, 51, 52, 53, 54, 55, 56, 57, 58, 59, 60, 61, 62, 63, 64, 65, 66, 67, 68, 69, 70, 71, 72, 73, 74, 75, 76] (by decide +kernel) (by decide +kernel)
set_option maxRecDepth 20000 in
theorem gX10_fromOrder_X10_enter : GoodIn wsX10_fromOrder (wsV RX10 193 RX10 yX10_enter wsX10_enter) := goodIn_app (goodIn_of _ (by decide +kernel)) ggX10_fromOrder_X10_enter
set_option maxRecDepth 20000 in
theorem ggX10_fromOrder_X10_goOut : GoodIn wsX10_fromOrder wsX10_goOut := goodIn_r _ [30, 9, 1, 26, 2, 3, 10, 11, 12, 7, 13, 14, 15, 16, 31, 32, 33, 34, 35, 36, 37, 38, 39, 40, 41, 42, 43, 44, 45, 46, 47, 48, 49, 50, 51, 52, 53, 54, 55, 56, 57, 58, 59, 60, 61, 62, 63, 64, 65, 66, 67, 68, 69, 70, 71, 72, 73, 74, 75, 76] (by decide +kernel) (by decide +kernel)
set_option maxRecDepth 20000 in
theorem gX10_fromOrder_X10_goOut : GoodIn wsX10_fromOrder (wsV RX10 196 RX10 yX10_goOut wsX10_goOut) := goodIn_app (goodIn_of _ (by decide +kernel)) ggX10_fromOrder_X10_goOut
set_option maxRecDepth 20000 in
theorem ggX10_costs_X10_many : GoodIn wsX10_costs wsX10_many := goodIn_r _ [7, 1, 36, 37, 38, 39, 40, 41, 42, 43, 44, 45, 46, 47, 48, 49, 50, 51, 52, 53, 54, 55, 56, 57, 58, 59, 60, 61, 62, 63, 64, 65, 66, 67, 68, 69] (by decide +kernel) (by decide +kernel)
set_option maxRecDepth 20000 in
theorem gX10_costs_X10_many : GoodIn wsX10_costs (wsV RX10 190 RX10 yX10_many wsX10_many) := goodIn_app (goodIn_of _ (by decide +kernel)) ggX10_costs_X10_many
set_option maxRecDepth 20000 in
theorem ggX10_costs_X10_look_ : GoodIn wsX10_costs wsX10_look_ := goodIn_r _ [11, 1, 12, 13, 14, 36, 37, 38, 39, 40, 41, 42, 43, 44, 45, 46, 47, 48, 49, 50, 51, 52, 53, 54, 55, 56, 57, 58, 59, 60, 61, 62, 63, 64, 65, 66, 67, 68, 69] (by decide +kernel) (by decide +kernel)
set_option maxRecDepth 20000 in
theorem gX10_costs_X10_look_ : GoodIn wsX10_costs (wsV RX10 184 RX10 yX10_look_ wsX10_look_) := goodIn_app (goodIn_of _ (by decide +kernel)) ggX10_costs_X10_look_
set_option maxRecDepth 20000 in
theorem ggX10_costs_X10_isSorted : GoodIn wsX10_costs wsX10_isSorted := goodIn_r _ [18, 1, 19, 14, 12, 36, 37, 38, 39, 40, 41, 42, 43, 44, 45, 46, 47, 48, 49, 50, 51, 52, 53, 54, 55, 56, 57, 58, 59, 60, 61, 62, 63, 64, 65, 66, 67, 68, 69] (by decide +kernel) (by decide +kernel)
set_option maxRecDepth 20000 in
theorem gX10_costs_X10_isSorted : GoodIn wsX10_costs (wsV RX10 174 RX10 yX10_isSorted wsX10_isSorted) := goodIn_app (goodIn_of _ (by decide +kernel)) ggX10_costs_X10_isSorted
set_option maxRecDepth 20000 in
theorem ggX10_now_X10_look : GoodIn wsX10_now wsX10_look := goodIn_r _ [5, 6, 7, 8, 9, 10, 11, 4, 12, 18, 19, 20, 21, 22, 23, 24, 25, 26, 27, 28, 29, 30, 31, 32, 33, 34, 35, 36, 37, 38, 39, 40, 41, 42, 43, 44, 45, 46, 47, 48, 49, 50, 51] (by decide +kernel) (by decide +kernel)
set_option maxRecDepth 20000 in
theorem gX10_now_X10_look : GoodIn wsX10_now (wsV RX10 161 RX10 yX10_look wsX10_look) := goodIn_app (goodIn_of _ (by decide +kernel)) ggX10_now_X10_look
set_option maxRecDepth 20000 in
theorem ggX10_now_X10_number : GoodIn wsX10_now wsX10_number := goodIn_r _ [16, 17, 7, 9, 18, 19, 20, 21, 22, 23, 24, 25, 26, 27, 28, 29, 30, 31, 32, 33, 34, 35, 36, 37, 38, 39, 40, 41, 42, 43, 44, 45, 46, 47, 48, 49, 50, 51] (by decide +kernel) (by decide +kernel)
set_option maxRecDepth 20000 in
theorem gX10_now_X10_number : GoodIn wsX10_now (wsV RX10 187 RX10 yX10_number wsX10_number) := goodIn_app (goodIn_of _ (by decide +kernel)) ggX10_now_X10_number
set_option maxRecDepth 20000 in
theorem ggX10_least_X10_fromOrder : GoodIn wsX10_least wsX10_fromOrder := goodIn_r _ [6, 7, 1, 8, 9, 10, 11, 5, 12, 13, 14, 15, 16, 17, 18, 19, 20, 21, 22, 23, 24, 25, 26, 27, 28, 29, 30, 31, 32, 33, 34, 35, 36, 37, 38, 39, 40, 41, 42, 43, 44, 45, 46, 60, 61, 62, 63, 64, 65, 66, 67, 68, 69, 70, 71, 72, 73, 74, 75, 76, 77, 78, 79, 80, 81, 82, 83, 84, 85, 86, 87, 88, 89, 90, 91, 92, 93] (by decide +kernel) (by decide +kernel)
set_option maxRecDepth 20000 in
theorem gX10_least_X10_fromOrder : GoodIn wsX10_least (wsV RX10 199 RX10 yX10_fromOrder wsX10_fromOrder) := goodIn_app (goodIn_of _ (by decide +kernel)) ggX10_least_X10_fromOrder
set_option maxRecDepth 20000 in
theorem ggX10_least_X10_now : GoodIn wsX10_least wsX10_now := goodIn_r _ [50, 51, 52, 53, 5, 54, 55, 20, 56, 18, 57, 58, 59, 43, 44, 45, 46, 13, 60, 61, 62, 63, 64, 65, 66, 67, 68, 69, 70, 71, 72, 73, 74, 75, 76, 77, 78, 79, 80, 81, 82, 83, 84, 85, 86, 87, 88, 89, 90, 91, 92, 93] (by decide +kernel) (by decide +kernel)
set_option maxRecDepth 20000 in
theorem gX10_least_X10_now : GoodIn wsX10_least (wsV RX10 202 RX10 yX10_now wsX10_now) := goodIn_app (goodIn_of _ (by decide +kernel)) ggX10_least_X10_now
set_option maxRecDepth 20000 in
theorem ggX10_cheapest_X10_costs : GoodIn wsX10_cheapest wsX10_costs := goodIn_r _ [6, 7, 1, 8, 9, 10, 5, 11, 12, 13, 14, 15, 16, 17, 18, 19, 20, 21, 22, 23, 24, 25, 26, 27, 28, 29, 30, 31, 32, 33, 34, 35, 36, 37, 38, 39, 53, 54, 55, 56, 57, 58, 59, 60, 61, 62, 63, 64, 65, 66, 67, 68, 69, 70, 71, 72, 73, 74, 75, 76, 77, 78, 79, 80, 81, 82, 83, 84, 85, 86] (by decide +kernel) (by decide +kernel)
set_option maxRecDepth 20000 in
theorem gX10_cheapest_X10_costs : GoodIn wsX10_cheapest (wsV RX10 205 RX10 yX10_costs wsX10_costs) := goodIn_app (goodIn_of _ (by decide +kernel)) ggX10_cheapest_X10_costs
set_option maxRecDepth 20000 in
theorem ggX10_cheapest_X10_now : GoodIn wsX10_cheapest wsX10_now := goodIn_r _ [43, 44, 45, 46, 5, 47, 48, 18, 49, 16, 50, 51, 52, 32, 33, 34, 35, 7, 53, 54, 55, 56, 57, 58, 59, 60, 61, 62, 63, 64, 65, 66, 67, 68, 69, 70, 71, 72, 73, 74, 75, 76, 77, 78, 79, 80, 81, 82, 83, 84, 85, 86] (by decide +kernel) (by decide +kernel)
set_option maxRecDepth 20000 in
theorem gX10_cheapest_X10_now : GoodIn wsX10_cheapest (wsV RX10 202 RX10 yX10_now wsX10_now) := goodIn_app (goodIn_of _ (by decide +kernel)) ggX10_cheapest_X10_now
set_option maxRecDepth 20000 in
theorem ggX10_ways_X10_fromOrder : GoodIn wsX10_ways wsX10_fromOrder := goodIn_r _ [6, 7, 8, 1, 9, 10, 11, 5, 12, 13, 14, 15, 16, 17, 18, 19, 20, 21, 22, 23, 24, 25, 26, 27, 28, 29, 30, 31, 32, 33, 34, 35, 36, 37, 38, 39, 40, 41, 42, 43, 44, 45, 46, 60, 61, 62, 63, 64, 65, 66, 67, 68, 69, 70, 71, 72, 73, 74, 75, 76, 77, 78, 79, 80, 81, 82, 83, 84, 85, 86, 87, 88, 89, 90, 91, 92, 93] (by decide +kernel) (by decide +kernel)
set_option maxRecDepth 20000 in
theorem gX10_ways_X10_fromOrder : GoodIn wsX10_ways (wsV RX10 199 RX10 yX10_fromOrder wsX10_fromOrder) := goodIn_app (goodIn_of _ (by decide +kernel)) ggX10_ways_X10_fromOrder
set_option maxRecDepth 20000 in
theorem ggX10_ways_X10_now : GoodIn wsX10_ways wsX10_now := goodIn_r _ [50, 51, 52, 53, 5, 54, 55, 20, 56, 18, 57, 58, 59, 43, 44, 45, 46, 13, 60, 61, 62, 63, 64, 65, 66, 67, 68, 69, 70, 71, 72, 73, 74, 75, 76, 77, 78, 79, 80, 81, 82, 83, 84, 85, 86, 87, 88, 89, 90, 91, 92, 93] (by decide +kernel) (by decide +kernel)
set_option maxRecDepth 20000 in
theorem gX10_ways_X10_now : GoodIn wsX10_ways (wsV RX10 202 RX10 yX10_now wsX10_now) := goodIn_app (goodIn_of _ (by decide +kernel)) ggX10_ways_X10_now
set_option maxRecDepth 20000 in
theorem ggX10_far_X10_no : GoodIn wsX10_far wsX10_no := goodIn_r _ [6, 7, 52, 53, 54, 55, 56, 57, 58, 59, 60, 61, 62, 63, 64, 65, 66, 67, 68, 69, 70, 71, 72, 73, 74, 75, 76, 77, 78, 79, 80, 81, 82, 83, 84, 85] (by decide +kernel) (by decide +kernel)
set_option maxRecDepth 20000 in
theorem gX10_far_X10_no : GoodIn wsX10_far (wsV RX10 94 RX10 yX10_no wsX10_no) := goodIn_app (goodIn_of _ (by decide +kernel)) ggX10_far_X10_no
set_option maxRecDepth 20000 in
theorem ggX10_far_X10_fromOrder : GoodIn wsX10_far wsX10_fromOrder := goodIn_r _ [11, 12, 1, 13, 14, 15, 16, 5, 17, 18, 19, 20, 21, 22, 23, 24, 25, 26, 27, 28, 29, 30, 31, 32, 33, 34, 35, 36, 37, 38, 39, 40, 41, 42, 43, 44, 45, 46, 47, 48, 49, 50, 51, 52, 53, 54, 55, 56, 57, 58, 59, 60, 61, 62, 63, 64, 65, 66, 67, 68, 69, 70, 71, 72, 73, 74, 75, 76, 77, 78, 79, 80, 81, 82, 83, 84, 85] (by decide +kernel) (by decide +kernel)
set_option maxRecDepth 20000 in
theorem gX10_far_X10_fromOrder : GoodIn wsX10_far (wsV RX10 199 RX10 yX10_fromOrder wsX10_fromOrder) := goodIn_app (goodIn_of _ (by decide +kernel)) ggX10_far_X10_fromOrder
set_option maxRecDepth 20000 in
theorem ggX10_far_X10_many : GoodIn wsX10_far wsX10_many := goodIn_r _ [17, 18, 52, 53, 54, 55, 56, 57, 58, 59, 60, 61, 62, 63, 64, 65, 66, 67, 68, 69, 70, 71, 72, 73, 74, 75, 76, 77, 78, 79, 80, 81, 82, 83, 84, 85] (by decide +kernel) (by decide +kernel)
set_option maxRecDepth 20000 in
theorem gX10_far_X10_many : GoodIn wsX10_far (wsV RX10 190 RX10 yX10_many wsX10_many) := goodIn_app (goodIn_of _ (by decide +kernel)) ggX10_far_X10_many
set_option maxRecDepth 20000 in
theorem ggX10_worst_X10_no : GoodIn wsX10_worst wsX10_no := goodIn_r _ [9, 10, 52, 53, 54, 55, 56, 57, 58, 59, 60, 61, 62, 63, 64, 65, 66, 67, 68, 69, 70, 71, 72, 73, 74, 75, 76, 77, 78, 79, 80, 81, 82, 83, 84, 85] (by decide +kernel) (by decide +kernel)
set_option maxRecDepth 20000 in
theorem gX10_worst_X10_no : GoodIn wsX10_worst (wsV RX10 94 RX10 yX10_no wsX10_no) := goodIn_app (goodIn_of _ (by decide +kernel)) ggX10_worst_X10_no
set_option maxRecDepth 20000 in
theorem ggX10_before_X10_no : GoodIn wsX10_before wsX10_no := goodIn_r _ [8, 9, 46, 47, 48, 49, 50, 51, 52, 53, 54, 55, 56, 57, 58, 59, 60, 61, 62, 63, 64, 65, 66, 67, 68, 69, 70, 71, 72, 73, 74, 75, 76, 77, 78, 79] (by decide +kernel) (by decide +kernel)
set_option maxRecDepth 20000 in
theorem gX10_before_X10_no : GoodIn wsX10_before (wsV RX10 94 RX10 yX10_no wsX10_no) := goodIn_app (goodIn_of _ (by decide +kernel)) ggX10_before_X10_no
set_option maxRecDepth 20000 in
theorem ggX10_before_X10_many : GoodIn wsX10_before wsX10_many := goodIn_r _ [13, 3, 46, 47, 48, 49, 50, 51, 52, 53, 54, 55, 56, 57, 58, 59, 60, 61, 62, 63, 64, 65, 66, 67, 68, 69, 70, 71, 72, 73, 74, 75, 76, 77, 78, 79] (by decide +kernel) (by decide +kernel)
set_option maxRecDepth 20000 in
theorem gX10_before_X10_many : GoodIn wsX10_before (wsV RX10 190 RX10 yX10_many wsX10_many) := goodIn_app (goodIn_of _ (by decide +kernel)) ggX10_before_X10_many
set_option maxRecDepth 20000 in
theorem ggX10_before_X10_now : GoodIn wsX10_before wsX10_now := goodIn_r _ [17, 18, 19, 20, 7, 21, 22, 23, 24, 25, 26, 27, 28, 29, 30, 31, 32, 3, 46, 47, 48, 49, 50, 51, 52, 53, 54, 55, 56, 57, 58, 59, 60, 61, 62, 63, 64, 65, 66, 67, 68, 69, 70, 71, 72, 73, 74, 75, 76, 77, 78, 79] (by decide +kernel) (by decide +kernel)
set_option maxRecDepth 20000 in
theorem gX10_before_X10_now : GoodIn wsX10_before (wsV RX10 202 RX10 yX10_now wsX10_now) := goodIn_app (goodIn_of _ (by decide +kernel)) ggX10_before_X10_now
set_option maxRecDepth 20000 in
theorem ggX10_nextOf_X10_look_ : GoodIn wsX10_nextOf wsX10_look_ := goodIn_r _ [8, 1, 9, 10, 11, 56, 57, 58, 59, 60, 61, 62, 63, 64, 65, 66, 67, 68, 69, 70, 71, 72, 73, 74, 75, 76, 77, 78, 79, 80, 81, 82, 83, 84, 85, 86, 87, 88, 89] (by decide +kernel) (by decide +kernel)
set_option maxRecDepth 20000 in
theorem gX10_nextOf_X10_look_ : GoodIn wsX10_nextOf (wsV RX10 184 RX10 yX10_look_ wsX10_look_) := goodIn_app (goodIn_of _ (by decide +kernel)) ggX10_nextOf_X10_look_
set_option maxRecDepth 20000 in
theorem ggX10_nextOf_X10_isSorted : GoodIn wsX10_nextOf wsX10_isSorted := goodIn_r _ [15, 1, 16, 11, 9, 56, 57, 58, 59, 60, 61, 62, 63, 64, 65, 66, 67, 68, 69, 70, 71, 72, 73, 74, 75, 76, 77, 78, 79, 80, 81, 82, 83, 84, 85, 86, 87, 88, 89] (by decide +kernel) (by decide +kernel)
set_option maxRecDepth 20000 in
theorem gX10_nextOf_X10_isSorted : GoodIn wsX10_nextOf (wsV RX10 174 RX10 yX10_isSorted wsX10_isSorted) := goodIn_app (goodIn_of _ (by decide +kernel)) ggX10_nextOf_X10_isSorted
set_option maxRecDepth 20000 in
theorem ggX10_tell_X10_fromOrder : GoodIn wsX10_tell wsX10_fromOrder := goodIn_r _ [5, 6, 7, 8, 9, 10, 11, 4, 12, 13, 14, 15, 16, 17, 18, 19, 20, 21, 22, 23, 24, 25, 26, 27, 28, 29, 30, 31, 32, 33, 34, 35, 36, 37, 38, 39, 40, 41, 42, 43, 44, 45, 46, 56, 57, 58, 59, 60, 61, 62, 63, 64, 65, 66, 67, 68, 69, 70, 71, 72, 73, 74, 75, 76, 77, 78, 79, 80, 81, 82, 83, 84, 85, 86, 87, 88, 89] (by decide +kernel) (by decide +kernel)
set_option maxRecDepth 20000 in
theorem gX10_tell_X10_fromOrder : GoodIn wsX10_tell (wsV RX10 199 RX10 yX10_fromOrder wsX10_fromOrder) := goodIn_app (goodIn_of _ (by decide +kernel)) ggX10_tell_X10_fromOrder
set_option maxRecDepth 20000 in
theorem ggX10_tell_X10_costs : GoodIn wsX10_tell wsX10_costs := goodIn_r _ [50, 13, 51, 9, 10, 11, 4, 12, 14, 15, 16, 17, 18, 19, 20, 21, 22, 23, 24, 25, 35, 36, 37, 38, 39, 40, 41, 42, 43, 44, 45, 46, 52, 53, 54, 55, 56, 57, 58, 59, 60, 61, 62, 63, 64, 65, 66, 67, 68, 69, 70, 71, 72, 73, 74, 75, 76, 77, 78, 79, 80, 81, 82, 83, 84, 85, 86, 87, 88, 89] (by decide +kernel) (by decide +kernel)
set_option maxRecDepth 20000 in
theorem gX10_tell_X10_costs : GoodIn wsX10_tell (wsV RX10 205 RX10 yX10_costs wsX10_costs) := goodIn_app (goodIn_of _ (by decide +kernel)) ggX10_tell_X10_costs
set_option maxRecDepth 20000 in
theorem ggX10_next_X10_no : GoodIn wsX10_next wsX10_no := goodIn_r _ [5, 6, 105, 106, 107, 108, 109, 110, 111, 112, 113, 114, 115, 116, 117, 118, 119, 120, 121, 122, 123, 124, 125, 126, 127, 128, 129, 130, 131, 132, 133, 134, 135, 136, 137, 138] (by decide +kernel) (by decide +kernel)
set_option maxRecDepth 20000 in
theorem gX10_next_X10_no : GoodIn wsX10_next (wsV RX10 94 RX10 yX10_no wsX10_no) := goodIn_app (goodIn_of _ (by decide +kernel)) ggX10_next_X10_no
set_option maxRecDepth 20000 in
theorem ggX10_next_X10_tell : GoodIn wsX10_next wsX10_tell := goodIn_r _ [10, 11, 12, 13, 4, 14, 15, 16, 17, 18, 19, 20, 21, 22, 23, 24, 25, 26, 27, 28, 29, 30, 31, 32, 33, 34, 35, 36, 37, 38, 39, 40, 41, 42, 43, 44, 45, 46, 47, 48, 49, 50, 51, 52, 53, 54, 55, 56, 57, 58, 59, 60, 61, 62, 63, 64, 105, 106, 107, 108, 109, 110, 111, 112, 113, 114, 115, 116, 117, 118, 119, 120, 121, 122, 123, 124, 125, 126, 127, 128, 129, 130, 131, 132, 133, 134, 135, 136, 137, 138] (by decide +kernel) (by decide +kernel)
set_option maxRecDepth 20000 in
theorem gX10_next_X10_tell : GoodIn wsX10_next (wsV RX10 211 RX10 yX10_tell wsX10_tell) := goodIn_app (goodIn_of _ (by decide +kernel)) ggX10_next_X10_tell
set_option maxRecDepth 20000 in
theorem ggX10_next_X10_now : GoodIn wsX10_next wsX10_now := goodIn_r _ [68, 69, 70, 71, 4, 72, 73, 29, 74, 27, 75, 76, 77, 52, 53, 54, 55, 22, 105, 106, 107, 108, 109, 110, 111, 112, 113, 114, 115, 116, 117, 118, 119, 120, 121, 122, 123, 124, 125, 126, 127, 128, 129, 130, 131, 132, 133, 134, 135, 136, 137, 138] (by decide +kernel) (by decide +kernel)
set_option maxRecDepth 20000 in
theorem gX10_next_X10_now : GoodIn wsX10_next (wsV RX10 202 RX10 yX10_now wsX10_now) := goodIn_app (goodIn_of _ (by decide +kernel)) ggX10_next_X10_now
set_option maxRecDepth 20000 in
theorem ggX10_next_X10_nextOf : GoodIn wsX10_next wsX10_nextOf := goodIn_r _ [81, 22, 16, 60, 23, 24, 25, 4, 26, 27, 28, 29, 30, 31, 32, 33, 34, 82, 83, 84, 85, 44, 45, 46, 47, 48, 49, 50, 51, 52, 53, 54, 55, 86, 87, 88, 89, 90, 91, 92, 93, 94, 95, 96, 97, 98, 99, 100, 101, 102, 103, 104, 61, 62, 63, 64, 105, 106, 107, 108, 109, 110, 111, 112, 113, 114, 115, 116, 117, 118, 119, 120, 121, 122, 123, 124, 125, 126, 127, 128, 129, 130, 131, 132, 133, 134, 135, 136, 137, 138] (by decide +kernel) (by decide +kernel)
set_option maxRecDepth 20000 in
theorem gX10_next_X10_nextOf : GoodIn wsX10_next (wsV RX10 214 RX10 yX10_nextOf wsX10_nextOf) := goodIn_app (goodIn_of _ (by decide +kernel)) ggX10_next_X10_nextOf
set_option maxRecDepth 20000 in
theorem ggX10_rule_X10_no : GoodIn wsX10_rule wsX10_no := goodIn_r _ [5, 6, 105, 106, 107, 108, 109, 110, 111, 112, 113, 114, 115, 116, 117, 118, 119, 120, 121, 122, 123, 124, 125, 126, 127, 128, 129, 130, 131, 132, 133, 134, 135, 136, 137, 138] (by decide +kernel) (by decide +kernel)
set_option maxRecDepth 20000 in
theorem gX10_rule_X10_no : GoodIn wsX10_rule (wsV RX10 94 RX10 yX10_no wsX10_no) := goodIn_app (goodIn_of _ (by decide +kernel)) ggX10_rule_X10_no
set_option maxRecDepth 20000 in
theorem ggX10_rule_X10_tell : GoodIn wsX10_rule wsX10_tell := goodIn_r _ [10, 11, 12, 13, 4, 14, 15, 16, 17, 18, 19, 20, 21, 22, 23, 24, 25, 26, 27, 28, 29, 30, 31, 32, 33, 34, 35, 36, 37, 38, 39, 40, 41, 42, 43, 44, 45, 46, 47, 48, 49, 50, 51, 52, 53, 54, 55, 56, 57, 58, 59, 60, 61, 62, 63, 64, 105, 106, 107, 108, 109, 110, 111, 112, 113, 114, 115, 116, 117, 118, 119, 120, 121, 122, 123, 124, 125, 126, 127, 128, 129, 130, 131, 132, 133, 134, 135, 136, 137, 138] (by decide +kernel) (by decide +kernel)
set_option maxRecDepth 20000 in
theorem gX10_rule_X10_tell : GoodIn wsX10_rule (wsV RX10 211 RX10 yX10_tell wsX10_tell) := goodIn_app (goodIn_of _ (by decide +kernel)) ggX10_rule_X10_tell
set_option maxRecDepth 20000 in
theorem ggX10_rule_X10_now : GoodIn wsX10_rule wsX10_now := goodIn_r _ [68, 69, 70, 71, 4, 72, 73, 29, 74, 27, 75, 76, 77, 52, 53, 54, 55, 22, 105, 106, 107, 108, 109, 110, 111, 112, 113, 114, 115, 116, 117, 118, 119, 120, 121, 122, 123, 124, 125, 126, 127, 128, 129, 130, 131, 132, 133, 134, 135, 136, 137, 138] (by decide +kernel) (by decide +kernel)
set_option maxRecDepth 20000 in
theorem gX10_rule_X10_now : GoodIn wsX10_rule (wsV RX10 202 RX10 yX10_now wsX10_now) := goodIn_app (goodIn_of _ (by decide +kernel)) ggX10_rule_X10_now
set_option maxRecDepth 20000 in
theorem ggX10_rule_X10_look_ : GoodIn wsX10_rule wsX10_look_ := goodIn_r _ [26, 22, 27, 28, 29, 105, 106, 107, 108, 109, 110, 111, 112, 113, 114, 115, 116, 117, 118, 119, 120, 121, 122, 123, 124, 125, 126, 127, 128, 129, 130, 131, 132, 133, 134, 135, 136, 137, 138] (by decide +kernel) (by decide +kernel)
set_option maxRecDepth 20000 in
theorem gX10_rule_X10_look_ : GoodIn wsX10_rule (wsV RX10 184 RX10 yX10_look_ wsX10_look_) := goodIn_app (goodIn_of _ (by decide +kernel)) ggX10_rule_X10_look_
set_option maxRecDepth 20000 in
theorem ggX10_rule_X10_isSorted : GoodIn wsX10_rule wsX10_isSorted := goodIn_r _ [33, 22, 34, 29, 27, 105, 106, 107, 108, 109, 110, 111, 112, 113, 114, 115, 116, 117, 118, 119, 120, 121, 122, 123, 124, 125, 126, 127, 128, 129, 130, 131, 132, 133, 134, 135, 136, 137, 138] (by decide +kernel) (by decide +kernel)
set_option maxRecDepth 20000 in
theorem gX10_rule_X10_isSorted : GoodIn wsX10_rule (wsV RX10 174 RX10 yX10_isSorted wsX10_isSorted) := goodIn_app (goodIn_of _ (by decide +kernel)) ggX10_rule_X10_isSorted
set_option maxRecDepth 20000 in
theorem ggX10_row_X10_no : GoodIn wsX10_row wsX10_no := goodIn_r _ [7, 8, 9, 10, 11, 12, 13, 14, 15, 16, 17, 18, 19, 20, 21, 22, 23, 24, 25, 26, 27, 28, 29, 30, 31, 32, 33, 34, 35, 36, 37, 38, 39, 40, 41, 42] (by decide +kernel) (by decide +kernel)
set_option maxRecDepth 20000 in
theorem gX10_row_X10_no : GoodIn wsX10_row (wsV RX10 94 RX10 yX10_no wsX10_no) := goodIn_app (goodIn_of _ (by decide +kernel)) ggX10_row_X10_no
set_option maxRecDepth 20000 in
theorem ggX10_path_X10_number : GoodIn wsX10_path wsX10_number := goodIn_r _ [17, 1, 4, 5, 58, 59, 60, 61, 62, 63, 64, 65, 66, 67, 68, 69, 70, 71, 72, 73, 74, 75, 76, 77, 78, 79, 80, 81, 82, 83, 84, 85, 86, 87, 88, 89, 90, 91] (by decide +kernel) (by decide +kernel)
set_option maxRecDepth 20000 in
theorem gX10_path_X10_number : GoodIn wsX10_path (wsV RX10 187 RX10 yX10_number wsX10_number) := goodIn_app (goodIn_of _ (by decide +kernel)) ggX10_path_X10_number
set_option maxRecDepth 20000 in
theorem ggX10_path_X10_many : GoodIn wsX10_path wsX10_many := goodIn_r _ [21, 1, 58, 59, 60, 61, 62, 63, 64, 65, 66, 67, 68, 69, 70, 71, 72, 73, 74, 75, 76, 77, 78, 79, 80, 81, 82, 83, 84, 85, 86, 87, 88, 89, 90, 91] (by decide +kernel) (by decide +kernel)
set_option maxRecDepth 20000 in
theorem gX10_path_X10_many : GoodIn wsX10_path (wsV RX10 190 RX10 yX10_many wsX10_many) := goodIn_app (goodIn_of _ (by decide +kernel)) ggX10_path_X10_many
set_option maxRecDepth 20000 in
theorem ggX10_path_X10_enter : GoodIn wsX10_path wsX10_enter := goodIn_r _ [25, 7, 26, 27, 6, 58, 59, 60, 61, 62, 63, 64, 65, 66, 67, 68, 69, 70, 71, 72, 73, 74, 75, 76, 77, 78, 79, 80, 81, 82, 83, 84, 85, 86, 87, 88, 89, 90, 91] (by decide +kernel) (by decide +kernel)
set_option maxRecDepth 20000 in
theorem gX10_path_X10_enter : GoodIn wsX10_path (wsV RX10 193 RX10 yX10_enter wsX10_enter) := goodIn_app (goodIn_of _ (by decide +kernel)) ggX10_path_X10_enter
set_option maxRecDepth 20000 in
theorem ggX10_path_X10_goOut : GoodIn wsX10_path wsX10_goOut := goodIn_r _ [31, 1, 6, 27, 7, 26, 32, 33, 34, 11, 35, 5, 36, 4, 37, 38, 39, 40, 41, 42, 43, 44, 14, 15, 16, 17, 58, 59, 60, 61, 62, 63, 64, 65, 66, 67, 68, 69, 70, 71, 72, 73, 74, 75, 76, 77, 78, 79, 80, 81, 82, 83, 84, 85, 86, 87, 88, 89, 90, 91] (by decide +kernel) (by decide +kernel)
set_option maxRecDepth 20000 in
theorem gX10_path_X10_goOut : GoodIn wsX10_path (wsV RX10 196 RX10 yX10_goOut wsX10_goOut) := goodIn_app (goodIn_of _ (by decide +kernel)) ggX10_path_X10_goOut
set_option maxRecDepth 20000 in
theorem ggX10_path_X10_now : GoodIn wsX10_path wsX10_now := goodIn_r _ [48, 49, 50, 51, 11, 52, 53, 4, 54, 5, 55, 56, 57, 14, 15, 16, 17, 1, 58, 59, 60, 61, 62, 63, 64, 65, 66, 67, 68, 69, 70, 71, 72, 73, 74, 75, 76, 77, 78, 79, 80, 81, 82, 83, 84, 85, 86, 87, 88, 89, 90, 91] (by decide +kernel) (by decide +kernel)
set_option maxRecDepth 20000 in
theorem gX10_path_X10_now : GoodIn wsX10_path (wsV RX10 202 RX10 yX10_now wsX10_now) := goodIn_app (goodIn_of _ (by decide +kernel)) ggX10_path_X10_now
set_option maxRecDepth 20000 in
theorem ggX10_judge_X10_look : GoodIn wsX10_judge wsX10_look := goodIn_r _ [7, 8, 9, 10, 11, 12, 13, 6, 14, 33, 34, 35, 36, 37, 38, 39, 40, 41, 42, 43, 44, 45, 46, 47, 48, 49, 50, 51, 52, 53, 54, 55, 56, 57, 58, 59, 60, 61, 62, 63, 64, 65, 66] (by decide +kernel) (by decide +kernel)
set_option maxRecDepth 20000 in
theorem gX10_judge_X10_look : GoodIn wsX10_judge (wsV RX10 161 RX10 yX10_look wsX10_look) := goodIn_app (goodIn_of _ (by decide +kernel)) ggX10_judge_X10_look
set_option maxRecDepth 20000 in
theorem ggX10_judge_X10_isSorted : GoodIn wsX10_judge wsX10_isSorted := goodIn_r _ [31, 19, 32, 9, 11, 33, 34, 35, 36, 37, 38, 39, 40, 41, 42, 43, 44, 45, 46, 47, 48, 49, 50, 51, 52, 53, 54, 55, 56, 57, 58, 59, 60, 61, 62, 63, 64, 65, 66] (by decide +kernel) (by decide +kernel)
set_option maxRecDepth 20000 in
theorem gX10_judge_X10_isSorted : GoodIn wsX10_judge (wsV RX10 174 RX10 yX10_isSorted wsX10_isSorted) := goodIn_app (goodIn_of _ (by decide +kernel)) ggX10_judge_X10_isSorted
set_option maxRecDepth 20000 in
theorem ggX10_isBlind_X10_many : GoodIn wsX10_isBlind wsX10_many := goodIn_r _ [12, 1, 27, 28, 29, 30, 31, 32, 33, 34, 35, 36, 37, 38, 39, 40, 41, 42, 43, 44, 45, 46, 47, 48, 49, 50, 51, 52, 53, 54, 55, 56, 57, 58, 59, 60] (by decide +kernel) (by decide +kernel)
set_option maxRecDepth 20000 in
theorem gX10_isBlind_X10_many : GoodIn wsX10_isBlind (wsV RX10 190 RX10 yX10_many wsX10_many) := goodIn_app (goodIn_of _ (by decide +kernel)) ggX10_isBlind_X10_many
set_option maxRecDepth 20000 in
theorem ggX10_isBlind_X10_look_ : GoodIn wsX10_isBlind wsX10_look_ := goodIn_r _ [16, 1, 5, 17, 2, 27, 28, 29, 30, 31, 32, 33, 34, 35, 36, 37, 38, 39, 40, 41, 42, 43, 44, 45, 46, 47, 48, 49, 50, 51, 52, 53, 54, 55, 56, 57, 58, 59, 60] (by decide +kernel) (by decide +kernel)
set_option maxRecDepth 20000 in
theorem gX10_isBlind_X10_look_ : GoodIn wsX10_isBlind (wsV RX10 184 RX10 yX10_look_ wsX10_look_) := goodIn_app (goodIn_of _ (by decide +kernel)) ggX10_isBlind_X10_look_
set_option maxRecDepth 20000 in
theorem ggX10_isBlind_X10_isSorted : GoodIn wsX10_isBlind wsX10_isSorted := goodIn_r _ [25, 1, 26, 2, 5, 27, 28, 29, 30, 31, 32, 33, 34, 35, 36, 37, 38, 39, 40, 41, 42, 43, 44, 45, 46, 47, 48, 49, 50, 51, 52, 53, 54, 55, 56, 57, 58, 59, 60] (by decide +kernel) (by decide +kernel)
set_option maxRecDepth 20000 in
theorem gX10_isBlind_X10_isSorted : GoodIn wsX10_isBlind (wsV RX10 174 RX10 yX10_isSorted wsX10_isSorted) := goodIn_app (goodIn_of _ (by decide +kernel)) ggX10_isBlind_X10_isSorted
set_option maxRecDepth 20000 in
theorem ggX10_blind_X10_isBlind : GoodIn wsX10_blind wsX10_isBlind := goodIn_r _ [17, 8, 18, 19, 20, 21, 22, 23, 24, 25, 26, 6, 27, 28, 29, 30, 31, 32, 33, 34, 35, 36, 37, 38, 39, 40, 41, 42, 43, 44, 45, 46, 47, 48, 49, 50, 51, 52, 53, 54, 55, 56, 57, 58, 59, 60, 61, 62, 63, 64, 65, 66, 67, 68, 69, 70, 71, 72, 73, 74, 75] (by decide +kernel) (by decide +kernel)
set_option maxRecDepth 20000 in
theorem gX10_blind_X10_isBlind : GoodIn wsX10_blind (wsV RX10 220 RX10 yX10_isBlind wsX10_isBlind) := goodIn_app (goodIn_of _ (by decide +kernel)) ggX10_blind_X10_isBlind
set_option maxRecDepth 20000 in
theorem ggX10_isRow_X10_isBlind : GoodIn wsX10_isRow wsX10_isBlind := goodIn_r _ [7, 2, 8, 9, 10, 11, 12, 13, 14, 15, 16, 6, 17, 18, 19, 20, 21, 22, 23, 24, 25, 26, 27, 28, 29, 30, 31, 35, 36, 37, 38, 39, 40, 41, 42, 43, 44, 45, 46, 47, 48, 49, 50, 51, 52, 53, 54, 55, 56, 57, 58, 59, 60, 61, 62, 63, 64, 65, 66, 67, 68] (by decide +kernel) (by decide +kernel)
set_option maxRecDepth 20000 in
theorem gX10_isRow_X10_isBlind : GoodIn wsX10_isRow (wsV RX10 220 RX10 yX10_isBlind wsX10_isBlind) := goodIn_app (goodIn_of _ (by decide +kernel)) ggX10_isRow_X10_isBlind
set_option maxRecDepth 20000 in
theorem ggX10_fewest_X10_no : GoodIn wsX10_fewest wsX10_no := goodIn_r _ [6, 7, 41, 42, 43, 44, 45, 46, 47, 48, 49, 50, 51, 52, 53, 54, 55, 56, 57, 58, 59, 60, 61, 62, 63, 64, 65, 66, 67, 68, 69, 70, 71, 72, 73, 74] (by decide +kernel) (by decide +kernel)
set_option maxRecDepth 20000 in
theorem gX10_fewest_X10_no : GoodIn wsX10_fewest (wsV RX10 94 RX10 yX10_no wsX10_no) := goodIn_app (goodIn_of _ (by decide +kernel)) ggX10_fewest_X10_no
set_option maxRecDepth 20000 in
theorem ggX10_fewest_X10_isRow : GoodIn wsX10_fewest wsX10_isRow := goodIn_r _ [11, 1, 12, 13, 14, 15, 5, 16, 17, 18, 19, 20, 21, 22, 23, 24, 25, 26, 27, 28, 29, 30, 31, 32, 33, 34, 35, 36, 37, 38, 39, 40, 8, 9, 10, 41, 42, 43, 44, 45, 46, 47, 48, 49, 50, 51, 52, 53, 54, 55, 56, 57, 58, 59, 60, 61, 62, 63, 64, 65, 66, 67, 68, 69, 70, 71, 72, 73, 74] (by decide +kernel) (by decide +kernel)
set_option maxRecDepth 20000 in
theorem gX10_fewest_X10_isRow : GoodIn wsX10_fewest (wsV RX10 224 RX10 yX10_isRow wsX10_isRow) := goodIn_app (goodIn_of _ (by decide +kernel)) ggX10_fewest_X10_isRow
set_option maxRecDepth 20000 in
theorem ggX10_match_X10_many : GoodIn wsX10_match wsX10_many := goodIn_r _ [7, 1, 45, 46, 47, 48, 49, 50, 51, 52, 53, 54, 55, 56, 57, 58, 59, 60, 61, 62, 63, 64, 65, 66, 67, 68, 69, 70, 71, 72, 73, 74, 75, 76, 77, 78] (by decide +kernel) (by decide +kernel)
set_option maxRecDepth 20000 in
theorem gX10_match_X10_many : GoodIn wsX10_match (wsV RX10 190 RX10 yX10_many wsX10_many) := goodIn_app (goodIn_of _ (by decide +kernel)) ggX10_match_X10_many
set_option maxRecDepth 20000 in
theorem ggX10_match_X10_look_ : GoodIn wsX10_match wsX10_look_ := goodIn_r _ [11, 1, 12, 13, 14, 45, 46, 47, 48, 49, 50, 51, 52, 53, 54, 55, 56, 57, 58, 59, 60, 61, 62, 63, 64, 65, 66, 67, 68, 69, 70, 71, 72, 73, 74, 75, 76, 77, 78] (by decide +kernel) (by decide +kernel)
set_option maxRecDepth 20000 in
theorem gX10_match_X10_look_ : GoodIn wsX10_match (wsV RX10 184 RX10 yX10_look_ wsX10_look_) := goodIn_app (goodIn_of _ (by decide +kernel)) ggX10_match_X10_look_
set_option maxRecDepth 20000 in
theorem ggX10_match_X10_isSorted : GoodIn wsX10_match wsX10_isSorted := goodIn_r _ [18, 1, 19, 14, 12, 45, 46, 47, 48, 49, 50, 51, 52, 53, 54, 55, 56, 57, 58, 59, 60, 61, 62, 63, 64, 65, 66, 67, 68, 69, 70, 71, 72, 73, 74, 75, 76, 77, 78] (by decide +kernel) (by decide +kernel)
set_option maxRecDepth 20000 in
theorem gX10_match_X10_isSorted : GoodIn wsX10_match (wsV RX10 174 RX10 yX10_isSorted wsX10_isSorted) := goodIn_app (goodIn_of _ (by decide +kernel)) ggX10_match_X10_isSorted
set_option maxRecDepth 20000 in
theorem ggX10_match_X10_now : GoodIn wsX10_match wsX10_now := goodIn_r _ [35, 36, 37, 38, 6, 39, 40, 14, 41, 12, 42, 43, 44, 28, 29, 30, 31, 1, 45, 46, 47, 48, 49, 50, 51, 52, 53, 54, 55, 56, 57, 58, 59, 60, 61, 62, 63, 64, 65, 66, 67, 68, 69, 70, 71, 72, 73, 74, 75, 76, 77, 78] (by decide +kernel) (by decide +kernel)
set_option maxRecDepth 20000 in
theorem gX10_match_X10_now : GoodIn wsX10_match (wsV RX10 202 RX10 yX10_now wsX10_now) := goodIn_app (goodIn_of _ (by decide +kernel)) ggX10_match_X10_now
set_option maxRecDepth 20000 in
theorem ggX10_shuffled_X10_no : GoodIn wsX10_shuffled wsX10_no := goodIn_r _ [10, 11, 69, 70, 71, 72, 73, 74, 75, 76, 77, 78, 79, 80, 81, 82, 83, 84, 85, 86, 87, 88, 89, 90, 91, 92, 93, 94, 95, 96, 97, 98, 99, 100, 101, 102] (by decide +kernel) (by decide +kernel)
set_option maxRecDepth 20000 in
theorem gX10_shuffled_X10_no : GoodIn wsX10_shuffled (wsV RX10 94 RX10 yX10_no wsX10_no) := goodIn_app (goodIn_of _ (by decide +kernel)) ggX10_shuffled_X10_no
set_option maxRecDepth 20000 in
theorem ggX10_shuffled_X10_look : GoodIn wsX10_shuffled wsX10_look := goodIn_r _ [15, 16, 17, 18, 19, 20, 21, 9, 22, 69, 70, 71, 72, 73, 74, 75, 76, 77, 78, 79, 80, 81, 82, 83, 84, 85, 86, 87, 88, 89, 90, 91, 92, 93, 94, 95, 96, 97, 98, 99, 100, 101, 102] (by decide +kernel) (by decide +kernel)
set_option maxRecDepth 20000 in
theorem gX10_shuffled_X10_look : GoodIn wsX10_shuffled (wsV RX10 161 RX10 yX10_look wsX10_look) := goodIn_app (goodIn_of _ (by decide +kernel)) ggX10_shuffled_X10_look
set_option maxRecDepth 20000 in
theorem ggX10_shuffled_X10_mays : GoodIn wsX10_shuffled wsX10_mays := goodIn_r _ [26, 27, 4, 28, 29, 30, 9, 31, 17, 69, 70, 71, 72, 73, 74, 75, 76, 77, 78, 79, 80, 81, 82, 83, 84, 85, 86, 87, 88, 89, 90, 91, 92, 93, 94, 95, 96, 97, 98, 99, 100, 101, 102] (by decide +kernel) (by decide +kernel)
set_option maxRecDepth 20000 in
theorem gX10_shuffled_X10_mays : GoodIn wsX10_shuffled (wsV RX10 227 RX10 yX10_mays wsX10_mays) := goodIn_app (goodIn_of _ (by decide +kernel)) ggX10_shuffled_X10_mays
set_option maxRecDepth 20000 in
theorem ggX10_shuffled_X10_number : GoodIn wsX10_shuffled wsX10_number := goodIn_r _ [39, 27, 17, 19, 69, 70, 71, 72, 73, 74, 75, 76, 77, 78, 79, 80, 81, 82, 83, 84, 85, 86, 87, 88, 89, 90, 91, 92, 93, 94, 95, 96, 97, 98, 99, 100, 101, 102] (by decide +kernel) (by decide +kernel)
set_option maxRecDepth 20000 in
theorem gX10_shuffled_X10_number : GoodIn wsX10_shuffled (wsV RX10 187 RX10 yX10_number wsX10_number) := goodIn_app (goodIn_of _ (by decide +kernel)) ggX10_shuffled_X10_number
set_option maxRecDepth 20000 in
theorem ggX10_shuffled_X10_fromOrder : GoodIn wsX10_shuffled wsX10_fromOrder := goodIn_r _ [43, 44, 5, 45, 46, 47, 48, 9, 49, 27, 50, 51, 52, 53, 19, 54, 17, 55, 56, 57, 58, 59, 60, 61, 62, 63, 64, 65, 66, 67, 68, 28, 29, 30, 31, 32, 33, 34, 35, 36, 37, 38, 39, 69, 70, 71, 72, 73, 74, 75, 76, 77, 78, 79, 80, 81, 82, 83, 84, 85, 86, 87, 88, 89, 90, 91, 92, 93, 94, 95, 96, 97, 98, 99, 100, 101, 102] (by decide +kernel) (by decide +kernel)
set_option maxRecDepth 20000 in
theorem gX10_shuffled_X10_fromOrder : GoodIn wsX10_shuffled (wsV RX10 199 RX10 yX10_fromOrder wsX10_fromOrder) := goodIn_app (goodIn_of _ (by decide +kernel)) ggX10_shuffled_X10_fromOrder
set_option maxRecDepth 20000 in
theorem ggX10_sights_X10_no : GoodIn wsX10_sights wsX10_no := goodIn_r _ [8, 9, 10, 11, 12, 13, 14, 15, 16, 17, 18, 19, 20, 21, 22, 23, 24, 25, 26, 27, 28, 29, 30, 31, 32, 33, 34, 35, 36, 37, 38, 39, 40, 41, 42, 43] (by decide +kernel) (by decide +kernel)
set_option maxRecDepth 20000 in
theorem gX10_sights_X10_no : GoodIn wsX10_sights (wsV RX10 94 RX10 yX10_no wsX10_no) := goodIn_app (goodIn_of _ (by decide +kernel)) ggX10_sights_X10_no
set_option maxRecDepth 20000 in
theorem ggX10_count_X10_look : GoodIn wsX10_count wsX10_look := goodIn_r _ [9, 10, 11, 12, 13, 14, 15, 8, 16, 26, 27, 28, 29, 30, 31, 32, 33, 34, 35, 36, 37, 38, 39, 40, 41, 42, 43, 44, 45, 46, 47, 48, 49, 50, 51, 52, 53, 54, 55, 56, 57, 58, 59] (by decide +kernel) (by decide +kernel)
set_option maxRecDepth 20000 in
theorem gX10_count_X10_look : GoodIn wsX10_count (wsV RX10 161 RX10 yX10_look wsX10_look) := goodIn_app (goodIn_of _ (by decide +kernel)) ggX10_count_X10_look
set_option maxRecDepth 20000 in
theorem ggX10_count_X10_mays : GoodIn wsX10_count wsX10_mays := goodIn_r _ [20, 3, 21, 22, 23, 24, 8, 25, 11, 26, 27, 28, 29, 30, 31, 32, 33, 34, 35, 36, 37, 38, 39, 40, 41, 42, 43, 44, 45, 46, 47, 48, 49, 50, 51, 52, 53, 54, 55, 56, 57, 58, 59] (by decide +kernel) (by decide +kernel)
set_option maxRecDepth 20000 in
theorem gX10_count_X10_mays : GoodIn wsX10_count (wsV RX10 227 RX10 yX10_mays wsX10_mays) := goodIn_app (goodIn_of _ (by decide +kernel)) ggX10_count_X10_mays
