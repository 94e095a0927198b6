set_option maxRecDepth 20000 in
theorem ggX5_isShape_X5_in : GoodIn wsX5_isShape wsX5_in := goodIn_r _ [5] (by decide +kernel) (by decide +kernel)
set_option maxRecDepth 20000 in
theorem gX5_isShape_X5_in : GoodIn wsX5_isShape (va_wsS RX5 58 yX5_in wsX5_in) := goodIn_app (goodIn_of _ (by decide +kernel)) ggX5_isShape_X5_in
set_option maxRecDepth 20000 in
theorem ggX5_isRow_X5_isShape : GoodIn wsX5_isRow wsX5_isShape := goodIn_r _ [6, 7, 8, 9, 5, 10, 11, 12, 13, 14, 15, 16, 17, 18, 19, 20, 21, 22, 23, 24, 25, 26, 27, 28, 29, 30, 31, 32, 33] (by decide +kernel) (by decide +kernel)
set_option maxRecDepth 20000 in
theorem gX5_isRow_X5_isShape : GoodIn wsX5_isRow (wsV RX5 62 RX5 yX5_isShape wsX5_isShape) := goodIn_app (goodIn_of _ (by decide +kernel)) ggX5_isRow_X5_isShape
set_option maxRecDepth 20000 in
theorem ggX5_isRow_X5_in : GoodIn wsX5_isRow wsX5_in := goodIn_r _ [10] (by decide +kernel) (by decide +kernel)
set_option maxRecDepth 20000 in
theorem gX5_isRow_X5_in : GoodIn wsX5_isRow (va_wsS RX5 58 yX5_in wsX5_in) := goodIn_app (goodIn_of _ (by decide +kernel)) ggX5_isRow_X5_in
set_option maxRecDepth 20000 in
theorem ggX5_add_X5_in : GoodIn wsX5_add wsX5_in := goodIn_r _ [6] (by decide +kernel) (by decide +kernel)
set_option maxRecDepth 20000 in
theorem gX5_add_X5_in : GoodIn wsX5_add (va_wsS RX5 58 yX5_in wsX5_in) := goodIn_app (goodIn_of _ (by decide +kernel)) ggX5_add_X5_in
set_option maxRecDepth 20000 in
theorem ggX5_add_X5_isShape : GoodIn wsX5_add wsX5_isShape := goodIn_r _ [10, 11, 3, 4, 5, 6, 20, 21, 22, 23, 24, 25, 26, 27, 28, 29, 30, 31, 32, 33, 34, 35, 36, 37, 38, 39, 40, 41, 42] (by decide +kernel) (by decide +kernel)
set_option maxRecDepth 20000 in
theorem gX5_add_X5_isShape : GoodIn wsX5_add (wsV RX5 62 RX5 yX5_isShape wsX5_isShape) := goodIn_app (goodIn_of _ (by decide +kernel)) ggX5_add_X5_isShape
set_option maxRecDepth 20000 in
theorem ggX5_add_X5_puts : GoodIn wsX5_add wsX5_puts := goodIn_r _ [15, 1, 16, 17, 18, 19, 20, 21, 22, 23, 24, 25, 26, 27, 28, 29, 30, 31, 32, 33, 34, 35, 36, 37, 38, 39, 40, 41, 42] (by decide +kernel) (by decide +kernel)
set_option maxRecDepth 20000 in
theorem gX5_add_X5_puts : GoodIn wsX5_add (wsV RX5 66 RX5 yX5_puts wsX5_puts) := goodIn_app (goodIn_of _ (by decide +kernel)) ggX5_add_X5_puts
set_option maxRecDepth 20000 in
theorem ggX5_cut_X5_isRow : GoodIn wsX5_cut wsX5_isRow := goodIn_r _ [11, 6, 12, 13, 14, 10, 15, 16, 17, 18, 19, 27, 28, 29, 30, 31, 32, 33, 34, 35, 36, 37, 38, 39, 40, 41, 42, 43, 44, 45, 46, 47, 48, 49] (by decide +kernel) (by decide +kernel)
set_option maxRecDepth 20000 in
theorem gX5_cut_X5_isRow : GoodIn wsX5_cut (wsV RX5 70 RX5 yX5_isRow wsX5_isRow) := goodIn_app (goodIn_of _ (by decide +kernel)) ggX5_cut_X5_isRow
set_option maxRecDepth 20000 in
theorem ggX5_cut_X5_in : GoodIn wsX5_cut wsX5_in := goodIn_r _ [19] (by decide +kernel) (by decide +kernel)
set_option maxRecDepth 20000 in
theorem gX5_cut_X5_in : GoodIn wsX5_cut (va_wsS RX5 58 yX5_in wsX5_in) := goodIn_app (goodIn_of _ (by decide +kernel)) ggX5_cut_X5_in
set_option maxRecDepth 20000 in
theorem ggX5_cut_X5_floor : GoodIn wsX5_cut wsX5_floor := goodIn_r _ [22] (by decide +kernel) (by decide +kernel)
set_option maxRecDepth 20000 in
theorem gX5_cut_X5_floor : GoodIn wsX5_cut (va_wsS RX5 74 yX5_floor wsX5_floor) := goodIn_app (goodIn_of _ (by decide +kernel)) ggX5_cut_X5_floor
set_option maxRecDepth 20000 in
theorem ggX5_cut_X5_puts : GoodIn wsX5_cut wsX5_puts := goodIn_r _ [26, 6, 2, 3, 4, 5, 27, 28, 29, 30, 31, 32, 33, 34, 35, 36, 37, 38, 39, 40, 41, 42, 43, 44, 45, 46, 47, 48, 49] (by decide +kernel) (by decide +kernel)
set_option maxRecDepth 20000 in
theorem gX5_cut_X5_puts : GoodIn wsX5_cut (wsV RX5 66 RX5 yX5_puts wsX5_puts) := goodIn_app (goodIn_of _ (by decide +kernel)) ggX5_cut_X5_puts
set_option maxRecDepth 20000 in
theorem ggX5_move_X5_isShape : GoodIn wsX5_move wsX5_isShape := goodIn_r _ [9, 10, 11, 12, 8, 13, 14, 15, 16, 17, 18, 19, 20, 21, 22, 23, 24, 25, 26, 27, 28, 29, 30, 31, 32, 33, 34, 35, 36] (by decide +kernel) (by decide +kernel)
set_option maxRecDepth 20000 in
theorem gX5_move_X5_isShape : GoodIn wsX5_move (wsV RX5 62 RX5 yX5_isShape wsX5_isShape) := goodIn_app (goodIn_of _ (by decide +kernel)) ggX5_move_X5_isShape
set_option maxRecDepth 20000 in
theorem ggX5_move_X5_in : GoodIn wsX5_move wsX5_in := goodIn_r _ [13] (by decide +kernel) (by decide +kernel)
set_option maxRecDepth 20000 in
theorem gX5_move_X5_in : GoodIn wsX5_move (va_wsS RX5 58 yX5_in wsX5_in) := goodIn_app (goodIn_of _ (by decide +kernel)) ggX5_move_X5_in
set_option maxRecDepth 20000 in
theorem ggX5_inequality_X5_isRow : GoodIn wsX5_inequality wsX5_isRow := goodIn_r _ [10, 11, 12, 13, 14, 9, 15, 16, 17, 18, 19, 20, 21, 22, 23, 24, 25, 26, 27, 28, 29, 30, 31, 32, 33, 34, 35, 36, 37, 38, 39, 40, 41, 42] (by decide +kernel) (by decide +kernel)
set_option maxRecDepth 20000 in
theorem gX5_inequality_X5_isRow : GoodIn wsX5_inequality (wsV RX5 70 RX5 yX5_isRow wsX5_isRow) := goodIn_app (goodIn_of _ (by decide +kernel)) ggX5_inequality_X5_isRow
set_option maxRecDepth 20000 in
theorem ggX5_inequality_X5_in : GoodIn wsX5_inequality wsX5_in := goodIn_r _ [19] (by decide +kernel) (by decide +kernel)
set_option maxRecDepth 20000 in
theorem gX5_inequality_X5_in : GoodIn wsX5_inequality (va_wsS RX5 58 yX5_in wsX5_in) := goodIn_app (goodIn_of _ (by decide +kernel)) ggX5_inequality_X5_in
set_option maxRecDepth 20000 in
theorem ggX5_holds_X5_isStep : GoodIn wsX5_holds wsX5_isStep := goodIn_r _ [8, 1, 3, 2, 9, 10, 11, 12, 13, 14, 15, 16, 17, 18, 19, 20, 21, 22, 23, 24, 25, 26, 27, 28, 29, 30, 31] (by decide +kernel) (by decide +kernel)
set_option maxRecDepth 20000 in
theorem gX5_holds_X5_isStep : GoodIn wsX5_holds (wsV RX5 78 RX5 yX5_isStep wsX5_isStep) := goodIn_app (goodIn_of _ (by decide +kernel)) ggX5_holds_X5_isStep
set_option maxRecDepth 20000 in
theorem ggX5_isPlace_X5_isShape : GoodIn wsX5_isPlace wsX5_isShape := goodIn_r _ [6, 7, 8, 9, 5, 10, 22, 23, 24, 25, 26, 27, 28, 29, 30, 31, 32, 33, 34, 35, 36, 37, 38, 39, 40, 41, 42, 43, 44] (by decide +kernel) (by decide +kernel)
set_option maxRecDepth 20000 in
theorem gX5_isPlace_X5_isShape : GoodIn wsX5_isPlace (wsV RX5 62 RX5 yX5_isShape wsX5_isShape) := goodIn_app (goodIn_of _ (by decide +kernel)) ggX5_isPlace_X5_isShape
set_option maxRecDepth 20000 in
theorem ggX5_isPlace_X5_holds : GoodIn wsX5_isPlace wsX5_holds := goodIn_r _ [14, 15, 16, 17, 18, 19, 20, 5, 21, 22, 23, 24, 25, 26, 27, 28, 29, 30, 31, 32, 33, 34, 35, 36, 37, 38, 39, 40, 41, 42, 43, 44] (by decide +kernel) (by decide +kernel)
set_option maxRecDepth 20000 in
theorem gX5_isPlace_X5_holds : GoodIn wsX5_isPlace (wsV RX5 81 RX5 yX5_holds wsX5_holds) := goodIn_app (goodIn_of _ (by decide +kernel)) ggX5_isPlace_X5_holds
set_option maxRecDepth 20000 in
theorem ggX5_looks_X5_meets : GoodIn wsX5_looks wsX5_meets := goodIn_r _ [16, 3, 5, 17, 7, 2, 10, 11, 18, 19, 20, 15, 21, 22, 23, 24, 25, 26, 27, 28, 29, 30, 31, 32, 33, 34, 35, 36, 37, 38, 39, 40, 41, 42, 43, 44] (by decide +kernel) (by decide +kernel)
set_option maxRecDepth 20000 in
theorem gX5_looks_X5_meets : GoodIn wsX5_looks (wsV RX5 94 RX5 yX5_meets wsX5_meets) := goodIn_app (goodIn_of _ (by decide +kernel)) ggX5_looks_X5_meets
set_option maxRecDepth 20000 in
theorem ggX5_meets_X5_floor : GoodIn wsX5_meets wsX5_floor := goodIn_r _ [12] (by decide +kernel) (by decide +kernel)
set_option maxRecDepth 20000 in
theorem gX5_meets_X5_floor : GoodIn wsX5_meets (va_wsS RX5 74 yX5_floor wsX5_floor) := goodIn_app (goodIn_of _ (by decide +kernel)) ggX5_meets_X5_floor
set_option maxRecDepth 20000 in
theorem ggX5_column_X5_floor : GoodIn wsX5_column wsX5_floor := goodIn_r _ [10] (by decide +kernel) (by decide +kernel)
set_option maxRecDepth 20000 in
theorem gX5_column_X5_floor : GoodIn wsX5_column (va_wsS RX5 74 yX5_floor wsX5_floor) := goodIn_app (goodIn_of _ (by decide +kernel)) ggX5_column_X5_floor
set_option maxRecDepth 20000 in
theorem ggX5_counts_X5_looks : GoodIn wsX5_counts wsX5_looks := goodIn_r _ [8, 9, 10, 11, 12, 13, 14, 15, 16, 17, 2, 3, 18, 19, 20, 7, 21, 22, 1, 23, 24, 25, 32, 33, 34, 35, 36, 37, 38, 39, 40, 41, 42, 43, 44, 45, 46, 47, 48, 49, 50, 51, 52, 53, 54] (by decide +kernel) (by decide +kernel)
set_option maxRecDepth 20000 in
theorem gX5_counts_X5_looks : GoodIn wsX5_counts (wsV RX5 110 RX5 yX5_looks wsX5_looks) := goodIn_app (goodIn_of _ (by decide +kernel)) ggX5_counts_X5_looks
set_option maxRecDepth 20000 in
theorem ggX5_counts_X5_column : GoodIn wsX5_counts wsX5_column := goodIn_r _ [29, 10, 15, 11, 13, 30, 31, 23, 24, 7, 25, 32, 33, 34, 35, 36, 37, 38, 39, 40, 41, 42, 43, 44, 45, 46, 47, 48, 49, 50, 51, 52, 53, 54] (by decide +kernel) (by decide +kernel)
set_option maxRecDepth 20000 in
theorem gX5_counts_X5_column : GoodIn wsX5_counts (wsV RX5 114 RX5 yX5_column wsX5_column) := goodIn_app (goodIn_of _ (by decide +kernel)) ggX5_counts_X5_column
set_option maxRecDepth 20000 in
theorem ggX5_counted_X5_isShape : GoodIn wsX5_counted wsX5_isShape := goodIn_r _ [6, 7, 8, 9, 5, 10, 53, 54, 55, 56, 57, 58, 59, 60, 61, 62, 63, 64, 65, 66, 67, 68, 69, 70, 71, 72, 73, 74, 75] (by decide +kernel) (by decide +kernel)
set_option maxRecDepth 20000 in
theorem gX5_counted_X5_isShape : GoodIn wsX5_counted (wsV RX5 62 RX5 yX5_isShape wsX5_isShape) := goodIn_app (goodIn_of _ (by decide +kernel)) ggX5_counted_X5_isShape
set_option maxRecDepth 20000 in
theorem ggX5_counted_X5_in : GoodIn wsX5_counted wsX5_in := goodIn_r _ [10] (by decide +kernel) (by decide +kernel)
set_option maxRecDepth 20000 in
theorem gX5_counted_X5_in : GoodIn wsX5_counted (va_wsS RX5 58 yX5_in wsX5_in) := goodIn_app (goodIn_of _ (by decide +kernel)) ggX5_counted_X5_in
set_option maxRecDepth 20000 in
theorem ggX5_counted_X5_holds : GoodIn wsX5_counted wsX5_holds := goodIn_r _ [14, 15, 16, 17, 18, 19, 20, 5, 21, 53, 54, 55, 56, 57, 58, 59, 60, 61, 62, 63, 64, 65, 66, 67, 68, 69, 70, 71, 72, 73, 74, 75] (by decide +kernel) (by decide +kernel)
set_option maxRecDepth 20000 in
theorem gX5_counted_X5_holds : GoodIn wsX5_counted (wsV RX5 81 RX5 yX5_holds wsX5_holds) := goodIn_app (goodIn_of _ (by decide +kernel)) ggX5_counted_X5_holds
