set_option maxRecDepth 20000 in
theorem ggX5_counted_X5_counts : GoodIn wsX5_counted wsX5_counts := goodIn_r _ [25, 26, 27, 28, 29, 30, 31, 5, 32, 15, 33, 34, 17, 35, 16, 36, 37, 38, 39, 40, 41, 42, 43, 44, 45, 46, 47, 48, 49, 50, 51, 52, 53, 54, 55, 56, 57, 58, 59, 60, 61, 62, 63, 64, 65, 66, 67, 68, 69, 70, 71, 72, 73, 74, 75] (by decide +kernel) (by decide +kernel)
set_option maxRecDepth 20000 in
theorem gX5_counted_X5_counts : GoodIn wsX5_counted (wsV RX5 118 RX5 yX5_counts wsX5_counts) := goodIn_app (goodIn_of _ (by decide +kernel)) ggX5_counted_X5_counts
set_option maxRecDepth 20000 in
theorem ggX5_count_X5_counted : GoodIn wsX5_count wsX5_counted := goodIn_r _ [5, 6, 7, 8, 9, 4, 10, 11, 12, 13, 14, 15, 16, 17, 18, 19, 20, 21, 22, 23, 24, 25, 26, 27, 28, 29, 30, 31, 32, 33, 34, 35, 36, 37, 38, 39, 40, 41, 42, 43, 44, 45, 46, 47, 48, 49, 50, 51, 52, 53, 54, 55, 56, 57, 58, 59, 60, 61, 62, 63, 64, 65, 66, 67, 68, 69, 70, 71, 72, 73, 74, 75, 76, 77, 78, 79] (by decide +kernel) (by decide +kernel)
set_option maxRecDepth 20000 in
theorem gX5_count_X5_counted : GoodIn wsX5_count (wsV RX5 122 RX5 yX5_counted wsX5_counted) := goodIn_app (goodIn_of _ (by decide +kernel)) ggX5_count_X5_counted
set_option maxRecDepth 20000 in
theorem ggX5_countAnew_X5_counted : GoodIn wsX5_countAnew wsX5_counted := goodIn_r _ [5, 6, 7, 8, 9, 4, 10, 11, 12, 13, 14, 15, 16, 17, 18, 19, 20, 21, 22, 23, 24, 25, 26, 27, 28, 29, 30, 31, 32, 33, 34, 35, 36, 37, 38, 39, 40, 41, 42, 43, 44, 45, 46, 47, 48, 49, 50, 51, 52, 53, 54, 55, 56, 57, 58, 59, 60, 61, 62, 63, 64, 65, 66, 67, 68, 69, 70, 71, 72, 73, 74, 75, 76, 77, 78, 79] (by decide +kernel) (by decide +kernel)
set_option maxRecDepth 20000 in
theorem gX5_countAnew_X5_counted : GoodIn wsX5_countAnew (wsV RX5 122 RX5 yX5_counted wsX5_counted) := goodIn_app (goodIn_of _ (by decide +kernel)) ggX5_countAnew_X5_counted
set_option maxRecDepth 20000 in
theorem ggX5_blown_X5_isShape : GoodIn wsX5_blown wsX5_isShape := goodIn_r _ [6, 7, 8, 9, 5, 10, 53, 54, 55, 56, 57, 58, 59, 60, 61, 62, 63, 64, 65, 66, 67, 68, 69, 70, 71, 72, 73, 74, 75] (by decide +kernel) (by decide +kernel)
set_option maxRecDepth 20000 in
theorem gX5_blown_X5_isShape : GoodIn wsX5_blown (wsV RX5 62 RX5 yX5_isShape wsX5_isShape) := goodIn_app (goodIn_of _ (by decide +kernel)) ggX5_blown_X5_isShape
set_option maxRecDepth 20000 in
theorem ggX5_blown_X5_in : GoodIn wsX5_blown wsX5_in := goodIn_r _ [10] (by decide +kernel) (by decide +kernel)
set_option maxRecDepth 20000 in
theorem gX5_blown_X5_in : GoodIn wsX5_blown (va_wsS RX5 58 yX5_in wsX5_in) := goodIn_app (goodIn_of _ (by decide +kernel)) ggX5_blown_X5_in
set_option maxRecDepth 20000 in
theorem ggX5_blown_X5_holds : GoodIn wsX5_blown wsX5_holds := goodIn_r _ [14, 15, 16, 17, 18, 19, 20, 5, 21, 53, 54, 55, 56, 57, 58, 59, 60, 61, 62, 63, 64, 65, 66, 67, 68, 69, 70, 71, 72, 73, 74, 75] (by decide +kernel) (by decide +kernel)
set_option maxRecDepth 20000 in
theorem gX5_blown_X5_holds : GoodIn wsX5_blown (wsV RX5 81 RX5 yX5_holds wsX5_holds) := goodIn_app (goodIn_of _ (by decide +kernel)) ggX5_blown_X5_holds
set_option maxRecDepth 20000 in
theorem ggX5_blown_X5_counts : GoodIn wsX5_blown wsX5_counts := goodIn_r _ [25, 26, 27, 28, 29, 30, 31, 5, 32, 15, 33, 34, 17, 35, 16, 36, 37, 38, 39, 40, 41, 42, 43, 44, 45, 46, 47, 48, 49, 50, 51, 52, 53, 54, 55, 56, 57, 58, 59, 60, 61, 62, 63, 64, 65, 66, 67, 68, 69, 70, 71, 72, 73, 74, 75] (by decide +kernel) (by decide +kernel)
set_option maxRecDepth 20000 in
theorem gX5_blown_X5_counts : GoodIn wsX5_blown (wsV RX5 118 RX5 yX5_counts wsX5_counts) := goodIn_app (goodIn_of _ (by decide +kernel)) ggX5_blown_X5_counts
set_option maxRecDepth 20000 in
theorem ggX5_best_X5_in : GoodIn wsX5_best wsX5_in := goodIn_r _ [10] (by decide +kernel) (by decide +kernel)
set_option maxRecDepth 20000 in
theorem gX5_best_X5_in : GoodIn wsX5_best (va_wsS RX5 58 yX5_in wsX5_in) := goodIn_app (goodIn_of _ (by decide +kernel)) ggX5_best_X5_in
set_option maxRecDepth 20000 in
theorem ggX5_best_X5_isShape : GoodIn wsX5_best wsX5_isShape := goodIn_r _ [14, 15, 7, 8, 9, 10, 49, 50, 51, 52, 53, 54, 55, 56, 57, 58, 59, 60, 61, 62, 63, 64, 65, 66, 67, 68, 69, 70, 71] (by decide +kernel) (by decide +kernel)
set_option maxRecDepth 20000 in
theorem gX5_best_X5_isShape : GoodIn wsX5_best (wsV RX5 62 RX5 yX5_isShape wsX5_isShape) := goodIn_app (goodIn_of _ (by decide +kernel)) ggX5_best_X5_isShape
set_option maxRecDepth 20000 in
theorem ggX5_best_X5_holds : GoodIn wsX5_best wsX5_holds := goodIn_r _ [19, 20, 21, 22, 23, 24, 25, 9, 26, 49, 50, 51, 52, 53, 54, 55, 56, 57, 58, 59, 60, 61, 62, 63, 64, 65, 66, 67, 68, 69, 70, 71] (by decide +kernel) (by decide +kernel)
set_option maxRecDepth 20000 in
theorem gX5_best_X5_holds : GoodIn wsX5_best (wsV RX5 81 RX5 yX5_holds wsX5_holds) := goodIn_app (goodIn_of _ (by decide +kernel)) ggX5_best_X5_holds
set_option maxRecDepth 20000 in
theorem ggX5_best_X5_looks : GoodIn wsX5_best wsX5_looks := goodIn_r _ [30, 20, 31, 32, 22, 33, 21, 34, 35, 36, 3, 4, 37, 38, 39, 9, 40, 41, 2, 42, 43, 44, 49, 50, 51, 52, 53, 54, 55, 56, 57, 58, 59, 60, 61, 62, 63, 64, 65, 66, 67, 68, 69, 70, 71] (by decide +kernel) (by decide +kernel)
set_option maxRecDepth 20000 in
theorem gX5_best_X5_looks : GoodIn wsX5_best (wsV RX5 110 RX5 yX5_looks wsX5_looks) := goodIn_app (goodIn_of _ (by decide +kernel)) ggX5_best_X5_looks
set_option maxRecDepth 20000 in
theorem ggX5_best_X5_column : GoodIn wsX5_best wsX5_column := goodIn_r _ [48, 31, 34, 32, 33, 5, 6, 42, 43, 9, 44, 49, 50, 51, 52, 53, 54, 55, 56, 57, 58, 59, 60, 61, 62, 63, 64, 65, 66, 67, 68, 69, 70, 71] (by decide +kernel) (by decide +kernel)
set_option maxRecDepth 20000 in
theorem gX5_best_X5_column : GoodIn wsX5_best (wsV RX5 114 RX5 yX5_column wsX5_column) := goodIn_app (goodIn_of _ (by decide +kernel)) ggX5_best_X5_column
set_option maxRecDepth 20000 in
theorem ggX5_isCone_X5_in : GoodIn wsX5_isCone wsX5_in := goodIn_r _ [4] (by decide +kernel) (by decide +kernel)
set_option maxRecDepth 20000 in
theorem gX5_isCone_X5_in : GoodIn wsX5_isCone (va_wsS RX5 58 yX5_in wsX5_in) := goodIn_app (goodIn_of _ (by decide +kernel)) ggX5_isCone_X5_in
set_option maxRecDepth 20000 in
theorem ggX5_index_X5_isCone : GoodIn wsX5_index wsX5_isCone := goodIn_r _ [5, 6, 7, 4, 8] (by decide +kernel) (by decide +kernel)
set_option maxRecDepth 20000 in
theorem gX5_index_X5_isCone : GoodIn wsX5_index (va_wsS RX5 126 yX5_isCone wsX5_isCone) := goodIn_app (goodIn_of _ (by decide +kernel)) ggX5_index_X5_isCone
set_option maxRecDepth 20000 in
theorem ggX5_index_X5_common : GoodIn wsX5_index wsX5_common := goodIn_r _ [11] (by decide +kernel) (by decide +kernel)
set_option maxRecDepth 20000 in
theorem gX5_index_X5_common : GoodIn wsX5_index (va_wsS RX5 130 yX5_common wsX5_common) := goodIn_app (goodIn_of _ (by decide +kernel)) ggX5_index_X5_common
set_option maxRecDepth 20000 in
theorem ggX5_generates_X5_common : GoodIn wsX5_generates wsX5_common := goodIn_r _ [7] (by decide +kernel) (by decide +kernel)
set_option maxRecDepth 20000 in
theorem gX5_generates_X5_common : GoodIn wsX5_generates (va_wsS RX5 130 yX5_common wsX5_common) := goodIn_app (goodIn_of _ (by decide +kernel)) ggX5_generates_X5_common
set_option maxRecDepth 20000 in
theorem ggX5_generated_X5_isCone : GoodIn wsX5_generated wsX5_isCone := goodIn_r _ [8, 9, 10, 7, 11] (by decide +kernel) (by decide +kernel)
set_option maxRecDepth 20000 in
theorem gX5_generated_X5_isCone : GoodIn wsX5_generated (va_wsS RX5 126 yX5_isCone wsX5_isCone) := goodIn_app (goodIn_of _ (by decide +kernel)) ggX5_generated_X5_isCone
set_option maxRecDepth 20000 in
theorem ggX5_generated_X5_generates : GoodIn wsX5_generated wsX5_generates := goodIn_r _ [15, 3, 4, 1, 16, 17, 7, 18, 19, 20, 21, 22, 23, 24, 25, 26, 27, 28, 29, 30, 31, 32, 33, 34, 35, 36, 37, 38, 39, 40, 41] (by decide +kernel) (by decide +kernel)
set_option maxRecDepth 20000 in
theorem gX5_generated_X5_generates : GoodIn wsX5_generated (wsV RX5 137 RX5 yX5_generates wsX5_generates) := goodIn_app (goodIn_of _ (by decide +kernel)) ggX5_generated_X5_generates
set_option maxRecDepth 20000 in
theorem ggX5_generator_X5_generated : GoodIn wsX5_generator wsX5_generated := goodIn_r _ [5, 6, 7, 8, 9, 10, 11, 4, 12, 13, 14, 15, 16, 17, 18, 19, 20, 21, 22, 23, 24, 25, 26, 27, 28, 29, 30, 31, 32, 33, 34, 35, 36, 37, 38, 39, 40, 41, 42, 43, 44, 45] (by decide +kernel) (by decide +kernel)
set_option maxRecDepth 20000 in
theorem gX5_generator_X5_generated : GoodIn wsX5_generator (wsV RX5 141 RX5 yX5_generated wsX5_generated) := goodIn_app (goodIn_of _ (by decide +kernel)) ggX5_generator_X5_generated
set_option maxRecDepth 20000 in
theorem ggX5_generatorAnew_X5_generated : GoodIn wsX5_generatorAnew wsX5_generated := goodIn_r _ [5, 6, 7, 8, 9, 10, 11, 4, 12, 13, 14, 15, 16, 17, 18, 19, 20, 21, 22, 23, 24, 25, 26, 27, 28, 29, 30, 31, 32, 33, 34, 35, 36, 37, 38, 39, 40, 41, 42, 43, 44, 45] (by decide +kernel) (by decide +kernel)
set_option maxRecDepth 20000 in
theorem gX5_generatorAnew_X5_generated : GoodIn wsX5_generatorAnew (wsV RX5 141 RX5 yX5_generated wsX5_generated) := goodIn_app (goodIn_of _ (by decide +kernel)) ggX5_generatorAnew_X5_generated
set_option maxRecDepth 20000 in
theorem ggX5_coin_X5_in : GoodIn wsX5_coin wsX5_in := goodIn_r _ [7] (by decide +kernel) (by decide +kernel)
set_option maxRecDepth 20000 in
theorem gX5_coin_X5_in : GoodIn wsX5_coin (va_wsS RX5 58 yX5_in wsX5_in) := goodIn_app (goodIn_of _ (by decide +kernel)) ggX5_coin_X5_in
set_option maxRecDepth 20000 in
theorem ggX5_ways_X5_in : GoodIn wsX5_ways wsX5_in := goodIn_r _ [7] (by decide +kernel) (by decide +kernel)
set_option maxRecDepth 20000 in
theorem gX5_ways_X5_in : GoodIn wsX5_ways (va_wsS RX5 58 yX5_in wsX5_in) := goodIn_app (goodIn_of _ (by decide +kernel)) ggX5_ways_X5_in
set_option maxRecDepth 20000 in
theorem ggX5_hasEnd_X5_common : GoodIn wsX5_hasEnd wsX5_common := goodIn_r _ [5] (by decide +kernel) (by decide +kernel)
set_option maxRecDepth 20000 in
theorem gX5_hasEnd_X5_common : GoodIn wsX5_hasEnd (va_wsS RX5 130 yX5_common wsX5_common) := goodIn_app (goodIn_of _ (by decide +kernel)) ggX5_hasEnd_X5_common
set_option maxRecDepth 20000 in
theorem ggX5_gap_X5_hasEnd : GoodIn wsX5_gap wsX5_hasEnd := goodIn_r _ [7, 8, 9, 10, 6, 11, 16, 17, 18, 19, 20, 21, 22, 23, 24, 25, 26, 27, 28, 29, 30, 31, 32, 33, 34, 35, 36, 37, 38] (by decide +kernel) (by decide +kernel)
set_option maxRecDepth 20000 in
theorem gX5_gap_X5_hasEnd : GoodIn wsX5_gap (wsV RX5 148 RX5 yX5_hasEnd wsX5_hasEnd) := goodIn_app (goodIn_of _ (by decide +kernel)) ggX5_gap_X5_hasEnd
set_option maxRecDepth 20000 in
theorem ggX5_gap_X5_pays : GoodIn wsX5_gap wsX5_pays := goodIn_r _ [15, 2, 8, 16, 17, 18, 19, 20, 21, 22, 23, 24, 25, 26, 27, 28, 29, 30, 31, 32, 33, 34, 35, 36, 37, 38] (by decide +kernel) (by decide +kernel)
set_option maxRecDepth 20000 in
theorem gX5_gap_X5_pays : GoodIn wsX5_gap (wsV RX5 152 RX5 yX5_pays wsX5_pays) := goodIn_app (goodIn_of _ (by decide +kernel)) ggX5_gap_X5_pays
