set_option maxRecDepth 20000 in
theorem ggX4_countAnew_X2_makeRowsColumns : GoodIn wsX4_countAnew wsX2_makeRowsColumns := goodIn_r _ [49, 42, 43, 44, 93, 94, 95, 96, 97, 98, 99, 100, 101, 102] (by decide +kernel) (by decide +kernel)
set_option maxRecDepth 20000 in
theorem gX4_countAnew_X2_makeRowsColumns : GoodIn wsX4_countAnew (wsV RX4 107 RX2 yX2_makeRowsColumns wsX2_makeRowsColumns) := goodIn_app (goodIn_of _ (by decide +kernel)) ggX4_countAnew_X2_makeRowsColumns
set_option maxRecDepth 20000 in
theorem ggX4_countAnew_X2_points : GoodIn wsX4_countAnew wsX2_points := goodIn_r _ [53, 54, 55, 56, 57, 58, 59, 60, 61, 62, 63, 64, 40, 65, 66, 67, 42, 44, 43, 45, 68, 69, 70, 71, 72, 73, 74, 75, 76, 77, 78, 79, 80, 81, 82, 93, 94, 95, 96, 97, 98, 99, 100, 101, 102] (by decide +kernel) (by decide +kernel)
set_option maxRecDepth 20000 in
theorem gX4_countAnew_X2_points : GoodIn wsX4_countAnew (wsV RX4 103 RX2 yX2_points wsX2_points) := goodIn_app (goodIn_of _ (by decide +kernel)) ggX4_countAnew_X2_points
set_option maxRecDepth 20000 in
theorem ggX4_blown_X4_shapeOf : GoodIn wsX4_blown wsX4_shapeOf := goodIn_ca (goodIn_r _ [6, 7, 8, 9, 10, 79, 80, 81, 82, 83] (by decide +kernel) (by decide +kernel)) (goodIn_sub (fun _ h => List.mem_cons_of_mem _ (List.mem_append_left _ (List.mem_append_left _ (List.mem_append_right _ h)))) (by decide +kernel))
set_option maxRecDepth 20000 in
theorem gX4_blown_X4_shapeOf : GoodIn wsX4_blown (wsV RX4 48 RX4 yX4_shapeOf wsX4_shapeOf) := goodIn_app (goodIn_of _ (by decide +kernel)) ggX4_blown_X4_shapeOf
set_option maxRecDepth 20000 in
theorem ggX4_blown_X4_requireRange : GoodIn wsX4_blown wsX4_requireRange := goodIn_ca (goodIn_r _ [13, 14, 15] (by decide +kernel) (by decide +kernel)) (goodIn_sub (fun _ h => List.mem_cons_of_mem _ (List.mem_append_left _ (List.mem_append_right _ h))) (by decide +kernel))
set_option maxRecDepth 20000 in
theorem gX4_blown_X4_requireRange : GoodIn wsX4_blown (va_wsS RX4 52 yX4_requireRange wsX4_requireRange) := goodIn_app (goodIn_of _ (by decide +kernel)) ggX4_blown_X4_requireRange
set_option maxRecDepth 20000 in
theorem ggX4_blown_X4_requirePlace : GoodIn wsX4_blown wsX4_requirePlace := goodIn_ca (goodIn_r _ [18, 19, 20, 21, 22, 23, 24, 25, 26, 27, 28, 29, 30, 31, 32, 84, 85, 86, 87, 88] (by decide +kernel) (by decide +kernel)) (goodIn_sub (fun _ h => List.mem_cons_of_mem _ (List.mem_append_right _ h)) (by decide +kernel))
set_option maxRecDepth 20000 in
theorem gX4_blown_X4_requirePlace : GoodIn wsX4_blown (va_wsS RX4 110 yX4_requirePlace wsX4_requirePlace) := goodIn_app (goodIn_of _ (by decide +kernel)) ggX4_blown_X4_requirePlace
set_option maxRecDepth 20000 in
theorem ggX4_blown_X2_take : GoodIn wsX4_blown wsX2_take := goodIn_r _ [37, 38, 39, 40, 41, 84, 85, 86, 87, 88, 89, 90, 91, 92, 93, 94, 95, 96, 97, 98] (by decide +kernel) (by decide +kernel)
set_option maxRecDepth 20000 in
theorem gX4_blown_X2_take : GoodIn wsX4_blown (wsV RX4 114 RX2 yX2_take wsX2_take) := goodIn_app (goodIn_of _ (by decide +kernel)) ggX4_blown_X2_take
set_option maxRecDepth 20000 in
theorem ggX4_blown_X2_leaveOutEdges : GoodIn wsX4_blown wsX2_leaveOutEdges := goodIn_r _ [45, 38, 41, 89, 90, 91, 92, 93, 94, 95, 96, 97, 98] (by decide +kernel) (by decide +kernel)
set_option maxRecDepth 20000 in
theorem gX4_blown_X2_leaveOutEdges : GoodIn wsX4_blown (wsV RX4 118 RX2 yX2_leaveOutEdges wsX2_leaveOutEdges) := goodIn_app (goodIn_of _ (by decide +kernel)) ggX4_blown_X2_leaveOutEdges
set_option maxRecDepth 20000 in
theorem ggX4_blown_X2_points : GoodIn wsX4_blown wsX2_points := goodIn_r _ [49, 50, 51, 52, 53, 54, 55, 56, 57, 58, 59, 60, 36, 61, 62, 63, 38, 40, 39, 41, 64, 65, 66, 67, 68, 69, 70, 71, 72, 73, 74, 75, 76, 77, 78, 89, 90, 91, 92, 93, 94, 95, 96, 97, 98] (by decide +kernel) (by decide +kernel)
set_option maxRecDepth 20000 in
theorem gX4_blown_X2_points : GoodIn wsX4_blown (wsV RX4 103 RX2 yX2_points wsX2_points) := goodIn_app (goodIn_of _ (by decide +kernel)) ggX4_blown_X2_points
set_option maxRecDepth 20000 in
theorem ggX4_best_X4_shapeOf : GoodIn wsX4_best wsX4_shapeOf := goodIn_ca (goodIn_r _ [8, 9, 10, 11, 12, 77, 78, 79, 80, 81] (by decide +kernel) (by decide +kernel)) (goodIn_sub (fun _ h => List.mem_cons_of_mem _ (List.mem_append_left _ (List.mem_append_right _ h))) (by decide +kernel))
set_option maxRecDepth 20000 in
theorem gX4_best_X4_shapeOf : GoodIn wsX4_best (wsV RX4 48 RX4 yX4_shapeOf wsX4_shapeOf) := goodIn_app (goodIn_of _ (by decide +kernel)) ggX4_best_X4_shapeOf
set_option maxRecDepth 20000 in
theorem ggX4_best_X4_requireRange : GoodIn wsX4_best wsX4_requireRange := goodIn_ca (goodIn_r _ [15, 16, 17] (by decide +kernel) (by decide +kernel)) (goodIn_sub (fun _ h => List.mem_cons_of_mem _ (List.mem_append_right _ h)) (by decide +kernel))
set_option maxRecDepth 20000 in
theorem gX4_best_X4_requireRange : GoodIn wsX4_best (va_wsS RX4 52 yX4_requireRange wsX4_requireRange) := goodIn_app (goodIn_of _ (by decide +kernel)) ggX4_best_X4_requireRange
set_option maxRecDepth 20000 in
theorem ggX4_best_X4_requirePlace : GoodIn wsX4_best wsX4_requirePlace := goodIn_ca (goodIn_r _ [20, 1, 2, 21, 22, 23, 24, 25, 26, 27, 28, 29, 30, 31, 32, 92, 93, 94, 95, 96] (by decide +kernel) (by decide +kernel)) (goodIn_sub (fun _ h => List.mem_cons_of_mem _ (List.mem_append_left _ (List.mem_append_left _ (List.mem_append_right _ h)))) (by decide +kernel))
set_option maxRecDepth 20000 in
theorem gX4_best_X4_requirePlace : GoodIn wsX4_best (va_wsS RX4 110 yX4_requirePlace wsX4_requirePlace) := goodIn_app (goodIn_of _ (by decide +kernel)) ggX4_best_X4_requirePlace
set_option maxRecDepth 20000 in
theorem ggX4_best_X2_take : GoodIn wsX4_best wsX2_take := goodIn_r _ [37, 38, 39, 40, 41, 92, 93, 94, 95, 96, 82, 83, 84, 85, 86, 87, 88, 89, 90, 91] (by decide +kernel) (by decide +kernel)
set_option maxRecDepth 20000 in
theorem gX4_best_X2_take : GoodIn wsX4_best (wsV RX4 114 RX2 yX2_take wsX2_take) := goodIn_app (goodIn_of _ (by decide +kernel)) ggX4_best_X2_take
set_option maxRecDepth 20000 in
theorem ggX4_best_X2_findBest : GoodIn wsX4_best wsX2_findBest := goodIn_r _ [45, 46, 47, 48, 49, 50, 51, 52, 53, 54, 36, 55, 56, 57, 38, 40, 39, 41, 58, 59, 60, 61, 62, 63, 64, 65, 66, 67, 68, 69, 70, 71, 72, 73, 74, 75, 76, 82, 83, 84, 85, 86, 87, 88, 89, 90, 91] (by decide +kernel) (by decide +kernel)
set_option maxRecDepth 20000 in
theorem gX4_best_X2_findBest : GoodIn wsX4_best (wsV RX4 121 RX2 yX2_findBest wsX2_findBest) := goodIn_app (goodIn_of _ (by decide +kernel)) ggX4_best_X2_findBest
set_option maxRecDepth 20000 in
theorem ggX4_index_X4_makeCone : GoodIn wsX4_index wsX4_makeCone := goodIn_ca (goodIn_r _ [6, 7, 8, 1, 9, 10, 5, 11, 12, 13, 14, 15, 16, 17, 18, 19, 20, 21, 22, 23, 24, 25, 26, 27, 28, 29, 30, 31, 32, 33, 34, 35, 36, 37, 38, 39, 40, 41, 42, 43] (by decide +kernel) (by decide +kernel)) (goodIn_sub (fun _ h => List.mem_cons_of_mem _ (List.mem_append_right _ h)) (by decide +kernel))
set_option maxRecDepth 20000 in
theorem gX4_index_X4_makeCone : GoodIn wsX4_index (wsV RX4 133 RX4 yX4_makeCone wsX4_makeCone) := goodIn_app (goodIn_of _ (by decide +kernel)) ggX4_index_X4_makeCone
set_option maxRecDepth 20000 in
theorem ggX4_generator_X4_requireNoneOrMore : GoodIn wsX4_generator wsX4_requireNoneOrMore := goodIn_ca (goodIn_r _ [5, 6, 7] (by decide +kernel) (by decide +kernel)) (goodIn_sub (fun _ h => List.mem_cons_of_mem _ (List.mem_append_left _ (List.mem_append_right _ h))) (by decide +kernel))
set_option maxRecDepth 20000 in
theorem gX4_generator_X4_requireNoneOrMore : GoodIn wsX4_generator (va_wsS RX4 140 yX4_requireNoneOrMore wsX4_requireNoneOrMore) := goodIn_app (goodIn_of _ (by decide +kernel)) ggX4_generator_X4_requireNoneOrMore
set_option maxRecDepth 20000 in
theorem ggX4_generator_X4_makeCone : GoodIn wsX4_generator wsX4_makeCone := goodIn_ca (goodIn_r _ [11, 12, 13, 1, 14, 15, 4, 16, 17, 18, 19, 20, 21, 22, 23, 24, 25, 26, 27, 28, 29, 30, 31, 32, 33, 34, 73, 74, 75, 76, 77, 78, 79, 80, 81, 82, 83, 84, 85, 86] (by decide +kernel) (by decide +kernel)) (goodIn_sub (fun _ h => List.mem_cons_of_mem _ (List.mem_append_right _ h)) (by decide +kernel))
set_option maxRecDepth 20000 in
theorem gX4_generator_X4_makeCone : GoodIn wsX4_generator (wsV RX4 133 RX4 yX4_makeCone wsX4_makeCone) := goodIn_app (goodIn_of _ (by decide +kernel)) ggX4_generator_X4_makeCone
set_option maxRecDepth 20000 in
theorem ggX4_generator_X1_lookForGenerators : GoodIn wsX4_generator wsX1_lookForGenerators := goodIn_r _ [38, 39, 31, 40, 41, 42, 43, 20, 44, 22, 45, 46, 29, 47, 24, 23, 25, 48, 49, 50, 51, 52, 53, 54, 26, 55, 56, 57, 58, 59, 60, 61, 62, 63, 64, 65, 66, 67, 68, 78, 79, 80, 81, 82, 83, 84, 85, 86] (by decide +kernel) (by decide +kernel)
set_option maxRecDepth 20000 in
theorem gX4_generator_X1_lookForGenerators : GoodIn wsX4_generator (wsV RX4 144 RX1 yX1_lookForGenerators wsX1_lookForGenerators) := goodIn_app (goodIn_of _ (by decide +kernel)) ggX4_generator_X1_lookForGenerators
set_option maxRecDepth 20000 in
theorem ggX4_generator_X4_generatorPart : GoodIn wsX4_generator wsX4_generatorPart := goodIn_ca (goodIn_r _ [72, 6, 7, 1, 73, 74, 75, 76, 77, 78, 79, 80, 81, 82, 83, 84, 85, 86] (by decide +kernel) (by decide +kernel)) (goodIn_sub (fun _ h => List.mem_cons_of_mem _ (List.mem_append_left _ (List.mem_append_right _ h))) (by decide +kernel))
set_option maxRecDepth 20000 in
theorem gX4_generator_X4_generatorPart : GoodIn wsX4_generator (wsV RX4 148 RX4 yX4_generatorPart wsX4_generatorPart) := goodIn_app (goodIn_of _ (by decide +kernel)) ggX4_generator_X4_generatorPart
set_option maxRecDepth 20000 in
theorem ggX4_generatorAnew_X4_requireNoneOrMore : GoodIn wsX4_generatorAnew wsX4_requireNoneOrMore := goodIn_ca (goodIn_r _ [5, 6, 7] (by decide +kernel) (by decide +kernel)) (goodIn_sub (fun _ h => List.mem_cons_of_mem _ (List.mem_append_left _ (List.mem_append_right _ h))) (by decide +kernel))
set_option maxRecDepth 20000 in
theorem gX4_generatorAnew_X4_requireNoneOrMore : GoodIn wsX4_generatorAnew (va_wsS RX4 140 yX4_requireNoneOrMore wsX4_requireNoneOrMore) := goodIn_app (goodIn_of _ (by decide +kernel)) ggX4_generatorAnew_X4_requireNoneOrMore
set_option maxRecDepth 20000 in
theorem ggX4_generatorAnew_X4_makeCone : GoodIn wsX4_generatorAnew wsX4_makeCone := goodIn_ca (goodIn_r _ [11, 12, 13, 1, 14, 15, 4, 16, 17, 18, 19, 20, 21, 22, 23, 24, 25, 26, 27, 28, 29, 30, 31, 32, 33, 34, 61, 62, 63, 64, 65, 66, 67, 68, 69, 70, 71, 72, 73, 74] (by decide +kernel) (by decide +kernel)) (goodIn_sub (fun _ h => List.mem_cons_of_mem _ (List.mem_append_right _ h)) (by decide +kernel))
set_option maxRecDepth 20000 in
theorem gX4_generatorAnew_X4_makeCone : GoodIn wsX4_generatorAnew (wsV RX4 133 RX4 yX4_makeCone wsX4_makeCone) := goodIn_app (goodIn_of _ (by decide +kernel)) ggX4_generatorAnew_X4_makeCone
set_option maxRecDepth 20000 in
theorem ggX4_generatorAnew_X1_followGenerators : GoodIn wsX4_generatorAnew wsX1_followGenerators := goodIn_r _ [38, 22, 23, 31, 39, 40, 41, 42, 43, 20, 44, 26, 27, 28, 29, 30, 45, 46, 47, 48, 49, 50, 51, 52, 25, 24, 53, 54, 55, 56, 66, 67, 68, 69, 70, 71, 72, 73, 74] (by decide +kernel) (by decide +kernel)
set_option maxRecDepth 20000 in
theorem gX4_generatorAnew_X1_followGenerators : GoodIn wsX4_generatorAnew (wsV RX4 152 RX1 yX1_followGenerators wsX1_followGenerators) := goodIn_app (goodIn_of _ (by decide +kernel)) ggX4_generatorAnew_X1_followGenerators
set_option maxRecDepth 20000 in
theorem ggX4_generatorAnew_X4_generatorPart : GoodIn wsX4_generatorAnew wsX4_generatorPart := goodIn_ca (goodIn_r _ [60, 6, 7, 1, 61, 62, 63, 64, 65, 66, 67, 68, 69, 70, 71, 72, 73, 74] (by decide +kernel) (by decide +kernel)) (goodIn_sub (fun _ h => List.mem_cons_of_mem _ (List.mem_append_left _ (List.mem_append_right _ h))) (by decide +kernel))
set_option maxRecDepth 20000 in
theorem gX4_generatorAnew_X4_generatorPart : GoodIn wsX4_generatorAnew (wsV RX4 148 RX4 yX4_generatorPart wsX4_generatorPart) := goodIn_app (goodIn_of _ (by decide +kernel)) ggX4_generatorAnew_X4_generatorPart
set_option maxRecDepth 20000 in
theorem ggX4_coin_X4_requireRange : GoodIn wsX4_coin wsX4_requireRange := goodIn_ca (goodIn_r _ [7, 8, 9] (by decide +kernel) (by decide +kernel)) (goodIn_sub (fun _ h => List.mem_cons_of_mem _ (List.mem_append_right _ h)) (by decide +kernel))
set_option maxRecDepth 20000 in
theorem gX4_coin_X4_requireRange : GoodIn wsX4_coin (va_wsS RX4 52 yX4_requireRange wsX4_requireRange) := goodIn_app (goodIn_of _ (by decide +kernel)) ggX4_coin_X4_requireRange
set_option maxRecDepth 20000 in
theorem ggX4_coin_X0_has : GoodIn wsX4_coin wsX0_has := goodIn_r _ [14, 15, 36, 37, 38, 39] (by decide +kernel) (by decide +kernel)
set_option maxRecDepth 20000 in
theorem gX4_coin_X0_has : GoodIn wsX4_coin (wsV RX4 155 RX0 yX0_has wsX0_has) := goodIn_app (goodIn_of _ (by decide +kernel)) ggX4_coin_X0_has
set_option maxRecDepth 20000 in
theorem ggX4_coin_X0_size : GoodIn wsX4_coin wsX0_size := goodIn_r _ [19, 15, 20, 21, 22, 23, 24, 25, 26, 36, 37, 38, 39] (by decide +kernel) (by decide +kernel)
set_option maxRecDepth 20000 in
theorem gX4_coin_X0_size : GoodIn wsX4_coin (wsV RX4 159 RX0 yX0_size wsX0_size) := goodIn_app (goodIn_of _ (by decide +kernel)) ggX4_coin_X0_size
