set_option maxRecDepth 20000 in
theorem ggX4_init_X3_init : GoodIn wsX4_init wsX3_init := goodIn_r _ [21, 22, 2, 3, 23, 24, 25, 26, 27, 49, 50, 51, 52, 53] (by decide +kernel) (by decide +kernel)
set_option maxRecDepth 20000 in
theorem gX4_init_X3_init_n15 : GoodIn wsX4_init (wsX3_init) := ggX4_init_X3_init
set_option maxRecDepth 20000 in
theorem ggX4_init_X2_init : GoodIn wsX4_init wsX2_init := goodIn_r _ [29, 30, 2, 3, 23, 31, 32, 33, 54, 55, 56, 57, 58, 59, 60, 61, 62, 63] (by decide +kernel) (by decide +kernel)
set_option maxRecDepth 20000 in
theorem gX4_init_X2_init_n18 : GoodIn wsX4_init (wsX2_init) := ggX4_init_X2_init
set_option maxRecDepth 20000 in
theorem ggX4_init_X1_init : GoodIn wsX4_init wsX1_init := goodIn_r _ [35, 36, 2, 3, 23, 37, 64, 65, 66, 67, 68, 69, 70, 71, 72] (by decide +kernel) (by decide +kernel)
set_option maxRecDepth 20000 in
theorem gX4_init_X1_init_n25 : GoodIn wsX4_init (wsX1_init) := ggX4_init_X1_init
set_option maxRecDepth 20000 in
theorem ggX4_init_X0_init : GoodIn wsX4_init wsX0_init := goodIn_r _ [39, 40, 2, 3, 41, 42, 23, 43, 73, 74, 75, 76] (by decide +kernel) (by decide +kernel)
set_option maxRecDepth 20000 in
theorem gX4_init_X0_init_n32 : GoodIn wsX4_init (wsX0_init) := ggX4_init_X0_init
set_option maxRecDepth 20000 in
theorem ggX4_add_X4_shapeOf : GoodIn wsX4_add wsX4_shapeOf := goodIn_ca (goodIn_r _ [9, 10, 11, 12, 13, 27, 28, 29, 30, 31] (by decide +kernel) (by decide +kernel)) (goodIn_sub (fun _ h => List.mem_cons_of_mem _ (List.mem_append_right _ h)) (by decide +kernel))
set_option maxRecDepth 20000 in
theorem gX4_add_X4_shapeOf : GoodIn wsX4_add (wsV RX4 48 RX4 yX4_shapeOf wsX4_shapeOf) := goodIn_app (goodIn_of _ (by decide +kernel)) ggX4_add_X4_shapeOf
set_option maxRecDepth 20000 in
theorem ggX4_add_X4_requireRange : GoodIn wsX4_add wsX4_requireRange := goodIn_ca (goodIn_r _ [16, 1, 2] (by decide +kernel) (by decide +kernel)) (goodIn_sub (fun _ h => List.mem_cons_of_mem _ (List.mem_append_left _ (List.mem_append_left _ (List.mem_append_right _ h)))) (by decide +kernel))
set_option maxRecDepth 20000 in
theorem gX4_add_X4_requireRange : GoodIn wsX4_add (va_wsS RX4 52 yX4_requireRange wsX4_requireRange) := goodIn_app (goodIn_of _ (by decide +kernel)) ggX4_add_X4_requireRange
set_option maxRecDepth 20000 in
theorem ggX4_add_X3_append : GoodIn wsX4_add wsX3_append := goodIn_r _ [21, 22, 23, 24, 25, 26, 32, 33, 34, 35, 36] (by decide +kernel) (by decide +kernel)
set_option maxRecDepth 20000 in
theorem gX4_add_X3_append : GoodIn wsX4_add (wsV RX4 61 RX3 yX3_append wsX3_append) := goodIn_app (goodIn_of _ (by decide +kernel)) ggX4_add_X3_append
set_option maxRecDepth 20000 in
theorem ggX4_cut_X4_shapeOf : GoodIn wsX4_cut wsX4_shapeOf := goodIn_ca (goodIn_r _ [7, 8, 9, 10, 11, 50, 51, 52, 53, 54] (by decide +kernel) (by decide +kernel)) (goodIn_sub (fun _ h => List.mem_cons_of_mem _ (List.mem_append_left _ (List.mem_append_right _ h))) (by decide +kernel))
set_option maxRecDepth 20000 in
theorem gX4_cut_X4_shapeOf : GoodIn wsX4_cut (wsV RX4 48 RX4 yX4_shapeOf wsX4_shapeOf) := goodIn_app (goodIn_of _ (by decide +kernel)) ggX4_cut_X4_shapeOf
set_option maxRecDepth 20000 in
theorem ggX4_cut_X4_requireInequality : GoodIn wsX4_cut wsX4_requireInequality := goodIn_ca (goodIn_r _ [14, 8, 9, 15, 16, 17, 18, 19, 20, 55, 56, 57, 58, 59] (by decide +kernel) (by decide +kernel)) (goodIn_sub (fun _ h => List.mem_cons_of_mem _ (List.mem_append_left _ (List.mem_append_right _ h))) (by decide +kernel))
set_option maxRecDepth 20000 in
theorem gX4_cut_X4_requireInequality : GoodIn wsX4_cut (va_wsS RX4 67 yX4_requireInequality wsX4_requireInequality) := goodIn_app (goodIn_of _ (by decide +kernel)) ggX4_cut_X4_requireInequality
set_option maxRecDepth 20000 in
theorem ggX4_cut_X4_requireRange : GoodIn wsX4_cut wsX4_requireRange := goodIn_ca (goodIn_r _ [23, 24, 25] (by decide +kernel) (by decide +kernel)) (goodIn_sub (fun _ h => List.mem_cons_of_mem _ (List.mem_append_right _ h)) (by decide +kernel))
set_option maxRecDepth 20000 in
theorem gX4_cut_X4_requireRange : GoodIn wsX4_cut (va_wsS RX4 52 yX4_requireRange wsX4_requireRange) := goodIn_app (goodIn_of _ (by decide +kernel)) ggX4_cut_X4_requireRange
set_option maxRecDepth 20000 in
theorem ggX4_cut_X3_appendCut : GoodIn wsX4_cut wsX3_appendCut := goodIn_r _ [29, 30, 31, 32, 33, 34, 35, 36, 37, 38, 16, 17, 18, 19, 20, 39, 40, 41, 42, 43, 44, 45, 46, 47, 48, 49, 55, 56, 57, 58, 59] (by decide +kernel) (by decide +kernel)
set_option maxRecDepth 20000 in
theorem gX4_cut_X3_appendCut : GoodIn wsX4_cut (wsV RX4 71 RX3 yX3_appendCut wsX3_appendCut) := goodIn_app (goodIn_of _ (by decide +kernel)) ggX4_cut_X3_appendCut
set_option maxRecDepth 20000 in
theorem ggX4_move_X4_shapeOf : GoodIn wsX4_move wsX4_shapeOf := goodIn_ca (goodIn_r _ [7, 8, 9, 10, 11, 41, 42, 43, 44, 45] (by decide +kernel) (by decide +kernel)) (goodIn_sub (fun _ h => List.mem_cons_of_mem _ (List.mem_append_left _ (List.mem_append_right _ h))) (by decide +kernel))
set_option maxRecDepth 20000 in
theorem gX4_move_X4_shapeOf : GoodIn wsX4_move (wsV RX4 48 RX4 yX4_shapeOf wsX4_shapeOf) := goodIn_app (goodIn_of _ (by decide +kernel)) ggX4_move_X4_shapeOf
set_option maxRecDepth 20000 in
theorem ggX4_move_X4_requireRange : GoodIn wsX4_move wsX4_requireRange := goodIn_ca (goodIn_r _ [14, 15, 16] (by decide +kernel) (by decide +kernel)) (goodIn_sub (fun _ h => List.mem_cons_of_mem _ (List.mem_append_right _ h)) (by decide +kernel))
set_option maxRecDepth 20000 in
theorem gX4_move_X4_requireRange : GoodIn wsX4_move (va_wsS RX4 52 yX4_requireRange wsX4_requireRange) := goodIn_app (goodIn_of _ (by decide +kernel)) ggX4_move_X4_requireRange
set_option maxRecDepth 20000 in
theorem ggX4_move_X3_swap : GoodIn wsX4_move wsX3_swap := goodIn_r _ [21, 22, 23, 24, 36, 37, 38, 39, 40] (by decide +kernel) (by decide +kernel)
set_option maxRecDepth 20000 in
theorem gX4_move_X3_swap : GoodIn wsX4_move (wsV RX4 77 RX3 yX3_swap wsX3_swap) := goodIn_app (goodIn_of _ (by decide +kernel)) ggX4_move_X3_swap
set_option maxRecDepth 20000 in
theorem ggX4_move_X3_flip : GoodIn wsX4_move wsX3_flip := goodIn_r _ [28, 22, 23, 36, 37, 38, 39, 40] (by decide +kernel) (by decide +kernel)
set_option maxRecDepth 20000 in
theorem gX4_move_X3_flip : GoodIn wsX4_move (wsV RX4 80 RX3 yX3_flip wsX3_flip) := goodIn_app (goodIn_of _ (by decide +kernel)) ggX4_move_X3_flip
set_option maxRecDepth 20000 in
theorem ggX4_move_X3_slide : GoodIn wsX4_move wsX3_slide := goodIn_r _ [32, 22, 24, 23, 33, 34, 20, 35, 36, 37, 38, 39, 40] (by decide +kernel) (by decide +kernel)
set_option maxRecDepth 20000 in
theorem gX4_move_X3_slide : GoodIn wsX4_move (wsV RX4 83 RX3 yX3_slide wsX3_slide) := goodIn_app (goodIn_of _ (by decide +kernel)) ggX4_move_X3_slide
set_option maxRecDepth 20000 in
theorem ggX4_inequality_X4_shapeOf : GoodIn wsX4_inequality wsX4_shapeOf := goodIn_ca (goodIn_r _ [5, 6, 7, 8, 9, 33, 34, 35, 36, 37] (by decide +kernel) (by decide +kernel)) (goodIn_sub (fun _ h => List.mem_cons_of_mem _ (List.mem_append_left _ (List.mem_append_right _ h))) (by decide +kernel))
set_option maxRecDepth 20000 in
theorem gX4_inequality_X4_shapeOf : GoodIn wsX4_inequality (wsV RX4 48 RX4 yX4_shapeOf wsX4_shapeOf) := goodIn_app (goodIn_of _ (by decide +kernel)) ggX4_inequality_X4_shapeOf
set_option maxRecDepth 20000 in
theorem ggX4_inequality_X4_requireInequality : GoodIn wsX4_inequality wsX4_requireInequality := goodIn_ca (goodIn_r _ [12, 6, 7, 13, 14, 15, 16, 17, 18, 38, 39, 40, 41, 42] (by decide +kernel) (by decide +kernel)) (goodIn_sub (fun _ h => List.mem_cons_of_mem _ (List.mem_append_left _ (List.mem_append_right _ h))) (by decide +kernel))
set_option maxRecDepth 20000 in
theorem gX4_inequality_X4_requireInequality : GoodIn wsX4_inequality (va_wsS RX4 67 yX4_requireInequality wsX4_requireInequality) := goodIn_app (goodIn_of _ (by decide +kernel)) ggX4_inequality_X4_requireInequality
set_option maxRecDepth 20000 in
theorem ggX4_inequality_X4_requireRange : GoodIn wsX4_inequality wsX4_requireRange := goodIn_ca (goodIn_r _ [21, 22, 23] (by decide +kernel) (by decide +kernel)) (goodIn_sub (fun _ h => List.mem_cons_of_mem _ (List.mem_append_right _ h)) (by decide +kernel))
set_option maxRecDepth 20000 in
theorem gX4_inequality_X4_requireRange : GoodIn wsX4_inequality (va_wsS RX4 52 yX4_requireRange wsX4_requireRange) := goodIn_app (goodIn_of _ (by decide +kernel)) ggX4_inequality_X4_requireRange
set_option maxRecDepth 20000 in
theorem ggX4_inequality_X3_part : GoodIn wsX4_inequality wsX3_part := goodIn_r _ [27, 28, 29, 30, 31, 32, 14, 15, 16, 17, 18, 38, 39, 40, 41, 42] (by decide +kernel) (by decide +kernel)
set_option maxRecDepth 20000 in
theorem gX4_inequality_X3_part : GoodIn wsX4_inequality (wsV RX4 92 RX3 yX3_part wsX3_part) := goodIn_app (goodIn_of _ (by decide +kernel)) ggX4_inequality_X3_part
set_option maxRecDepth 20000 in
theorem ggX4_isPlace_X4_shapeOf : GoodIn wsX4_isPlace wsX4_shapeOf := goodIn_ca (goodIn_r _ [5, 6, 7, 8, 9, 22, 23, 24, 25, 26] (by decide +kernel) (by decide +kernel)) (goodIn_sub (fun _ h => List.mem_cons_of_mem _ (List.mem_append_right _ h)) (by decide +kernel))
set_option maxRecDepth 20000 in
theorem gX4_isPlace_X4_shapeOf : GoodIn wsX4_isPlace (wsV RX4 48 RX4 yX4_shapeOf wsX4_shapeOf) := goodIn_app (goodIn_of _ (by decide +kernel)) ggX4_isPlace_X4_shapeOf
set_option maxRecDepth 20000 in
theorem ggX4_isPlace_X3_isClosed : GoodIn wsX4_isPlace wsX3_isClosed := goodIn_r _ [14, 15, 16, 17, 18, 19, 20, 13, 21, 27, 28, 29, 30, 31] (by decide +kernel) (by decide +kernel)
set_option maxRecDepth 20000 in
theorem gX4_isPlace_X3_isClosed : GoodIn wsX4_isPlace (wsV RX4 96 RX3 yX3_isClosed wsX3_isClosed) := goodIn_app (goodIn_of _ (by decide +kernel)) ggX4_isPlace_X3_isClosed
set_option maxRecDepth 20000 in
theorem ggX4_count_X4_takeWithLetter : GoodIn wsX4_count wsX4_takeWithLetter := goodIn_ca (goodIn_ca (goodIn_ca (goodIn_r _ [6, 1, 7, 8, 9, 5, 10, 11, 12, 13, 14, 15, 16, 17, 18, 19, 20, 21, 22, 23, 24, 25, 26, 27, 28, 29, 30, 31, 32, 33, 34, 35, 36, 37, 38, 39, 40, 41, 42, 43, 44, 45, 79, 80, 81, 82, 83, 84, 85, 86, 87, 88, 89, 90, 91, 92, 93, 94, 95, 96, 97, 98] (by decide +kernel) (by decide +kernel)) (goodIn_sub (fun _ h => List.mem_cons_of_mem _ (List.mem_append_left _ (List.mem_append_left _ (List.mem_append_right _ h)))) (by decide +kernel))) (goodIn_sub (fun _ h => List.mem_cons_of_mem _ (List.mem_append_left _ (List.mem_append_right _ h))) (by decide +kernel))) (goodIn_sub (fun _ h => List.mem_cons_of_mem _ (List.mem_append_right _ h)) (by decide +kernel))
set_option maxRecDepth 20000 in
theorem gX4_count_X4_takeWithLetter : GoodIn wsX4_count (wsV RX4 99 RX4 yX4_takeWithLetter wsX4_takeWithLetter) := goodIn_app (goodIn_of _ (by decide +kernel)) ggX4_count_X4_takeWithLetter
set_option maxRecDepth 20000 in
theorem ggX4_count_X2_points : GoodIn wsX4_count wsX2_points := goodIn_r _ [49, 50, 51, 52, 53, 54, 55, 56, 57, 58, 59, 60, 40, 61, 62, 63, 42, 44, 43, 45, 64, 65, 66, 67, 68, 69, 70, 71, 72, 73, 74, 75, 76, 77, 78, 89, 90, 91, 92, 93, 94, 95, 96, 97, 98] (by decide +kernel) (by decide +kernel)
set_option maxRecDepth 20000 in
theorem gX4_count_X2_points : GoodIn wsX4_count (wsV RX4 103 RX2 yX2_points wsX2_points) := goodIn_app (goodIn_of _ (by decide +kernel)) ggX4_count_X2_points
set_option maxRecDepth 20000 in
theorem ggX4_countAnew_X4_takeWithLetter : GoodIn wsX4_countAnew wsX4_takeWithLetter := goodIn_ca (goodIn_ca (goodIn_ca (goodIn_r _ [6, 1, 7, 8, 9, 5, 10, 11, 12, 13, 14, 15, 16, 17, 18, 19, 20, 21, 22, 23, 24, 25, 26, 27, 28, 29, 30, 31, 32, 33, 34, 35, 36, 37, 38, 39, 40, 41, 42, 43, 44, 45, 83, 84, 85, 86, 87, 88, 89, 90, 91, 92, 93, 94, 95, 96, 97, 98, 99, 100, 101, 102] (by decide +kernel) (by decide +kernel)) (goodIn_sub (fun _ h => List.mem_cons_of_mem _ (List.mem_append_left _ (List.mem_append_left _ (List.mem_append_right _ h)))) (by decide +kernel))) (goodIn_sub (fun _ h => List.mem_cons_of_mem _ (List.mem_append_left _ (List.mem_append_right _ h))) (by decide +kernel))) (goodIn_sub (fun _ h => List.mem_cons_of_mem _ (List.mem_append_right _ h)) (by decide +kernel))
set_option maxRecDepth 20000 in
theorem gX4_countAnew_X4_takeWithLetter : GoodIn wsX4_countAnew (wsV RX4 99 RX4 yX4_takeWithLetter wsX4_takeWithLetter) := goodIn_app (goodIn_of _ (by decide +kernel)) ggX4_countAnew_X4_takeWithLetter
