set_option maxRecDepth 20000 in
theorem ggX4_coin_X0_change : GoodIn wsX4_coin wsX0_change := goodIn_r _ [30, 15, 36, 37, 38, 39] (by decide +kernel) (by decide +kernel)
set_option maxRecDepth 20000 in
theorem gX4_coin_X0_change : GoodIn wsX4_coin (wsV RX4 164 RX0 yX0_change wsX0_change) := goodIn_app (goodIn_of _ (by decide +kernel)) ggX4_coin_X0_change
set_option maxRecDepth 20000 in
theorem ggX4_ways_X4_requireRange : GoodIn wsX4_ways wsX4_requireRange := goodIn_ca (goodIn_r _ [5, 6, 7] (by decide +kernel) (by decide +kernel)) (goodIn_sub (fun _ h => List.mem_cons_of_mem _ (List.mem_append_right _ h)) (by decide +kernel))
set_option maxRecDepth 20000 in
theorem gX4_ways_X4_requireRange : GoodIn wsX4_ways (va_wsS RX4 52 yX4_requireRange wsX4_requireRange) := goodIn_app (goodIn_of _ (by decide +kernel)) ggX4_ways_X4_requireRange
set_option maxRecDepth 20000 in
theorem ggX4_ways_X0_waysToPay : GoodIn wsX4_ways wsX0_waysToPay := goodIn_r _ [12, 13, 14, 15, 16, 11, 17, 18, 24, 25, 26, 27] (by decide +kernel) (by decide +kernel)
set_option maxRecDepth 20000 in
theorem gX4_ways_X0_waysToPay : GoodIn wsX4_ways (wsV RX4 167 RX0 yX0_waysToPay wsX0_waysToPay) := goodIn_app (goodIn_of _ (by decide +kernel)) ggX4_ways_X0_waysToPay
set_option maxRecDepth 20000 in
theorem ggX4_gap_X4_requireNoneOrMore : GoodIn wsX4_gap wsX4_requireNoneOrMore := goodIn_ca (goodIn_r _ [7, 1, 2] (by decide +kernel) (by decide +kernel)) (goodIn_sub (fun _ h => List.mem_cons_of_mem _ (List.mem_append_left _ (List.mem_append_right _ h))) (by decide +kernel))
set_option maxRecDepth 20000 in
theorem gX4_gap_X4_requireNoneOrMore : GoodIn wsX4_gap (va_wsS RX4 140 yX4_requireNoneOrMore wsX4_requireNoneOrMore) := goodIn_app (goodIn_of _ (by decide +kernel)) ggX4_gap_X4_requireNoneOrMore
set_option maxRecDepth 20000 in
theorem ggX4_gap_X4_requireLastGap : GoodIn wsX4_gap wsX4_requireLastGap := goodIn_ca (goodIn_r _ [11, 12, 13, 3, 14, 15, 16, 17, 18, 19, 20, 21, 22, 23, 24, 6, 25, 26, 27, 28, 29, 35, 36, 37, 38, 39, 40, 41, 42, 43] (by decide +kernel) (by decide +kernel)) (goodIn_sub (fun _ h => List.mem_cons_of_mem _ (List.mem_append_right _ h)) (by decide +kernel))
set_option maxRecDepth 20000 in
theorem gX4_gap_X4_requireLastGap : GoodIn wsX4_gap (wsV RX4 171 RX4 yX4_requireLastGap wsX4_requireLastGap) := goodIn_app (goodIn_of _ (by decide +kernel)) ggX4_gap_X4_requireLastGap
set_option maxRecDepth 20000 in
theorem ggX4_gap_X0_lookForGaps : GoodIn wsX4_gap wsX0_lookForGaps := goodIn_r _ [33, 23, 34, 40, 41, 42, 43] (by decide +kernel) (by decide +kernel)
set_option maxRecDepth 20000 in
theorem gX4_gap_X0_lookForGaps : GoodIn wsX4_gap (wsV RX4 174 RX0 yX0_lookForGaps wsX0_lookForGaps) := goodIn_app (goodIn_of _ (by decide +kernel)) ggX4_gap_X0_lookForGaps
set_option maxRecDepth 20000 in
theorem ggX4_greatestGap_X4_requireLastGap : GoodIn wsX4_greatestGap wsX4_requireLastGap := goodIn_ca (goodIn_r _ [6, 7, 8, 1, 9, 10, 11, 12, 13, 14, 15, 16, 17, 18, 19, 5, 20, 21, 22, 23, 24, 50, 51, 52, 53, 54, 55, 56, 57, 58] (by decide +kernel) (by decide +kernel)) (goodIn_sub (fun _ h => List.mem_cons_of_mem _ (List.mem_append_right _ h)) (by decide +kernel))
set_option maxRecDepth 20000 in
theorem gX4_greatestGap_X4_requireLastGap : GoodIn wsX4_greatestGap (wsV RX4 171 RX4 yX4_requireLastGap wsX4_requireLastGap) := goodIn_app (goodIn_of _ (by decide +kernel)) ggX4_greatestGap_X4_requireLastGap
set_option maxRecDepth 20000 in
theorem ggX4_greatestGap_X0_lastGap : GoodIn wsX4_greatestGap wsX0_lastGap := goodIn_r _ [28, 29, 30, 31, 23, 32, 33, 34, 35, 12, 36, 14, 15, 16, 17, 18, 37, 38, 39, 40, 41, 42, 43, 44, 45, 46, 47, 48, 49, 55, 56, 57, 58] (by decide +kernel) (by decide +kernel)
set_option maxRecDepth 20000 in
theorem gX4_greatestGap_X0_lastGap : GoodIn wsX4_greatestGap (wsV RX4 185 RX0 yX0_lastGap wsX0_lastGap) := goodIn_app (goodIn_of _ (by decide +kernel)) ggX4_greatestGap_X0_lastGap
set_option maxRecDepth 20000 in
theorem ggX4_tables_X4_requireRange : GoodIn wsX4_tables wsX4_requireRange := goodIn_ca (goodIn_r _ [11, 12, 13] (by decide +kernel) (by decide +kernel)) (goodIn_sub (fun _ h => List.mem_cons_of_mem _ (List.mem_append_right _ h)) (by decide +kernel))
set_option maxRecDepth 20000 in
theorem gX4_tables_X4_requireRange : GoodIn wsX4_tables (va_wsS RX4 52 yX4_requireRange wsX4_requireRange) := goodIn_app (goodIn_of _ (by decide +kernel)) ggX4_tables_X4_requireRange
set_option maxRecDepth 20000 in
theorem ggX4_requireInequality_X3_has : GoodIn wsX4_requireInequality wsX3_has := goodIn_r _ [7, 8, 9, 10, 11, 12, 13] (by decide +kernel) (by decide +kernel)
set_option maxRecDepth 20000 in
theorem gX4_requireInequality_X3_has : GoodIn wsX4_requireInequality (wsV RX4 198 RX3 yX3_has wsX3_has) := goodIn_app (goodIn_of _ (by decide +kernel)) ggX4_requireInequality_X3_has
set_option maxRecDepth 20000 in
theorem ggX4_requirePlace_X3_isClosed : GoodIn wsX4_requirePlace wsX3_isClosed := goodIn_r _ [7, 8, 9, 10, 11, 12, 13, 6, 14, 15, 16, 17, 18, 19] (by decide +kernel) (by decide +kernel)
set_option maxRecDepth 20000 in
theorem gX4_requirePlace_X3_isClosed : GoodIn wsX4_requirePlace (wsV RX4 96 RX3 yX3_isClosed wsX3_isClosed) := goodIn_app (goodIn_of _ (by decide +kernel)) ggX4_requirePlace_X3_isClosed
set_option maxRecDepth 20000 in
theorem ggX4_takeWithLetter_X4_shapeOf : GoodIn wsX4_takeWithLetter wsX4_shapeOf := goodIn_ca (goodIn_r _ [6, 7, 8, 9, 10, 42, 43, 44, 45, 46] (by decide +kernel) (by decide +kernel)) (goodIn_sub (fun _ h => List.mem_cons_of_mem _ (List.mem_append_left _ (List.mem_append_left _ (List.mem_append_right _ h)))) (by decide +kernel))
set_option maxRecDepth 20000 in
theorem gX4_takeWithLetter_X4_shapeOf : GoodIn wsX4_takeWithLetter (wsV RX4 48 RX4 yX4_shapeOf wsX4_shapeOf) := goodIn_app (goodIn_of _ (by decide +kernel)) ggX4_takeWithLetter_X4_shapeOf
set_option maxRecDepth 20000 in
theorem ggX4_takeWithLetter_X4_requireRange : GoodIn wsX4_takeWithLetter wsX4_requireRange := goodIn_ca (goodIn_r _ [13, 14, 15] (by decide +kernel) (by decide +kernel)) (goodIn_sub (fun _ h => List.mem_cons_of_mem _ (List.mem_append_left _ (List.mem_append_right _ h))) (by decide +kernel))
set_option maxRecDepth 20000 in
theorem gX4_takeWithLetter_X4_requireRange : GoodIn wsX4_takeWithLetter (va_wsS RX4 52 yX4_requireRange wsX4_requireRange) := goodIn_app (goodIn_of _ (by decide +kernel)) ggX4_takeWithLetter_X4_requireRange
set_option maxRecDepth 20000 in
theorem ggX4_takeWithLetter_X4_requirePlace : GoodIn wsX4_takeWithLetter wsX4_requirePlace := goodIn_ca (goodIn_r _ [18, 19, 20, 21, 22, 23, 24, 25, 26, 27, 28, 29, 30, 31, 32, 47, 48, 49, 50, 51] (by decide +kernel) (by decide +kernel)) (goodIn_sub (fun _ h => List.mem_cons_of_mem _ (List.mem_append_right _ h)) (by decide +kernel))
set_option maxRecDepth 20000 in
theorem gX4_takeWithLetter_X4_requirePlace : GoodIn wsX4_takeWithLetter (va_wsS RX4 110 yX4_requirePlace wsX4_requirePlace) := goodIn_app (goodIn_of _ (by decide +kernel)) ggX4_takeWithLetter_X4_requirePlace
set_option maxRecDepth 20000 in
theorem ggX4_takeWithLetter_X2_take : GoodIn wsX4_takeWithLetter wsX2_take := goodIn_r _ [37, 38, 39, 40, 41, 47, 48, 49, 50, 51, 52, 53, 54, 55, 56, 57, 58, 59, 60, 61] (by decide +kernel) (by decide +kernel)
set_option maxRecDepth 20000 in
theorem gX4_takeWithLetter_X2_take : GoodIn wsX4_takeWithLetter (wsV RX4 114 RX2 yX2_take wsX2_take) := goodIn_app (goodIn_of _ (by decide +kernel)) ggX4_takeWithLetter_X2_take
set_option maxRecDepth 20000 in
theorem ggX4_requireLastGap_X0_commonDivisor : GoodIn wsX4_requireLastGap wsX0_commonDivisor := goodIn_r _ [8, 9, 10, 11, 7, 12, 13, 14, 15, 16, 17, 18, 19, 20, 26, 27, 28, 29] (by decide +kernel) (by decide +kernel)
set_option maxRecDepth 20000 in
theorem gX4_requireLastGap_X0_commonDivisor : GoodIn wsX4_requireLastGap (wsV RX4 207 RX0 yX0_commonDivisor wsX0_commonDivisor) := goodIn_app (goodIn_of _ (by decide +kernel)) ggX4_requireLastGap_X0_commonDivisor
set_option maxRecDepth 20000 in
theorem ggX4_makeCone_X4_requireRange : GoodIn wsX4_makeCone wsX4_requireRange := goodIn_ca (goodIn_r _ [7, 1, 2] (by decide +kernel) (by decide +kernel)) (goodIn_sub (fun _ h => List.mem_cons_of_mem _ (List.mem_append_right _ h)) (by decide +kernel))
set_option maxRecDepth 20000 in
theorem gX4_makeCone_X4_requireRange : GoodIn wsX4_makeCone (va_wsS RX4 52 yX4_requireRange wsX4_requireRange) := goodIn_app (goodIn_of _ (by decide +kernel)) ggX4_makeCone_X4_requireRange
set_option maxRecDepth 20000 in
theorem ggX4_makeCone_X1_span : GoodIn wsX4_makeCone wsX1_span := goodIn_r _ [12, 13, 14, 15, 16, 17, 18, 19, 20, 21, 22, 23, 6, 24, 25, 31, 32, 33, 34, 35, 36, 37, 38, 39] (by decide +kernel) (by decide +kernel)
set_option maxRecDepth 20000 in
theorem gX4_makeCone_X1_span : GoodIn wsX4_makeCone (wsV RX4 212 RX1 yX1_span wsX1_span) := goodIn_app (goodIn_of _ (by decide +kernel)) ggX4_makeCone_X1_span
