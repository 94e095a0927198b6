set_option maxRecDepth 20000 in
theorem ggX0_size_J13_bitCount_95d88 : GoodIn wsX0_size wsJ13_bitCount_95d88 := goodIn_r _ [5, 6, 7, 8] (by decide +kernel) (by decide +kernel)
set_option maxRecDepth 20000 in
theorem gX0_size_J13_bitCount_95d88 : GoodIn wsX0_size (va_wsS RX0 23 yJ13_bitCount_95d88 wsJ13_bitCount_95d88) := goodIn_app (goodIn_of _ (by decide +kernel)) ggX0_size_J13_bitCount_95d88
set_option maxRecDepth 20000 in
theorem ggX0_commonDivisor_X0_has : GoodIn wsX0_commonDivisor wsX0_has := goodIn_r _ [5, 6, 14, 15, 16, 17] (by decide +kernel) (by decide +kernel)
set_option maxRecDepth 20000 in
theorem gX0_commonDivisor_X0_has : GoodIn wsX0_commonDivisor (wsV RX0 29 RX0 yX0_has wsX0_has) := goodIn_app (goodIn_of _ (by decide +kernel)) ggX0_commonDivisor_X0_has
set_option maxRecDepth 20000 in
theorem ggX0_commonDivisor_X4_greatestDivisor : GoodIn wsX0_commonDivisor wsX4_greatestDivisor := goodIn_r _ [9, 10, 11, 12, 13] (by decide +kernel) (by decide +kernel)
set_option maxRecDepth 20000 in
theorem gX0_commonDivisor_X4_greatestDivisor_n33 : GoodIn wsX0_commonDivisor (wsX4_greatestDivisor) := ggX0_commonDivisor_X4_greatestDivisor
set_option maxRecDepth 20000 in
theorem ggX0_waysToPay_X0_has : GoodIn wsX0_waysToPay wsX0_has := goodIn_r _ [6, 7, 8, 9, 10, 11] (by decide +kernel) (by decide +kernel)
set_option maxRecDepth 20000 in
theorem gX0_waysToPay_X0_has : GoodIn wsX0_waysToPay (wsV RX0 29 RX0 yX0_has wsX0_has) := goodIn_app (goodIn_of _ (by decide +kernel)) ggX0_waysToPay_X0_has
set_option maxRecDepth 20000 in
theorem ggX0_lastGap_X0_leastCoin : GoodIn wsX0_lastGap wsX0_leastCoin := goodIn_r _ [10, 11, 12, 13, 9, 14, 15, 29, 30, 31, 32] (by decide +kernel) (by decide +kernel)
set_option maxRecDepth 20000 in
theorem gX0_lastGap_X0_leastCoin : GoodIn wsX0_lastGap (wsV RX0 41 RX0 yX0_leastCoin wsX0_leastCoin) := goodIn_app (goodIn_of _ (by decide +kernel)) ggX0_lastGap_X0_leastCoin
set_option maxRecDepth 20000 in
theorem ggX0_lastGap_X0_findLeastSums : GoodIn wsX0_lastGap wsX0_findLeastSums := goodIn_r _ [19, 1, 20, 11, 12, 13, 9, 14, 15, 21, 22, 23, 24, 25, 26, 27, 28, 29, 30, 31, 32] (by decide +kernel) (by decide +kernel)
set_option maxRecDepth 20000 in
theorem gX0_lastGap_X0_findLeastSums : GoodIn wsX0_lastGap (wsV RX0 45 RX0 yX0_findLeastSums wsX0_findLeastSums) := goodIn_app (goodIn_of _ (by decide +kernel)) ggX0_lastGap_X0_findLeastSums
set_option maxRecDepth 20000 in
theorem ggX0_leastCoin_X0_has : GoodIn wsX0_leastCoin wsX0_has := goodIn_r _ [5, 6, 7, 8, 9, 10] (by decide +kernel) (by decide +kernel)
set_option maxRecDepth 20000 in
theorem gX0_leastCoin_X0_has : GoodIn wsX0_leastCoin (wsV RX0 29 RX0 yX0_has wsX0_has) := goodIn_app (goodIn_of _ (by decide +kernel)) ggX0_leastCoin_X0_has
set_option maxRecDepth 20000 in
theorem ggX0_findLeastSums_X0_has : GoodIn wsX0_findLeastSums wsX0_has := goodIn_r _ [7, 8, 17, 18, 19, 20] (by decide +kernel) (by decide +kernel)
set_option maxRecDepth 20000 in
theorem gX0_findLeastSums_X0_has : GoodIn wsX0_findLeastSums (wsV RX0 29 RX0 yX0_has wsX0_has) := goodIn_app (goodIn_of _ (by decide +kernel)) ggX0_findLeastSums_X0_has
set_option maxRecDepth 20000 in
theorem ggX0_findLeastSums_X0_payOneMore : GoodIn wsX0_findLeastSums wsX0_payOneMore := goodIn_r _ [12, 1, 13, 14, 15, 16, 17, 18, 19, 20] (by decide +kernel) (by decide +kernel)
set_option maxRecDepth 20000 in
theorem gX0_findLeastSums_X0_payOneMore : GoodIn wsX0_findLeastSums (wsV RX0 55 RX0 yX0_payOneMore wsX0_payOneMore) := goodIn_app (goodIn_of _ (by decide +kernel)) ggX0_findLeastSums_X0_payOneMore
set_option maxRecDepth 20000 in
theorem ggX0_payOneMore_J9_floorMod_7cf53 : GoodIn wsX0_payOneMore wsJ9_floorMod_7cf53 := goodIn_r _ [5] (by decide +kernel) (by decide +kernel)
set_option maxRecDepth 20000 in
theorem gX0_payOneMore_J9_floorMod_7cf53 : GoodIn wsX0_payOneMore (va_wsS RX0 59 yJ9_floorMod_7cf53 wsJ9_floorMod_7cf53) := goodIn_app (goodIn_of _ (by decide +kernel)) ggX0_payOneMore_J9_floorMod_7cf53
set_option maxRecDepth 20000 in
theorem ggX1_span_X4_greatestDivisor : GoodIn wsX1_span wsX4_greatestDivisor := goodIn_r _ [13, 14, 7, 8, 9] (by decide +kernel) (by decide +kernel)
set_option maxRecDepth 20000 in
theorem gX1_span_X4_greatestDivisor_n15 : GoodIn wsX1_span (wsX4_greatestDivisor) := ggX1_span_X4_greatestDivisor
set_option maxRecDepth 20000 in
theorem ggX1_lookForGenerators_X1_lookAtVectors : GoodIn wsX1_lookForGenerators wsX1_lookAtVectors := goodIn_r _ [8, 3, 1, 9, 10, 11, 12, 13, 14, 15, 16, 17, 18, 19, 20, 21, 22, 7, 23, 24, 25, 26, 27, 28, 29, 30, 31, 32, 2, 39, 40, 41, 42, 43, 44, 45, 46, 47] (by decide +kernel) (by decide +kernel)
set_option maxRecDepth 20000 in
theorem gX1_lookForGenerators_X1_lookAtVectors : GoodIn wsX1_lookForGenerators (wsV RX1 44 RX1 yX1_lookAtVectors wsX1_lookAtVectors) := goodIn_app (goodIn_of _ (by decide +kernel)) ggX1_lookForGenerators_X1_lookAtVectors
set_option maxRecDepth 20000 in
theorem ggX1_lookForGenerators_X1_keepByDistances : GoodIn wsX1_lookForGenerators wsX1_keepByDistances := goodIn_r _ [36, 2, 9, 14, 37, 15, 16, 38, 39, 40, 41, 42, 43, 44, 45, 46, 47] (by decide +kernel) (by decide +kernel)
set_option maxRecDepth 20000 in
theorem gX1_lookForGenerators_X1_keepByDistances : GoodIn wsX1_lookForGenerators (wsV RX1 48 RX1 yX1_keepByDistances wsX1_keepByDistances) := goodIn_app (goodIn_of _ (by decide +kernel)) ggX1_lookForGenerators_X1_keepByDistances
set_option maxRecDepth 20000 in
theorem ggX1_lookAtVectors_X1_fromFirst : GoodIn wsX1_lookAtVectors wsX1_fromFirst := goodIn_r _ [18, 19, 3, 9, 29, 30, 31, 32, 33, 34, 35, 36, 37] (by decide +kernel) (by decide +kernel)
set_option maxRecDepth 20000 in
theorem gX1_lookAtVectors_X1_fromFirst : GoodIn wsX1_lookAtVectors (wsV RX1 58 RX1 yX1_fromFirst wsX1_fromFirst) := goodIn_app (goodIn_of _ (by decide +kernel)) ggX1_lookAtVectors_X1_fromFirst
set_option maxRecDepth 20000 in
theorem ggX1_lookAtVectors_X1_fromLast : GoodIn wsX1_lookAtVectors wsX1_fromLast := goodIn_r _ [23, 19, 10, 8, 29, 30, 31, 32, 33, 34, 35, 36, 37] (by decide +kernel) (by decide +kernel)
set_option maxRecDepth 20000 in
theorem gX1_lookAtVectors_X1_fromLast : GoodIn wsX1_lookAtVectors (wsV RX1 61 RX1 yX1_fromLast wsX1_fromLast) := goodIn_app (goodIn_of _ (by decide +kernel)) ggX1_lookAtVectors_X1_fromLast
set_option maxRecDepth 20000 in
theorem ggX1_lookAtVectors_X1_lookAt : GoodIn wsX1_lookAtVectors wsX1_lookAt := goodIn_r _ [27, 28, 1, 11, 12, 6, 13, 29, 30, 31, 32, 33, 34, 35, 36, 37] (by decide +kernel) (by decide +kernel)
set_option maxRecDepth 20000 in
theorem gX1_lookAtVectors_X1_lookAt : GoodIn wsX1_lookAtVectors (wsV RX1 64 RX1 yX1_lookAt wsX1_lookAt) := goodIn_app (goodIn_of _ (by decide +kernel)) ggX1_lookAtVectors_X1_lookAt
set_option maxRecDepth 20000 in
theorem ggX1_followGenerators_X1_secondX : GoodIn wsX1_followGenerators wsX1_secondX := goodIn_r _ [10, 1, 11, 2, 12, 13, 14, 15, 30, 31, 32, 33, 34, 35, 36, 37, 38] (by decide +kernel) (by decide +kernel)
set_option maxRecDepth 20000 in
theorem gX1_followGenerators_X1_secondX : GoodIn wsX1_followGenerators (wsV RX1 73 RX1 yX1_secondX wsX1_secondX) := goodIn_app (goodIn_of _ (by decide +kernel)) ggX1_followGenerators_X1_secondX
set_option maxRecDepth 20000 in
theorem ggX1_followGenerators_X1_secondY : GoodIn wsX1_followGenerators wsX1_secondY := goodIn_r _ [19, 1, 11, 2, 30, 31, 32, 33, 34, 35, 36, 37, 38] (by decide +kernel) (by decide +kernel)
set_option maxRecDepth 20000 in
theorem gX1_followGenerators_X1_secondY : GoodIn wsX1_followGenerators (wsV RX1 77 RX1 yX1_secondY wsX1_secondY) := goodIn_app (goodIn_of _ (by decide +kernel)) ggX1_followGenerators_X1_secondY
set_option maxRecDepth 20000 in
theorem ggX1_followGenerators_X1_fromLast : GoodIn wsX1_followGenerators wsX1_fromLast := goodIn_r _ [23, 11, 24, 25, 30, 31, 32, 33, 34, 35, 36, 37, 38] (by decide +kernel) (by decide +kernel)
set_option maxRecDepth 20000 in
theorem gX1_followGenerators_X1_fromLast : GoodIn wsX1_followGenerators (wsV RX1 61 RX1 yX1_fromLast wsX1_fromLast) := goodIn_app (goodIn_of _ (by decide +kernel)) ggX1_followGenerators_X1_fromLast
set_option maxRecDepth 20000 in
theorem ggX1_followGenerators_J9_floorDiv_7cf53 : GoodIn wsX1_followGenerators wsJ9_floorDiv_7cf53 := goodIn_r _ [29] (by decide +kernel) (by decide +kernel)
set_option maxRecDepth 20000 in
theorem gX1_followGenerators_J9_floorDiv_7cf53 : GoodIn wsX1_followGenerators (va_wsS RX1 80 yJ9_floorDiv_7cf53 wsJ9_floorDiv_7cf53) := goodIn_app (goodIn_of _ (by decide +kernel)) ggX1_followGenerators_J9_floorDiv_7cf53
set_option maxRecDepth 20000 in
theorem ggX2_points_X2_findColumns : GoodIn wsX2_points wsX2_findColumns := goodIn_r _ [13, 14, 1, 15, 2, 16, 17, 18, 19, 20, 21, 22, 12, 23, 24, 25, 7, 26, 5, 6, 8, 27, 28, 29, 30, 35, 36, 37, 38, 39, 40, 41, 42, 43, 44] (by decide +kernel) (by decide +kernel)
set_option maxRecDepth 20000 in
theorem gX2_points_X2_findColumns : GoodIn wsX2_points (wsV RX2 40 RX2 yX2_findColumns wsX2_findColumns) := goodIn_app (goodIn_of _ (by decide +kernel)) ggX2_points_X2_findColumns
set_option maxRecDepth 20000 in
theorem ggX2_points_X2_findEnds : GoodIn wsX2_points wsX2_findEnds := goodIn_r _ [34, 14, 4, 15, 3, 16, 19, 18, 17, 24, 25, 7, 26, 5, 6, 8, 27, 28, 29, 30, 35, 36, 37, 38, 39, 40, 41, 42, 43, 44] (by decide +kernel) (by decide +kernel)
set_option maxRecDepth 20000 in
theorem gX2_points_X2_findEnds : GoodIn wsX2_points (wsV RX2 49 RX2 yX2_findEnds wsX2_findEnds) := goodIn_app (goodIn_of _ (by decide +kernel)) ggX2_points_X2_findEnds
set_option maxRecDepth 20000 in
theorem ggX2_findBest_X2_findColumns : GoodIn wsX2_findBest wsX2_findColumns := goodIn_r _ [11, 12, 1, 13, 2, 14, 15, 16, 17, 18, 19, 20, 10, 21, 22, 23, 24, 25, 26, 27, 28, 29, 30, 31, 32, 37, 38, 39, 40, 41, 42, 43, 44, 45, 46] (by decide +kernel) (by decide +kernel)
set_option maxRecDepth 20000 in
theorem gX2_findBest_X2_findColumns : GoodIn wsX2_findBest (wsV RX2 40 RX2 yX2_findColumns wsX2_findColumns) := goodIn_app (goodIn_of _ (by decide +kernel)) ggX2_findBest_X2_findColumns
set_option maxRecDepth 20000 in
theorem ggX2_findBest_X2_findEnds : GoodIn wsX2_findBest wsX2_findEnds := goodIn_r _ [36, 12, 4, 13, 3, 14, 17, 16, 15, 22, 23, 24, 25, 26, 27, 28, 29, 30, 31, 32, 37, 38, 39, 40, 41, 42, 43, 44, 45, 46] (by decide +kernel) (by decide +kernel)
set_option maxRecDepth 20000 in
theorem gX2_findBest_X2_findEnds : GoodIn wsX2_findBest (wsV RX2 49 RX2 yX2_findEnds wsX2_findEnds) := goodIn_app (goodIn_of _ (by decide +kernel)) ggX2_findBest_X2_findEnds
set_option maxRecDepth 20000 in
theorem ggX2_findColumns_X2_narrow : GoodIn wsX2_findColumns wsX2_narrow := goodIn_r _ [13, 4, 14, 15, 16, 17, 2, 18, 19, 20, 21, 22, 23, 24, 25, 26, 27, 28, 29, 30, 31, 32, 33, 34] (by decide +kernel) (by decide +kernel)
set_option maxRecDepth 20000 in
theorem gX2_findColumns_X2_narrow : GoodIn wsX2_findColumns (wsV RX2 73 RX2 yX2_narrow wsX2_narrow) := goodIn_app (goodIn_of _ (by decide +kernel)) ggX2_findColumns_X2_narrow
set_option maxRecDepth 20000 in
theorem ggX2_narrow_J9_floorDiv_7cf53 : GoodIn wsX2_narrow wsJ9_floorDiv_7cf53 := goodIn_r _ [13] (by decide +kernel) (by decide +kernel)
set_option maxRecDepth 20000 in
theorem gX2_narrow_J9_floorDiv_7cf53 : GoodIn wsX2_narrow (va_wsS RX2 77 yJ9_floorDiv_7cf53 wsJ9_floorDiv_7cf53) := goodIn_app (goodIn_of _ (by decide +kernel)) ggX2_narrow_J9_floorDiv_7cf53
set_option maxRecDepth 20000 in
theorem ggX2_findEnds_J9_floorDiv_7cf53 : GoodIn wsX2_findEnds wsJ9_floorDiv_7cf53 := goodIn_r _ [19] (by decide +kernel) (by decide +kernel)
set_option maxRecDepth 20000 in
theorem gX2_findEnds_J9_floorDiv_7cf53 : GoodIn wsX2_findEnds (va_wsS RX2 77 yJ9_floorDiv_7cf53 wsJ9_floorDiv_7cf53) := goodIn_app (goodIn_of _ (by decide +kernel)) ggX2_findEnds_J9_floorDiv_7cf53
set_option maxRecDepth 20000 in
theorem ggX3_appendCut_X3_has : GoodIn wsX3_appendCut wsX3_has := goodIn_r _ [13, 14, 26, 27, 28, 29, 30] (by decide +kernel) (by decide +kernel)
set_option maxRecDepth 20000 in
theorem gX3_appendCut_X3_has : GoodIn wsX3_appendCut (wsV RX3 28 RX3 yX3_has wsX3_has) := goodIn_app (goodIn_of _ (by decide +kernel)) ggX3_appendCut_X3_has
set_option maxRecDepth 20000 in
theorem ggX3_appendCut_J9_floorDiv_7cf53 : GoodIn wsX3_appendCut wsJ9_floorDiv_7cf53 := goodIn_r _ [18] (by decide +kernel) (by decide +kernel)
set_option maxRecDepth 20000 in
theorem gX3_appendCut_J9_floorDiv_7cf53 : GoodIn wsX3_appendCut (va_wsS RX3 32 yJ9_floorDiv_7cf53 wsJ9_floorDiv_7cf53) := goodIn_app (goodIn_of _ (by decide +kernel)) ggX3_appendCut_J9_floorDiv_7cf53
set_option maxRecDepth 20000 in
theorem ggX3_appendCut_X3_isFactor : GoodIn wsX3_appendCut wsX3_isFactor := goodIn_r _ [21] (by decide +kernel) (by decide +kernel)
set_option maxRecDepth 20000 in
theorem gX3_appendCut_X3_isFactor : GoodIn wsX3_appendCut (va_wsS RX3 38 yX3_isFactor wsX3_isFactor) := goodIn_app (goodIn_of _ (by decide +kernel)) ggX3_appendCut_X3_isFactor
set_option maxRecDepth 20000 in
theorem ggX3_appendCut_X3_append : GoodIn wsX3_appendCut wsX3_append := goodIn_r _ [25, 14, 2, 3, 4, 1, 26, 27, 28, 29, 30] (by decide +kernel) (by decide +kernel)
set_option maxRecDepth 20000 in
theorem gX3_appendCut_X3_append : GoodIn wsX3_appendCut (wsV RX3 45 RX3 yX3_append wsX3_append) := goodIn_app (goodIn_of _ (by decide +kernel)) ggX3_appendCut_X3_append
set_option maxRecDepth 20000 in
theorem ggX3_part_X3_has : GoodIn wsX3_part wsX3_has := goodIn_r _ [9, 10, 11, 12, 13, 14, 15] (by decide +kernel) (by decide +kernel)
set_option maxRecDepth 20000 in
theorem gX3_part_X3_has : GoodIn wsX3_part (wsV RX3 28 RX3 yX3_has wsX3_has) := goodIn_app (goodIn_of _ (by decide +kernel)) ggX3_part_X3_has
set_option maxRecDepth 20000 in
theorem ggX3_slide_X3_isFactor : GoodIn wsX3_slide wsX3_isFactor := goodIn_r _ [7] (by decide +kernel) (by decide +kernel)
set_option maxRecDepth 20000 in
theorem gX3_slide_X3_isFactor : GoodIn wsX3_slide (va_wsS RX3 38 yX3_isFactor wsX3_isFactor) := goodIn_app (goodIn_of _ (by decide +kernel)) ggX3_slide_X3_isFactor
set_option maxRecDepth 20000 in
theorem ggX3_isClosed_X3_isEndless : GoodIn wsX3_isClosed wsX3_isEndless := goodIn_r _ [8, 1, 3, 2, 9, 10, 11, 12, 13] (by decide +kernel) (by decide +kernel)
set_option maxRecDepth 20000 in
theorem gX3_isClosed_X3_isEndless : GoodIn wsX3_isClosed (wsV RX3 49 RX3 yX3_isEndless wsX3_isEndless) := goodIn_app (goodIn_of _ (by decide +kernel)) ggX3_isClosed_X3_isEndless
