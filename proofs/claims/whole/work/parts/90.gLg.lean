set_option maxRecDepth 20000 in
theorem ggL_law_X5_ways : GoodIn wsL_law wsX5_ways := goodIn_r _ [527, 87, 66, 65, 121, 122, 5, 123, 610, 611, 612, 613, 614, 615, 616, 617, 618, 619, 620, 621, 622, 623, 624, 625, 626, 627, 628, 629, 630, 631, 632] (by decide +kernel) (by decide +kernel)
set_option maxRecDepth 20000 in
theorem gL_law_X5_ways : GoodIn wsL_law (wsV RL 143 RX5 yX5_ways wsX5_ways) := goodIn_app (goodIn_of _ (by decide +kernel)) ggL_law_X5_ways
set_option maxRecDepth 20000 in
theorem ggL_law_L_gap : GoodIn wsL_law wsL_gap := goodIn_ca (goodIn_ca (goodIn_r _ [530, 95, 74, 531, 532, 533, 2, 534, 107, 108, 28, 407, 408, 409, 535, 536, 537, 538, 79, 80, 539, 540, 541, 27, 542, 523, 488, 489, 490, 491, 387, 388, 389, 151, 152, 153, 543, 544, 545, 546, 547, 605, 606, 607, 608, 609, 657, 658, 659, 660] (by decide +kernel) (by decide +kernel)) (goodIn_sub (fun _ h => List.mem_append_right _ h) (by decide +kernel))) (goodIn_sub (fun _ h => List.mem_append_left _ (List.mem_append_left _ (List.mem_append_right _ h))) (by decide +kernel))
set_option maxRecDepth 20000 in
theorem gL_law_L_gap : GoodIn wsL_law (va_wsS RL 144 yL_gap wsL_gap) := goodIn_app (goodIn_of _ (by decide +kernel)) ggL_law_L_gap
set_option maxRecDepth 20000 in
theorem ggL_law_X5_gap : GoodIn wsL_law wsX5_gap := goodIn_r _ [551, 87, 67, 552, 553, 554, 5, 555, 65, 397, 398, 399, 556, 557, 558, 559, 610, 611, 612, 613, 614, 615, 616, 617, 618, 619, 620, 621, 622, 623, 624, 625, 626, 627, 628, 629, 630, 631, 632] (by decide +kernel) (by decide +kernel)
set_option maxRecDepth 20000 in
theorem gL_law_X5_gap : GoodIn wsL_law (wsV RL 146 RX5 yX5_gap wsX5_gap) := goodIn_app (goodIn_of _ (by decide +kernel)) ggL_law_X5_gap
set_option maxRecDepth 20000 in
theorem ggL_law_L_greatestGap : GoodIn wsL_law wsL_greatestGap := goodIn_ca (goodIn_r _ [562, 74, 563, 564, 565, 2, 566, 28, 535, 536, 537, 538, 79, 80, 539, 540, 541, 27, 542, 523, 488, 489, 490, 491, 387, 388, 389, 151, 152, 153, 567, 568, 569, 570, 51, 571, 267, 268, 572, 573, 574, 575, 576, 577, 578, 579, 580, 581, 582, 583, 584, 585, 586, 157, 587, 605, 606, 607, 608, 609, 657, 658, 659, 660] (by decide +kernel) (by decide +kernel)) (goodIn_sub (fun _ h => List.mem_append_left _ (List.mem_append_left _ (List.mem_append_right _ h))) (by decide +kernel))
set_option maxRecDepth 20000 in
theorem gL_law_L_greatestGap : GoodIn wsL_law (va_wsS RL 147 yL_greatestGap wsL_greatestGap) := goodIn_app (goodIn_of _ (by decide +kernel)) ggL_law_L_greatestGap
set_option maxRecDepth 20000 in
theorem ggL_law_X5_greatestGap : GoodIn wsL_law wsX5_greatestGap := goodIn_r _ [591, 87, 67, 552, 553, 554, 5, 555, 65, 397, 398, 399, 556, 557, 558, 559, 610, 611, 612, 613, 614, 615, 616, 617, 618, 619, 620, 621, 622, 623, 624, 625, 626, 627, 628, 629, 630, 631, 632] (by decide +kernel) (by decide +kernel)
set_option maxRecDepth 20000 in
theorem gL_law_X5_greatestGap : GoodIn wsL_law (wsV RL 149 RX5 yX5_greatestGap wsX5_greatestGap) := goodIn_app (goodIn_of _ (by decide +kernel)) ggL_law_X5_greatestGap
set_option maxRecDepth 20000 in
theorem ggL_law_L_tables : GoodIn wsL_law wsL_tables := goodIn_ca (goodIn_r _ [594, 96, 595, 596, 597, 2, 598, 599, 280, 152, 281, 600, 267, 268, 109, 110, 111, 101, 102] (by decide +kernel) (by decide +kernel)) (goodIn_sub (fun _ h => List.mem_append_left _ (List.mem_append_right _ h)) (by decide +kernel))
set_option maxRecDepth 20000 in
theorem gL_law_L_tables : GoodIn wsL_law (va_wsS RL 150 yL_tables wsL_tables) := goodIn_app (goodIn_of _ (by decide +kernel)) ggL_law_L_tables
set_option maxRecDepth 20000 in
theorem ggL_law_X5_tables : GoodIn wsL_law wsX5_tables := goodIn_r _ [604, 87, 121, 122, 5, 123, 610, 611, 612, 613, 614, 615, 616, 617, 618, 619, 620, 621, 622, 623, 624, 625, 626, 627, 628, 629, 630, 631, 632] (by decide +kernel) (by decide +kernel)
set_option maxRecDepth 20000 in
theorem gL_law_X5_tables : GoodIn wsL_law (wsV RL 152 RX5 yX5_tables wsX5_tables) := goodIn_app (goodIn_of _ (by decide +kernel)) ggL_law_X5_tables
