set_option maxRecDepth 20000 in
theorem gL_law_X4_coin : GoodIn wsL_law (wsV RL 111 RX4 yX4_coin wsX4_coin) := goodIn_app (goodIn_of _ (by decide +kernel)) ggL_law_X4_coin
set_option maxRecDepth 20000 in
theorem ggL_law_L_areCoins : GoodIn wsL_law wsL_areCoins := goodIn_ca (goodIn_ca (goodIn_ca (goodIn_r _ [345, 346, 347, 51, 348, 157, 349, 350, 351, 2, 352, 75, 76, 25, 241, 242, 243, 353, 354, 355, 356, 62, 63, 357, 358, 359, 24, 360, 361, 324, 325, 326, 327, 259, 260, 261, 174, 123, 175, 362, 363, 364, 365, 366, 367, 368, 369, 370, 77, 78, 79, 69, 70, 371, 372, 373, 374, 47, 375, 376, 377, 378, 379, 380, 381, 382, 48, 383, 122, 124, 384, 385, 386, 387, 388, 389, 390, 391, 392, 393, 394, 395, 396, 397, 398, 140, 399, 406, 407, 408, 409, 410, 435, 436, 437, 438] (by decide +kernel) (by decide +kernel)) (goodIn_sub (fun _ h => List.mem_append_right _ h) (by decide +kernel))) (goodIn_sub (fun _ h => List.mem_append_left _ (List.mem_append_left _ (List.mem_append_right _ h))) (by decide +kernel))) (goodIn_sub (fun _ h => List.mem_append_left _ (List.mem_append_right _ h)) (by decide +kernel))
set_option maxRecDepth 20000 in
theorem gL_law_L_areCoins : GoodIn wsL_law (va_wsS RL 114 yL_areCoins wsL_areCoins) := goodIn_app (goodIn_of _ (by decide +kernel)) ggL_law_L_areCoins
set_option maxRecDepth 20000 in
theorem ggL_law_X4_tables : GoodIn wsL_law wsX4_tables := goodIn_ca (goodIn_r _ [403, 404, 136, 123, 137, 405, 122, 124, 77, 78, 2, 79, 69, 70] (by decide +kernel) (by decide +kernel)) (goodIn_sub (fun _ h => List.mem_append_left _ (List.mem_append_right _ h)) (by decide +kernel))
set_option maxRecDepth 20000 in
theorem gL_law_X4_tables : GoodIn wsL_law (wsV RL 118 RX4 yX4_tables wsX4_tables) := goodIn_app (goodIn_of _ (by decide +kernel)) ggL_law_X4_tables
