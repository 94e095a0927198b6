set_option maxRecDepth 20000 in
theorem ggL_law_X5_best : GoodIn wsL_law wsX5_best := goodIn_r _ [364, 87, 299, 300, 301, 316, 317, 121, 122, 5, 123, 124, 125, 126, 127, 86, 231, 232, 233, 234, 56, 58, 57, 235, 236, 237, 238, 302, 303, 304, 305, 306, 61, 62, 63, 59, 60, 307, 308, 309, 310, 311, 171, 172, 173, 312, 313, 314, 315, 610, 611, 612, 613, 614, 615, 616, 617, 618, 619, 620, 621, 622, 623, 624, 625, 626, 627, 628, 629, 630, 631, 632] (by decide +kernel) (by decide +kernel)
set_option maxRecDepth 20000 in
theorem gL_law_X5_best : GoodIn wsL_law (wsV RL 126 RX5 yX5_best wsX5_best) := goodIn_app (goodIn_of _ (by decide +kernel)) ggL_law_X5_best
set_option maxRecDepth 20000 in
theorem ggL_law_L_index : GoodIn wsL_law wsL_index := goodIn_ca (goodIn_r _ [367, 96, 368, 369, 370, 2, 371, 24, 372, 373, 374, 375, 101, 102, 109, 110, 111, 376, 377, 378, 23, 379, 380, 381, 382, 383, 384, 385, 151, 152, 153, 386, 387, 388, 389, 605, 606, 607, 608, 609, 648, 649, 650, 651, 652, 653, 654, 655, 656] (by decide +kernel) (by decide +kernel)) (goodIn_sub (fun _ h => List.mem_append_left _ (List.mem_append_right _ h)) (by decide +kernel))
set_option maxRecDepth 20000 in
theorem gL_law_L_index : GoodIn wsL_law (va_wsS RL 127 yL_index wsL_index) := goodIn_app (goodIn_of _ (by decide +kernel)) ggL_law_L_index
set_option maxRecDepth 20000 in
theorem ggL_law_X5_index : GoodIn wsL_law wsX5_index := goodIn_r _ [393, 87, 394, 395, 5, 396, 121, 122, 123, 397, 398, 399, 610, 611, 612, 613, 614, 615, 616, 617, 618, 619, 620, 621, 622, 623, 624, 625, 626, 627, 628, 629, 630, 631, 632] (by decide +kernel) (by decide +kernel)
set_option maxRecDepth 20000 in
theorem gL_law_X5_index : GoodIn wsL_law (wsV RL 130 RX5 yX5_index wsX5_index) := goodIn_app (goodIn_of _ (by decide +kernel)) ggL_law_X5_index
set_option maxRecDepth 20000 in
theorem ggL_law_L_generator : GoodIn wsL_law wsL_generator := goodIn_ca (goodIn_ca (goodIn_r _ [402, 95, 96, 403, 404, 405, 2, 406, 24, 407, 408, 409, 107, 108, 372, 373, 374, 375, 101, 102, 109, 110, 111, 376, 377, 378, 23, 379, 380, 381, 382, 383, 384, 385, 151, 152, 153, 386, 387, 388, 389, 410, 411, 412, 413, 414, 46, 415, 416, 417, 418, 419, 267, 268, 420, 280, 281, 421, 422, 423, 424, 425, 426, 427, 428, 429, 430, 431, 432, 433, 434, 435, 436, 437, 438, 439, 440, 441, 442, 605, 606, 607, 608, 609, 648, 649, 650, 651, 652, 653, 654, 655, 656] (by decide +kernel) (by decide +kernel)) (goodIn_sub (fun _ h => List.mem_append_right _ h) (by decide +kernel))) (goodIn_sub (fun _ h => List.mem_append_left _ (List.mem_append_right _ h)) (by decide +kernel))
set_option maxRecDepth 20000 in
theorem gL_law_L_generator : GoodIn wsL_law (va_wsS RL 131 yL_generator wsL_generator) := goodIn_app (goodIn_of _ (by decide +kernel)) ggL_law_L_generator
set_option maxRecDepth 20000 in
theorem ggL_law_X5_generator : GoodIn wsL_law wsX5_generator := goodIn_r _ [446, 447, 448, 449, 5, 450, 451, 87, 68, 69, 394, 395, 396, 121, 122, 123, 452, 453, 454, 455, 397, 398, 399, 610, 611, 612, 613, 614, 615, 616, 617, 618, 619, 620, 621, 622, 623, 624, 625, 626, 627, 628, 629, 630, 631, 632] (by decide +kernel) (by decide +kernel)
set_option maxRecDepth 20000 in
theorem gL_law_X5_generator : GoodIn wsL_law (wsV RL 134 RX5 yX5_generator wsX5_generator) := goodIn_app (goodIn_of _ (by decide +kernel)) ggL_law_X5_generator
set_option maxRecDepth 20000 in
theorem ggL_law_L_generatorAnew : GoodIn wsL_law wsL_generatorAnew := goodIn_ca (goodIn_ca (goodIn_r _ [458, 95, 96, 459, 460, 461, 2, 462, 24, 407, 408, 409, 107, 108, 372, 373, 374, 375, 101, 102, 109, 110, 111, 376, 377, 378, 23, 379, 380, 381, 382, 383, 384, 385, 151, 152, 153, 386, 387, 388, 389, 463, 464, 465, 466, 437, 438, 467, 468, 469, 470, 471, 472, 473, 474, 425, 426, 427, 428, 475, 156, 157, 158, 439, 440, 441, 442, 605, 606, 607, 608, 609, 648, 649, 650, 651, 652, 653, 654, 655, 656] (by decide +kernel) (by decide +kernel)) (goodIn_sub (fun _ h => List.mem_append_right _ h) (by decide +kernel))) (goodIn_sub (fun _ h => List.mem_append_left _ (List.mem_append_right _ h)) (by decide +kernel))
set_option maxRecDepth 20000 in
theorem gL_law_L_generatorAnew : GoodIn wsL_law (va_wsS RL 135 yL_generatorAnew wsL_generatorAnew) := goodIn_app (goodIn_of _ (by decide +kernel)) ggL_law_L_generatorAnew
set_option maxRecDepth 20000 in
theorem ggL_law_X5_generatorAnew : GoodIn wsL_law wsX5_generatorAnew := goodIn_r _ [479, 447, 448, 449, 5, 450, 451, 87, 68, 69, 394, 395, 396, 121, 122, 123, 452, 453, 454, 455, 397, 398, 399, 610, 611, 612, 613, 614, 615, 616, 617, 618, 619, 620, 621, 622, 623, 624, 625, 626, 627, 628, 629, 630, 631, 632] (by decide +kernel) (by decide +kernel)
set_option maxRecDepth 20000 in
theorem gL_law_X5_generatorAnew : GoodIn wsL_law (wsV RL 137 RX5 yX5_generatorAnew wsX5_generatorAnew) := goodIn_app (goodIn_of _ (by decide +kernel)) ggL_law_X5_generatorAnew
set_option maxRecDepth 20000 in
theorem ggL_law_L_coin : GoodIn wsL_law wsL_coin := goodIn_ca (goodIn_ca (goodIn_r _ [482, 96, 74, 483, 484, 485, 2, 486, 79, 80, 28, 109, 110, 111, 101, 102, 487, 488, 489, 27, 490, 491, 492, 493, 494, 495, 496, 497, 498, 499, 500, 501, 502, 503, 504, 505, 506, 605, 606, 607, 608, 609, 657, 658, 659, 660] (by decide +kernel) (by decide +kernel)) (goodIn_sub (fun _ h => List.mem_append_left _ (List.mem_append_left _ (List.mem_append_right _ h))) (by decide +kernel))) (goodIn_sub (fun _ h => List.mem_append_left _ (List.mem_append_right _ h)) (by decide +kernel))
set_option maxRecDepth 20000 in
theorem gL_law_L_coin : GoodIn wsL_law (va_wsS RL 138 yL_coin wsL_coin) := goodIn_app (goodIn_of _ (by decide +kernel)) ggL_law_L_coin
set_option maxRecDepth 20000 in
theorem ggL_law_X5_coin : GoodIn wsL_law wsX5_coin := goodIn_r _ [510, 65, 511, 87, 121, 122, 5, 123, 610, 611, 612, 613, 614, 615, 616, 617, 618, 619, 620, 621, 622, 623, 624, 625, 626, 627, 628, 629, 630, 631, 632] (by decide +kernel) (by decide +kernel)
set_option maxRecDepth 20000 in
theorem gL_law_X5_coin : GoodIn wsL_law (wsV RL 140 RX5 yX5_coin wsX5_coin) := goodIn_app (goodIn_of _ (by decide +kernel)) ggL_law_X5_coin
set_option maxRecDepth 20000 in
theorem ggL_law_L_ways : GoodIn wsL_law wsL_ways := goodIn_ca (goodIn_r _ [514, 96, 515, 516, 517, 2, 518, 28, 109, 110, 111, 101, 102, 519, 520, 521, 27, 522, 50, 523, 488, 489, 490, 491, 605, 606, 607, 608, 609, 657, 658, 659, 660] (by decide +kernel) (by decide +kernel)) (goodIn_sub (fun _ h => List.mem_append_left _ (List.mem_append_right _ h)) (by decide +kernel))
set_option maxRecDepth 20000 in
theorem gL_law_L_ways : GoodIn wsL_law (va_wsS RL 141 yL_ways wsL_ways) := goodIn_app (goodIn_of _ (by decide +kernel)) ggL_law_L_ways
