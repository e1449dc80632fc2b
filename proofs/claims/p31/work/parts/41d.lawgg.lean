set_option maxRecDepth 20000 in
theorem ggL_law_X5_answers : GoodIn wsL_law wsX5_answers := goodIn_ca (goodIn_r _ [339, 263, 264, 14, 265, 266, 267, 13, 268, 101, 39, 322, 323, 324, 2, 325, 116, 340, 314, 315, 316, 40, 439, 440, 441, 442, 443, 444, 445, 446, 447, 448, 449, 450, 451, 452, 453] (by decide +kernel) (by decide +kernel)) (goodIn_sub (fun _ h => List.mem_append_right _ h) (by decide +kernel))
set_option maxRecDepth 20000 in
theorem gL_law_X5_answers : GoodIn wsL_law (wsV RL 61 RX5 yX5_answers wsX5_answers) := goodIn_app (goodIn_of _ (by decide +kernel)) ggL_law_X5_answers
set_option maxRecDepth 20000 in
theorem ggL_law_L_sets : GoodIn wsL_law wsL_sets := goodIn_ca (goodIn_ca (goodIn_r _ [343, 258, 222, 3, 4, 344, 345, 346, 2, 347, 263, 264, 110, 111, 14, 265, 266, 267, 13, 268, 101, 39, 322, 323, 324, 325, 116, 348, 349, 350, 351, 246, 247, 248, 249, 37, 230, 231, 232, 233, 26, 31, 32, 234, 235, 236, 25, 237, 94, 70, 238, 239, 240, 241, 95, 96, 97, 98, 99, 100, 102, 103, 104, 105, 38, 40, 41, 352, 353, 354, 355, 313, 314, 315, 316, 439, 440, 441, 442, 443, 444, 445, 446, 447, 448, 449, 450, 451, 452, 453, 472, 473] (by decide +kernel) (by decide +kernel)) (goodIn_sub (fun _ h => List.mem_append_right _ h) (by decide +kernel))) (goodIn_sub (fun _ h => List.mem_append_left _ (List.mem_append_right _ h)) (by decide +kernel))
set_option maxRecDepth 20000 in
theorem gL_law_L_sets : GoodIn wsL_law (va_wsS RL 102 yL_sets wsL_sets) := goodIn_app (goodIn_of _ (by decide +kernel)) ggL_law_L_sets
set_option maxRecDepth 20000 in
theorem ggL_law_L_costs : GoodIn wsL_law wsL_costs := goodIn_ca (goodIn_ca (goodIn_r _ [358, 258, 222, 3, 4, 359, 360, 361, 2, 362, 263, 264, 110, 111, 14, 331, 322, 323, 324, 325, 116, 227, 228, 229, 230, 231, 232, 233, 26, 31, 32, 234, 235, 236, 25, 237, 94, 70, 238, 239, 240, 241, 95, 96, 97, 13, 98, 99, 100, 101, 37, 102, 103, 104, 105, 38, 39, 40, 41, 439, 440, 441, 442, 443, 444, 445, 446, 447, 448, 449, 450, 451, 452, 453, 472, 473] (by decide +kernel) (by decide +kernel)) (goodIn_sub (fun _ h => List.mem_append_right _ h) (by decide +kernel))) (goodIn_sub (fun _ h => List.mem_append_left _ (List.mem_append_right _ h)) (by decide +kernel))
set_option maxRecDepth 20000 in
theorem gL_law_L_costs : GoodIn wsL_law (va_wsS RL 106 yL_costs wsL_costs) := goodIn_app (goodIn_of _ (by decide +kernel)) ggL_law_L_costs
