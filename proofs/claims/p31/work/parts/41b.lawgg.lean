set_option maxRecDepth 20000 in
theorem ggL_law_L_conditions : GoodIn wsL_law wsL_conditions := goodIn_ca (goodIn_ca (goodIn_r _ [221, 222, 82, 3, 4, 223, 224, 225, 2, 226, 110, 111, 87, 88, 14, 116, 227, 228, 229, 230, 231, 232, 233, 26, 31, 32, 234, 235, 236, 25, 237, 94, 70, 238, 239, 240, 241, 95, 96, 97, 13, 98, 99, 100, 101, 37, 102, 103, 104, 105, 38, 39, 40, 41, 242, 243, 244, 245, 246, 247, 248, 249, 439, 440, 441, 442, 443, 444, 445, 446, 447, 448, 449, 450, 451, 452, 453, 472, 473] (by decide +kernel) (by decide +kernel)) (goodIn_sub (fun _ h => List.mem_append_left _ (List.mem_append_right _ h)) (by decide +kernel))) (goodIn_sub (fun _ h => List.mem_append_left _ (List.mem_append_left _ (List.mem_append_right _ h))) (by decide +kernel))
set_option maxRecDepth 20000 in
theorem gL_law_L_conditions : GoodIn wsL_law (va_wsS RL 88 yL_conditions wsL_conditions) := goodIn_app (goodIn_of _ (by decide +kernel)) ggL_law_L_conditions
set_option maxRecDepth 20000 in
theorem ggL_law_X5_rowAt : GoodIn wsL_law wsX5_rowAt := goodIn_ca (goodIn_r _ [253, 110, 111, 14, 118, 254, 439, 440, 441, 442, 443, 444, 445, 446, 447, 448, 449, 450, 451, 452, 453] (by decide +kernel) (by decide +kernel)) (goodIn_sub (fun _ h => List.mem_append_left _ (List.mem_append_right _ h)) (by decide +kernel))
set_option maxRecDepth 20000 in
theorem gL_law_X5_rowAt : GoodIn wsL_law (wsV RL 58 RX5 yX5_rowAt wsX5_rowAt) := goodIn_app (goodIn_of _ (by decide +kernel)) ggL_law_X5_rowAt
set_option maxRecDepth 20000 in
theorem ggL_law_L_drops : GoodIn wsL_law wsL_drops := goodIn_ca (goodIn_r _ [257, 258, 3, 259, 260, 261, 2, 262, 263, 264, 14, 265, 266, 267, 13, 268, 101, 39, 230, 231, 232, 233, 26, 31, 32, 234, 235, 236, 25, 237, 94, 70, 238, 239, 240, 241, 95, 96, 97, 98, 99, 100, 37, 102, 103, 104, 105, 38, 40, 41, 269, 270, 271, 272, 273, 274, 275, 276, 439, 440, 441, 442, 443, 444, 445, 446, 447, 448, 449, 450, 451, 452, 453, 472, 473] (by decide +kernel) (by decide +kernel)) (goodIn_sub (fun _ h => List.mem_append_right _ h) (by decide +kernel))
set_option maxRecDepth 20000 in
theorem gL_law_L_drops : GoodIn wsL_law (va_wsS RL 92 yL_drops wsL_drops) := goodIn_app (goodIn_of _ (by decide +kernel)) ggL_law_L_drops
set_option maxRecDepth 20000 in
theorem ggL_law_L_ups : GoodIn wsL_law wsL_ups := goodIn_ca (goodIn_ca (goodIn_r _ [279, 258, 82, 3, 4, 280, 281, 282, 2, 283, 263, 264, 87, 88, 14, 265, 266, 267, 13, 268, 101, 39, 230, 231, 232, 233, 26, 31, 32, 234, 235, 236, 25, 237, 94, 70, 238, 239, 240, 241, 95, 96, 97, 98, 99, 100, 37, 102, 103, 104, 105, 38, 40, 41, 284, 285, 286, 287, 273, 274, 275, 276, 439, 440, 441, 442, 443, 444, 445, 446, 447, 448, 449, 450, 451, 452, 453, 472, 473] (by decide +kernel) (by decide +kernel)) (goodIn_sub (fun _ h => List.mem_append_right _ h) (by decide +kernel))) (goodIn_sub (fun _ h => List.mem_append_left _ (List.mem_append_left _ (List.mem_append_right _ h))) (by decide +kernel))
set_option maxRecDepth 20000 in
theorem gL_law_L_ups : GoodIn wsL_law (va_wsS RL 96 yL_ups wsL_ups) := goodIn_app (goodIn_of _ (by decide +kernel)) ggL_law_L_ups
