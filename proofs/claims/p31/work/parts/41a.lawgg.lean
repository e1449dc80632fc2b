set_option maxRecDepth 20000 in
theorem ggL_law_X5_init : GoodIn wsL_law wsX5_init := goodIn_r _ [7, 8, 9, 10, 11, 12, 13, 14, 15, 16, 17, 18, 19, 20, 21, 22, 23, 24, 25, 26, 27, 28, 29, 30, 31, 32, 33, 34, 35, 36, 37, 38, 39, 40, 41, 42, 43, 44, 45, 46, 47, 48, 49, 50, 51, 52, 53, 54, 55, 56, 57, 58, 59, 60, 61, 62, 63, 64, 65, 66, 67, 68, 69, 70, 71, 72, 73, 74, 75, 76, 77, 446, 447, 448, 449, 450, 451, 452, 453, 439, 440, 441, 442, 443, 444, 445, 454, 455, 456, 457, 458, 459, 460, 461, 462, 463, 464, 465, 466, 467, 468, 469, 470, 471, 472, 473, 474, 475, 476, 477, 478, 479, 480, 481] (by decide +kernel) (by decide +kernel)
set_option maxRecDepth 20000 in
theorem gL_law_X5_init : GoodIn wsL_law (wsX5_init) := ggL_law_X5_init
set_option maxRecDepth 20000 in
theorem ggL_law_L_undoes : GoodIn wsL_law wsL_undoes := goodIn_ca (goodIn_r _ [81, 82, 3, 83, 84, 85, 2, 86, 87, 88, 26, 89, 14, 31, 32, 90, 91, 92, 25, 93, 94, 70, 95, 96, 97, 13, 98, 99, 100, 101, 37, 102, 103, 104, 105, 38, 39, 40, 41, 439, 440, 441, 442, 443, 444, 445, 472, 473, 446, 447, 448, 449, 450, 451, 452, 453] (by decide +kernel) (by decide +kernel)) (goodIn_sub (fun _ h => List.mem_append_left _ (List.mem_append_left _ (List.mem_append_right _ h))) (by decide +kernel))
set_option maxRecDepth 20000 in
theorem gL_law_L_undoes : GoodIn wsL_law (va_wsS RL 80 yL_undoes wsL_undoes) := goodIn_app (goodIn_of _ (by decide +kernel)) ggL_law_L_undoes
set_option maxRecDepth 20000 in
theorem ggL_law_X5_whole : GoodIn wsL_law wsX5_whole := goodIn_ca (goodIn_r _ [109, 110, 111, 112, 113, 114, 2, 115, 14, 116, 18, 117, 118, 119, 120, 121, 22, 122, 123, 30, 124, 125, 126, 127, 128, 31, 129, 130, 131, 17, 132, 133, 134, 135, 54, 136, 137, 138, 139, 140, 47, 55, 141, 46, 142, 143, 144, 145, 146, 48, 49, 51, 53, 147, 148, 149, 50, 150, 151, 152, 153, 154, 155, 156, 157, 158, 159, 160, 161, 32, 162, 163, 164, 21, 165, 166, 63, 167, 168, 169, 170, 171, 172, 62, 173, 174, 175, 176, 60, 64, 177, 61, 178, 179, 180, 181, 182, 183, 184, 185, 186, 187, 188, 189, 190, 191, 192, 193, 194, 195, 196, 197, 198, 199, 200, 201, 202, 203, 204, 205, 206, 207, 208, 209, 210, 211, 212, 213, 214, 439, 440, 441, 442, 443, 444, 445, 446, 447, 448, 449, 450, 451, 452, 453, 454, 455, 456, 457, 458, 459, 460, 461, 462, 463, 464, 465, 466, 467, 468, 469, 470, 471, 474, 475, 476, 477, 478, 479, 480, 481] (by decide +kernel) (by decide +kernel)) (goodIn_sub (fun _ h => List.mem_append_left _ (List.mem_append_right _ h)) (by decide +kernel))
set_option maxRecDepth 20000 in
theorem gL_law_X5_whole : GoodIn wsL_law (wsV RL 49 RX5 yX5_whole wsX5_whole) := goodIn_app (goodIn_of _ (by decide +kernel)) ggL_law_X5_whole
set_option maxRecDepth 20000 in
theorem ggL_law_L_cell : GoodIn wsL_law wsL_cell := goodIn_r _ [217, 218] (by decide +kernel) (by decide +kernel)
set_option maxRecDepth 20000 in
theorem gL_law_L_cell : GoodIn wsL_law (va_wsS RL 84 yL_cell wsL_cell) := goodIn_app (goodIn_of _ (by decide +kernel)) ggL_law_L_cell
