set_option maxRecDepth 20000 in
theorem hh_holds1 : GoodIn wsL_law ((.code yL_holds cL_holds 13 (some .boolean)) :: wsL_holds_r1) := goodIn_r _ [419, 106, 107, 108, 2, 109, 110, 111, 112, 113, 114, 115, 14, 116, 18, 117, 118, 119, 120, 121, 22, 122, 123, 30, 124] (by decide +kernel) (by decide +kernel)
set_option maxRecDepth 20000 in
theorem hh_holds2 : GoodIn wsL_law wsL_holds_r2 := goodIn_r _ [125, 126, 127, 128, 31, 129, 130, 131, 17, 132, 133, 134, 135, 54, 136, 137, 138, 139, 140, 47, 55, 141, 46, 142] (by decide +kernel) (by decide +kernel)
set_option maxRecDepth 20000 in
theorem hh_holds3 : GoodIn wsL_law wsL_holds_r3 := goodIn_r _ [143, 144, 145, 146, 48, 49, 51, 53, 147, 148, 149, 50, 150, 151, 152, 153, 154, 155, 156, 157, 158, 159, 160, 161] (by decide +kernel) (by decide +kernel)
set_option maxRecDepth 20000 in
theorem hh_holds4 : GoodIn wsL_law wsL_holds_r4 := goodIn_r _ [32, 162, 163, 164, 21, 165, 166, 63, 167, 168, 169, 170, 171, 172, 62, 173, 174, 175, 176, 60, 64, 177, 61, 178] (by decide +kernel) (by decide +kernel)
set_option maxRecDepth 20000 in
theorem hh_holds5 : GoodIn wsL_law wsL_holds_r5 := goodIn_r _ [179, 180, 181, 182, 183, 184, 185, 186, 187, 188, 189, 190, 191, 192, 193, 194, 195, 196, 197, 198, 199, 200, 201, 202] (by decide +kernel) (by decide +kernel)
set_option maxRecDepth 20000 in
theorem hh_holds6 : GoodIn wsL_law wsL_holds_r6 := goodIn_r _ [203, 204, 205, 206, 207, 208, 209, 210, 211, 212, 213, 214, 318, 319, 320, 321, 263, 264, 322, 323, 324, 325, 326, 327] (by decide +kernel) (by decide +kernel)
set_option maxRecDepth 20000 in
theorem hh_holds7 : GoodIn wsL_law wsL_holds_r7 := goodIn_r _ [328, 329, 330, 331, 332, 333, 334, 335, 250, 251, 252, 253, 254, 299, 300, 301, 302, 265, 266, 267, 13, 268, 101, 39] (by decide +kernel) (by decide +kernel)
set_option maxRecDepth 20000 in
theorem hh_holds8 : GoodIn wsL_law wsL_holds_r8 := goodIn_r _ [303, 304, 305, 306, 295, 307, 308, 309, 310, 311, 312, 99, 313, 314, 315, 316, 40, 317, 420, 421, 422, 423, 424, 425] (by decide +kernel) (by decide +kernel)
set_option maxRecDepth 20000 in
theorem hh_holds9 : GoodIn wsL_law wsL_holds_r9 := goodIn_r _ [426, 427, 381, 382, 383, 384, 370, 371, 372, 373, 385, 386, 387, 388, 389, 390, 391, 392, 393, 394, 395, 396, 397, 428] (by decide +kernel) (by decide +kernel)
set_option maxRecDepth 20000 in
theorem hh_holds10 : GoodIn wsL_law wsL_holds_r10 := goodIn_r _ [429, 430, 431, 432, 433, 434, 435] (by decide +kernel) (by decide +kernel)
set_option maxRecDepth 20000 in
theorem ggL_law_L_holds : GoodIn wsL_law wsL_holds := goodIn_ca (goodIn_ca (goodIn_ca (goodIn_ca (goodIn_ca (goodIn_ca (goodIn_ca (goodIn_ca hh_holds1 (goodIn_app hh_holds2 (goodIn_app hh_holds3 (goodIn_app hh_holds4 (goodIn_app hh_holds5 (goodIn_app hh_holds6 (goodIn_app hh_holds7 (goodIn_app hh_holds8 (goodIn_app hh_holds9 hh_holds10))))))))) (goodIn_sub inlX5 (by decide +kernel))) (goodIn_sub inlX4 (by decide +kernel))) (goodIn_sub inlX0 (by decide +kernel))) (goodIn_sub inlX2 (by decide +kernel))) (goodIn_sub inlX3 (by decide +kernel))) (goodIn_sub (fun _ h => List.mem_append_left _ (List.mem_append_right _ h)) (by decide +kernel))) (goodIn_sub (fun _ h => List.mem_append_right _ h) (by decide +kernel))
set_option maxRecDepth 20000 in
theorem gL_law_L_holds : GoodIn wsL_law (va_wsS RL 119 yL_holds wsL_holds) := goodIn_app (goodIn_of _ (by decide +kernel)) ggL_law_L_holds
