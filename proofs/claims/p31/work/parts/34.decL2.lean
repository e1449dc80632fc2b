theorem dL_caseHolds_226 : decode cL_caseHolds 226 = .ok (.iconst 4, 1) := by decide +kernel
theorem dL_caseHolds_227 : decode cL_caseHolds 227 = .ok (.invokevirtual 46, 3) := by decide +kernel
theorem dL_caseHolds_230 : decode cL_caseHolds 230 = .ok (.iload 6, 2) := by decide +kernel
theorem dL_caseHolds_232 : decode cL_caseHolds 232 = .ok (.if_icmp .ne 37, 3) := by decide +kernel
theorem dL_caseHolds_235 : decode cL_caseHolds 235 = .ok (.aload_n 0, 1) := by decide +kernel
theorem dL_caseHolds_236 : decode cL_caseHolds 236 = .ok (.iload_n 1, 1) := by decide +kernel
theorem dL_caseHolds_237 : decode cL_caseHolds 237 = .ok (.iconst 2, 1) := by decide +kernel
theorem dL_caseHolds_238 : decode cL_caseHolds 238 = .ok (.invokevirtual 46, 3) := by decide +kernel
theorem dL_caseHolds_241 : decode cL_caseHolds 241 = .ok (.iload 4, 2) := by decide +kernel
theorem dL_caseHolds_243 : decode cL_caseHolds 243 = .ok (.if_icmp .ne 26, 3) := by decide +kernel
theorem dL_caseHolds_246 : decode cL_caseHolds 246 = .ok (.aload_n 0, 1) := by decide +kernel
theorem dL_caseHolds_247 : decode cL_caseHolds 247 = .ok (.iload_n 1, 1) := by decide +kernel
theorem dL_caseHolds_248 : decode cL_caseHolds 248 = .ok (.iconst 3, 1) := by decide +kernel
theorem dL_caseHolds_249 : decode cL_caseHolds 249 = .ok (.invokevirtual 46, 3) := by decide +kernel
theorem dL_caseHolds_252 : decode cL_caseHolds 252 = .ok (.iload 7, 2) := by decide +kernel
theorem dL_caseHolds_254 : decode cL_caseHolds 254 = .ok (.ifCond .eq 7, 3) := by decide +kernel
theorem dL_caseHolds_257 : decode cL_caseHolds 257 = .ok (.iconst 1, 1) := by decide +kernel
theorem dL_caseHolds_258 : decode cL_caseHolds 258 = .ok (.goto 4, 3) := by decide +kernel
theorem dL_caseHolds_261 : decode cL_caseHolds 261 = .ok (.iconst 0, 1) := by decide +kernel
theorem dL_caseHolds_262 : decode cL_caseHolds 262 = .ok (.if_icmp .ne 7, 3) := by decide +kernel
theorem dL_caseHolds_265 : decode cL_caseHolds 265 = .ok (.iconst 1, 1) := by decide +kernel
theorem dL_caseHolds_266 : decode cL_caseHolds 266 = .ok (.goto 4, 3) := by decide +kernel
theorem dL_caseHolds_269 : decode cL_caseHolds 269 = .ok (.iconst 0, 1) := by decide +kernel
theorem dL_caseHolds_270 : decode cL_caseHolds 270 = .ok (.istore 8, 2) := by decide +kernel
theorem dL_caseHolds_272 : decode cL_caseHolds 272 = .ok (.iload 8, 2) := by decide +kernel
theorem dL_caseHolds_274 : decode cL_caseHolds 274 = .ok (.ifCond .eq 33, 3) := by decide +kernel
theorem dL_caseHolds_277 : decode cL_caseHolds 277 = .ok (.aload_n 0, 1) := by decide +kernel
theorem dL_caseHolds_278 : decode cL_caseHolds 278 = .ok (.iload_n 1, 1) := by decide +kernel
theorem dL_caseHolds_279 : decode cL_caseHolds 279 = .ok (.iconst 1, 1) := by decide +kernel
theorem dL_caseHolds_280 : decode cL_caseHolds 280 = .ok (.invokevirtual 46, 3) := by decide +kernel
theorem dL_caseHolds_283 : decode cL_caseHolds 283 = .ok (.iload 5, 2) := by decide +kernel
theorem dL_caseHolds_285 : decode cL_caseHolds 285 = .ok (.ifCond .ge 8, 3) := by decide +kernel
theorem dL_caseHolds_288 : decode cL_caseHolds 288 = .ok (.bipush 10, 2) := by decide +kernel
theorem dL_caseHolds_290 : decode cL_caseHolds 290 = .ok (.goto 10, 3) := by decide +kernel
theorem dL_caseHolds_293 : decode cL_caseHolds 293 = .ok (.aload_n 0, 1) := by decide +kernel
theorem dL_caseHolds_294 : decode cL_caseHolds 294 = .ok (.iload 5, 2) := by decide +kernel
theorem dL_caseHolds_296 : decode cL_caseHolds 296 = .ok (.iconst 1, 1) := by decide +kernel
theorem dL_caseHolds_297 : decode cL_caseHolds 297 = .ok (.invokevirtual 70, 3) := by decide +kernel
theorem dL_caseHolds_300 : decode cL_caseHolds 300 = .ok (.if_icmp .ne 7, 3) := by decide +kernel
theorem dL_caseHolds_303 : decode cL_caseHolds 303 = .ok (.iconst 1, 1) := by decide +kernel
theorem dL_caseHolds_304 : decode cL_caseHolds 304 = .ok (.goto 4, 3) := by decide +kernel
theorem dL_caseHolds_307 : decode cL_caseHolds 307 = .ok (.iconst 0, 1) := by decide +kernel
theorem dL_caseHolds_308 : decode cL_caseHolds 308 = .ok (.ireturn, 1) := by decide +kernel
set_option maxRecDepth 20000 in
theorem ggL_holds_X5_whole : GoodIn wsL_holds wsX5_whole := goodIn_ca (goodIn_r _ [5, 6, 7, 8, 9, 10, 4, 11, 12, 13, 14, 15, 16, 17, 18, 19, 20, 21, 22, 23, 24, 25, 26, 27, 28, 29, 30, 31, 32, 33, 34, 35, 36, 37, 38, 39, 40, 41, 42, 43, 44, 45, 46, 47, 48, 49, 50, 51, 52, 53, 54, 55, 56, 57, 58, 59, 60, 61, 62, 63, 64, 65, 66, 67, 68, 69, 70, 71, 72, 73, 74, 75, 76, 77, 78, 79, 80, 81, 82, 83, 84, 85, 86, 87, 88, 89, 90, 91, 92, 93, 94, 95, 96, 97, 98, 99, 100, 101, 102, 103, 104, 105, 106, 107, 108, 109, 110, 111, 112, 113, 114, 115, 116, 117, 118, 119, 120, 121, 122, 123, 124, 125, 126, 127, 128, 129, 130, 131, 132, 224, 225, 226, 227, 228, 229, 230, 231, 232, 233, 234, 235, 236, 237, 238, 239, 240, 241, 242, 243, 244, 245, 246, 247, 248, 249, 250, 251, 252, 253, 254, 255, 256, 257, 258, 259, 260, 261, 262, 263, 264] (by decide +kernel) (by decide +kernel)) (goodIn_sub (fun _ h => List.mem_cons_of_mem _ (List.mem_append_left _ (List.mem_append_right _ h))) (by decide +kernel))
set_option maxRecDepth 20000 in
theorem gL_holds_X5_whole : GoodIn wsL_holds (wsV RL 49 RX5 yX5_whole wsX5_whole) := goodIn_app (goodIn_of _ (by decide +kernel)) ggL_holds_X5_whole
set_option maxRecDepth 20000 in
theorem ggL_holds_X5_condition : GoodIn wsL_holds wsX5_condition := goodIn_ca (goodIn_ca (goodIn_r _ [136, 137, 138, 6, 7, 139, 140, 141, 4, 142, 12, 13, 143, 144, 145, 146, 147, 148, 14, 25, 26, 27, 28, 29, 30, 31, 32, 33, 34, 35, 36, 37, 38, 39, 40, 41, 42, 43, 44, 45, 46, 47, 48, 49, 50, 51, 52, 53, 54, 55, 56, 57, 58, 59, 60, 61, 62, 63, 64, 149, 150, 151, 152, 224, 225, 226, 227, 228, 229, 230, 231, 232, 233, 234, 235, 236, 237, 238, 239, 240, 241, 242, 243, 244, 245, 246, 247, 248, 249, 250, 251] (by decide +kernel) (by decide +kernel)) (goodIn_sub (fun _ h => List.mem_cons_of_mem _ (List.mem_append_right _ h)) (by decide +kernel))) (goodIn_sub (fun _ h => List.mem_cons_of_mem _ (List.mem_append_left _ (List.mem_append_right _ h))) (by decide +kernel))
set_option maxRecDepth 20000 in
theorem gL_holds_X5_condition : GoodIn wsL_holds (wsV RL 52 RX5 yX5_condition wsX5_condition) := goodIn_app (goodIn_of _ (by decide +kernel)) ggL_holds_X5_condition
set_option maxRecDepth 20000 in
theorem ggL_holds_X5_rowAt : GoodIn wsL_holds wsX5_rowAt := goodIn_ca (goodIn_r _ [156, 6, 7, 12, 16, 157, 224, 225, 226, 227, 228, 229, 230, 231, 232, 233, 234, 235, 236, 237, 238] (by decide +kernel) (by decide +kernel)) (goodIn_sub (fun _ h => List.mem_cons_of_mem _ (List.mem_append_left _ (List.mem_append_right _ h))) (by decide +kernel))
set_option maxRecDepth 20000 in
theorem gL_holds_X5_rowAt : GoodIn wsL_holds (wsV RL 58 RX5 yX5_rowAt wsX5_rowAt) := goodIn_app (goodIn_of _ (by decide +kernel)) ggL_holds_X5_rowAt
set_option maxRecDepth 20000 in
theorem ggL_holds_X5_row : GoodIn wsL_holds wsX5_row := goodIn_ca (goodIn_ca (goodIn_r _ [161, 137, 138, 6, 7, 12, 162, 163, 164, 165, 166, 167, 168, 169, 170, 171, 4, 172, 173, 14, 174, 175, 176, 177, 178, 179, 180, 181, 182, 183, 184, 185, 186, 127, 128, 129, 130, 131, 132, 25, 26, 27, 28, 29, 30, 31, 32, 33, 34, 35, 36, 37, 38, 39, 40, 41, 42, 43, 44, 45, 46, 47, 48, 49, 50, 51, 52, 53, 54, 55, 56, 57, 58, 59, 60, 61, 62, 63, 64, 224, 225, 226, 227, 228, 229, 230, 231, 232, 233, 234, 235, 236, 237, 238, 239, 240, 241, 242, 243, 244, 245, 246, 247, 248, 249, 250, 251] (by decide +kernel) (by decide +kernel)) (goodIn_sub (fun _ h => List.mem_cons_of_mem _ (List.mem_append_right _ h)) (by decide +kernel))) (goodIn_sub (fun _ h => List.mem_cons_of_mem _ (List.mem_append_left _ (List.mem_append_right _ h))) (by decide +kernel))
set_option maxRecDepth 20000 in
theorem gL_holds_X5_row : GoodIn wsL_holds (wsV RL 70 RX5 yX5_row wsX5_row) := goodIn_app (goodIn_of _ (by decide +kernel)) ggL_holds_X5_row
set_option maxRecDepth 20000 in
theorem ggL_holds_X5_changedWithout : GoodIn wsL_holds wsX5_changedWithout := goodIn_ca (goodIn_r _ [190, 137, 138, 12, 14, 162, 163, 164, 165, 166, 167, 168, 25, 26, 27, 4, 28, 29, 30, 31, 32, 33, 34, 35, 36, 37, 38, 39, 40, 41, 42, 43, 44, 45, 46, 47, 48, 49, 50, 51, 52, 53, 54, 55, 56, 57, 58, 59, 60, 61, 62, 63, 64, 191, 192, 193, 194, 224, 225, 226, 227, 228, 229, 230, 231, 232, 233, 234, 235, 236, 237, 238, 239, 240, 241, 242, 243, 244, 245, 246, 247, 248, 249, 250, 251] (by decide +kernel) (by decide +kernel)) (goodIn_sub (fun _ h => List.mem_cons_of_mem _ (List.mem_append_right _ h)) (by decide +kernel))
set_option maxRecDepth 20000 in
theorem gL_holds_X5_changedWithout : GoodIn wsL_holds (wsV RL 73 RX5 yX5_changedWithout wsX5_changedWithout) := goodIn_app (goodIn_of _ (by decide +kernel)) ggL_holds_X5_changedWithout
set_option maxRecDepth 20000 in
theorem ggL_holds_X5_caseOf : GoodIn wsL_holds wsX5_caseOf := goodIn_ca (goodIn_ca (goodIn_r _ [198, 137, 138, 6, 7, 25, 26, 27, 4, 28, 29, 14, 30, 31, 32, 33, 34, 35, 36, 37, 38, 39, 40, 41, 42, 43, 44, 45, 46, 47, 48, 49, 50, 51, 52, 53, 54, 55, 56, 57, 58, 59, 60, 61, 62, 63, 64, 199, 200, 201, 202, 15, 203, 204, 205, 206, 207, 208, 209, 210, 211, 212, 213, 214, 215, 12, 16, 157, 224, 225, 226, 227, 228, 229, 230, 239, 240, 241, 242, 243, 244, 245, 246, 247, 248, 249, 250, 251, 231, 232, 233, 234, 235, 236, 237, 238] (by decide +kernel) (by decide +kernel)) (goodIn_sub (fun _ h => List.mem_cons_of_mem _ (List.mem_append_right _ h)) (by decide +kernel))) (goodIn_sub (fun _ h => List.mem_cons_of_mem _ (List.mem_append_left _ (List.mem_append_right _ h))) (by decide +kernel))
set_option maxRecDepth 20000 in
theorem gL_holds_X5_caseOf : GoodIn wsL_holds (wsV RL 46 RX5 yX5_caseOf wsX5_caseOf) := goodIn_app (goodIn_of _ (by decide +kernel)) ggL_holds_X5_caseOf
set_option maxRecDepth 20000 in
theorem ggL_holds_X5_hole : GoodIn wsL_holds wsX5_hole := goodIn_ca (goodIn_r _ [219, 6, 7, 14, 25, 26, 27, 4, 28, 29, 30, 31, 32, 33, 34, 35, 36, 37, 38, 39, 40, 41, 42, 43, 44, 45, 46, 47, 48, 49, 50, 51, 52, 53, 54, 55, 56, 57, 58, 59, 60, 61, 62, 63, 64, 220, 221, 222, 223, 224, 225, 226, 227, 228, 229, 230, 239, 240, 241, 242, 243, 244, 245, 246, 247, 248, 249, 250, 251, 231, 232, 233, 234, 235, 236, 237, 238] (by decide +kernel) (by decide +kernel)) (goodIn_sub (fun _ h => List.mem_cons_of_mem _ (List.mem_append_left _ (List.mem_append_right _ h))) (by decide +kernel))
set_option maxRecDepth 20000 in
theorem gL_holds_X5_hole : GoodIn wsL_holds (wsV RL 76 RX5 yX5_hole wsX5_hole) := goodIn_app (goodIn_of _ (by decide +kernel)) ggL_holds_X5_hole
theorem dL_holds_0 : decode cL_holds 0 = .ok (.iconst 1, 1) := by decide +kernel
theorem dL_holds_1 : decode cL_holds 1 = .ok (.istore_n 1, 1) := by decide +kernel
theorem dL_holds_2 : decode cL_holds 2 = .ok (.iconst 0, 1) := by decide +kernel
theorem dL_holds_3 : decode cL_holds 3 = .ok (.istore_n 2, 1) := by decide +kernel
theorem dL_holds_4 : decode cL_holds 4 = .ok (.iload_n 2, 1) := by decide +kernel
theorem dL_holds_5 : decode cL_holds 5 = .ok (.aload_n 0, 1) := by decide +kernel
theorem dL_holds_6 : decode cL_holds 6 = .ok (.iconst 0, 1) := by decide +kernel
theorem dL_holds_7 : decode cL_holds 7 = .ok (.invokevirtual 49, 3) := by decide +kernel
theorem dL_holds_10 : decode cL_holds 10 = .ok (.if_icmp .ge 18, 3) := by decide +kernel
theorem dL_holds_13 : decode cL_holds 13 = .ok (.iload_n 1, 1) := by decide +kernel
theorem dL_holds_14 : decode cL_holds 14 = .ok (.aload_n 0, 1) := by decide +kernel
theorem dL_holds_15 : decode cL_holds 15 = .ok (.iload_n 2, 1) := by decide +kernel
theorem dL_holds_16 : decode cL_holds 16 = .ok (.iconst 0, 1) := by decide +kernel
theorem dL_holds_17 : decode cL_holds 17 = .ok (.invokevirtual 52, 3) := by decide +kernel
theorem dL_holds_20 : decode cL_holds 20 = .ok (.imul, 1) := by decide +kernel
theorem dL_holds_21 : decode cL_holds 21 = .ok (.istore_n 1, 1) := by decide +kernel
theorem dL_holds_22 : decode cL_holds 22 = .ok (.iinc 2 1, 3) := by decide +kernel
theorem dL_holds_25 : decode cL_holds 25 = .ok (.goto (-21), 3) := by decide +kernel
theorem dL_holds_28 : decode cL_holds 28 = .ok (.iconst 0, 1) := by decide +kernel
theorem dL_holds_29 : decode cL_holds 29 = .ok (.istore_n 2, 1) := by decide +kernel
theorem dL_holds_30 : decode cL_holds 30 = .ok (.iconst 0, 1) := by decide +kernel
theorem dL_holds_31 : decode cL_holds 31 = .ok (.istore_n 3, 1) := by decide +kernel
theorem dL_holds_32 : decode cL_holds 32 = .ok (.iconst 0, 1) := by decide +kernel
theorem dL_holds_33 : decode cL_holds 33 = .ok (.istore 4, 2) := by decide +kernel
theorem dL_holds_35 : decode cL_holds 35 = .ok (.aload_n 0, 1) := by decide +kernel
theorem dL_holds_36 : decode cL_holds 36 = .ok (.iconst 1, 1) := by decide +kernel
theorem dL_holds_37 : decode cL_holds 37 = .ok (.invokevirtual 49, 3) := by decide +kernel
theorem dL_holds_40 : decode cL_holds 40 = .ok (.iload_n 1, 1) := by decide +kernel
theorem dL_holds_41 : decode cL_holds 41 = .ok (.if_icmp .ne 7, 3) := by decide +kernel
theorem dL_holds_44 : decode cL_holds 44 = .ok (.iconst 1, 1) := by decide +kernel
theorem dL_holds_45 : decode cL_holds 45 = .ok (.goto 4, 3) := by decide +kernel
theorem dL_holds_48 : decode cL_holds 48 = .ok (.iconst 0, 1) := by decide +kernel
theorem dL_holds_49 : decode cL_holds 49 = .ok (.istore 5, 2) := by decide +kernel
theorem dL_holds_51 : decode cL_holds 51 = .ok (.iconst 0, 1) := by decide +kernel
theorem dL_holds_52 : decode cL_holds 52 = .ok (.istore 6, 2) := by decide +kernel
theorem dL_holds_54 : decode cL_holds 54 = .ok (.iload 6, 2) := by decide +kernel
theorem dL_holds_56 : decode cL_holds 56 = .ok (.aload_n 0, 1) := by decide +kernel
theorem dL_holds_57 : decode cL_holds 57 = .ok (.iconst 2, 1) := by decide +kernel
theorem dL_holds_58 : decode cL_holds 58 = .ok (.invokevirtual 49, 3) := by decide +kernel
theorem dL_holds_61 : decode cL_holds 61 = .ok (.if_icmp .ge 142, 3) := by decide +kernel
theorem dL_holds_64 : decode cL_holds 64 = .ok (.iload 5, 2) := by decide +kernel
theorem dL_holds_66 : decode cL_holds 66 = .ok (.ifCond .eq 137, 3) := by decide +kernel
theorem dL_holds_69 : decode cL_holds 69 = .ok (.aload_n 0, 1) := by decide +kernel
theorem dL_holds_70 : decode cL_holds 70 = .ok (.iload 6, 2) := by decide +kernel
theorem dL_holds_72 : decode cL_holds 72 = .ok (.invokevirtual 58, 3) := by decide +kernel
theorem dL_holds_75 : decode cL_holds 75 = .ok (.istore 7, 2) := by decide +kernel
theorem dL_holds_77 : decode cL_holds 77 = .ok (.aload_n 0, 1) := by decide +kernel
theorem dL_holds_78 : decode cL_holds 78 = .ok (.iload 7, 2) := by decide +kernel
theorem dL_holds_80 : decode cL_holds 80 = .ok (.iconst 0, 1) := by decide +kernel
theorem dL_holds_81 : decode cL_holds 81 = .ok (.invokevirtual 70, 3) := by decide +kernel
theorem dL_holds_84 : decode cL_holds 84 = .ok (.iload 6, 2) := by decide +kernel
theorem dL_holds_86 : decode cL_holds 86 = .ok (.if_icmp .ne 76, 3) := by decide +kernel
theorem dL_holds_89 : decode cL_holds 89 = .ok (.aload_n 0, 1) := by decide +kernel
theorem dL_holds_90 : decode cL_holds 90 = .ok (.iload 7, 2) := by decide +kernel
theorem dL_holds_92 : decode cL_holds 92 = .ok (.iconst 3, 1) := by decide +kernel
theorem dL_holds_93 : decode cL_holds 93 = .ok (.invokevirtual 70, 3) := by decide +kernel
theorem dL_holds_96 : decode cL_holds 96 = .ok (.aload_n 0, 1) := by decide +kernel
theorem dL_holds_97 : decode cL_holds 97 = .ok (.iload 7, 2) := by decide +kernel
theorem dL_holds_99 : decode cL_holds 99 = .ok (.iconst 2, 1) := by decide +kernel
theorem dL_holds_100 : decode cL_holds 100 = .ok (.invokevirtual 70, 3) := by decide +kernel
theorem dL_holds_103 : decode cL_holds 103 = .ok (.if_icmp .gt 59, 3) := by decide +kernel
theorem dL_holds_106 : decode cL_holds 106 = .ok (.aload_n 0, 1) := by decide +kernel
theorem dL_holds_107 : decode cL_holds 107 = .ok (.iload 7, 2) := by decide +kernel
theorem dL_holds_109 : decode cL_holds 109 = .ok (.iconst 4, 1) := by decide +kernel
theorem dL_holds_110 : decode cL_holds 110 = .ok (.invokevirtual 70, 3) := by decide +kernel
theorem dL_holds_113 : decode cL_holds 113 = .ok (.aload_n 0, 1) := by decide +kernel
theorem dL_holds_114 : decode cL_holds 114 = .ok (.iload 7, 2) := by decide +kernel
theorem dL_holds_116 : decode cL_holds 116 = .ok (.iconst 3, 1) := by decide +kernel
theorem dL_holds_117 : decode cL_holds 117 = .ok (.invokevirtual 70, 3) := by decide +kernel
theorem dL_holds_120 : decode cL_holds 120 = .ok (.ifCond .le 7, 3) := by decide +kernel
theorem dL_holds_123 : decode cL_holds 123 = .ok (.iconst 1, 1) := by decide +kernel
theorem dL_holds_124 : decode cL_holds 124 = .ok (.goto 4, 3) := by decide +kernel
theorem dL_holds_127 : decode cL_holds 127 = .ok (.iconst 0, 1) := by decide +kernel
theorem dL_holds_128 : decode cL_holds 128 = .ok (.if_icmp .ne 34, 3) := by decide +kernel
theorem dL_holds_131 : decode cL_holds 131 = .ok (.iload 7, 2) := by decide +kernel
theorem dL_holds_133 : decode cL_holds 133 = .ok (.aload_n 0, 1) := by decide +kernel
theorem dL_holds_134 : decode cL_holds 134 = .ok (.bipush 10, 2) := by decide +kernel
theorem dL_holds_136 : decode cL_holds 136 = .ok (.invokevirtual 49, 3) := by decide +kernel
theorem dL_holds_139 : decode cL_holds 139 = .ok (.if_icmp .ge 23, 3) := by decide +kernel
theorem dL_holds_142 : decode cL_holds 142 = .ok (.aload_n 0, 1) := by decide +kernel
theorem dL_holds_143 : decode cL_holds 143 = .ok (.iload 7, 2) := by decide +kernel
theorem dL_holds_145 : decode cL_holds 145 = .ok (.invokevirtual 73, 3) := by decide +kernel
theorem dL_holds_148 : decode cL_holds 148 = .ok (.aload_n 0, 1) := by decide +kernel
theorem dL_holds_149 : decode cL_holds 149 = .ok (.iload 7, 2) := by decide +kernel
theorem dL_holds_151 : decode cL_holds 151 = .ok (.iconst 3, 1) := by decide +kernel
theorem dL_holds_152 : decode cL_holds 152 = .ok (.invokevirtual 70, 3) := by decide +kernel
theorem dL_holds_155 : decode cL_holds 155 = .ok (.if_icmp .gt 7, 3) := by decide +kernel
theorem dL_holds_158 : decode cL_holds 158 = .ok (.iconst 1, 1) := by decide +kernel
theorem dL_holds_159 : decode cL_holds 159 = .ok (.goto 4, 3) := by decide +kernel
theorem dL_holds_162 : decode cL_holds 162 = .ok (.iconst 0, 1) := by decide +kernel
theorem dL_holds_163 : decode cL_holds 163 = .ok (.istore 5, 2) := by decide +kernel
theorem dL_holds_165 : decode cL_holds 165 = .ok (.iload_n 2, 1) := by decide +kernel
theorem dL_holds_166 : decode cL_holds 166 = .ok (.aload_n 0, 1) := by decide +kernel
theorem dL_holds_167 : decode cL_holds 167 = .ok (.iload 7, 2) := by decide +kernel
theorem dL_holds_169 : decode cL_holds 169 = .ok (.iconst 3, 1) := by decide +kernel
theorem dL_holds_170 : decode cL_holds 170 = .ok (.invokevirtual 70, 3) := by decide +kernel
theorem dL_holds_173 : decode cL_holds 173 = .ok (.iadd, 1) := by decide +kernel
theorem dL_holds_174 : decode cL_holds 174 = .ok (.istore_n 2, 1) := by decide +kernel
theorem dL_holds_175 : decode cL_holds 175 = .ok (.iload_n 3, 1) := by decide +kernel
theorem dL_holds_176 : decode cL_holds 176 = .ok (.aload_n 0, 1) := by decide +kernel
theorem dL_holds_177 : decode cL_holds 177 = .ok (.iload 7, 2) := by decide +kernel
theorem dL_holds_179 : decode cL_holds 179 = .ok (.iconst 2, 1) := by decide +kernel
theorem dL_holds_180 : decode cL_holds 180 = .ok (.invokevirtual 70, 3) := by decide +kernel
theorem dL_holds_183 : decode cL_holds 183 = .ok (.iadd, 1) := by decide +kernel
theorem dL_holds_184 : decode cL_holds 184 = .ok (.istore_n 3, 1) := by decide +kernel
theorem dL_holds_185 : decode cL_holds 185 = .ok (.iload 4, 2) := by decide +kernel
theorem dL_holds_187 : decode cL_holds 187 = .ok (.aload_n 0, 1) := by decide +kernel
theorem dL_holds_188 : decode cL_holds 188 = .ok (.iload 7, 2) := by decide +kernel
theorem dL_holds_190 : decode cL_holds 190 = .ok (.iconst 4, 1) := by decide +kernel
theorem dL_holds_191 : decode cL_holds 191 = .ok (.invokevirtual 70, 3) := by decide +kernel
theorem dL_holds_194 : decode cL_holds 194 = .ok (.iadd, 1) := by decide +kernel
theorem dL_holds_195 : decode cL_holds 195 = .ok (.istore 4, 2) := by decide +kernel
theorem dL_holds_197 : decode cL_holds 197 = .ok (.iinc 6 1, 3) := by decide +kernel
theorem dL_holds_200 : decode cL_holds 200 = .ok (.goto (-146), 3) := by decide +kernel
theorem dL_holds_203 : decode cL_holds 203 = .ok (.iconst 0, 1) := by decide +kernel
theorem dL_holds_204 : decode cL_holds 204 = .ok (.istore 6, 2) := by decide +kernel
theorem dL_holds_206 : decode cL_holds 206 = .ok (.iconst 0, 1) := by decide +kernel
theorem dL_holds_207 : decode cL_holds 207 = .ok (.istore 7, 2) := by decide +kernel
theorem dL_holds_209 : decode cL_holds 209 = .ok (.iconst 0, 1) := by decide +kernel
theorem dL_holds_210 : decode cL_holds 210 = .ok (.istore 8, 2) := by decide +kernel
theorem dL_holds_212 : decode cL_holds 212 = .ok (.iconst 0, 1) := by decide +kernel
theorem dL_holds_213 : decode cL_holds 213 = .ok (.istore 9, 2) := by decide +kernel
theorem dL_holds_215 : decode cL_holds 215 = .ok (.iconst 0, 1) := by decide +kernel
theorem dL_holds_216 : decode cL_holds 216 = .ok (.istore 10, 2) := by decide +kernel
theorem dL_holds_218 : decode cL_holds 218 = .ok (.iconst 0, 1) := by decide +kernel
theorem dL_holds_219 : decode cL_holds 219 = .ok (.istore 11, 2) := by decide +kernel
theorem dL_holds_221 : decode cL_holds 221 = .ok (.iload 11, 2) := by decide +kernel
theorem dL_holds_223 : decode cL_holds 223 = .ok (.iload_n 1, 1) := by decide +kernel
theorem dL_holds_224 : decode cL_holds 224 = .ok (.if_icmp .ge 133, 3) := by decide +kernel
theorem dL_holds_227 : decode cL_holds 227 = .ok (.iload 5, 2) := by decide +kernel
theorem dL_holds_229 : decode cL_holds 229 = .ok (.ifCond .eq 128, 3) := by decide +kernel
theorem dL_holds_232 : decode cL_holds 232 = .ok (.aload_n 0, 1) := by decide +kernel
theorem dL_holds_233 : decode cL_holds 233 = .ok (.iload 11, 2) := by decide +kernel
theorem dL_holds_235 : decode cL_holds 235 = .ok (.iconst 2, 1) := by decide +kernel
theorem dL_holds_236 : decode cL_holds 236 = .ok (.invokevirtual 46, 3) := by decide +kernel
theorem dL_holds_239 : decode cL_holds 239 = .ok (.istore 12, 2) := by decide +kernel
theorem dL_holds_241 : decode cL_holds 241 = .ok (.iload 6, 2) := by decide +kernel
theorem dL_holds_243 : decode cL_holds 243 = .ok (.iload 12, 2) := by decide +kernel
theorem dL_holds_245 : decode cL_holds 245 = .ok (.iadd, 1) := by decide +kernel
theorem dL_holds_246 : decode cL_holds 246 = .ok (.istore 6, 2) := by decide +kernel
theorem dL_holds_248 : decode cL_holds 248 = .ok (.iload 7, 2) := by decide +kernel
theorem dL_holds_250 : decode cL_holds 250 = .ok (.iload 12, 2) := by decide +kernel
theorem dL_holds_252 : decode cL_holds 252 = .ok (.iconst 1, 1) := by decide +kernel
theorem dL_holds_253 : decode cL_holds 253 = .ok (.if_icmp .le 7, 3) := by decide +kernel
theorem dL_holds_256 : decode cL_holds 256 = .ok (.iconst 1, 1) := by decide +kernel
theorem dL_holds_257 : decode cL_holds 257 = .ok (.goto 4, 3) := by decide +kernel
theorem dL_holds_260 : decode cL_holds 260 = .ok (.iconst 0, 1) := by decide +kernel
theorem dL_holds_261 : decode cL_holds 261 = .ok (.iadd, 1) := by decide +kernel
theorem dL_holds_262 : decode cL_holds 262 = .ok (.istore 7, 2) := by decide +kernel
theorem dL_holds_264 : decode cL_holds 264 = .ok (.iload 8, 2) := by decide +kernel
theorem dL_holds_266 : decode cL_holds 266 = .ok (.aload_n 0, 1) := by decide +kernel
theorem dL_holds_267 : decode cL_holds 267 = .ok (.iload 11, 2) := by decide +kernel
theorem dL_holds_269 : decode cL_holds 269 = .ok (.iconst 3, 1) := by decide +kernel
theorem dL_holds_270 : decode cL_holds 270 = .ok (.invokevirtual 46, 3) := by decide +kernel
theorem dL_holds_273 : decode cL_holds 273 = .ok (.iadd, 1) := by decide +kernel
theorem dL_holds_274 : decode cL_holds 274 = .ok (.istore 8, 2) := by decide +kernel
theorem dL_holds_276 : decode cL_holds 276 = .ok (.iload 10, 2) := by decide +kernel
theorem dL_holds_278 : decode cL_holds 278 = .ok (.iconst 1, 1) := by decide +kernel
theorem dL_holds_279 : decode cL_holds 279 = .ok (.aload_n 0, 1) := by decide +kernel
theorem dL_holds_280 : decode cL_holds 280 = .ok (.iload 11, 2) := by decide +kernel
theorem dL_holds_282 : decode cL_holds 282 = .ok (.iconst 1, 1) := by decide +kernel
theorem dL_holds_283 : decode cL_holds 283 = .ok (.invokevirtual 46, 3) := by decide +kernel
theorem dL_holds_286 : decode cL_holds 286 = .ok (.ishl, 1) := by decide +kernel
theorem dL_holds_287 : decode cL_holds 287 = .ok (.ior, 1) := by decide +kernel
theorem dL_holds_288 : decode cL_holds 288 = .ok (.istore 10, 2) := by decide +kernel
theorem dL_holds_290 : decode cL_holds 290 = .ok (.iload 12, 2) := by decide +kernel
theorem dL_holds_292 : decode cL_holds 292 = .ok (.ifCond .gt 37, 3) := by decide +kernel
theorem dL_holds_295 : decode cL_holds 295 = .ok (.aload_n 0, 1) := by decide +kernel
theorem dL_holds_296 : decode cL_holds 296 = .ok (.iload 11, 2) := by decide +kernel
theorem dL_holds_298 : decode cL_holds 298 = .ok (.iconst 0, 1) := by decide +kernel
theorem dL_holds_299 : decode cL_holds 299 = .ok (.invokevirtual 46, 3) := by decide +kernel
theorem dL_holds_302 : decode cL_holds 302 = .ok (.iconst (-1), 1) := by decide +kernel
theorem dL_holds_303 : decode cL_holds 303 = .ok (.if_icmp .ne 30, 3) := by decide +kernel
theorem dL_holds_306 : decode cL_holds 306 = .ok (.aload_n 0, 1) := by decide +kernel
theorem dL_holds_307 : decode cL_holds 307 = .ok (.iload 11, 2) := by decide +kernel
theorem dL_holds_309 : decode cL_holds 309 = .ok (.iconst 1, 1) := by decide +kernel
theorem dL_holds_310 : decode cL_holds 310 = .ok (.invokevirtual 46, 3) := by decide +kernel
theorem dL_holds_313 : decode cL_holds 313 = .ok (.bipush 10, 2) := by decide +kernel
theorem dL_holds_315 : decode cL_holds 315 = .ok (.if_icmp .ne 18, 3) := by decide +kernel
theorem dL_holds_318 : decode cL_holds 318 = .ok (.aload_n 0, 1) := by decide +kernel
theorem dL_holds_319 : decode cL_holds 319 = .ok (.iload 9, 2) := by decide +kernel
theorem dL_holds_321 : decode cL_holds 321 = .ok (.invokevirtual 76, 3) := by decide +kernel
theorem dL_holds_324 : decode cL_holds 324 = .ok (.iload 11, 2) := by decide +kernel
theorem dL_holds_326 : decode cL_holds 326 = .ok (.if_icmp .ne 7, 3) := by decide +kernel
theorem dL_holds_329 : decode cL_holds 329 = .ok (.iconst 1, 1) := by decide +kernel
theorem dL_holds_330 : decode cL_holds 330 = .ok (.goto 4, 3) := by decide +kernel
theorem dL_holds_333 : decode cL_holds 333 = .ok (.iconst 0, 1) := by decide +kernel
theorem dL_holds_334 : decode cL_holds 334 = .ok (.istore 5, 2) := by decide +kernel
theorem dL_holds_336 : decode cL_holds 336 = .ok (.iload 9, 2) := by decide +kernel
theorem dL_holds_338 : decode cL_holds 338 = .ok (.iload 12, 2) := by decide +kernel
theorem dL_holds_340 : decode cL_holds 340 = .ok (.ifCond .ne 7, 3) := by decide +kernel
theorem dL_holds_343 : decode cL_holds 343 = .ok (.iconst 1, 1) := by decide +kernel
theorem dL_holds_344 : decode cL_holds 344 = .ok (.goto 4, 3) := by decide +kernel
theorem dL_holds_347 : decode cL_holds 347 = .ok (.iconst 0, 1) := by decide +kernel
theorem dL_holds_348 : decode cL_holds 348 = .ok (.iadd, 1) := by decide +kernel
theorem dL_holds_349 : decode cL_holds 349 = .ok (.istore 9, 2) := by decide +kernel
theorem dL_holds_351 : decode cL_holds 351 = .ok (.iinc 11 1, 3) := by decide +kernel
theorem dL_holds_354 : decode cL_holds 354 = .ok (.goto (-133), 3) := by decide +kernel
theorem dL_holds_357 : decode cL_holds 357 = .ok (.iconst 0, 1) := by decide +kernel
theorem dL_holds_358 : decode cL_holds 358 = .ok (.istore 11, 2) := by decide +kernel
theorem dL_holds_360 : decode cL_holds 360 = .ok (.iconst 0, 1) := by decide +kernel
theorem dL_holds_361 : decode cL_holds 361 = .ok (.istore 12, 2) := by decide +kernel
theorem dL_holds_363 : decode cL_holds 363 = .ok (.iload 12, 2) := by decide +kernel
theorem dL_holds_365 : decode cL_holds 365 = .ok (.bipush 11, 2) := by decide +kernel
theorem dL_holds_367 : decode cL_holds 367 = .ok (.if_icmp .ge 21, 3) := by decide +kernel
theorem dL_holds_370 : decode cL_holds 370 = .ok (.iload 11, 2) := by decide +kernel
theorem dL_holds_372 : decode cL_holds 372 = .ok (.iload 10, 2) := by decide +kernel
theorem dL_holds_374 : decode cL_holds 374 = .ok (.iload 12, 2) := by decide +kernel
theorem dL_holds_376 : decode cL_holds 376 = .ok (.ishr, 1) := by decide +kernel
theorem dL_holds_377 : decode cL_holds 377 = .ok (.iconst 1, 1) := by decide +kernel
theorem dL_holds_378 : decode cL_holds 378 = .ok (.iand, 1) := by decide +kernel
theorem dL_holds_379 : decode cL_holds 379 = .ok (.iadd, 1) := by decide +kernel
theorem dL_holds_380 : decode cL_holds 380 = .ok (.istore 11, 2) := by decide +kernel
theorem dL_holds_382 : decode cL_holds 382 = .ok (.iinc 12 1, 3) := by decide +kernel
theorem dL_holds_385 : decode cL_holds 385 = .ok (.goto (-22), 3) := by decide +kernel
theorem dL_holds_388 : decode cL_holds 388 = .ok (.iload 5, 2) := by decide +kernel
theorem dL_holds_390 : decode cL_holds 390 = .ok (.ifCond .eq 61, 3) := by decide +kernel
theorem dL_holds_393 : decode cL_holds 393 = .ok (.iload 6, 2) := by decide +kernel
theorem dL_holds_395 : decode cL_holds 395 = .ok (.iload_n 3, 1) := by decide +kernel
theorem dL_holds_396 : decode cL_holds 396 = .ok (.if_icmp .ne 55, 3) := by decide +kernel
theorem dL_holds_399 : decode cL_holds 399 = .ok (.iload_n 2, 1) := by decide +kernel
theorem dL_holds_400 : decode cL_holds 400 = .ok (.iload 9, 2) := by decide +kernel
theorem dL_holds_402 : decode cL_holds 402 = .ok (.iadd, 1) := by decide +kernel
theorem dL_holds_403 : decode cL_holds 403 = .ok (.iload_n 1, 1) := by decide +kernel
theorem dL_holds_404 : decode cL_holds 404 = .ok (.if_icmp .ne 47, 3) := by decide +kernel
theorem dL_holds_407 : decode cL_holds 407 = .ok (.aload_n 0, 1) := by decide +kernel
theorem dL_holds_408 : decode cL_holds 408 = .ok (.iload 9, 2) := by decide +kernel
theorem dL_holds_410 : decode cL_holds 410 = .ok (.invokevirtual 76, 3) := by decide +kernel
theorem dL_holds_413 : decode cL_holds 413 = .ok (.iconst (-1), 1) := by decide +kernel
theorem dL_holds_414 : decode cL_holds 414 = .ok (.if_icmp .ne 37, 3) := by decide +kernel
theorem dL_holds_417 : decode cL_holds 417 = .ok (.aload_n 0, 1) := by decide +kernel
theorem dL_holds_418 : decode cL_holds 418 = .ok (.iconst 3, 1) := by decide +kernel
theorem dL_holds_419 : decode cL_holds 419 = .ok (.invokevirtual 49, 3) := by decide +kernel
theorem dL_holds_422 : decode cL_holds 422 = .ok (.iload 9, 2) := by decide +kernel
theorem dL_holds_424 : decode cL_holds 424 = .ok (.if_icmp .ne 27, 3) := by decide +kernel
theorem dL_holds_427 : decode cL_holds 427 = .ok (.aload_n 0, 1) := by decide +kernel
theorem dL_holds_428 : decode cL_holds 428 = .ok (.iconst 4, 1) := by decide +kernel
theorem dL_holds_429 : decode cL_holds 429 = .ok (.invokevirtual 49, 3) := by decide +kernel
theorem dL_holds_432 : decode cL_holds 432 = .ok (.iload 7, 2) := by decide +kernel
theorem dL_holds_434 : decode cL_holds 434 = .ok (.if_icmp .ne 17, 3) := by decide +kernel
theorem dL_holds_437 : decode cL_holds 437 = .ok (.aload_n 0, 1) := by decide +kernel
theorem dL_holds_438 : decode cL_holds 438 = .ok (.iconst 5, 1) := by decide +kernel
theorem dL_holds_439 : decode cL_holds 439 = .ok (.invokevirtual 49, 3) := by decide +kernel
theorem dL_holds_442 : decode cL_holds 442 = .ok (.iload 8, 2) := by decide +kernel
theorem dL_holds_444 : decode cL_holds 444 = .ok (.if_icmp .ne 7, 3) := by decide +kernel
theorem dL_holds_447 : decode cL_holds 447 = .ok (.iconst 1, 1) := by decide +kernel
theorem dL_holds_448 : decode cL_holds 448 = .ok (.goto 4, 3) := by decide +kernel
theorem dL_holds_451 : decode cL_holds 451 = .ok (.iconst 0, 1) := by decide +kernel
theorem dL_holds_452 : decode cL_holds 452 = .ok (.istore 5, 2) := by decide +kernel
theorem dL_holds_454 : decode cL_holds 454 = .ok (.iload 5, 2) := by decide +kernel
theorem dL_holds_456 : decode cL_holds 456 = .ok (.ifCond .eq 42, 3) := by decide +kernel
theorem dL_holds_459 : decode cL_holds 459 = .ok (.aload_n 0, 1) := by decide +kernel
theorem dL_holds_460 : decode cL_holds 460 = .ok (.bipush 6, 2) := by decide +kernel
theorem dL_holds_462 : decode cL_holds 462 = .ok (.invokevirtual 49, 3) := by decide +kernel
theorem dL_holds_465 : decode cL_holds 465 = .ok (.iload 4, 2) := by decide +kernel
theorem dL_holds_467 : decode cL_holds 467 = .ok (.if_icmp .ne 31, 3) := by decide +kernel
theorem dL_holds_470 : decode cL_holds 470 = .ok (.aload_n 0, 1) := by decide +kernel
theorem dL_holds_471 : decode cL_holds 471 = .ok (.bipush 9, 2) := by decide +kernel
theorem dL_holds_473 : decode cL_holds 473 = .ok (.invokevirtual 49, 3) := by decide +kernel
theorem dL_holds_476 : decode cL_holds 476 = .ok (.iload 11, 2) := by decide +kernel
theorem dL_holds_478 : decode cL_holds 478 = .ok (.if_icmp .ne 20, 3) := by decide +kernel
theorem dL_holds_481 : decode cL_holds 481 = .ok (.aload_n 0, 1) := by decide +kernel
theorem dL_holds_482 : decode cL_holds 482 = .ok (.aload_n 0, 1) := by decide +kernel
theorem dL_holds_483 : decode cL_holds 483 = .ok (.iconst 2, 1) := by decide +kernel
theorem dL_holds_484 : decode cL_holds 484 = .ok (.invokevirtual 49, 3) := by decide +kernel
theorem dL_holds_487 : decode cL_holds 487 = .ok (.invokevirtual 58, 3) := by decide +kernel
theorem dL_holds_490 : decode cL_holds 490 = .ok (.iconst (-1), 1) := by decide +kernel
theorem dL_holds_491 : decode cL_holds 491 = .ok (.if_icmp .ne 7, 3) := by decide +kernel
theorem dL_holds_494 : decode cL_holds 494 = .ok (.iconst 1, 1) := by decide +kernel
theorem dL_holds_495 : decode cL_holds 495 = .ok (.goto 4, 3) := by decide +kernel
theorem dL_holds_498 : decode cL_holds 498 = .ok (.iconst 0, 1) := by decide +kernel
theorem dL_holds_499 : decode cL_holds 499 = .ok (.ireturn, 1) := by decide +kernel
