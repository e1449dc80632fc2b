set_option maxRecDepth 20000 in
theorem ggL_addCondition_X5_addCondition : GoodIn wsL_addCondition wsX5_addCondition := goodIn_ca (goodIn_ca (goodIn_r _ [7, 8, 9, 10, 11, 12, 13, 14, 15, 6, 16, 17, 18, 19, 20, 21, 22, 23, 24, 25, 26, 27, 28, 29, 30, 31, 32, 33, 34, 35, 36, 37, 38, 39, 40, 41, 42, 43, 44, 45, 46, 47, 48, 49, 50, 51, 52, 53, 54, 55, 56, 57, 58, 59, 60, 61, 62, 63, 64, 65, 66, 67, 68, 69, 70, 71, 72, 73, 74, 75, 76] (by decide +kernel) (by decide +kernel)) (goodIn_sub (fun _ h => List.mem_cons_of_mem _ (List.mem_append_left _ (List.mem_append_right _ h))) (by decide +kernel))) (goodIn_sub (fun _ h => List.mem_cons_of_mem _ (List.mem_append_right _ h)) (by decide +kernel))
set_option maxRecDepth 20000 in
theorem gL_addCondition_X5_addCondition : GoodIn wsL_addCondition (wsV RL 7 RX5 yX5_addCondition wsX5_addCondition) := goodIn_app (goodIn_of _ (by decide +kernel)) ggL_addCondition_X5_addCondition
theorem dL_addCondition_0 : decode cL_addCondition 0 = .ok (.aload_n 3, 1) := by decide +kernel
theorem dL_addCondition_1 : decode cL_addCondition 1 = .ok (.iconst 0, 1) := by decide +kernel
theorem dL_addCondition_2 : decode cL_addCondition 2 = .ok (.aload_n 0, 1) := by decide +kernel
theorem dL_addCondition_3 : decode cL_addCondition 3 = .ok (.iload_n 1, 1) := by decide +kernel
theorem dL_addCondition_4 : decode cL_addCondition 4 = .ok (.iload_n 2, 1) := by decide +kernel
theorem dL_addCondition_5 : decode cL_addCondition 5 = .ok (.invokevirtual 7, 3) := by decide +kernel
theorem dL_addCondition_8 : decode cL_addCondition 8 = .ok (.i2l, 1) := by decide +kernel
theorem dL_addCondition_9 : decode cL_addCondition 9 = .ok (.lastore, 1) := by decide +kernel
theorem dL_addCondition_10 : decode cL_addCondition 10 = .ok (.goto 11, 3) := by decide +kernel
theorem dL_addCondition_13 : decode cL_addCondition 13 = .ok (.astore 4, 2) := by decide +kernel
theorem dL_addCondition_15 : decode cL_addCondition 15 = .ok (.iconst 1, 1) := by decide +kernel
theorem dL_addCondition_16 : decode cL_addCondition 16 = .ok (.ireturn, 1) := by decide +kernel
theorem dL_addCondition_17 : decode cL_addCondition 17 = .ok (.astore 4, 2) := by decide +kernel
theorem dL_addCondition_19 : decode cL_addCondition 19 = .ok (.iconst 2, 1) := by decide +kernel
theorem dL_addCondition_20 : decode cL_addCondition 20 = .ok (.ireturn, 1) := by decide +kernel
theorem dL_addCondition_21 : decode cL_addCondition 21 = .ok (.iconst 0, 1) := by decide +kernel
theorem dL_addCondition_22 : decode cL_addCondition 22 = .ok (.ireturn, 1) := by decide +kernel
set_option maxRecDepth 20000 in
theorem ggL_setCost_X5_setCost : GoodIn wsL_setCost wsX5_setCost := goodIn_ca (goodIn_ca (goodIn_r _ [7, 8, 9, 10, 11, 12, 13, 14, 15, 16, 6, 17, 18, 19, 20, 21, 22, 23, 24, 25, 26, 27, 28, 29, 30, 31, 32, 33, 34, 35, 36, 37, 38, 39, 40, 41, 42, 43, 44, 45, 46, 47, 48, 49, 50, 51, 52, 53, 54, 55, 56, 57, 58, 59, 60, 61, 62, 63, 64, 65, 66, 67, 68, 69, 70, 71, 72, 73] (by decide +kernel) (by decide +kernel)) (goodIn_sub (fun _ h => List.mem_cons_of_mem _ (List.mem_append_left _ (List.mem_append_right _ h))) (by decide +kernel))) (goodIn_sub (fun _ h => List.mem_cons_of_mem _ (List.mem_append_right _ h)) (by decide +kernel))
set_option maxRecDepth 20000 in
theorem gL_setCost_X5_setCost : GoodIn wsL_setCost (wsV RL 17 RX5 yX5_setCost wsX5_setCost) := goodIn_app (goodIn_of _ (by decide +kernel)) ggL_setCost_X5_setCost
theorem dL_setCost_0 : decode cL_setCost 0 = .ok (.aload_n 3, 1) := by decide +kernel
theorem dL_setCost_1 : decode cL_setCost 1 = .ok (.iconst 0, 1) := by decide +kernel
theorem dL_setCost_2 : decode cL_setCost 2 = .ok (.aload_n 0, 1) := by decide +kernel
theorem dL_setCost_3 : decode cL_setCost 3 = .ok (.iload_n 1, 1) := by decide +kernel
theorem dL_setCost_4 : decode cL_setCost 4 = .ok (.iload_n 2, 1) := by decide +kernel
theorem dL_setCost_5 : decode cL_setCost 5 = .ok (.invokevirtual 17, 3) := by decide +kernel
theorem dL_setCost_8 : decode cL_setCost 8 = .ok (.i2l, 1) := by decide +kernel
theorem dL_setCost_9 : decode cL_setCost 9 = .ok (.lastore, 1) := by decide +kernel
theorem dL_setCost_10 : decode cL_setCost 10 = .ok (.goto 11, 3) := by decide +kernel
theorem dL_setCost_13 : decode cL_setCost 13 = .ok (.astore 4, 2) := by decide +kernel
theorem dL_setCost_15 : decode cL_setCost 15 = .ok (.iconst 1, 1) := by decide +kernel
theorem dL_setCost_16 : decode cL_setCost 16 = .ok (.ireturn, 1) := by decide +kernel
theorem dL_setCost_17 : decode cL_setCost 17 = .ok (.astore 4, 2) := by decide +kernel
theorem dL_setCost_19 : decode cL_setCost 19 = .ok (.iconst 2, 1) := by decide +kernel
theorem dL_setCost_20 : decode cL_setCost 20 = .ok (.ireturn, 1) := by decide +kernel
theorem dL_setCost_21 : decode cL_setCost 21 = .ok (.iconst 0, 1) := by decide +kernel
theorem dL_setCost_22 : decode cL_setCost 22 = .ok (.ireturn, 1) := by decide +kernel
set_option maxRecDepth 20000 in
theorem ggL_addRow_X5_addRow : GoodIn wsL_addRow wsX5_addRow := goodIn_ca (goodIn_ca (goodIn_r _ [7, 8, 9, 10, 11, 12, 13, 14, 15, 6, 16, 17, 18, 19, 20, 21, 22, 23, 24, 25, 26, 27, 28, 29, 30, 31, 32, 33, 34, 35, 36, 37, 38, 39, 40, 41, 42, 43, 44, 45, 46, 47, 48, 49, 50, 51, 52, 53, 54, 55, 56, 57, 58, 59, 60, 61, 62, 63, 64, 65, 66, 67, 68, 69, 70, 71, 72, 73, 74, 75, 76, 77, 78, 79, 80, 81, 82, 83, 84] (by decide +kernel) (by decide +kernel)) (goodIn_sub (fun _ h => List.mem_cons_of_mem _ (List.mem_append_left _ (List.mem_append_right _ h))) (by decide +kernel))) (goodIn_sub (fun _ h => List.mem_cons_of_mem _ (List.mem_append_right _ h)) (by decide +kernel))
set_option maxRecDepth 20000 in
theorem gL_addRow_X5_addRow : GoodIn wsL_addRow (wsV RL 22 RX5 yX5_addRow wsX5_addRow) := goodIn_app (goodIn_of _ (by decide +kernel)) ggL_addRow_X5_addRow
theorem dL_addRow_0 : decode cL_addRow 0 = .ok (.aload_n 3, 1) := by decide +kernel
theorem dL_addRow_1 : decode cL_addRow 1 = .ok (.iconst 0, 1) := by decide +kernel
theorem dL_addRow_2 : decode cL_addRow 2 = .ok (.aload_n 0, 1) := by decide +kernel
theorem dL_addRow_3 : decode cL_addRow 3 = .ok (.iload_n 1, 1) := by decide +kernel
theorem dL_addRow_4 : decode cL_addRow 4 = .ok (.iload_n 2, 1) := by decide +kernel
theorem dL_addRow_5 : decode cL_addRow 5 = .ok (.invokevirtual 22, 3) := by decide +kernel
theorem dL_addRow_8 : decode cL_addRow 8 = .ok (.i2l, 1) := by decide +kernel
theorem dL_addRow_9 : decode cL_addRow 9 = .ok (.lastore, 1) := by decide +kernel
theorem dL_addRow_10 : decode cL_addRow 10 = .ok (.goto 11, 3) := by decide +kernel
theorem dL_addRow_13 : decode cL_addRow 13 = .ok (.astore 4, 2) := by decide +kernel
theorem dL_addRow_15 : decode cL_addRow 15 = .ok (.iconst 1, 1) := by decide +kernel
theorem dL_addRow_16 : decode cL_addRow 16 = .ok (.ireturn, 1) := by decide +kernel
theorem dL_addRow_17 : decode cL_addRow 17 = .ok (.astore 4, 2) := by decide +kernel
theorem dL_addRow_19 : decode cL_addRow 19 = .ok (.iconst 2, 1) := by decide +kernel
theorem dL_addRow_20 : decode cL_addRow 20 = .ok (.ireturn, 1) := by decide +kernel
theorem dL_addRow_21 : decode cL_addRow 21 = .ok (.iconst 0, 1) := by decide +kernel
theorem dL_addRow_22 : decode cL_addRow 22 = .ok (.ireturn, 1) := by decide +kernel
set_option maxRecDepth 20000 in
theorem ggL_setAnswers_X5_setAnswers : GoodIn wsL_setAnswers wsX5_setAnswers := goodIn_ca (goodIn_ca (goodIn_r _ [7, 8, 9, 10, 11, 12, 13, 14, 15, 16, 17, 18, 19, 20, 21, 22, 6, 23, 24, 25, 26, 27, 28, 29, 30, 31, 32, 33, 34, 35, 36, 37, 38, 39, 40, 41, 42, 43, 44, 45, 46, 47, 48, 49, 50, 51, 52, 53, 54, 55, 56, 57, 58, 59, 60, 61, 62, 63, 64, 65, 66, 67, 68, 69, 70, 71, 72, 73, 74, 75, 76, 77, 78, 79, 80, 81, 82, 83, 84, 85, 86, 87, 88, 89] (by decide +kernel) (by decide +kernel)) (goodIn_sub (fun _ h => List.mem_cons_of_mem _ (List.mem_append_left _ (List.mem_append_right _ h))) (by decide +kernel))) (goodIn_sub (fun _ h => List.mem_cons_of_mem _ (List.mem_append_right _ h)) (by decide +kernel))
set_option maxRecDepth 20000 in
theorem gL_setAnswers_X5_setAnswers : GoodIn wsL_setAnswers (wsV RL 25 RX5 yX5_setAnswers wsX5_setAnswers) := goodIn_app (goodIn_of _ (by decide +kernel)) ggL_setAnswers_X5_setAnswers
theorem dL_setAnswers_0 : decode cL_setAnswers 0 = .ok (.aload 4, 2) := by decide +kernel
theorem dL_setAnswers_2 : decode cL_setAnswers 2 = .ok (.iconst 0, 1) := by decide +kernel
theorem dL_setAnswers_3 : decode cL_setAnswers 3 = .ok (.aload_n 0, 1) := by decide +kernel
theorem dL_setAnswers_4 : decode cL_setAnswers 4 = .ok (.iload_n 1, 1) := by decide +kernel
theorem dL_setAnswers_5 : decode cL_setAnswers 5 = .ok (.iload_n 2, 1) := by decide +kernel
theorem dL_setAnswers_6 : decode cL_setAnswers 6 = .ok (.iload_n 3, 1) := by decide +kernel
theorem dL_setAnswers_7 : decode cL_setAnswers 7 = .ok (.invokevirtual 25, 3) := by decide +kernel
theorem dL_setAnswers_10 : decode cL_setAnswers 10 = .ok (.i2l, 1) := by decide +kernel
theorem dL_setAnswers_11 : decode cL_setAnswers 11 = .ok (.lastore, 1) := by decide +kernel
theorem dL_setAnswers_12 : decode cL_setAnswers 12 = .ok (.goto 11, 3) := by decide +kernel
theorem dL_setAnswers_15 : decode cL_setAnswers 15 = .ok (.astore 5, 2) := by decide +kernel
theorem dL_setAnswers_17 : decode cL_setAnswers 17 = .ok (.iconst 1, 1) := by decide +kernel
theorem dL_setAnswers_18 : decode cL_setAnswers 18 = .ok (.ireturn, 1) := by decide +kernel
theorem dL_setAnswers_19 : decode cL_setAnswers 19 = .ok (.astore 5, 2) := by decide +kernel
theorem dL_setAnswers_21 : decode cL_setAnswers 21 = .ok (.iconst 2, 1) := by decide +kernel
theorem dL_setAnswers_22 : decode cL_setAnswers 22 = .ok (.ireturn, 1) := by decide +kernel
theorem dL_setAnswers_23 : decode cL_setAnswers 23 = .ok (.iconst 0, 1) := by decide +kernel
theorem dL_setAnswers_24 : decode cL_setAnswers 24 = .ok (.ireturn, 1) := by decide +kernel
set_option maxRecDepth 20000 in
theorem ggL_setAction_X5_setAction : GoodIn wsL_setAction wsX5_setAction := goodIn_ca (goodIn_ca (goodIn_r _ [7, 8, 9, 10, 11, 12, 13, 14, 15, 16, 17, 18, 19, 20, 21, 22, 6, 23, 24, 25, 26, 27, 28, 29, 30, 31, 32, 33, 34, 35, 36, 37, 38, 39, 40, 41, 42, 43, 44, 45, 46, 47, 48, 49, 50, 51, 52, 53, 54, 55, 56, 57, 58, 59, 60, 61, 62, 63, 64, 65, 66, 67, 68, 69, 70, 71, 72] (by decide +kernel) (by decide +kernel)) (goodIn_sub (fun _ h => List.mem_cons_of_mem _ (List.mem_append_left _ (List.mem_append_right _ h))) (by decide +kernel))) (goodIn_sub (fun _ h => List.mem_cons_of_mem _ (List.mem_append_right _ h)) (by decide +kernel))
set_option maxRecDepth 20000 in
theorem gL_setAction_X5_setAction : GoodIn wsL_setAction (wsV RL 29 RX5 yX5_setAction wsX5_setAction) := goodIn_app (goodIn_of _ (by decide +kernel)) ggL_setAction_X5_setAction
theorem dL_setAction_0 : decode cL_setAction 0 = .ok (.aload_n 3, 1) := by decide +kernel
theorem dL_setAction_1 : decode cL_setAction 1 = .ok (.iconst 0, 1) := by decide +kernel
theorem dL_setAction_2 : decode cL_setAction 2 = .ok (.aload_n 0, 1) := by decide +kernel
theorem dL_setAction_3 : decode cL_setAction 3 = .ok (.iload_n 1, 1) := by decide +kernel
theorem dL_setAction_4 : decode cL_setAction 4 = .ok (.iload_n 2, 1) := by decide +kernel
theorem dL_setAction_5 : decode cL_setAction 5 = .ok (.invokevirtual 29, 3) := by decide +kernel
theorem dL_setAction_8 : decode cL_setAction 8 = .ok (.i2l, 1) := by decide +kernel
theorem dL_setAction_9 : decode cL_setAction 9 = .ok (.lastore, 1) := by decide +kernel
theorem dL_setAction_10 : decode cL_setAction 10 = .ok (.goto 11, 3) := by decide +kernel
theorem dL_setAction_13 : decode cL_setAction 13 = .ok (.astore 4, 2) := by decide +kernel
theorem dL_setAction_15 : decode cL_setAction 15 = .ok (.iconst 1, 1) := by decide +kernel
theorem dL_setAction_16 : decode cL_setAction 16 = .ok (.ireturn, 1) := by decide +kernel
theorem dL_setAction_17 : decode cL_setAction 17 = .ok (.astore 4, 2) := by decide +kernel
theorem dL_setAction_19 : decode cL_setAction 19 = .ok (.iconst 2, 1) := by decide +kernel
theorem dL_setAction_20 : decode cL_setAction 20 = .ok (.ireturn, 1) := by decide +kernel
theorem dL_setAction_21 : decode cL_setAction 21 = .ok (.iconst 0, 1) := by decide +kernel
theorem dL_setAction_22 : decode cL_setAction 22 = .ok (.ireturn, 1) := by decide +kernel
set_option maxRecDepth 20000 in
theorem ggL_dropRow_X5_dropRow : GoodIn wsL_dropRow wsX5_dropRow := goodIn_ca (goodIn_r _ [6, 7, 8, 9, 10, 11, 12, 13, 14, 15, 16, 17, 18, 19, 5, 20, 21, 22, 23, 24, 25, 26, 27, 28, 29, 30, 31, 32, 33, 34, 35, 36, 37, 38, 39, 40, 41, 42, 43, 44, 45, 46, 47, 48, 49, 50, 51, 52, 53, 54, 55, 56, 57, 58, 59, 60, 61, 62, 63, 64, 65, 66, 67, 68, 69, 70, 71, 72, 73] (by decide +kernel) (by decide +kernel)) (goodIn_sub (fun _ h => List.mem_cons_of_mem _ (List.mem_append_right _ h)) (by decide +kernel))
set_option maxRecDepth 20000 in
theorem gL_dropRow_X5_dropRow : GoodIn wsL_dropRow (wsV RL 32 RX5 yX5_dropRow wsX5_dropRow) := goodIn_app (goodIn_of _ (by decide +kernel)) ggL_dropRow_X5_dropRow
theorem dL_dropRow_0 : decode cL_dropRow 0 = .ok (.aload_n 2, 1) := by decide +kernel
theorem dL_dropRow_1 : decode cL_dropRow 1 = .ok (.iconst 0, 1) := by decide +kernel
theorem dL_dropRow_2 : decode cL_dropRow 2 = .ok (.aload_n 0, 1) := by decide +kernel
theorem dL_dropRow_3 : decode cL_dropRow 3 = .ok (.iload_n 1, 1) := by decide +kernel
theorem dL_dropRow_4 : decode cL_dropRow 4 = .ok (.invokevirtual 32, 3) := by decide +kernel
theorem dL_dropRow_7 : decode cL_dropRow 7 = .ok (.i2l, 1) := by decide +kernel
theorem dL_dropRow_8 : decode cL_dropRow 8 = .ok (.lastore, 1) := by decide +kernel
theorem dL_dropRow_9 : decode cL_dropRow 9 = .ok (.goto 6, 3) := by decide +kernel
theorem dL_dropRow_12 : decode cL_dropRow 12 = .ok (.astore_n 3, 1) := by decide +kernel
theorem dL_dropRow_13 : decode cL_dropRow 13 = .ok (.iconst 1, 1) := by decide +kernel
theorem dL_dropRow_14 : decode cL_dropRow 14 = .ok (.ireturn, 1) := by decide +kernel
theorem dL_dropRow_15 : decode cL_dropRow 15 = .ok (.iconst 0, 1) := by decide +kernel
theorem dL_dropRow_16 : decode cL_dropRow 16 = .ok (.ireturn, 1) := by decide +kernel
set_option maxRecDepth 20000 in
theorem ggL_moveUp_X5_moveUp : GoodIn wsL_moveUp wsX5_moveUp := goodIn_ca (goodIn_ca (goodIn_r _ [7, 8, 9, 10, 11, 12, 13, 14, 15, 16, 17, 18, 19, 20, 21, 22, 6, 23, 24, 25, 26, 27, 28, 29, 30, 31, 32, 33, 34, 35, 36, 37, 38, 39, 40, 41, 42, 43, 44, 45, 46, 47, 48, 49, 50, 51, 52, 53, 54, 55, 56, 57, 58, 59, 60, 61, 62, 63, 64, 65, 66, 67, 68, 69, 70, 71, 72, 73, 74, 75, 76] (by decide +kernel) (by decide +kernel)) (goodIn_sub (fun _ h => List.mem_cons_of_mem _ (List.mem_append_left _ (List.mem_append_right _ h))) (by decide +kernel))) (goodIn_sub (fun _ h => List.mem_cons_of_mem _ (List.mem_append_right _ h)) (by decide +kernel))
set_option maxRecDepth 20000 in
theorem gL_moveUp_X5_moveUp : GoodIn wsL_moveUp (wsV RL 36 RX5 yX5_moveUp wsX5_moveUp) := goodIn_app (goodIn_of _ (by decide +kernel)) ggL_moveUp_X5_moveUp
theorem dL_moveUp_0 : decode cL_moveUp 0 = .ok (.aload_n 2, 1) := by decide +kernel
theorem dL_moveUp_1 : decode cL_moveUp 1 = .ok (.iconst 0, 1) := by decide +kernel
theorem dL_moveUp_2 : decode cL_moveUp 2 = .ok (.aload_n 0, 1) := by decide +kernel
theorem dL_moveUp_3 : decode cL_moveUp 3 = .ok (.iload_n 1, 1) := by decide +kernel
theorem dL_moveUp_4 : decode cL_moveUp 4 = .ok (.invokevirtual 36, 3) := by decide +kernel
theorem dL_moveUp_7 : decode cL_moveUp 7 = .ok (.i2l, 1) := by decide +kernel
theorem dL_moveUp_8 : decode cL_moveUp 8 = .ok (.lastore, 1) := by decide +kernel
theorem dL_moveUp_9 : decode cL_moveUp 9 = .ok (.goto 9, 3) := by decide +kernel
theorem dL_moveUp_12 : decode cL_moveUp 12 = .ok (.astore_n 3, 1) := by decide +kernel
theorem dL_moveUp_13 : decode cL_moveUp 13 = .ok (.iconst 1, 1) := by decide +kernel
theorem dL_moveUp_14 : decode cL_moveUp 14 = .ok (.ireturn, 1) := by decide +kernel
theorem dL_moveUp_15 : decode cL_moveUp 15 = .ok (.astore_n 3, 1) := by decide +kernel
theorem dL_moveUp_16 : decode cL_moveUp 16 = .ok (.iconst 2, 1) := by decide +kernel
theorem dL_moveUp_17 : decode cL_moveUp 17 = .ok (.ireturn, 1) := by decide +kernel
theorem dL_moveUp_18 : decode cL_moveUp 18 = .ok (.iconst 0, 1) := by decide +kernel
theorem dL_moveUp_19 : decode cL_moveUp 19 = .ok (.ireturn, 1) := by decide +kernel
set_option maxRecDepth 20000 in
theorem ggL_merge_X5_merge : GoodIn wsL_merge wsX5_merge := goodIn_ca (goodIn_ca (goodIn_r _ [7, 8, 9, 10, 11, 12, 13, 14, 15, 16, 17, 18, 19, 20, 21, 22, 23, 24, 25, 26, 27, 28, 29, 30, 31, 32, 33, 6, 34, 35, 36, 37, 38, 39, 40, 41, 42, 43, 44, 45, 46, 47, 48, 49, 50, 51, 52, 53, 54, 55, 56, 57, 58, 59, 60, 61, 62, 63, 64, 65, 66, 67, 68, 69, 70, 71, 72, 73, 74, 75, 76, 77, 78, 79, 80, 81, 82, 83, 84, 85, 86, 87, 88] (by decide +kernel) (by decide +kernel)) (goodIn_sub (fun _ h => List.mem_cons_of_mem _ (List.mem_append_left _ (List.mem_append_right _ h))) (by decide +kernel))) (goodIn_sub (fun _ h => List.mem_cons_of_mem _ (List.mem_append_right _ h)) (by decide +kernel))
set_option maxRecDepth 20000 in
theorem gL_merge_X5_merge : GoodIn wsL_merge (wsV RL 39 RX5 yX5_merge wsX5_merge) := goodIn_app (goodIn_of _ (by decide +kernel)) ggL_merge_X5_merge
theorem dL_merge_0 : decode cL_merge 0 = .ok (.aload_n 2, 1) := by decide +kernel
theorem dL_merge_1 : decode cL_merge 1 = .ok (.iconst 0, 1) := by decide +kernel
theorem dL_merge_2 : decode cL_merge 2 = .ok (.aload_n 0, 1) := by decide +kernel
theorem dL_merge_3 : decode cL_merge 3 = .ok (.iload_n 1, 1) := by decide +kernel
theorem dL_merge_4 : decode cL_merge 4 = .ok (.invokevirtual 39, 3) := by decide +kernel
theorem dL_merge_7 : decode cL_merge 7 = .ok (.i2l, 1) := by decide +kernel
theorem dL_merge_8 : decode cL_merge 8 = .ok (.lastore, 1) := by decide +kernel
theorem dL_merge_9 : decode cL_merge 9 = .ok (.goto 9, 3) := by decide +kernel
theorem dL_merge_12 : decode cL_merge 12 = .ok (.astore_n 3, 1) := by decide +kernel
theorem dL_merge_13 : decode cL_merge 13 = .ok (.iconst 1, 1) := by decide +kernel
theorem dL_merge_14 : decode cL_merge 14 = .ok (.ireturn, 1) := by decide +kernel
theorem dL_merge_15 : decode cL_merge 15 = .ok (.astore_n 3, 1) := by decide +kernel
theorem dL_merge_16 : decode cL_merge 16 = .ok (.iconst 2, 1) := by decide +kernel
theorem dL_merge_17 : decode cL_merge 17 = .ok (.ireturn, 1) := by decide +kernel
theorem dL_merge_18 : decode cL_merge 18 = .ok (.iconst 0, 1) := by decide +kernel
theorem dL_merge_19 : decode cL_merge 19 = .ok (.ireturn, 1) := by decide +kernel
set_option maxRecDepth 20000 in
theorem ggL_condition_X5_condition : GoodIn wsL_condition wsX5_condition := goodIn_ca (goodIn_ca (goodIn_r _ [7, 8, 9, 10, 11, 12, 13, 14, 6, 15, 16, 17, 18, 19, 20, 21, 22, 23, 24, 25, 26, 27, 28, 29, 30, 31, 32, 33, 34, 35, 36, 37, 38, 39, 40, 41, 42, 43, 44, 45, 46, 47, 48, 49, 50, 51, 52, 53, 54, 55, 56, 57, 58, 59, 60, 61, 62, 63, 64, 65, 66, 67, 68, 69, 70, 71, 72, 73, 74, 75, 76, 77, 78, 79, 80, 81, 82, 83, 84, 85, 86, 87, 88, 89, 90, 91, 92, 93, 94, 95, 96] (by decide +kernel) (by decide +kernel)) (goodIn_sub (fun _ h => List.mem_cons_of_mem _ (List.mem_append_left _ (List.mem_append_right _ h))) (by decide +kernel))) (goodIn_sub (fun _ h => List.mem_cons_of_mem _ (List.mem_append_right _ h)) (by decide +kernel))
set_option maxRecDepth 20000 in
theorem gL_condition_X5_condition : GoodIn wsL_condition (wsV RL 42 RX5 yX5_condition wsX5_condition) := goodIn_app (goodIn_of _ (by decide +kernel)) ggL_condition_X5_condition
theorem dL_condition_0 : decode cL_condition 0 = .ok (.aload_n 3, 1) := by decide +kernel
theorem dL_condition_1 : decode cL_condition 1 = .ok (.iconst 0, 1) := by decide +kernel
theorem dL_condition_2 : decode cL_condition 2 = .ok (.aload_n 0, 1) := by decide +kernel
theorem dL_condition_3 : decode cL_condition 3 = .ok (.iload_n 1, 1) := by decide +kernel
theorem dL_condition_4 : decode cL_condition 4 = .ok (.iload_n 2, 1) := by decide +kernel
theorem dL_condition_5 : decode cL_condition 5 = .ok (.invokevirtual 42, 3) := by decide +kernel
theorem dL_condition_8 : decode cL_condition 8 = .ok (.i2l, 1) := by decide +kernel
theorem dL_condition_9 : decode cL_condition 9 = .ok (.lastore, 1) := by decide +kernel
theorem dL_condition_10 : decode cL_condition 10 = .ok (.goto 11, 3) := by decide +kernel
theorem dL_condition_13 : decode cL_condition 13 = .ok (.astore 4, 2) := by decide +kernel
theorem dL_condition_15 : decode cL_condition 15 = .ok (.iconst 1, 1) := by decide +kernel
theorem dL_condition_16 : decode cL_condition 16 = .ok (.ireturn, 1) := by decide +kernel
theorem dL_condition_17 : decode cL_condition 17 = .ok (.astore 4, 2) := by decide +kernel
theorem dL_condition_19 : decode cL_condition 19 = .ok (.iconst 2, 1) := by decide +kernel
theorem dL_condition_20 : decode cL_condition 20 = .ok (.ireturn, 1) := by decide +kernel
theorem dL_condition_21 : decode cL_condition 21 = .ok (.iconst 0, 1) := by decide +kernel
theorem dL_condition_22 : decode cL_condition 22 = .ok (.ireturn, 1) := by decide +kernel
set_option maxRecDepth 20000 in
theorem ggL_row_X5_row : GoodIn wsL_row wsX5_row := goodIn_ca (goodIn_ca (goodIn_r _ [7, 8, 9, 10, 11, 12, 13, 14, 15, 16, 17, 18, 19, 20, 21, 22, 6, 23, 24, 25, 26, 27, 28, 29, 30, 31, 32, 33, 34, 35, 36, 37, 38, 39, 40, 41, 42, 43, 44, 45, 46, 47, 48, 49, 50, 51, 52, 53, 54, 55, 56, 57, 58, 59, 60, 61, 62, 63, 64, 65, 66, 67, 68, 69, 70, 71, 72, 73, 74, 75, 76, 77, 78, 79, 80, 81, 82, 83, 84, 85, 86, 87, 88, 89, 90, 91, 92, 93, 94, 95, 96, 97, 98, 99, 100, 101, 102, 103, 104, 105, 106, 107, 108, 109, 110, 111, 112] (by decide +kernel) (by decide +kernel)) (goodIn_sub (fun _ h => List.mem_cons_of_mem _ (List.mem_append_left _ (List.mem_append_right _ h))) (by decide +kernel))) (goodIn_sub (fun _ h => List.mem_cons_of_mem _ (List.mem_append_right _ h)) (by decide +kernel))
set_option maxRecDepth 20000 in
theorem gL_row_X5_row : GoodIn wsL_row (wsV RL 45 RX5 yX5_row wsX5_row) := goodIn_app (goodIn_of _ (by decide +kernel)) ggL_row_X5_row
theorem dL_row_0 : decode cL_row 0 = .ok (.aload_n 3, 1) := by decide +kernel
theorem dL_row_1 : decode cL_row 1 = .ok (.iconst 0, 1) := by decide +kernel
theorem dL_row_2 : decode cL_row 2 = .ok (.aload_n 0, 1) := by decide +kernel
theorem dL_row_3 : decode cL_row 3 = .ok (.iload_n 1, 1) := by decide +kernel
theorem dL_row_4 : decode cL_row 4 = .ok (.iload_n 2, 1) := by decide +kernel
theorem dL_row_5 : decode cL_row 5 = .ok (.invokevirtual 45, 3) := by decide +kernel
theorem dL_row_8 : decode cL_row 8 = .ok (.i2l, 1) := by decide +kernel
theorem dL_row_9 : decode cL_row 9 = .ok (.lastore, 1) := by decide +kernel
theorem dL_row_10 : decode cL_row 10 = .ok (.goto 11, 3) := by decide +kernel
theorem dL_row_13 : decode cL_row 13 = .ok (.astore 4, 2) := by decide +kernel
theorem dL_row_15 : decode cL_row 15 = .ok (.iconst 1, 1) := by decide +kernel
theorem dL_row_16 : decode cL_row 16 = .ok (.ireturn, 1) := by decide +kernel
theorem dL_row_17 : decode cL_row 17 = .ok (.astore 4, 2) := by decide +kernel
theorem dL_row_19 : decode cL_row 19 = .ok (.iconst 2, 1) := by decide +kernel
theorem dL_row_20 : decode cL_row 20 = .ok (.ireturn, 1) := by decide +kernel
theorem dL_row_21 : decode cL_row 21 = .ok (.iconst 0, 1) := by decide +kernel
theorem dL_row_22 : decode cL_row 22 = .ok (.ireturn, 1) := by decide +kernel
set_option maxRecDepth 20000 in
theorem ggL_answers_X5_answers : GoodIn wsL_answers wsX5_answers := goodIn_ca (goodIn_r _ [6, 7, 8, 9, 10, 11, 12, 13, 14, 15, 16, 17, 18, 19, 5, 20, 21, 22, 23, 24, 25, 26, 27, 28, 29, 30, 31, 32, 33, 34, 35, 36, 37, 38, 39, 40, 41] (by decide +kernel) (by decide +kernel)) (goodIn_sub (fun _ h => List.mem_cons_of_mem _ (List.mem_append_right _ h)) (by decide +kernel))
set_option maxRecDepth 20000 in
theorem gL_answers_X5_answers : GoodIn wsL_answers (wsV RL 48 RX5 yX5_answers wsX5_answers) := goodIn_app (goodIn_of _ (by decide +kernel)) ggL_answers_X5_answers
theorem dL_answers_0 : decode cL_answers 0 = .ok (.aload_n 3, 1) := by decide +kernel
theorem dL_answers_1 : decode cL_answers 1 = .ok (.iconst 0, 1) := by decide +kernel
theorem dL_answers_2 : decode cL_answers 2 = .ok (.aload_n 0, 1) := by decide +kernel
theorem dL_answers_3 : decode cL_answers 3 = .ok (.iload_n 1, 1) := by decide +kernel
theorem dL_answers_4 : decode cL_answers 4 = .ok (.iload_n 2, 1) := by decide +kernel
theorem dL_answers_5 : decode cL_answers 5 = .ok (.invokevirtual 48, 3) := by decide +kernel
theorem dL_answers_8 : decode cL_answers 8 = .ok (.i2l, 1) := by decide +kernel
theorem dL_answers_9 : decode cL_answers 9 = .ok (.lastore, 1) := by decide +kernel
theorem dL_answers_10 : decode cL_answers 10 = .ok (.goto 7, 3) := by decide +kernel
theorem dL_answers_13 : decode cL_answers 13 = .ok (.astore 4, 2) := by decide +kernel
theorem dL_answers_15 : decode cL_answers 15 = .ok (.iconst 1, 1) := by decide +kernel
theorem dL_answers_16 : decode cL_answers 16 = .ok (.ireturn, 1) := by decide +kernel
theorem dL_answers_17 : decode cL_answers 17 = .ok (.iconst 0, 1) := by decide +kernel
theorem dL_answers_18 : decode cL_answers 18 = .ok (.ireturn, 1) := by decide +kernel
set_option maxRecDepth 20000 in
theorem ggL_rowAt_X5_rowAt : GoodIn wsL_rowAt wsX5_rowAt := goodIn_ca (goodIn_r _ [6, 7, 8, 9, 10, 11, 12, 13, 14, 15, 16, 17, 18, 19, 20, 21, 22, 23, 24, 25, 26] (by decide +kernel) (by decide +kernel)) (goodIn_sub (fun _ h => List.mem_cons_of_mem _ (List.mem_append_right _ h)) (by decide +kernel))
set_option maxRecDepth 20000 in
theorem gL_rowAt_X5_rowAt : GoodIn wsL_rowAt (wsV RL 51 RX5 yX5_rowAt wsX5_rowAt) := goodIn_app (goodIn_of _ (by decide +kernel)) ggL_rowAt_X5_rowAt
theorem dL_rowAt_0 : decode cL_rowAt 0 = .ok (.aload_n 2, 1) := by decide +kernel
theorem dL_rowAt_1 : decode cL_rowAt 1 = .ok (.iconst 0, 1) := by decide +kernel
theorem dL_rowAt_2 : decode cL_rowAt 2 = .ok (.aload_n 0, 1) := by decide +kernel
theorem dL_rowAt_3 : decode cL_rowAt 3 = .ok (.iload_n 1, 1) := by decide +kernel
theorem dL_rowAt_4 : decode cL_rowAt 4 = .ok (.invokevirtual 51, 3) := by decide +kernel
theorem dL_rowAt_7 : decode cL_rowAt 7 = .ok (.i2l, 1) := by decide +kernel
theorem dL_rowAt_8 : decode cL_rowAt 8 = .ok (.lastore, 1) := by decide +kernel
theorem dL_rowAt_9 : decode cL_rowAt 9 = .ok (.goto 6, 3) := by decide +kernel
theorem dL_rowAt_12 : decode cL_rowAt 12 = .ok (.astore_n 3, 1) := by decide +kernel
theorem dL_rowAt_13 : decode cL_rowAt 13 = .ok (.iconst 1, 1) := by decide +kernel
theorem dL_rowAt_14 : decode cL_rowAt 14 = .ok (.ireturn, 1) := by decide +kernel
theorem dL_rowAt_15 : decode cL_rowAt 15 = .ok (.iconst 0, 1) := by decide +kernel
theorem dL_rowAt_16 : decode cL_rowAt 16 = .ok (.ireturn, 1) := by decide +kernel
set_option maxRecDepth 20000 in
theorem ggL_caseOf_X5_caseOf : GoodIn wsL_caseOf wsX5_caseOf := goodIn_ca (goodIn_ca (goodIn_r _ [7, 8, 9, 10, 11, 12, 13, 14, 6, 15, 16, 17, 18, 19, 20, 21, 22, 23, 24, 25, 26, 27, 28, 29, 30, 31, 32, 33, 34, 35, 36, 37, 38, 39, 40, 41, 42, 43, 44, 45, 46, 47, 48, 49, 50, 51, 52, 53, 54, 55, 56, 57, 58, 59, 60, 61, 62, 63, 64, 65, 66, 67, 68, 69, 70, 71, 72, 73, 74, 75, 76, 77, 78, 79, 80, 81, 82, 83, 84, 85, 86, 87, 88, 89, 90, 91, 92, 93, 94, 95, 96, 97, 98, 99, 100, 101] (by decide +kernel) (by decide +kernel)) (goodIn_sub (fun _ h => List.mem_cons_of_mem _ (List.mem_append_left _ (List.mem_append_right _ h))) (by decide +kernel))) (goodIn_sub (fun _ h => List.mem_cons_of_mem _ (List.mem_append_right _ h)) (by decide +kernel))
set_option maxRecDepth 20000 in
theorem gL_caseOf_X5_caseOf : GoodIn wsL_caseOf (wsV RL 54 RX5 yX5_caseOf wsX5_caseOf) := goodIn_app (goodIn_of _ (by decide +kernel)) ggL_caseOf_X5_caseOf
theorem dL_caseOf_0 : decode cL_caseOf 0 = .ok (.aload_n 3, 1) := by decide +kernel
theorem dL_caseOf_1 : decode cL_caseOf 1 = .ok (.iconst 0, 1) := by decide +kernel
theorem dL_caseOf_2 : decode cL_caseOf 2 = .ok (.aload_n 0, 1) := by decide +kernel
theorem dL_caseOf_3 : decode cL_caseOf 3 = .ok (.iload_n 1, 1) := by decide +kernel
theorem dL_caseOf_4 : decode cL_caseOf 4 = .ok (.iload_n 2, 1) := by decide +kernel
theorem dL_caseOf_5 : decode cL_caseOf 5 = .ok (.invokevirtual 54, 3) := by decide +kernel
theorem dL_caseOf_8 : decode cL_caseOf 8 = .ok (.i2l, 1) := by decide +kernel
theorem dL_caseOf_9 : decode cL_caseOf 9 = .ok (.lastore, 1) := by decide +kernel
theorem dL_caseOf_10 : decode cL_caseOf 10 = .ok (.goto 11, 3) := by decide +kernel
theorem dL_caseOf_13 : decode cL_caseOf 13 = .ok (.astore 4, 2) := by decide +kernel
theorem dL_caseOf_15 : decode cL_caseOf 15 = .ok (.iconst 1, 1) := by decide +kernel
theorem dL_caseOf_16 : decode cL_caseOf 16 = .ok (.ireturn, 1) := by decide +kernel
theorem dL_caseOf_17 : decode cL_caseOf 17 = .ok (.astore 4, 2) := by decide +kernel
theorem dL_caseOf_19 : decode cL_caseOf 19 = .ok (.iconst 2, 1) := by decide +kernel
theorem dL_caseOf_20 : decode cL_caseOf 20 = .ok (.ireturn, 1) := by decide +kernel
theorem dL_caseOf_21 : decode cL_caseOf 21 = .ok (.iconst 0, 1) := by decide +kernel
theorem dL_caseOf_22 : decode cL_caseOf 22 = .ok (.ireturn, 1) := by decide +kernel
set_option maxRecDepth 20000 in
theorem ggL_answerOf_X5_answerOf : GoodIn wsL_answerOf wsX5_answerOf := goodIn_ca (goodIn_r _ [6, 7, 8, 9, 10, 11, 12, 5, 13, 14, 15, 16, 17, 18, 19, 20, 21, 22, 23, 24, 25, 26, 27, 28, 29, 30, 31, 32, 33, 34, 35, 36, 37, 38, 39, 40, 41, 42, 43, 44, 45, 46, 47, 48, 49, 50, 51, 52, 53, 54, 55, 56, 57, 58, 59, 60, 61, 62, 63, 64, 65, 66, 67, 68, 69, 70, 71, 72, 73, 74, 75, 76, 77, 78, 79, 80, 81, 82, 83, 84, 85, 86, 87, 88, 89, 90, 91, 92] (by decide +kernel) (by decide +kernel)) (goodIn_sub (fun _ h => List.mem_cons_of_mem _ (List.mem_append_right _ h)) (by decide +kernel))
set_option maxRecDepth 20000 in
theorem gL_answerOf_X5_answerOf : GoodIn wsL_answerOf (wsV RL 57 RX5 yX5_answerOf wsX5_answerOf) := goodIn_app (goodIn_of _ (by decide +kernel)) ggL_answerOf_X5_answerOf
theorem dL_answerOf_0 : decode cL_answerOf 0 = .ok (.aload_n 3, 1) := by decide +kernel
theorem dL_answerOf_1 : decode cL_answerOf 1 = .ok (.iconst 0, 1) := by decide +kernel
theorem dL_answerOf_2 : decode cL_answerOf 2 = .ok (.aload_n 0, 1) := by decide +kernel
theorem dL_answerOf_3 : decode cL_answerOf 3 = .ok (.iload_n 1, 1) := by decide +kernel
theorem dL_answerOf_4 : decode cL_answerOf 4 = .ok (.iload_n 2, 1) := by decide +kernel
theorem dL_answerOf_5 : decode cL_answerOf 5 = .ok (.invokevirtual 57, 3) := by decide +kernel
theorem dL_answerOf_8 : decode cL_answerOf 8 = .ok (.i2l, 1) := by decide +kernel
theorem dL_answerOf_9 : decode cL_answerOf 9 = .ok (.lastore, 1) := by decide +kernel
theorem dL_answerOf_10 : decode cL_answerOf 10 = .ok (.goto 7, 3) := by decide +kernel
theorem dL_answerOf_13 : decode cL_answerOf 13 = .ok (.astore 4, 2) := by decide +kernel
theorem dL_answerOf_15 : decode cL_answerOf 15 = .ok (.iconst 1, 1) := by decide +kernel
theorem dL_answerOf_16 : decode cL_answerOf 16 = .ok (.ireturn, 1) := by decide +kernel
theorem dL_answerOf_17 : decode cL_answerOf 17 = .ok (.iconst 0, 1) := by decide +kernel
theorem dL_answerOf_18 : decode cL_answerOf 18 = .ok (.ireturn, 1) := by decide +kernel
set_option maxRecDepth 20000 in
theorem ggL_hole_X5_hole : GoodIn wsL_hole wsX5_hole := goodIn_ca (goodIn_r _ [6, 7, 8, 9, 10, 11, 12, 5, 13, 14, 15, 16, 17, 18, 19, 20, 21, 22, 23, 24, 25, 26, 27, 28, 29, 30, 31, 32, 33, 34, 35, 36, 37, 38, 39, 40, 41, 42, 43, 44, 45, 46, 47, 48, 49, 50, 51, 52, 53, 54, 55, 56, 57, 58, 59, 60, 61, 62, 63, 64, 65, 66, 67, 68, 69, 70, 71, 72, 73, 74, 75, 76, 77, 78, 79, 80, 81] (by decide +kernel) (by decide +kernel)) (goodIn_sub (fun _ h => List.mem_cons_of_mem _ (List.mem_append_right _ h)) (by decide +kernel))
set_option maxRecDepth 20000 in
theorem gL_hole_X5_hole : GoodIn wsL_hole (wsV RL 60 RX5 yX5_hole wsX5_hole) := goodIn_app (goodIn_of _ (by decide +kernel)) ggL_hole_X5_hole
theorem dL_hole_0 : decode cL_hole 0 = .ok (.aload_n 2, 1) := by decide +kernel
theorem dL_hole_1 : decode cL_hole 1 = .ok (.iconst 0, 1) := by decide +kernel
theorem dL_hole_2 : decode cL_hole 2 = .ok (.aload_n 0, 1) := by decide +kernel
theorem dL_hole_3 : decode cL_hole 3 = .ok (.iload_n 1, 1) := by decide +kernel
theorem dL_hole_4 : decode cL_hole 4 = .ok (.invokevirtual 60, 3) := by decide +kernel
theorem dL_hole_7 : decode cL_hole 7 = .ok (.i2l, 1) := by decide +kernel
theorem dL_hole_8 : decode cL_hole 8 = .ok (.lastore, 1) := by decide +kernel
theorem dL_hole_9 : decode cL_hole 9 = .ok (.goto 6, 3) := by decide +kernel
theorem dL_hole_12 : decode cL_hole 12 = .ok (.astore_n 3, 1) := by decide +kernel
theorem dL_hole_13 : decode cL_hole 13 = .ok (.iconst 1, 1) := by decide +kernel
theorem dL_hole_14 : decode cL_hole 14 = .ok (.ireturn, 1) := by decide +kernel
theorem dL_hole_15 : decode cL_hole 15 = .ok (.iconst 0, 1) := by decide +kernel
theorem dL_hole_16 : decode cL_hole 16 = .ok (.ireturn, 1) := by decide +kernel
set_option maxRecDepth 20000 in
theorem ggL_whole_X5_whole : GoodIn wsL_whole wsX5_whole := goodIn_ca (goodIn_r _ [6, 7, 8, 9, 10, 11, 5, 12, 13, 14, 15, 16, 17, 18, 19, 20, 21, 22, 23, 24, 25, 26, 27, 28, 29, 30, 31, 32, 33, 34, 35, 36, 37, 38, 39, 40, 41, 42, 43, 44, 45, 46, 47, 48, 49, 50, 51, 52, 53, 54, 55, 56, 57, 58, 59, 60, 61, 62, 63, 64, 65, 66, 67, 68, 69, 70, 71, 72, 73, 74, 75, 76, 77, 78, 79, 80, 81, 82, 83, 84, 85, 86, 87, 88, 89, 90, 91, 92, 93, 94, 95, 96, 97, 98, 99, 100, 101, 102, 103, 104, 105, 106, 107, 108, 109, 110, 111, 112, 113, 114, 115, 116, 117, 118, 119, 120, 121, 122, 123, 124, 125, 126, 127, 128, 129, 130, 131, 132, 133, 134, 135, 136, 137, 138, 139, 140, 141, 142, 143, 144, 145, 146, 147, 148, 149, 150, 151, 152, 153, 154, 155, 156, 157, 158, 159, 160, 161, 162, 163, 164, 165, 166, 167, 168, 169, 170, 171, 172, 173, 174] (by decide +kernel) (by decide +kernel)) (goodIn_sub (fun _ h => List.mem_cons_of_mem _ (List.mem_append_right _ h)) (by decide +kernel))
set_option maxRecDepth 20000 in
theorem gL_whole_X5_whole : GoodIn wsL_whole (wsV RL 63 RX5 yX5_whole wsX5_whole) := goodIn_app (goodIn_of _ (by decide +kernel)) ggL_whole_X5_whole
theorem dL_whole_0 : decode cL_whole 0 = .ok (.aload_n 2, 1) := by decide +kernel
theorem dL_whole_1 : decode cL_whole 1 = .ok (.iconst 0, 1) := by decide +kernel
theorem dL_whole_2 : decode cL_whole 2 = .ok (.aload_n 0, 1) := by decide +kernel
theorem dL_whole_3 : decode cL_whole 3 = .ok (.iload_n 1, 1) := by decide +kernel
theorem dL_whole_4 : decode cL_whole 4 = .ok (.invokevirtual 63, 3) := by decide +kernel
theorem dL_whole_7 : decode cL_whole 7 = .ok (.i2l, 1) := by decide +kernel
theorem dL_whole_8 : decode cL_whole 8 = .ok (.lastore, 1) := by decide +kernel
theorem dL_whole_9 : decode cL_whole 9 = .ok (.goto 6, 3) := by decide +kernel
theorem dL_whole_12 : decode cL_whole 12 = .ok (.astore_n 3, 1) := by decide +kernel
theorem dL_whole_13 : decode cL_whole 13 = .ok (.iconst 1, 1) := by decide +kernel
theorem dL_whole_14 : decode cL_whole 14 = .ok (.ireturn, 1) := by decide +kernel
theorem dL_whole_15 : decode cL_whole 15 = .ok (.iconst 0, 1) := by decide +kernel
theorem dL_whole_16 : decode cL_whole 16 = .ok (.ireturn, 1) := by decide +kernel
set_option maxRecDepth 20000 in
theorem ggL_reason_X5_reason : GoodIn wsL_reason wsX5_reason := goodIn_ca (goodIn_r _ [6, 7, 8, 9, 10, 11, 12, 13, 14, 15, 16, 17, 18, 19, 20, 21, 22, 23, 24, 25, 26, 27, 28, 29, 30, 31, 32, 33, 34, 35, 36, 37, 38, 39, 40, 41, 42] (by decide +kernel) (by decide +kernel)) (goodIn_sub (fun _ h => List.mem_cons_of_mem _ (List.mem_append_right _ h)) (by decide +kernel))
set_option maxRecDepth 20000 in
theorem gL_reason_X5_reason : GoodIn wsL_reason (wsV RL 66 RX5 yX5_reason wsX5_reason) := goodIn_app (goodIn_of _ (by decide +kernel)) ggL_reason_X5_reason
theorem dL_reason_0 : decode cL_reason 0 = .ok (.aload_n 2, 1) := by decide +kernel
theorem dL_reason_1 : decode cL_reason 1 = .ok (.iconst 0, 1) := by decide +kernel
theorem dL_reason_2 : decode cL_reason 2 = .ok (.aload_n 0, 1) := by decide +kernel
theorem dL_reason_3 : decode cL_reason 3 = .ok (.iload_n 1, 1) := by decide +kernel
theorem dL_reason_4 : decode cL_reason 4 = .ok (.invokevirtual 66, 3) := by decide +kernel
theorem dL_reason_7 : decode cL_reason 7 = .ok (.i2l, 1) := by decide +kernel
theorem dL_reason_8 : decode cL_reason 8 = .ok (.lastore, 1) := by decide +kernel
theorem dL_reason_9 : decode cL_reason 9 = .ok (.goto 6, 3) := by decide +kernel
theorem dL_reason_12 : decode cL_reason 12 = .ok (.astore_n 3, 1) := by decide +kernel
theorem dL_reason_13 : decode cL_reason 13 = .ok (.iconst 1, 1) := by decide +kernel
theorem dL_reason_14 : decode cL_reason 14 = .ok (.ireturn, 1) := by decide +kernel
theorem dL_reason_15 : decode cL_reason 15 = .ok (.iconst 0, 1) := by decide +kernel
theorem dL_reason_16 : decode cL_reason 16 = .ok (.ireturn, 1) := by decide +kernel
set_option maxRecDepth 20000 in
theorem ggL_ask_X5_ask : GoodIn wsL_ask wsX5_ask := goodIn_ca (goodIn_r _ [6, 7, 8, 9, 10, 11, 12, 13, 14, 15, 16, 17, 18, 19, 20, 21, 5, 22, 23, 24, 25, 26, 27, 28, 29, 30, 31, 32, 33, 34, 35, 36, 37, 38, 39, 40, 41, 42, 43, 44, 45, 46, 47, 48, 49, 50, 51, 52, 53, 54, 55, 56, 57, 58, 59, 60, 61, 62, 63, 64, 65, 66, 67, 68, 69, 70, 71, 72, 73, 74, 75, 76, 77, 78, 79, 80, 81, 82, 83, 84, 85, 86, 87, 88, 89, 90, 91, 92, 93, 94, 95, 96, 97, 98, 99, 100, 101, 102, 103, 104, 105, 106, 107, 108, 109, 110, 111, 112, 113, 114, 115, 116, 117, 118, 119, 120, 121, 122, 123, 124, 125, 126, 127, 128, 129, 130, 131, 132, 133, 134, 135, 136, 137, 138, 139, 140] (by decide +kernel) (by decide +kernel)) (goodIn_sub (fun _ h => List.mem_cons_of_mem _ (List.mem_append_right _ h)) (by decide +kernel))
set_option maxRecDepth 20000 in
theorem gL_ask_X5_ask : GoodIn wsL_ask (wsV RL 69 RX5 yX5_ask wsX5_ask) := goodIn_app (goodIn_of _ (by decide +kernel)) ggL_ask_X5_ask
theorem dL_ask_0 : decode cL_ask 0 = .ok (.aload_n 2, 1) := by decide +kernel
theorem dL_ask_1 : decode cL_ask 1 = .ok (.iconst 0, 1) := by decide +kernel
theorem dL_ask_2 : decode cL_ask 2 = .ok (.aload_n 0, 1) := by decide +kernel
theorem dL_ask_3 : decode cL_ask 3 = .ok (.iload_n 1, 1) := by decide +kernel
theorem dL_ask_4 : decode cL_ask 4 = .ok (.invokevirtual 69, 3) := by decide +kernel
theorem dL_ask_7 : decode cL_ask 7 = .ok (.i2l, 1) := by decide +kernel
theorem dL_ask_8 : decode cL_ask 8 = .ok (.lastore, 1) := by decide +kernel
theorem dL_ask_9 : decode cL_ask 9 = .ok (.goto 6, 3) := by decide +kernel
theorem dL_ask_12 : decode cL_ask 12 = .ok (.astore_n 3, 1) := by decide +kernel
theorem dL_ask_13 : decode cL_ask 13 = .ok (.iconst 1, 1) := by decide +kernel
theorem dL_ask_14 : decode cL_ask 14 = .ok (.ireturn, 1) := by decide +kernel
theorem dL_ask_15 : decode cL_ask 15 = .ok (.iconst 0, 1) := by decide +kernel
theorem dL_ask_16 : decode cL_ask 16 = .ok (.ireturn, 1) := by decide +kernel
set_option maxRecDepth 20000 in
theorem ggL_costFrom_X5_costFrom : GoodIn wsL_costFrom wsX5_costFrom := goodIn_ca (goodIn_r _ [6, 7, 8, 9, 10, 11, 12, 13, 14, 15, 16, 17, 18, 19, 20, 21, 22, 5, 23, 24, 25, 26, 27, 28, 29, 30, 31, 32, 33, 34, 35, 36, 37, 38, 39, 40, 41, 42, 43, 44, 45, 46, 47, 48, 49, 50, 51, 52, 53, 54, 55, 56, 57, 58, 59, 60, 61, 62, 63, 64, 65, 66, 67, 68, 69, 70, 71, 72, 73, 74, 75, 76, 77, 78, 79, 80, 81, 82, 83, 84, 85, 86, 87, 88, 89, 90, 91, 92, 93, 94, 95, 96, 97, 98, 99, 100, 101, 102, 103, 104, 105, 106, 107, 108, 109, 110, 111, 112, 113, 114, 115, 116, 117, 118, 119, 120, 121, 122, 123, 124, 125, 126, 127, 128, 129, 130, 131, 132, 133, 134, 135, 136, 137] (by decide +kernel) (by decide +kernel)) (goodIn_sub (fun _ h => List.mem_cons_of_mem _ (List.mem_append_right _ h)) (by decide +kernel))
set_option maxRecDepth 20000 in
theorem gL_costFrom_X5_costFrom : GoodIn wsL_costFrom (wsV RL 72 RX5 yX5_costFrom wsX5_costFrom) := goodIn_app (goodIn_of _ (by decide +kernel)) ggL_costFrom_X5_costFrom
theorem dL_costFrom_0 : decode cL_costFrom 0 = .ok (.aload_n 2, 1) := by decide +kernel
theorem dL_costFrom_1 : decode cL_costFrom 1 = .ok (.iconst 0, 1) := by decide +kernel
theorem dL_costFrom_2 : decode cL_costFrom 2 = .ok (.aload_n 0, 1) := by decide +kernel
theorem dL_costFrom_3 : decode cL_costFrom 3 = .ok (.iload_n 1, 1) := by decide +kernel
theorem dL_costFrom_4 : decode cL_costFrom 4 = .ok (.invokevirtual 72, 3) := by decide +kernel
theorem dL_costFrom_7 : decode cL_costFrom 7 = .ok (.i2l, 1) := by decide +kernel
theorem dL_costFrom_8 : decode cL_costFrom 8 = .ok (.lastore, 1) := by decide +kernel
theorem dL_costFrom_9 : decode cL_costFrom 9 = .ok (.goto 6, 3) := by decide +kernel
theorem dL_costFrom_12 : decode cL_costFrom 12 = .ok (.astore_n 3, 1) := by decide +kernel
theorem dL_costFrom_13 : decode cL_costFrom 13 = .ok (.iconst 1, 1) := by decide +kernel
theorem dL_costFrom_14 : decode cL_costFrom 14 = .ok (.ireturn, 1) := by decide +kernel
theorem dL_costFrom_15 : decode cL_costFrom 15 = .ok (.iconst 0, 1) := by decide +kernel
theorem dL_costFrom_16 : decode cL_costFrom 16 = .ok (.ireturn, 1) := by decide +kernel
set_option maxRecDepth 20000 in
theorem ggL_changedWithout_X5_changedWithout : GoodIn wsL_changedWithout wsX5_changedWithout := goodIn_ca (goodIn_r _ [6, 7, 8, 9, 10, 11, 12, 13, 14, 15, 16, 17, 18, 19, 20, 5, 21, 22, 23, 24, 25, 26, 27, 28, 29, 30, 31, 32, 33, 34, 35, 36, 37, 38, 39, 40, 41, 42, 43, 44, 45, 46, 47, 48, 49, 50, 51, 52, 53, 54, 55, 56, 57, 58, 59, 60, 61, 62, 63, 64, 65, 66, 67, 68, 69, 70, 71, 72, 73, 74, 75, 76, 77, 78, 79, 80, 81, 82, 83, 84, 85, 86, 87, 88, 89] (by decide +kernel) (by decide +kernel)) (goodIn_sub (fun _ h => List.mem_cons_of_mem _ (List.mem_append_right _ h)) (by decide +kernel))
set_option maxRecDepth 20000 in
theorem gL_changedWithout_X5_changedWithout : GoodIn wsL_changedWithout (wsV RL 75 RX5 yX5_changedWithout wsX5_changedWithout) := goodIn_app (goodIn_of _ (by decide +kernel)) ggL_changedWithout_X5_changedWithout
theorem dL_changedWithout_0 : decode cL_changedWithout 0 = .ok (.aload_n 2, 1) := by decide +kernel
theorem dL_changedWithout_1 : decode cL_changedWithout 1 = .ok (.iconst 0, 1) := by decide +kernel
theorem dL_changedWithout_2 : decode cL_changedWithout 2 = .ok (.aload_n 0, 1) := by decide +kernel
theorem dL_changedWithout_3 : decode cL_changedWithout 3 = .ok (.iload_n 1, 1) := by decide +kernel
theorem dL_changedWithout_4 : decode cL_changedWithout 4 = .ok (.invokevirtual 75, 3) := by decide +kernel
theorem dL_changedWithout_7 : decode cL_changedWithout 7 = .ok (.i2l, 1) := by decide +kernel
theorem dL_changedWithout_8 : decode cL_changedWithout 8 = .ok (.lastore, 1) := by decide +kernel
theorem dL_changedWithout_9 : decode cL_changedWithout 9 = .ok (.goto 6, 3) := by decide +kernel
theorem dL_changedWithout_12 : decode cL_changedWithout 12 = .ok (.astore_n 3, 1) := by decide +kernel
theorem dL_changedWithout_13 : decode cL_changedWithout 13 = .ok (.iconst 1, 1) := by decide +kernel
theorem dL_changedWithout_14 : decode cL_changedWithout 14 = .ok (.ireturn, 1) := by decide +kernel
theorem dL_changedWithout_15 : decode cL_changedWithout 15 = .ok (.iconst 0, 1) := by decide +kernel
theorem dL_changedWithout_16 : decode cL_changedWithout 16 = .ok (.ireturn, 1) := by decide +kernel
set_option maxRecDepth 20000 in
theorem ggL_bestAction_X5_bestAction : GoodIn wsL_bestAction wsX5_bestAction := goodIn_ca (goodIn_r _ [6, 7, 8, 9, 10, 11, 12, 13, 14, 5, 15, 16, 17, 18, 19, 20, 21, 22, 23, 24, 25, 26, 27, 28, 29, 30, 31, 32, 33, 34, 35, 36, 37, 38, 39, 40, 41, 42, 43, 44, 45, 46, 47, 48, 49, 50, 51, 52, 53, 54, 55, 56, 57, 58, 59, 60, 61, 62, 63, 64, 65, 66, 67, 68, 69, 70, 71, 72, 73, 74, 75, 76, 77, 78, 79, 80, 81, 82, 83, 84, 85, 86, 87, 88, 89, 90, 91, 92, 93, 94, 95, 96, 97, 98, 99, 100, 101, 102, 103, 104, 105, 106, 107, 108, 109, 110, 111, 112, 113, 114, 115, 116, 117, 118, 119, 120, 121, 122, 123, 124, 125, 126, 127, 128, 129, 130, 131, 132, 133, 134, 135, 136, 137, 138, 139, 140, 141, 142, 143, 144, 145, 146, 147, 148, 149, 150, 151, 152, 153, 154] (by decide +kernel) (by decide +kernel)) (goodIn_sub (fun _ h => List.mem_cons_of_mem _ (List.mem_append_right _ h)) (by decide +kernel))
set_option maxRecDepth 20000 in
theorem gL_bestAction_X5_bestAction : GoodIn wsL_bestAction (wsV RL 78 RX5 yX5_bestAction wsX5_bestAction) := goodIn_app (goodIn_of _ (by decide +kernel)) ggL_bestAction_X5_bestAction
theorem dL_bestAction_0 : decode cL_bestAction 0 = .ok (.aload_n 2, 1) := by decide +kernel
theorem dL_bestAction_1 : decode cL_bestAction 1 = .ok (.iconst 0, 1) := by decide +kernel
theorem dL_bestAction_2 : decode cL_bestAction 2 = .ok (.aload_n 0, 1) := by decide +kernel
theorem dL_bestAction_3 : decode cL_bestAction 3 = .ok (.iload_n 1, 1) := by decide +kernel
theorem dL_bestAction_4 : decode cL_bestAction 4 = .ok (.invokevirtual 78, 3) := by decide +kernel
theorem dL_bestAction_7 : decode cL_bestAction 7 = .ok (.i2l, 1) := by decide +kernel
theorem dL_bestAction_8 : decode cL_bestAction 8 = .ok (.lastore, 1) := by decide +kernel
theorem dL_bestAction_9 : decode cL_bestAction 9 = .ok (.goto 6, 3) := by decide +kernel
theorem dL_bestAction_12 : decode cL_bestAction 12 = .ok (.astore_n 3, 1) := by decide +kernel
theorem dL_bestAction_13 : decode cL_bestAction 13 = .ok (.iconst 1, 1) := by decide +kernel
theorem dL_bestAction_14 : decode cL_bestAction 14 = .ok (.ireturn, 1) := by decide +kernel
theorem dL_bestAction_15 : decode cL_bestAction 15 = .ok (.iconst 0, 1) := by decide +kernel
theorem dL_bestAction_16 : decode cL_bestAction 16 = .ok (.ireturn, 1) := by decide +kernel
set_option maxRecDepth 20000 in
theorem ggL_type_X5_type : GoodIn wsL_type wsX5_type := goodIn_ca (goodIn_ca (goodIn_r _ [7, 8, 9, 10, 11, 12, 13, 14, 15, 16, 17, 18, 19, 20, 21, 22, 23, 24, 25, 26, 27, 28, 29, 30, 31, 32, 33, 34, 35] (by decide +kernel) (by decide +kernel)) (goodIn_sub (fun _ h => List.mem_cons_of_mem _ (List.mem_append_left _ (List.mem_append_right _ h))) (by decide +kernel))) (goodIn_sub (fun _ h => List.mem_cons_of_mem _ (List.mem_append_right _ h)) (by decide +kernel))
set_option maxRecDepth 20000 in
theorem gL_type_X5_type : GoodIn wsL_type (wsV RL 81 RX5 yX5_type wsX5_type) := goodIn_app (goodIn_of _ (by decide +kernel)) ggL_type_X5_type
theorem dL_type_0 : decode cL_type 0 = .ok (.aload_n 2, 1) := by decide +kernel
theorem dL_type_1 : decode cL_type 1 = .ok (.iconst 0, 1) := by decide +kernel
theorem dL_type_2 : decode cL_type 2 = .ok (.aload_n 0, 1) := by decide +kernel
theorem dL_type_3 : decode cL_type 3 = .ok (.iload_n 1, 1) := by decide +kernel
theorem dL_type_4 : decode cL_type 4 = .ok (.invokevirtual 81, 3) := by decide +kernel
theorem dL_type_7 : decode cL_type 7 = .ok (.i2l, 1) := by decide +kernel
theorem dL_type_8 : decode cL_type 8 = .ok (.lastore, 1) := by decide +kernel
theorem dL_type_9 : decode cL_type 9 = .ok (.goto 9, 3) := by decide +kernel
theorem dL_type_12 : decode cL_type 12 = .ok (.astore_n 3, 1) := by decide +kernel
theorem dL_type_13 : decode cL_type 13 = .ok (.iconst 1, 1) := by decide +kernel
theorem dL_type_14 : decode cL_type 14 = .ok (.ireturn, 1) := by decide +kernel
theorem dL_type_15 : decode cL_type 15 = .ok (.astore_n 3, 1) := by decide +kernel
theorem dL_type_16 : decode cL_type 16 = .ok (.iconst 2, 1) := by decide +kernel
theorem dL_type_17 : decode cL_type 17 = .ok (.ireturn, 1) := by decide +kernel
theorem dL_type_18 : decode cL_type 18 = .ok (.iconst 0, 1) := by decide +kernel
theorem dL_type_19 : decode cL_type 19 = .ok (.ireturn, 1) := by decide +kernel
set_option maxRecDepth 20000 in
theorem ggL_undo_X5_undo : GoodIn wsL_undo wsX5_undo := goodIn_ca (goodIn_r _ [6, 7, 8, 9, 10, 11, 12, 13, 14, 15, 16, 17, 18, 19, 20, 21, 22, 23, 24, 25, 26, 27, 28, 29, 30, 31, 32, 33, 34, 35, 36, 37, 38, 39, 40, 41, 42, 43, 44, 45, 46, 47, 48, 49, 50, 51, 52, 53, 54] (by decide +kernel) (by decide +kernel)) (goodIn_sub (fun _ h => List.mem_cons_of_mem _ (List.mem_append_right _ h)) (by decide +kernel))
set_option maxRecDepth 20000 in
theorem gL_undo_X5_undo : GoodIn wsL_undo (wsV RL 84 RX5 yX5_undo wsX5_undo) := goodIn_app (goodIn_of _ (by decide +kernel)) ggL_undo_X5_undo
theorem dL_undo_0 : decode cL_undo 0 = .ok (.aload_n 1, 1) := by decide +kernel
theorem dL_undo_1 : decode cL_undo 1 = .ok (.iconst 0, 1) := by decide +kernel
theorem dL_undo_2 : decode cL_undo 2 = .ok (.aload_n 0, 1) := by decide +kernel
theorem dL_undo_3 : decode cL_undo 3 = .ok (.invokevirtual 84, 3) := by decide +kernel
theorem dL_undo_6 : decode cL_undo 6 = .ok (.i2l, 1) := by decide +kernel
theorem dL_undo_7 : decode cL_undo 7 = .ok (.lastore, 1) := by decide +kernel
theorem dL_undo_8 : decode cL_undo 8 = .ok (.goto 6, 3) := by decide +kernel
theorem dL_undo_11 : decode cL_undo 11 = .ok (.astore_n 2, 1) := by decide +kernel
theorem dL_undo_12 : decode cL_undo 12 = .ok (.iconst 1, 1) := by decide +kernel
theorem dL_undo_13 : decode cL_undo 13 = .ok (.ireturn, 1) := by decide +kernel
theorem dL_undo_14 : decode cL_undo 14 = .ok (.iconst 0, 1) := by decide +kernel
theorem dL_undo_15 : decode cL_undo 15 = .ok (.ireturn, 1) := by decide +kernel
