theorem dL_cell_0 : decode cL_cell 0 = .ok (.iload_n 1, 1) := by decide +kernel
theorem dL_cell_1 : decode cL_cell 1 = .ok (.aload_n 0, 1) := by decide +kernel
theorem dL_cell_2 : decode cL_cell 2 = .ok (.arraylength, 1) := by decide +kernel
theorem dL_cell_3 : decode cL_cell 3 = .ok (.if_icmp .ge 9, 3) := by decide +kernel
theorem dL_cell_6 : decode cL_cell 6 = .ok (.aload_n 0, 1) := by decide +kernel
theorem dL_cell_7 : decode cL_cell 7 = .ok (.iload_n 1, 1) := by decide +kernel
theorem dL_cell_8 : decode cL_cell 8 = .ok (.iaload, 1) := by decide +kernel
theorem dL_cell_9 : decode cL_cell 9 = .ok (.goto 11, 3) := by decide +kernel
theorem dL_cell_12 : decode cL_cell 12 = .ok (.sipush 16807, 3) := by decide +kernel
theorem dL_cell_15 : decode cL_cell 15 = .ok (.iload_n 1, 1) := by decide +kernel
theorem dL_cell_16 : decode cL_cell 16 = .ok (.bipush 13, 2) := by decide +kernel
theorem dL_cell_18 : decode cL_cell 18 = .ok (.iadd, 1) := by decide +kernel
theorem dL_cell_19 : decode cL_cell 19 = .ok (.imul, 1) := by decide +kernel
theorem dL_cell_20 : decode cL_cell 20 = .ok (.ldc 7, 2) := by decide +kernel
theorem dL_cell_22 : decode cL_cell 22 = .ok (.iand, 1) := by decide +kernel
theorem dL_cell_23 : decode cL_cell 23 = .ok (.ireturn, 1) := by decide +kernel
set_option maxRecDepth 20000 in
theorem ggL_conditions_X5_addCondition : GoodIn wsL_conditions wsX5_addCondition := goodIn_ca (goodIn_ca (goodIn_r _ [9, 10, 11, 12, 13, 14, 15, 16, 17, 8, 18, 19, 20, 21, 22, 23, 24, 25, 26, 27, 28, 29, 30, 31, 32, 33, 34, 35, 36, 37, 38, 39, 40, 41, 42, 43, 44, 45, 46, 47, 48, 49, 50, 51, 52, 53, 54, 55, 56, 57, 58, 59, 60, 61, 62, 63, 64, 65, 66, 67, 68, 69, 70, 71, 72, 73, 74, 75, 76, 77, 78] (by decide +kernel) (by decide +kernel)) (goodIn_sub (fun _ h => List.mem_cons_of_mem _ (List.mem_append_left _ (List.mem_append_right _ h))) (by decide +kernel))) (goodIn_sub (fun _ h => List.mem_cons_of_mem _ (List.mem_append_right _ h)) (by decide +kernel))
set_option maxRecDepth 20000 in
theorem gL_conditions_X5_addCondition : GoodIn wsL_conditions (wsV RL 8 RX5 yX5_addCondition wsX5_addCondition) := goodIn_app (goodIn_of _ (by decide +kernel)) ggL_conditions_X5_addCondition
theorem dL_conditions_0 : decode cL_conditions 0 = .ok (.aload_n 0, 1) := by decide +kernel
theorem dL_conditions_1 : decode cL_conditions 1 = .ok (.iload_n 1, 1) := by decide +kernel
theorem dL_conditions_2 : decode cL_conditions 2 = .ok (.iload_n 2, 1) := by decide +kernel
theorem dL_conditions_3 : decode cL_conditions 3 = .ok (.invokevirtual 8, 3) := by decide +kernel
theorem dL_conditions_6 : decode cL_conditions 6 = .ok (.ireturn, 1) := by decide +kernel
theorem dL_conditions_7 : decode cL_conditions 7 = .ok (.astore_n 3, 1) := by decide +kernel
theorem dL_conditions_8 : decode cL_conditions 8 = .ok (.ldc 16, 2) := by decide +kernel
theorem dL_conditions_10 : decode cL_conditions 10 = .ok (.ireturn, 1) := by decide +kernel
theorem dL_conditions_11 : decode cL_conditions 11 = .ok (.astore_n 3, 1) := by decide +kernel
theorem dL_conditions_12 : decode cL_conditions 12 = .ok (.ldc 19, 2) := by decide +kernel
theorem dL_conditions_14 : decode cL_conditions 14 = .ok (.ireturn, 1) := by decide +kernel
set_option maxRecDepth 20000 in
theorem ggL_costs_X5_setCost : GoodIn wsL_costs wsX5_setCost := goodIn_ca (goodIn_ca (goodIn_r _ [9, 10, 11, 12, 13, 14, 15, 16, 17, 18, 8, 19, 20, 21, 22, 23, 24, 25, 26, 27, 28, 29, 30, 31, 32, 33, 34, 35, 36, 37, 38, 39, 40, 41, 42, 43, 44, 45, 46, 47, 48, 49, 50, 51, 52, 53, 54, 55, 56, 57, 58, 59, 60, 61, 62, 63, 64, 65, 66, 67, 68, 69, 70, 71, 72, 73, 74, 75] (by decide +kernel) (by decide +kernel)) (goodIn_sub (fun _ h => List.mem_cons_of_mem _ (List.mem_append_left _ (List.mem_append_right _ h))) (by decide +kernel))) (goodIn_sub (fun _ h => List.mem_cons_of_mem _ (List.mem_append_right _ h)) (by decide +kernel))
set_option maxRecDepth 20000 in
theorem gL_costs_X5_setCost : GoodIn wsL_costs (wsV RL 20 RX5 yX5_setCost wsX5_setCost) := goodIn_app (goodIn_of _ (by decide +kernel)) ggL_costs_X5_setCost
theorem dL_costs_0 : decode cL_costs 0 = .ok (.aload_n 0, 1) := by decide +kernel
theorem dL_costs_1 : decode cL_costs 1 = .ok (.iload_n 1, 1) := by decide +kernel
theorem dL_costs_2 : decode cL_costs 2 = .ok (.iload_n 2, 1) := by decide +kernel
theorem dL_costs_3 : decode cL_costs 3 = .ok (.invokevirtual 20, 3) := by decide +kernel
theorem dL_costs_6 : decode cL_costs 6 = .ok (.ireturn, 1) := by decide +kernel
theorem dL_costs_7 : decode cL_costs 7 = .ok (.astore_n 3, 1) := by decide +kernel
theorem dL_costs_8 : decode cL_costs 8 = .ok (.ldc 16, 2) := by decide +kernel
theorem dL_costs_10 : decode cL_costs 10 = .ok (.ireturn, 1) := by decide +kernel
theorem dL_costs_11 : decode cL_costs 11 = .ok (.astore_n 3, 1) := by decide +kernel
theorem dL_costs_12 : decode cL_costs 12 = .ok (.ldc 19, 2) := by decide +kernel
theorem dL_costs_14 : decode cL_costs 14 = .ok (.ireturn, 1) := by decide +kernel
set_option maxRecDepth 20000 in
theorem ggL_adds_X5_addRow : GoodIn wsL_adds wsX5_addRow := goodIn_ca (goodIn_ca (goodIn_r _ [9, 10, 11, 12, 13, 14, 15, 16, 17, 8, 18, 19, 20, 21, 22, 23, 24, 25, 26, 27, 28, 29, 30, 31, 32, 33, 34, 35, 36, 37, 38, 39, 40, 41, 42, 43, 44, 45, 46, 47, 48, 49, 50, 51, 52, 53, 54, 55, 56, 57, 58, 59, 60, 61, 62, 63, 64, 65, 66, 67, 68, 69, 70, 71, 72, 73, 74, 75, 76, 77, 78, 79, 80, 81, 82, 83, 84, 85, 86] (by decide +kernel) (by decide +kernel)) (goodIn_sub (fun _ h => List.mem_cons_of_mem _ (List.mem_append_left _ (List.mem_append_right _ h))) (by decide +kernel))) (goodIn_sub (fun _ h => List.mem_cons_of_mem _ (List.mem_append_right _ h)) (by decide +kernel))
set_option maxRecDepth 20000 in
theorem gL_adds_X5_addRow : GoodIn wsL_adds (wsV RL 25 RX5 yX5_addRow wsX5_addRow) := goodIn_app (goodIn_of _ (by decide +kernel)) ggL_adds_X5_addRow
theorem dL_adds_0 : decode cL_adds 0 = .ok (.aload_n 0, 1) := by decide +kernel
theorem dL_adds_1 : decode cL_adds 1 = .ok (.iload_n 1, 1) := by decide +kernel
theorem dL_adds_2 : decode cL_adds 2 = .ok (.iload_n 2, 1) := by decide +kernel
theorem dL_adds_3 : decode cL_adds 3 = .ok (.invokevirtual 25, 3) := by decide +kernel
theorem dL_adds_6 : decode cL_adds 6 = .ok (.ireturn, 1) := by decide +kernel
theorem dL_adds_7 : decode cL_adds 7 = .ok (.astore_n 3, 1) := by decide +kernel
theorem dL_adds_8 : decode cL_adds 8 = .ok (.ldc 16, 2) := by decide +kernel
theorem dL_adds_10 : decode cL_adds 10 = .ok (.ireturn, 1) := by decide +kernel
theorem dL_adds_11 : decode cL_adds 11 = .ok (.astore_n 3, 1) := by decide +kernel
theorem dL_adds_12 : decode cL_adds 12 = .ok (.ldc 19, 2) := by decide +kernel
theorem dL_adds_14 : decode cL_adds 14 = .ok (.ireturn, 1) := by decide +kernel
set_option maxRecDepth 20000 in
theorem ggL_sets_X5_setAnswers : GoodIn wsL_sets wsX5_setAnswers := goodIn_ca (goodIn_ca (goodIn_r _ [9, 10, 11, 12, 13, 14, 15, 16, 17, 18, 19, 20, 21, 22, 23, 24, 8, 25, 26, 27, 28, 29, 30, 31, 32, 33, 34, 35, 36, 37, 38, 39, 40, 41, 42, 43, 44, 45, 46, 47, 48, 49, 50, 51, 52, 53, 54, 55, 56, 57, 58, 59, 60, 61, 62, 63, 64, 65, 66, 67, 68, 69, 70, 71, 72, 73, 74, 75, 76, 77, 78, 79, 80, 81, 82, 83, 84, 85, 86, 87, 88, 89, 90, 91] (by decide +kernel) (by decide +kernel)) (goodIn_sub (fun _ h => List.mem_cons_of_mem _ (List.mem_append_left _ (List.mem_append_right _ h))) (by decide +kernel))) (goodIn_sub (fun _ h => List.mem_cons_of_mem _ (List.mem_append_right _ h)) (by decide +kernel))
set_option maxRecDepth 20000 in
theorem gL_sets_X5_setAnswers : GoodIn wsL_sets (wsV RL 28 RX5 yX5_setAnswers wsX5_setAnswers) := goodIn_app (goodIn_of _ (by decide +kernel)) ggL_sets_X5_setAnswers
theorem dL_sets_0 : decode cL_sets 0 = .ok (.aload_n 0, 1) := by decide +kernel
theorem dL_sets_1 : decode cL_sets 1 = .ok (.iload_n 1, 1) := by decide +kernel
theorem dL_sets_2 : decode cL_sets 2 = .ok (.iload_n 2, 1) := by decide +kernel
theorem dL_sets_3 : decode cL_sets 3 = .ok (.iload_n 3, 1) := by decide +kernel
theorem dL_sets_4 : decode cL_sets 4 = .ok (.invokevirtual 28, 3) := by decide +kernel
theorem dL_sets_7 : decode cL_sets 7 = .ok (.ireturn, 1) := by decide +kernel
theorem dL_sets_8 : decode cL_sets 8 = .ok (.astore 4, 2) := by decide +kernel
theorem dL_sets_10 : decode cL_sets 10 = .ok (.ldc 16, 2) := by decide +kernel
theorem dL_sets_12 : decode cL_sets 12 = .ok (.ireturn, 1) := by decide +kernel
theorem dL_sets_13 : decode cL_sets 13 = .ok (.astore 4, 2) := by decide +kernel
theorem dL_sets_15 : decode cL_sets 15 = .ok (.ldc 19, 2) := by decide +kernel
theorem dL_sets_17 : decode cL_sets 17 = .ok (.ireturn, 1) := by decide +kernel
set_option maxRecDepth 20000 in
theorem ggL_acts_X5_setAction : GoodIn wsL_acts wsX5_setAction := goodIn_ca (goodIn_ca (goodIn_r _ [9, 10, 11, 12, 13, 14, 15, 16, 17, 18, 19, 20, 21, 22, 23, 24, 8, 25, 26, 27, 28, 29, 30, 31, 32, 33, 34, 35, 36, 37, 38, 39, 40, 41, 42, 43, 44, 45, 46, 47, 48, 49, 50, 51, 52, 53, 54, 55, 56, 57, 58, 59, 60, 61, 62, 63, 64, 65, 66, 67, 68, 69, 70, 71, 72, 73, 74] (by decide +kernel) (by decide +kernel)) (goodIn_sub (fun _ h => List.mem_cons_of_mem _ (List.mem_append_left _ (List.mem_append_right _ h))) (by decide +kernel))) (goodIn_sub (fun _ h => List.mem_cons_of_mem _ (List.mem_append_right _ h)) (by decide +kernel))
set_option maxRecDepth 20000 in
theorem gL_acts_X5_setAction : GoodIn wsL_acts (wsV RL 32 RX5 yX5_setAction wsX5_setAction) := goodIn_app (goodIn_of _ (by decide +kernel)) ggL_acts_X5_setAction
theorem dL_acts_0 : decode cL_acts 0 = .ok (.aload_n 0, 1) := by decide +kernel
theorem dL_acts_1 : decode cL_acts 1 = .ok (.iload_n 1, 1) := by decide +kernel
theorem dL_acts_2 : decode cL_acts 2 = .ok (.iload_n 2, 1) := by decide +kernel
theorem dL_acts_3 : decode cL_acts 3 = .ok (.invokevirtual 32, 3) := by decide +kernel
theorem dL_acts_6 : decode cL_acts 6 = .ok (.ireturn, 1) := by decide +kernel
theorem dL_acts_7 : decode cL_acts 7 = .ok (.astore_n 3, 1) := by decide +kernel
theorem dL_acts_8 : decode cL_acts 8 = .ok (.ldc 16, 2) := by decide +kernel
theorem dL_acts_10 : decode cL_acts 10 = .ok (.ireturn, 1) := by decide +kernel
theorem dL_acts_11 : decode cL_acts 11 = .ok (.astore_n 3, 1) := by decide +kernel
theorem dL_acts_12 : decode cL_acts 12 = .ok (.ldc 19, 2) := by decide +kernel
theorem dL_acts_14 : decode cL_acts 14 = .ok (.ireturn, 1) := by decide +kernel
set_option maxRecDepth 20000 in
theorem ggL_drops_X5_dropRow : GoodIn wsL_drops wsX5_dropRow := goodIn_ca (goodIn_r _ [7, 8, 9, 10, 11, 12, 13, 14, 15, 16, 17, 18, 19, 20, 6, 21, 22, 23, 24, 25, 26, 27, 28, 29, 30, 31, 32, 33, 34, 35, 36, 37, 38, 39, 40, 41, 42, 43, 44, 45, 46, 47, 48, 49, 50, 51, 52, 53, 54, 55, 56, 57, 58, 59, 60, 61, 62, 63, 64, 65, 66, 67, 68, 69, 70, 71, 72, 73, 74] (by decide +kernel) (by decide +kernel)) (goodIn_sub (fun _ h => List.mem_cons_of_mem _ (List.mem_append_right _ h)) (by decide +kernel))
set_option maxRecDepth 20000 in
theorem gL_drops_X5_dropRow : GoodIn wsL_drops (wsV RL 35 RX5 yX5_dropRow wsX5_dropRow) := goodIn_app (goodIn_of _ (by decide +kernel)) ggL_drops_X5_dropRow
theorem dL_drops_0 : decode cL_drops 0 = .ok (.aload_n 0, 1) := by decide +kernel
theorem dL_drops_1 : decode cL_drops 1 = .ok (.iload_n 1, 1) := by decide +kernel
theorem dL_drops_2 : decode cL_drops 2 = .ok (.invokevirtual 35, 3) := by decide +kernel
theorem dL_drops_5 : decode cL_drops 5 = .ok (.ireturn, 1) := by decide +kernel
theorem dL_drops_6 : decode cL_drops 6 = .ok (.astore_n 2, 1) := by decide +kernel
theorem dL_drops_7 : decode cL_drops 7 = .ok (.ldc 16, 2) := by decide +kernel
theorem dL_drops_9 : decode cL_drops 9 = .ok (.ireturn, 1) := by decide +kernel
set_option maxRecDepth 20000 in
theorem ggL_ups_X5_moveUp : GoodIn wsL_ups wsX5_moveUp := goodIn_ca (goodIn_ca (goodIn_r _ [9, 10, 11, 12, 13, 14, 15, 16, 17, 18, 19, 20, 21, 22, 23, 24, 8, 25, 26, 27, 28, 29, 30, 31, 32, 33, 34, 35, 36, 37, 38, 39, 40, 41, 42, 43, 44, 45, 46, 47, 48, 49, 50, 51, 52, 53, 54, 55, 56, 57, 58, 59, 60, 61, 62, 63, 64, 65, 66, 67, 68, 69, 70, 71, 72, 73, 74, 75, 76, 77, 78] (by decide +kernel) (by decide +kernel)) (goodIn_sub (fun _ h => List.mem_cons_of_mem _ (List.mem_append_left _ (List.mem_append_right _ h))) (by decide +kernel))) (goodIn_sub (fun _ h => List.mem_cons_of_mem _ (List.mem_append_right _ h)) (by decide +kernel))
set_option maxRecDepth 20000 in
theorem gL_ups_X5_moveUp : GoodIn wsL_ups (wsV RL 39 RX5 yX5_moveUp wsX5_moveUp) := goodIn_app (goodIn_of _ (by decide +kernel)) ggL_ups_X5_moveUp
theorem dL_ups_0 : decode cL_ups 0 = .ok (.aload_n 0, 1) := by decide +kernel
theorem dL_ups_1 : decode cL_ups 1 = .ok (.iload_n 1, 1) := by decide +kernel
theorem dL_ups_2 : decode cL_ups 2 = .ok (.invokevirtual 39, 3) := by decide +kernel
theorem dL_ups_5 : decode cL_ups 5 = .ok (.ireturn, 1) := by decide +kernel
theorem dL_ups_6 : decode cL_ups 6 = .ok (.astore_n 2, 1) := by decide +kernel
theorem dL_ups_7 : decode cL_ups 7 = .ok (.ldc 16, 2) := by decide +kernel
theorem dL_ups_9 : decode cL_ups 9 = .ok (.ireturn, 1) := by decide +kernel
theorem dL_ups_10 : decode cL_ups 10 = .ok (.astore_n 2, 1) := by decide +kernel
theorem dL_ups_11 : decode cL_ups 11 = .ok (.ldc 19, 2) := by decide +kernel
theorem dL_ups_13 : decode cL_ups 13 = .ok (.ireturn, 1) := by decide +kernel
set_option maxRecDepth 20000 in
theorem ggL_undoes_X5_undo : GoodIn wsL_undoes wsX5_undo := goodIn_ca (goodIn_r _ [7, 8, 9, 10, 11, 12, 13, 14, 15, 16, 17, 18, 19, 20, 21, 22, 23, 24, 25, 26, 27, 28, 29, 30, 31, 32, 33, 34, 35, 36, 37, 38, 39, 40, 41, 42, 43, 44, 45, 46, 47, 48, 49, 50, 51, 52, 53, 54, 55] (by decide +kernel) (by decide +kernel)) (goodIn_sub (fun _ h => List.mem_cons_of_mem _ (List.mem_append_right _ h)) (by decide +kernel))
set_option maxRecDepth 20000 in
theorem gL_undoes_X5_undo : GoodIn wsL_undoes (wsV RL 42 RX5 yX5_undo wsX5_undo) := goodIn_app (goodIn_of _ (by decide +kernel)) ggL_undoes_X5_undo
theorem dL_undoes_0 : decode cL_undoes 0 = .ok (.aload_n 0, 1) := by decide +kernel
theorem dL_undoes_1 : decode cL_undoes 1 = .ok (.invokevirtual 42, 3) := by decide +kernel
theorem dL_undoes_4 : decode cL_undoes 4 = .ok (.ireturn, 1) := by decide +kernel
theorem dL_undoes_5 : decode cL_undoes 5 = .ok (.astore_n 1, 1) := by decide +kernel
theorem dL_undoes_6 : decode cL_undoes 6 = .ok (.ldc 16, 2) := by decide +kernel
theorem dL_undoes_8 : decode cL_undoes 8 = .ok (.ireturn, 1) := by decide +kernel
set_option maxRecDepth 20000 in
theorem ggL_cases_X5_caseOf : GoodIn wsL_cases wsX5_caseOf := goodIn_ca (goodIn_ca (goodIn_r _ [9, 10, 11, 12, 13, 14, 15, 16, 8, 17, 18, 19, 20, 21, 22, 23, 24, 25, 26, 27, 28, 29, 30, 31, 32, 33, 34, 35, 36, 37, 38, 39, 40, 41, 42, 43, 44, 45, 46, 47, 48, 49, 50, 51, 52, 53, 54, 55, 56, 57, 58, 59, 60, 61, 62, 63, 64, 65, 66, 67, 68, 69, 70, 71, 72, 73, 74, 75, 76, 77, 78, 79, 80, 81, 82, 83, 84, 85, 86, 87, 88, 89, 90, 91, 92, 93, 94, 95, 96, 97, 98, 99, 100, 101, 102, 103] (by decide +kernel) (by decide +kernel)) (goodIn_sub (fun _ h => List.mem_cons_of_mem _ (List.mem_append_left _ (List.mem_append_right _ h))) (by decide +kernel))) (goodIn_sub (fun _ h => List.mem_cons_of_mem _ (List.mem_append_right _ h)) (by decide +kernel))
set_option maxRecDepth 20000 in
theorem gL_cases_X5_caseOf : GoodIn wsL_cases (wsV RL 46 RX5 yX5_caseOf wsX5_caseOf) := goodIn_app (goodIn_of _ (by decide +kernel)) ggL_cases_X5_caseOf
theorem dL_cases_0 : decode cL_cases 0 = .ok (.aload_n 0, 1) := by decide +kernel
theorem dL_cases_1 : decode cL_cases 1 = .ok (.iload_n 1, 1) := by decide +kernel
theorem dL_cases_2 : decode cL_cases 2 = .ok (.iload_n 2, 1) := by decide +kernel
theorem dL_cases_3 : decode cL_cases 3 = .ok (.invokevirtual 46, 3) := by decide +kernel
theorem dL_cases_6 : decode cL_cases 6 = .ok (.ireturn, 1) := by decide +kernel
theorem dL_cases_7 : decode cL_cases 7 = .ok (.astore_n 3, 1) := by decide +kernel
theorem dL_cases_8 : decode cL_cases 8 = .ok (.ldc 16, 2) := by decide +kernel
theorem dL_cases_10 : decode cL_cases 10 = .ok (.ireturn, 1) := by decide +kernel
theorem dL_cases_11 : decode cL_cases 11 = .ok (.astore_n 3, 1) := by decide +kernel
theorem dL_cases_12 : decode cL_cases 12 = .ok (.ldc 19, 2) := by decide +kernel
theorem dL_cases_14 : decode cL_cases 14 = .ok (.ireturn, 1) := by decide +kernel
theorem dL_has_0 : decode cL_has 0 = .ok (.iload_n 0, 1) := by decide +kernel
theorem dL_has_1 : decode cL_has 1 = .ok (.iload_n 1, 1) := by decide +kernel
theorem dL_has_2 : decode cL_has 2 = .ok (.ishr, 1) := by decide +kernel
theorem dL_has_3 : decode cL_has 3 = .ok (.iconst 1, 1) := by decide +kernel
theorem dL_has_4 : decode cL_has 4 = .ok (.iand, 1) := by decide +kernel
theorem dL_has_5 : decode cL_has 5 = .ok (.iconst 1, 1) := by decide +kernel
theorem dL_has_6 : decode cL_has 6 = .ok (.if_icmp .ne 7, 3) := by decide +kernel
theorem dL_has_9 : decode cL_has 9 = .ok (.iconst 1, 1) := by decide +kernel
theorem dL_has_10 : decode cL_has 10 = .ok (.goto 4, 3) := by decide +kernel
theorem dL_has_13 : decode cL_has 13 = .ok (.iconst 0, 1) := by decide +kernel
theorem dL_has_14 : decode cL_has 14 = .ok (.ireturn, 1) := by decide +kernel
set_option maxRecDepth 20000 in
theorem ggL_setsBy_X5_whole : GoodIn wsL_setsBy wsX5_whole := goodIn_ca (goodIn_r _ [5, 6, 7, 8, 9, 10, 4, 11, 12, 13, 14, 15, 16, 17, 18, 19, 20, 21, 22, 23, 24, 25, 26, 27, 28, 29, 30, 31, 32, 33, 34, 35, 36, 37, 38, 39, 40, 41, 42, 43, 44, 45, 46, 47, 48, 49, 50, 51, 52, 53, 54, 55, 56, 57, 58, 59, 60, 61, 62, 63, 64, 65, 66, 67, 68, 69, 70, 71, 72, 73, 74, 75, 76, 77, 78, 79, 80, 81, 82, 83, 84, 85, 86, 87, 88, 89, 90, 91, 92, 93, 94, 95, 96, 97, 98, 99, 100, 101, 102, 103, 104, 105, 106, 107, 108, 109, 110, 111, 112, 113, 114, 115, 116, 117, 118, 119, 120, 121, 122, 123, 124, 125, 126, 127, 128, 129, 130, 131, 132, 153, 154, 155, 156, 157, 158, 159, 160, 161, 162, 163, 164, 165, 166, 167, 168, 169, 170, 171, 172, 173, 174, 175, 176, 177, 178, 179, 180, 181, 182, 183, 184, 185, 186, 187, 188, 189, 190, 191, 192, 193] (by decide +kernel) (by decide +kernel)) (goodIn_sub (fun _ h => List.mem_cons_of_mem _ (List.mem_append_left _ (List.mem_append_right _ h))) (by decide +kernel))
set_option maxRecDepth 20000 in
theorem gL_setsBy_X5_whole : GoodIn wsL_setsBy (wsV RL 49 RX5 yX5_whole wsX5_whole) := goodIn_app (goodIn_of _ (by decide +kernel)) ggL_setsBy_X5_whole
set_option maxRecDepth 20000 in
theorem ggL_setsBy_X5_condition : GoodIn wsL_setsBy wsX5_condition := goodIn_ca (goodIn_ca (goodIn_r _ [136, 137, 138, 6, 7, 139, 140, 141, 4, 142, 12, 13, 143, 144, 145, 146, 147, 148, 14, 25, 26, 27, 28, 29, 30, 31, 32, 33, 34, 35, 36, 37, 38, 39, 40, 41, 42, 43, 44, 45, 46, 47, 48, 49, 50, 51, 52, 53, 54, 55, 56, 57, 58, 59, 60, 61, 62, 63, 64, 149, 150, 151, 152, 153, 154, 155, 156, 157, 158, 159, 160, 161, 162, 163, 164, 165, 166, 167, 168, 169, 170, 171, 172, 173, 174, 175, 176, 177, 178, 179, 180] (by decide +kernel) (by decide +kernel)) (goodIn_sub (fun _ h => List.mem_cons_of_mem _ (List.mem_append_right _ h)) (by decide +kernel))) (goodIn_sub (fun _ h => List.mem_cons_of_mem _ (List.mem_append_left _ (List.mem_append_right _ h))) (by decide +kernel))
set_option maxRecDepth 20000 in
theorem gL_setsBy_X5_condition : GoodIn wsL_setsBy (wsV RL 52 RX5 yX5_condition wsX5_condition) := goodIn_app (goodIn_of _ (by decide +kernel)) ggL_setsBy_X5_condition
theorem dL_setsBy_0 : decode cL_setsBy 0 = .ok (.iconst 0, 1) := by decide +kernel
theorem dL_setsBy_1 : decode cL_setsBy 1 = .ok (.istore_n 2, 1) := by decide +kernel
theorem dL_setsBy_2 : decode cL_setsBy 2 = .ok (.iload_n 1, 1) := by decide +kernel
theorem dL_setsBy_3 : decode cL_setsBy 3 = .ok (.istore_n 3, 1) := by decide +kernel
theorem dL_setsBy_4 : decode cL_setsBy 4 = .ok (.iconst 0, 1) := by decide +kernel
theorem dL_setsBy_5 : decode cL_setsBy 5 = .ok (.istore 4, 2) := by decide +kernel
theorem dL_setsBy_7 : decode cL_setsBy 7 = .ok (.iload 4, 2) := by decide +kernel
theorem dL_setsBy_9 : decode cL_setsBy 9 = .ok (.aload_n 0, 1) := by decide +kernel
theorem dL_setsBy_10 : decode cL_setsBy 10 = .ok (.iconst 0, 1) := by decide +kernel
theorem dL_setsBy_11 : decode cL_setsBy 11 = .ok (.invokevirtual 49, 3) := by decide +kernel
theorem dL_setsBy_14 : decode cL_setsBy 14 = .ok (.if_icmp .ge 64, 3) := by decide +kernel
theorem dL_setsBy_17 : decode cL_setsBy 17 = .ok (.iconst 1, 1) := by decide +kernel
theorem dL_setsBy_18 : decode cL_setsBy 18 = .ok (.aload_n 0, 1) := by decide +kernel
theorem dL_setsBy_19 : decode cL_setsBy 19 = .ok (.iload 4, 2) := by decide +kernel
theorem dL_setsBy_21 : decode cL_setsBy 21 = .ok (.iconst 0, 1) := by decide +kernel
theorem dL_setsBy_22 : decode cL_setsBy 22 = .ok (.invokevirtual 52, 3) := by decide +kernel
theorem dL_setsBy_25 : decode cL_setsBy 25 = .ok (.ishl, 1) := by decide +kernel
theorem dL_setsBy_26 : decode cL_setsBy 26 = .ok (.iconst 1, 1) := by decide +kernel
theorem dL_setsBy_27 : decode cL_setsBy 27 = .ok (.isub, 1) := by decide +kernel
theorem dL_setsBy_28 : decode cL_setsBy 28 = .ok (.istore 5, 2) := by decide +kernel
theorem dL_setsBy_30 : decode cL_setsBy 30 = .ok (.iload_n 3, 1) := by decide +kernel
theorem dL_setsBy_31 : decode cL_setsBy 31 = .ok (.iconst 3, 1) := by decide +kernel
theorem dL_setsBy_32 : decode cL_setsBy 32 = .ok (.irem, 1) := by decide +kernel
theorem dL_setsBy_33 : decode cL_setsBy 33 = .ok (.ifCond .ne 8, 3) := by decide +kernel
theorem dL_setsBy_36 : decode cL_setsBy 36 = .ok (.iload 5, 2) := by decide +kernel
theorem dL_setsBy_38 : decode cL_setsBy 38 = .ok (.goto 11, 3) := by decide +kernel
theorem dL_setsBy_41 : decode cL_setsBy 41 = .ok (.iconst 1, 1) := by decide +kernel
theorem dL_setsBy_42 : decode cL_setsBy 42 = .ok (.iload_n 3, 1) := by decide +kernel
theorem dL_setsBy_43 : decode cL_setsBy 43 = .ok (.iconst 3, 1) := by decide +kernel
theorem dL_setsBy_44 : decode cL_setsBy 44 = .ok (.idiv, 1) := by decide +kernel
theorem dL_setsBy_45 : decode cL_setsBy 45 = .ok (.iload 5, 2) := by decide +kernel
theorem dL_setsBy_47 : decode cL_setsBy 47 = .ok (.irem, 1) := by decide +kernel
theorem dL_setsBy_48 : decode cL_setsBy 48 = .ok (.iadd, 1) := by decide +kernel
theorem dL_setsBy_49 : decode cL_setsBy 49 = .ok (.istore 6, 2) := by decide +kernel
theorem dL_setsBy_51 : decode cL_setsBy 51 = .ok (.iload_n 2, 1) := by decide +kernel
theorem dL_setsBy_52 : decode cL_setsBy 52 = .ok (.iload 6, 2) := by decide +kernel
theorem dL_setsBy_54 : decode cL_setsBy 54 = .ok (.iconst 4, 1) := by decide +kernel
theorem dL_setsBy_55 : decode cL_setsBy 55 = .ok (.iload 4, 2) := by decide +kernel
theorem dL_setsBy_57 : decode cL_setsBy 57 = .ok (.imul, 1) := by decide +kernel
theorem dL_setsBy_58 : decode cL_setsBy 58 = .ok (.ishl, 1) := by decide +kernel
theorem dL_setsBy_59 : decode cL_setsBy 59 = .ok (.ior, 1) := by decide +kernel
theorem dL_setsBy_60 : decode cL_setsBy 60 = .ok (.istore_n 2, 1) := by decide +kernel
theorem dL_setsBy_61 : decode cL_setsBy 61 = .ok (.iload_n 3, 1) := by decide +kernel
theorem dL_setsBy_62 : decode cL_setsBy 62 = .ok (.bipush 47, 2) := by decide +kernel
theorem dL_setsBy_64 : decode cL_setsBy 64 = .ok (.idiv, 1) := by decide +kernel
theorem dL_setsBy_65 : decode cL_setsBy 65 = .ok (.bipush 7, 2) := by decide +kernel
theorem dL_setsBy_67 : decode cL_setsBy 67 = .ok (.iload 4, 2) := by decide +kernel
theorem dL_setsBy_69 : decode cL_setsBy 69 = .ok (.imul, 1) := by decide +kernel
theorem dL_setsBy_70 : decode cL_setsBy 70 = .ok (.iadd, 1) := by decide +kernel
theorem dL_setsBy_71 : decode cL_setsBy 71 = .ok (.istore_n 3, 1) := by decide +kernel
theorem dL_setsBy_72 : decode cL_setsBy 72 = .ok (.iinc 4 1, 3) := by decide +kernel
theorem dL_setsBy_75 : decode cL_setsBy 75 = .ok (.goto (-68), 3) := by decide +kernel
theorem dL_setsBy_78 : decode cL_setsBy 78 = .ok (.iload_n 2, 1) := by decide +kernel
theorem dL_setsBy_79 : decode cL_setsBy 79 = .ok (.ireturn, 1) := by decide +kernel
set_option maxRecDepth 20000 in
theorem ggL_caseHolds_X5_whole : GoodIn wsL_caseHolds wsX5_whole := goodIn_ca (goodIn_r _ [5, 6, 7, 8, 9, 10, 4, 11, 12, 13, 14, 15, 16, 17, 18, 19, 20, 21, 22, 23, 24, 25, 26, 27, 28, 29, 30, 31, 32, 33, 34, 35, 36, 37, 38, 39, 40, 41, 42, 43, 44, 45, 46, 47, 48, 49, 50, 51, 52, 53, 54, 55, 56, 57, 58, 59, 60, 61, 62, 63, 64, 65, 66, 67, 68, 69, 70, 71, 72, 73, 74, 75, 76, 77, 78, 79, 80, 81, 82, 83, 84, 85, 86, 87, 88, 89, 90, 91, 92, 93, 94, 95, 96, 97, 98, 99, 100, 101, 102, 103, 104, 105, 106, 107, 108, 109, 110, 111, 112, 113, 114, 115, 116, 117, 118, 119, 120, 121, 122, 123, 124, 125, 126, 127, 128, 129, 130, 131, 132, 225, 226, 227, 228, 229, 230, 231, 232, 233, 234, 235, 236, 237, 238, 239, 240, 241, 242, 243, 244, 245, 246, 247, 248, 249, 250, 251, 252, 253, 254, 255, 256, 257, 258, 259, 260, 261, 262, 263, 264, 265] (by decide +kernel) (by decide +kernel)) (goodIn_sub (fun _ h => List.mem_cons_of_mem _ (List.mem_append_left _ (List.mem_append_right _ h))) (by decide +kernel))
set_option maxRecDepth 20000 in
theorem gL_caseHolds_X5_whole : GoodIn wsL_caseHolds (wsV RL 49 RX5 yX5_whole wsX5_whole) := goodIn_app (goodIn_of _ (by decide +kernel)) ggL_caseHolds_X5_whole
set_option maxRecDepth 20000 in
theorem ggL_caseHolds_X5_answerOf : GoodIn wsL_caseHolds wsX5_answerOf := goodIn_ca (goodIn_r _ [136, 137, 138, 14, 25, 26, 27, 4, 28, 29, 30, 31, 32, 33, 34, 35, 36, 37, 38, 39, 40, 41, 42, 43, 44, 45, 46, 47, 48, 49, 50, 51, 52, 53, 54, 55, 56, 57, 58, 59, 60, 61, 62, 63, 64, 139, 140, 141, 142, 15, 143, 144, 145, 146, 12, 13, 147, 148, 149, 150, 225, 226, 227, 228, 229, 230, 231, 240, 241, 242, 243, 244, 245, 246, 247, 248, 249, 250, 251, 252, 232, 233, 234, 235, 236, 237, 238, 239] (by decide +kernel) (by decide +kernel)) (goodIn_sub (fun _ h => List.mem_cons_of_mem _ (List.mem_append_right _ h)) (by decide +kernel))
set_option maxRecDepth 20000 in
theorem gL_caseHolds_X5_answerOf : GoodIn wsL_caseHolds (wsV RL 55 RX5 yX5_answerOf wsX5_answerOf) := goodIn_app (goodIn_of _ (by decide +kernel)) ggL_caseHolds_X5_answerOf
set_option maxRecDepth 20000 in
theorem ggL_caseHolds_X5_condition : GoodIn wsL_caseHolds wsX5_condition := goodIn_ca (goodIn_ca (goodIn_r _ [154, 137, 138, 6, 7, 143, 144, 145, 4, 146, 12, 13, 155, 156, 157, 158, 159, 160, 14, 25, 26, 27, 28, 29, 30, 31, 32, 33, 34, 35, 36, 37, 38, 39, 40, 41, 42, 43, 44, 45, 46, 47, 48, 49, 50, 51, 52, 53, 54, 55, 56, 57, 58, 59, 60, 61, 62, 63, 64, 161, 162, 163, 164, 225, 226, 227, 228, 229, 230, 231, 232, 233, 234, 235, 236, 237, 238, 239, 240, 241, 242, 243, 244, 245, 246, 247, 248, 249, 250, 251, 252] (by decide +kernel) (by decide +kernel)) (goodIn_sub (fun _ h => List.mem_cons_of_mem _ (List.mem_append_right _ h)) (by decide +kernel))) (goodIn_sub (fun _ h => List.mem_cons_of_mem _ (List.mem_append_left _ (List.mem_append_right _ h))) (by decide +kernel))
set_option maxRecDepth 20000 in
theorem gL_caseHolds_X5_condition : GoodIn wsL_caseHolds (wsV RL 52 RX5 yX5_condition wsX5_condition) := goodIn_app (goodIn_of _ (by decide +kernel)) ggL_caseHolds_X5_condition
set_option maxRecDepth 20000 in
theorem ggL_caseHolds_X5_rowAt : GoodIn wsL_caseHolds wsX5_rowAt := goodIn_ca (goodIn_r _ [168, 6, 7, 12, 16, 169, 225, 226, 227, 228, 229, 230, 231, 232, 233, 234, 235, 236, 237, 238, 239] (by decide +kernel) (by decide +kernel)) (goodIn_sub (fun _ h => List.mem_cons_of_mem _ (List.mem_append_left _ (List.mem_append_right _ h))) (by decide +kernel))
set_option maxRecDepth 20000 in
theorem gL_caseHolds_X5_rowAt : GoodIn wsL_caseHolds (wsV RL 58 RX5 yX5_rowAt wsX5_rowAt) := goodIn_app (goodIn_of _ (by decide +kernel)) ggL_caseHolds_X5_rowAt
set_option maxRecDepth 20000 in
theorem ggL_caseHolds_X5_answers : GoodIn wsL_caseHolds wsX5_answers := goodIn_ca (goodIn_r _ [173, 137, 138, 12, 174, 175, 176, 177, 178, 179, 180, 143, 144, 145, 4, 146, 13, 181, 182, 183, 184, 185, 225, 226, 227, 228, 229, 230, 231, 232, 233, 234, 235, 236, 237, 238, 239] (by decide +kernel) (by decide +kernel)) (goodIn_sub (fun _ h => List.mem_cons_of_mem _ (List.mem_append_right _ h)) (by decide +kernel))
set_option maxRecDepth 20000 in
theorem gL_caseHolds_X5_answers : GoodIn wsL_caseHolds (wsV RL 61 RX5 yX5_answers wsX5_answers) := goodIn_app (goodIn_of _ (by decide +kernel)) ggL_caseHolds_X5_answers
set_option maxRecDepth 20000 in
theorem ggL_caseHolds_L_has : GoodIn wsL_caseHolds wsL_has := goodIn_r _ [189] (by decide +kernel) (by decide +kernel)
set_option maxRecDepth 20000 in
theorem gL_caseHolds_L_has : GoodIn wsL_caseHolds (va_wsS RL 64 yL_has wsL_has) := goodIn_app (goodIn_of _ (by decide +kernel)) ggL_caseHolds_L_has
set_option maxRecDepth 20000 in
theorem ggL_caseHolds_X5_row : GoodIn wsL_caseHolds wsX5_row := goodIn_ca (goodIn_ca (goodIn_r _ [193, 137, 138, 6, 7, 12, 174, 175, 176, 177, 178, 179, 180, 194, 195, 196, 4, 197, 198, 14, 199, 200, 201, 202, 203, 204, 205, 206, 182, 183, 184, 185, 207, 127, 128, 129, 130, 131, 132, 25, 26, 27, 28, 29, 30, 31, 32, 33, 34, 35, 36, 37, 38, 39, 40, 41, 42, 43, 44, 45, 46, 47, 48, 49, 50, 51, 52, 53, 54, 55, 56, 57, 58, 59, 60, 61, 62, 63, 64, 225, 226, 227, 228, 229, 230, 231, 232, 233, 234, 235, 236, 237, 238, 239, 240, 241, 242, 243, 244, 245, 246, 247, 248, 249, 250, 251, 252] (by decide +kernel) (by decide +kernel)) (goodIn_sub (fun _ h => List.mem_cons_of_mem _ (List.mem_append_right _ h)) (by decide +kernel))) (goodIn_sub (fun _ h => List.mem_cons_of_mem _ (List.mem_append_left _ (List.mem_append_right _ h))) (by decide +kernel))
set_option maxRecDepth 20000 in
theorem gL_caseHolds_X5_row : GoodIn wsL_caseHolds (wsV RL 70 RX5 yX5_row wsX5_row) := goodIn_app (goodIn_of _ (by decide +kernel)) ggL_caseHolds_X5_row
set_option maxRecDepth 20000 in
theorem ggL_caseHolds_X5_caseOf : GoodIn wsL_caseHolds wsX5_caseOf := goodIn_ca (goodIn_ca (goodIn_r _ [211, 137, 138, 6, 7, 25, 26, 27, 4, 28, 29, 14, 30, 31, 32, 33, 34, 35, 36, 37, 38, 39, 40, 41, 42, 43, 44, 45, 46, 47, 48, 49, 50, 51, 52, 53, 54, 55, 56, 57, 58, 59, 60, 61, 62, 63, 64, 139, 140, 141, 142, 15, 212, 213, 214, 215, 216, 217, 218, 219, 220, 221, 222, 223, 224, 12, 16, 169, 225, 226, 227, 228, 229, 230, 231, 240, 241, 242, 243, 244, 245, 246, 247, 248, 249, 250, 251, 252, 232, 233, 234, 235, 236, 237, 238, 239] (by decide +kernel) (by decide +kernel)) (goodIn_sub (fun _ h => List.mem_cons_of_mem _ (List.mem_append_right _ h)) (by decide +kernel))) (goodIn_sub (fun _ h => List.mem_cons_of_mem _ (List.mem_append_left _ (List.mem_append_right _ h))) (by decide +kernel))
set_option maxRecDepth 20000 in
theorem gL_caseHolds_X5_caseOf : GoodIn wsL_caseHolds (wsV RL 46 RX5 yX5_caseOf wsX5_caseOf) := goodIn_app (goodIn_of _ (by decide +kernel)) ggL_caseHolds_X5_caseOf
theorem dL_caseHolds_0 : decode cL_caseHolds 0 = .ok (.iconst 1, 1) := by decide +kernel
theorem dL_caseHolds_1 : decode cL_caseHolds 1 = .ok (.istore_n 2, 1) := by decide +kernel
theorem dL_caseHolds_2 : decode cL_caseHolds 2 = .ok (.iconst 0, 1) := by decide +kernel
theorem dL_caseHolds_3 : decode cL_caseHolds 3 = .ok (.istore_n 3, 1) := by decide +kernel
theorem dL_caseHolds_4 : decode cL_caseHolds 4 = .ok (.iconst 0, 1) := by decide +kernel
theorem dL_caseHolds_5 : decode cL_caseHolds 5 = .ok (.istore 4, 2) := by decide +kernel
theorem dL_caseHolds_7 : decode cL_caseHolds 7 = .ok (.iload 4, 2) := by decide +kernel
theorem dL_caseHolds_9 : decode cL_caseHolds 9 = .ok (.aload_n 0, 1) := by decide +kernel
theorem dL_caseHolds_10 : decode cL_caseHolds 10 = .ok (.iconst 0, 1) := by decide +kernel
theorem dL_caseHolds_11 : decode cL_caseHolds 11 = .ok (.invokevirtual 49, 3) := by decide +kernel
theorem dL_caseHolds_14 : decode cL_caseHolds 14 = .ok (.if_icmp .ge 31, 3) := by decide +kernel
theorem dL_caseHolds_17 : decode cL_caseHolds 17 = .ok (.iload_n 3, 1) := by decide +kernel
theorem dL_caseHolds_18 : decode cL_caseHolds 18 = .ok (.iload_n 2, 1) := by decide +kernel
theorem dL_caseHolds_19 : decode cL_caseHolds 19 = .ok (.aload_n 0, 1) := by decide +kernel
theorem dL_caseHolds_20 : decode cL_caseHolds 20 = .ok (.iload_n 1, 1) := by decide +kernel
theorem dL_caseHolds_21 : decode cL_caseHolds 21 = .ok (.iload 4, 2) := by decide +kernel
theorem dL_caseHolds_23 : decode cL_caseHolds 23 = .ok (.invokevirtual 55, 3) := by decide +kernel
theorem dL_caseHolds_26 : decode cL_caseHolds 26 = .ok (.imul, 1) := by decide +kernel
theorem dL_caseHolds_27 : decode cL_caseHolds 27 = .ok (.iadd, 1) := by decide +kernel
theorem dL_caseHolds_28 : decode cL_caseHolds 28 = .ok (.istore_n 3, 1) := by decide +kernel
theorem dL_caseHolds_29 : decode cL_caseHolds 29 = .ok (.iload_n 2, 1) := by decide +kernel
theorem dL_caseHolds_30 : decode cL_caseHolds 30 = .ok (.aload_n 0, 1) := by decide +kernel
theorem dL_caseHolds_31 : decode cL_caseHolds 31 = .ok (.iload 4, 2) := by decide +kernel
theorem dL_caseHolds_33 : decode cL_caseHolds 33 = .ok (.iconst 0, 1) := by decide +kernel
theorem dL_caseHolds_34 : decode cL_caseHolds 34 = .ok (.invokevirtual 52, 3) := by decide +kernel
theorem dL_caseHolds_37 : decode cL_caseHolds 37 = .ok (.imul, 1) := by decide +kernel
theorem dL_caseHolds_38 : decode cL_caseHolds 38 = .ok (.istore_n 2, 1) := by decide +kernel
theorem dL_caseHolds_39 : decode cL_caseHolds 39 = .ok (.iinc 4 1, 3) := by decide +kernel
theorem dL_caseHolds_42 : decode cL_caseHolds 42 = .ok (.goto (-35), 3) := by decide +kernel
theorem dL_caseHolds_45 : decode cL_caseHolds 45 = .ok (.iconst 0, 1) := by decide +kernel
theorem dL_caseHolds_46 : decode cL_caseHolds 46 = .ok (.istore 4, 2) := by decide +kernel
theorem dL_caseHolds_48 : decode cL_caseHolds 48 = .ok (.iconst (-1), 1) := by decide +kernel
theorem dL_caseHolds_49 : decode cL_caseHolds 49 = .ok (.istore 5, 2) := by decide +kernel
theorem dL_caseHolds_51 : decode cL_caseHolds 51 = .ok (.iconst (-1), 1) := by decide +kernel
theorem dL_caseHolds_52 : decode cL_caseHolds 52 = .ok (.istore 6, 2) := by decide +kernel
theorem dL_caseHolds_54 : decode cL_caseHolds 54 = .ok (.iconst 0, 1) := by decide +kernel
theorem dL_caseHolds_55 : decode cL_caseHolds 55 = .ok (.istore 7, 2) := by decide +kernel
theorem dL_caseHolds_57 : decode cL_caseHolds 57 = .ok (.iconst 0, 1) := by decide +kernel
theorem dL_caseHolds_58 : decode cL_caseHolds 58 = .ok (.istore 8, 2) := by decide +kernel
theorem dL_caseHolds_60 : decode cL_caseHolds 60 = .ok (.iload 8, 2) := by decide +kernel
theorem dL_caseHolds_62 : decode cL_caseHolds 62 = .ok (.aload_n 0, 1) := by decide +kernel
theorem dL_caseHolds_63 : decode cL_caseHolds 63 = .ok (.iconst 2, 1) := by decide +kernel
theorem dL_caseHolds_64 : decode cL_caseHolds 64 = .ok (.invokevirtual 49, 3) := by decide +kernel
theorem dL_caseHolds_67 : decode cL_caseHolds 67 = .ok (.if_icmp .ge 141, 3) := by decide +kernel
theorem dL_caseHolds_70 : decode cL_caseHolds 70 = .ok (.aload_n 0, 1) := by decide +kernel
theorem dL_caseHolds_71 : decode cL_caseHolds 71 = .ok (.iload 8, 2) := by decide +kernel
theorem dL_caseHolds_73 : decode cL_caseHolds 73 = .ok (.invokevirtual 58, 3) := by decide +kernel
theorem dL_caseHolds_76 : decode cL_caseHolds 76 = .ok (.istore 9, 2) := by decide +kernel
theorem dL_caseHolds_78 : decode cL_caseHolds 78 = .ok (.iconst 1, 1) := by decide +kernel
theorem dL_caseHolds_79 : decode cL_caseHolds 79 = .ok (.istore 10, 2) := by decide +kernel
theorem dL_caseHolds_81 : decode cL_caseHolds 81 = .ok (.iconst 0, 1) := by decide +kernel
theorem dL_caseHolds_82 : decode cL_caseHolds 82 = .ok (.istore 11, 2) := by decide +kernel
theorem dL_caseHolds_84 : decode cL_caseHolds 84 = .ok (.iload 11, 2) := by decide +kernel
theorem dL_caseHolds_86 : decode cL_caseHolds 86 = .ok (.aload_n 0, 1) := by decide +kernel
theorem dL_caseHolds_87 : decode cL_caseHolds 87 = .ok (.iconst 0, 1) := by decide +kernel
theorem dL_caseHolds_88 : decode cL_caseHolds 88 = .ok (.invokevirtual 49, 3) := by decide +kernel
theorem dL_caseHolds_91 : decode cL_caseHolds 91 = .ok (.if_icmp .ge 42, 3) := by decide +kernel
theorem dL_caseHolds_94 : decode cL_caseHolds 94 = .ok (.iload 10, 2) := by decide +kernel
theorem dL_caseHolds_96 : decode cL_caseHolds 96 = .ok (.ifCond .eq 28, 3) := by decide +kernel
theorem dL_caseHolds_99 : decode cL_caseHolds 99 = .ok (.aload_n 0, 1) := by decide +kernel
theorem dL_caseHolds_100 : decode cL_caseHolds 100 = .ok (.iload 9, 2) := by decide +kernel
theorem dL_caseHolds_102 : decode cL_caseHolds 102 = .ok (.iload 11, 2) := by decide +kernel
theorem dL_caseHolds_104 : decode cL_caseHolds 104 = .ok (.invokevirtual 61, 3) := by decide +kernel
theorem dL_caseHolds_107 : decode cL_caseHolds 107 = .ok (.aload_n 0, 1) := by decide +kernel
theorem dL_caseHolds_108 : decode cL_caseHolds 108 = .ok (.iload_n 1, 1) := by decide +kernel
theorem dL_caseHolds_109 : decode cL_caseHolds 109 = .ok (.iload 11, 2) := by decide +kernel
theorem dL_caseHolds_111 : decode cL_caseHolds 111 = .ok (.invokevirtual 55, 3) := by decide +kernel
theorem dL_caseHolds_114 : decode cL_caseHolds 114 = .ok (.invokestatic 64, 3) := by decide +kernel
theorem dL_caseHolds_117 : decode cL_caseHolds 117 = .ok (.ifCond .eq 7, 3) := by decide +kernel
theorem dL_caseHolds_120 : decode cL_caseHolds 120 = .ok (.iconst 1, 1) := by decide +kernel
theorem dL_caseHolds_121 : decode cL_caseHolds 121 = .ok (.goto 4, 3) := by decide +kernel
theorem dL_caseHolds_124 : decode cL_caseHolds 124 = .ok (.iconst 0, 1) := by decide +kernel
theorem dL_caseHolds_125 : decode cL_caseHolds 125 = .ok (.istore 10, 2) := by decide +kernel
theorem dL_caseHolds_127 : decode cL_caseHolds 127 = .ok (.iinc 11 1, 3) := by decide +kernel
theorem dL_caseHolds_130 : decode cL_caseHolds 130 = .ok (.goto (-46), 3) := by decide +kernel
theorem dL_caseHolds_133 : decode cL_caseHolds 133 = .ok (.iload 10, 2) := by decide +kernel
theorem dL_caseHolds_135 : decode cL_caseHolds 135 = .ok (.ifCond .ne 6, 3) := by decide +kernel
theorem dL_caseHolds_138 : decode cL_caseHolds 138 = .ok (.goto 64, 3) := by decide +kernel
theorem dL_caseHolds_141 : decode cL_caseHolds 141 = .ok (.iload 4, 2) := by decide +kernel
theorem dL_caseHolds_143 : decode cL_caseHolds 143 = .ok (.ifCond .ne 8, 3) := by decide +kernel
theorem dL_caseHolds_146 : decode cL_caseHolds 146 = .ok (.iload 9, 2) := by decide +kernel
theorem dL_caseHolds_148 : decode cL_caseHolds 148 = .ok (.goto 5, 3) := by decide +kernel
theorem dL_caseHolds_151 : decode cL_caseHolds 151 = .ok (.iload 5, 2) := by decide +kernel
theorem dL_caseHolds_153 : decode cL_caseHolds 153 = .ok (.istore 5, 2) := by decide +kernel
theorem dL_caseHolds_155 : decode cL_caseHolds 155 = .ok (.iload 4, 2) := by decide +kernel
theorem dL_caseHolds_157 : decode cL_caseHolds 157 = .ok (.iconst 1, 1) := by decide +kernel
theorem dL_caseHolds_158 : decode cL_caseHolds 158 = .ok (.if_icmp .ne 8, 3) := by decide +kernel
theorem dL_caseHolds_161 : decode cL_caseHolds 161 = .ok (.iload 9, 2) := by decide +kernel
theorem dL_caseHolds_163 : decode cL_caseHolds 163 = .ok (.goto 5, 3) := by decide +kernel
theorem dL_caseHolds_166 : decode cL_caseHolds 166 = .ok (.iload 6, 2) := by decide +kernel
theorem dL_caseHolds_168 : decode cL_caseHolds 168 = .ok (.istore 6, 2) := by decide +kernel
theorem dL_caseHolds_170 : decode cL_caseHolds 170 = .ok (.iload 7, 2) := by decide +kernel
theorem dL_caseHolds_172 : decode cL_caseHolds 172 = .ok (.ifCond .ne 20, 3) := by decide +kernel
theorem dL_caseHolds_175 : decode cL_caseHolds 175 = .ok (.aload_n 0, 1) := by decide +kernel
theorem dL_caseHolds_176 : decode cL_caseHolds 176 = .ok (.iload 9, 2) := by decide +kernel
theorem dL_caseHolds_178 : decode cL_caseHolds 178 = .ok (.iconst 1, 1) := by decide +kernel
theorem dL_caseHolds_179 : decode cL_caseHolds 179 = .ok (.invokevirtual 70, 3) := by decide +kernel
theorem dL_caseHolds_182 : decode cL_caseHolds 182 = .ok (.aload_n 0, 1) := by decide +kernel
theorem dL_caseHolds_183 : decode cL_caseHolds 183 = .ok (.iload 5, 2) := by decide +kernel
theorem dL_caseHolds_185 : decode cL_caseHolds 185 = .ok (.iconst 1, 1) := by decide +kernel
theorem dL_caseHolds_186 : decode cL_caseHolds 186 = .ok (.invokevirtual 70, 3) := by decide +kernel
theorem dL_caseHolds_189 : decode cL_caseHolds 189 = .ok (.if_icmp .eq 7, 3) := by decide +kernel
theorem dL_caseHolds_192 : decode cL_caseHolds 192 = .ok (.iconst 1, 1) := by decide +kernel
theorem dL_caseHolds_193 : decode cL_caseHolds 193 = .ok (.goto 4, 3) := by decide +kernel
theorem dL_caseHolds_196 : decode cL_caseHolds 196 = .ok (.iconst 0, 1) := by decide +kernel
theorem dL_caseHolds_197 : decode cL_caseHolds 197 = .ok (.istore 7, 2) := by decide +kernel
theorem dL_caseHolds_199 : decode cL_caseHolds 199 = .ok (.iinc 4 1, 3) := by decide +kernel
theorem dL_caseHolds_202 : decode cL_caseHolds 202 = .ok (.iinc 8 1, 3) := by decide +kernel
theorem dL_caseHolds_205 : decode cL_caseHolds 205 = .ok (.goto (-145), 3) := by decide +kernel
theorem dL_caseHolds_208 : decode cL_caseHolds 208 = .ok (.iload_n 3, 1) := by decide +kernel
theorem dL_caseHolds_209 : decode cL_caseHolds 209 = .ok (.iload_n 1, 1) := by decide +kernel
theorem dL_caseHolds_210 : decode cL_caseHolds 210 = .ok (.if_icmp .ne 59, 3) := by decide +kernel
theorem dL_caseHolds_213 : decode cL_caseHolds 213 = .ok (.aload_n 0, 1) := by decide +kernel
theorem dL_caseHolds_214 : decode cL_caseHolds 214 = .ok (.iload_n 1, 1) := by decide +kernel
theorem dL_caseHolds_215 : decode cL_caseHolds 215 = .ok (.iconst 0, 1) := by decide +kernel
theorem dL_caseHolds_216 : decode cL_caseHolds 216 = .ok (.invokevirtual 46, 3) := by decide +kernel
theorem dL_caseHolds_219 : decode cL_caseHolds 219 = .ok (.iload 5, 2) := by decide +kernel
theorem dL_caseHolds_221 : decode cL_caseHolds 221 = .ok (.if_icmp .ne 48, 3) := by decide +kernel
theorem dL_caseHolds_224 : decode cL_caseHolds 224 = .ok (.aload_n 0, 1) := by decide +kernel
theorem dL_caseHolds_225 : decode cL_caseHolds 225 = .ok (.iload_n 1, 1) := by decide +kernel
