set_option maxRecDepth 20000 in
theorem ggX5_init_X4_init : GoodIn wsX5_init wsX4_init := goodIn_r _ [27, 28, 2, 3, 29, 30, 31, 32, 33, 34, 71, 72, 73, 74, 75, 76, 77, 78] (by decide +kernel) (by decide +kernel)
set_option maxRecDepth 20000 in
theorem gX5_init_X4_init_n9 : GoodIn wsX5_init (wsX4_init) := ggX5_init_X4_init
set_option maxRecDepth 20000 in
theorem ggX5_init_X0_init : GoodIn wsX5_init wsX0_init := goodIn_r _ [37, 38, 2, 3, 29, 39, 40, 41, 42, 43, 44, 45, 46, 47, 48, 86, 87, 88, 89, 90, 91, 92, 93, 94, 95, 96, 97, 98] (by decide +kernel) (by decide +kernel)
set_option maxRecDepth 20000 in
theorem gX5_init_X0_init : GoodIn wsX5_init (wsX0_init) := ggX5_init_X0_init
set_option maxRecDepth 20000 in
theorem ggX5_init_X2_init : GoodIn wsX5_init wsX2_init := goodIn_r _ [51, 52, 2, 3, 29, 53, 54, 55, 56, 57, 99, 100, 101, 102, 103] (by decide +kernel) (by decide +kernel)
set_option maxRecDepth 20000 in
theorem gX5_init_X2_init : GoodIn wsX5_init (wsX2_init) := ggX5_init_X2_init
set_option maxRecDepth 20000 in
theorem ggX5_init_X1_init : GoodIn wsX5_init wsX1_init := goodIn_r _ [60, 61, 2, 3, 62, 63, 5, 6, 26, 27, 28, 29, 30, 31, 32, 33, 34, 104, 105, 71, 72, 73, 74, 75, 76, 77, 78] (by decide +kernel) (by decide +kernel)
set_option maxRecDepth 20000 in
theorem gX5_init_X1_init : GoodIn wsX5_init (wsX1_init) := ggX5_init_X1_init
set_option maxRecDepth 20000 in
theorem ggX5_init_X3_init : GoodIn wsX5_init wsX3_init := goodIn_r _ [66, 67, 2, 3, 68, 69, 70, 106, 107, 108, 109, 110, 111, 112, 113] (by decide +kernel) (by decide +kernel)
set_option maxRecDepth 20000 in
theorem gX5_init_X3_init : GoodIn wsX5_init (wsX3_init) := ggX5_init_X3_init
theorem dX5_init_0 : decode cX5_init 0 = .ok (.aload_n 0, 1) := by decide +kernel
theorem dX5_init_1 : decode cX5_init 1 = .ok (.invokespecial 1, 3) := by decide +kernel
theorem dX5_init_4 : decode cX5_init 4 = .ok (.aload_n 0, 1) := by decide +kernel
theorem dX5_init_5 : decode cX5_init 5 = .ok (.new 7, 3) := by decide +kernel
theorem dX5_init_8 : decode cX5_init 8 = .ok (.dup, 1) := by decide +kernel
theorem dX5_init_9 : decode cX5_init 9 = .ok (.invokespecial 9, 3) := by decide +kernel
theorem dX5_init_12 : decode cX5_init 12 = .ok (.putfield 10, 3) := by decide +kernel
theorem dX5_init_15 : decode cX5_init 15 = .ok (.aload_n 0, 1) := by decide +kernel
theorem dX5_init_16 : decode cX5_init 16 = .ok (.new 16, 3) := by decide +kernel
theorem dX5_init_19 : decode cX5_init 19 = .ok (.dup, 1) := by decide +kernel
theorem dX5_init_20 : decode cX5_init 20 = .ok (.aload_n 0, 1) := by decide +kernel
theorem dX5_init_21 : decode cX5_init 21 = .ok (.getfield 10, 3) := by decide +kernel
theorem dX5_init_24 : decode cX5_init 24 = .ok (.invokespecial 18, 3) := by decide +kernel
theorem dX5_init_27 : decode cX5_init 27 = .ok (.putfield 21, 3) := by decide +kernel
theorem dX5_init_30 : decode cX5_init 30 = .ok (.aload_n 0, 1) := by decide +kernel
theorem dX5_init_31 : decode cX5_init 31 = .ok (.new 25, 3) := by decide +kernel
theorem dX5_init_34 : decode cX5_init 34 = .ok (.dup, 1) := by decide +kernel
theorem dX5_init_35 : decode cX5_init 35 = .ok (.aload_n 0, 1) := by decide +kernel
theorem dX5_init_36 : decode cX5_init 36 = .ok (.getfield 10, 3) := by decide +kernel
theorem dX5_init_39 : decode cX5_init 39 = .ok (.aload_n 0, 1) := by decide +kernel
theorem dX5_init_40 : decode cX5_init 40 = .ok (.getfield 21, 3) := by decide +kernel
theorem dX5_init_43 : decode cX5_init 43 = .ok (.invokespecial 27, 3) := by decide +kernel
theorem dX5_init_46 : decode cX5_init 46 = .ok (.putfield 30, 3) := by decide +kernel
theorem dX5_init_49 : decode cX5_init 49 = .ok (.aload_n 0, 1) := by decide +kernel
theorem dX5_init_50 : decode cX5_init 50 = .ok (.new 34, 3) := by decide +kernel
theorem dX5_init_53 : decode cX5_init 53 = .ok (.dup, 1) := by decide +kernel
theorem dX5_init_54 : decode cX5_init 54 = .ok (.invokespecial 36, 3) := by decide +kernel
theorem dX5_init_57 : decode cX5_init 57 = .ok (.putfield 37, 3) := by decide +kernel
theorem dX5_init_60 : decode cX5_init 60 = .ok (.aload_n 0, 1) := by decide +kernel
theorem dX5_init_61 : decode cX5_init 61 = .ok (.new 41, 3) := by decide +kernel
theorem dX5_init_64 : decode cX5_init 64 = .ok (.dup, 1) := by decide +kernel
theorem dX5_init_65 : decode cX5_init 65 = .ok (.aload_n 0, 1) := by decide +kernel
theorem dX5_init_66 : decode cX5_init 66 = .ok (.getfield 10, 3) := by decide +kernel
theorem dX5_init_69 : decode cX5_init 69 = .ok (.invokespecial 43, 3) := by decide +kernel
theorem dX5_init_72 : decode cX5_init 72 = .ok (.putfield 44, 3) := by decide +kernel
theorem dX5_init_75 : decode cX5_init 75 = .ok (.aload_n 0, 1) := by decide +kernel
theorem dX5_init_76 : decode cX5_init 76 = .ok (.iconst 1, 1) := by decide +kernel
theorem dX5_init_77 : decode cX5_init 77 = .ok (.putfield 48, 3) := by decide +kernel
theorem dX5_init_80 : decode cX5_init 80 = .ok (.aload_n 0, 1) := by decide +kernel
theorem dX5_init_81 : decode cX5_init 81 = .ok (.iconst 1, 1) := by decide +kernel
theorem dX5_init_82 : decode cX5_init 82 = .ok (.putfield 52, 3) := by decide +kernel
theorem dX5_init_85 : decode cX5_init 85 = .ok (.return_, 1) := by decide +kernel
set_option maxRecDepth 20000 in
theorem ggX5_addCondition_X5_isCost : GoodIn wsX5_addCondition wsX5_isCost := goodIn_r _ [10] (by decide +kernel) (by decide +kernel)
set_option maxRecDepth 20000 in
theorem gX5_addCondition_X5_isCost : GoodIn wsX5_addCondition (va_wsS RX5 55 yX5_isCost wsX5_isCost) := goodIn_app (goodIn_of _ (by decide +kernel)) ggX5_addCondition_X5_isCost
set_option maxRecDepth 20000 in
theorem ggX5_addCondition_X5_saveForChange : GoodIn wsX5_addCondition wsX5_saveForChange := goodIn_r _ [14, 15, 5, 16, 17, 18, 19, 20, 21, 22, 23, 24, 25, 26, 27, 28, 29, 30, 31, 32, 33, 34, 35, 36, 37, 38, 39, 40, 41, 42, 43, 44, 45, 54, 55, 56, 57, 58, 59, 60, 69, 70, 61, 62, 63, 64, 65, 66, 67, 68] (by decide +kernel) (by decide +kernel)
set_option maxRecDepth 20000 in
theorem gX5_addCondition_X5_saveForChange : GoodIn wsX5_addCondition (wsV RX5 75 RX5 yX5_saveForChange wsX5_saveForChange) := goodIn_app (goodIn_of _ (by decide +kernel)) ggX5_addCondition_X5_saveForChange
set_option maxRecDepth 20000 in
theorem ggX5_addCondition_X4_appendCondition : GoodIn wsX5_addCondition wsX4_appendCondition := goodIn_r _ [49, 34, 37, 42, 36, 44, 50, 51, 52, 32, 53, 61, 62, 63, 64, 65, 66, 67, 68] (by decide +kernel) (by decide +kernel)
set_option maxRecDepth 20000 in
theorem gX5_addCondition_X4_appendCondition : GoodIn wsX5_addCondition (wsV RX5 78 RX4 yX4_appendCondition wsX4_appendCondition) := goodIn_app (goodIn_of _ (by decide +kernel)) ggX5_addCondition_X4_appendCondition
theorem dX5_addCondition_0 : decode cX5_addCondition 0 = .ok (.iload_n 1, 1) := by decide +kernel
theorem dX5_addCondition_1 : decode cX5_addCondition 1 = .ok (.iconst 2, 1) := by decide +kernel
theorem dX5_addCondition_2 : decode cX5_addCondition 2 = .ok (.if_icmp .lt 15, 3) := by decide +kernel
theorem dX5_addCondition_5 : decode cX5_addCondition 5 = .ok (.iload_n 1, 1) := by decide +kernel
theorem dX5_addCondition_6 : decode cX5_addCondition 6 = .ok (.iconst 4, 1) := by decide +kernel
theorem dX5_addCondition_7 : decode cX5_addCondition 7 = .ok (.if_icmp .gt 10, 3) := by decide +kernel
theorem dX5_addCondition_10 : decode cX5_addCondition 10 = .ok (.iload_n 2, 1) := by decide +kernel
theorem dX5_addCondition_11 : decode cX5_addCondition 11 = .ok (.invokestatic 55, 3) := by decide +kernel
theorem dX5_addCondition_14 : decode cX5_addCondition 14 = .ok (.ifCond .ne 13, 3) := by decide +kernel
theorem dX5_addCondition_17 : decode cX5_addCondition 17 = .ok (.new 59, 3) := by decide +kernel
theorem dX5_addCondition_20 : decode cX5_addCondition 20 = .ok (.dup, 1) := by decide +kernel
theorem dX5_addCondition_21 : decode cX5_addCondition 21 = .ok (.ldc 61, 2) := by decide +kernel
theorem dX5_addCondition_23 : decode cX5_addCondition 23 = .ok (.invokespecial 63, 3) := by decide +kernel
theorem dX5_addCondition_26 : decode cX5_addCondition 26 = .ok (.athrow, 1) := by decide +kernel
theorem dX5_addCondition_27 : decode cX5_addCondition 27 = .ok (.aload_n 0, 1) := by decide +kernel
theorem dX5_addCondition_28 : decode cX5_addCondition 28 = .ok (.getfield 10, 3) := by decide +kernel
theorem dX5_addCondition_31 : decode cX5_addCondition 31 = .ok (.getfield 66, 3) := by decide +kernel
theorem dX5_addCondition_34 : decode cX5_addCondition 34 = .ok (.iconst 5, 1) := by decide +kernel
theorem dX5_addCondition_35 : decode cX5_addCondition 35 = .ok (.if_icmp .lt 13, 3) := by decide +kernel
theorem dX5_addCondition_38 : decode cX5_addCondition 38 = .ok (.new 70, 3) := by decide +kernel
theorem dX5_addCondition_41 : decode cX5_addCondition 41 = .ok (.dup, 1) := by decide +kernel
theorem dX5_addCondition_42 : decode cX5_addCondition 42 = .ok (.ldc 72, 2) := by decide +kernel
theorem dX5_addCondition_44 : decode cX5_addCondition 44 = .ok (.invokespecial 74, 3) := by decide +kernel
theorem dX5_addCondition_47 : decode cX5_addCondition 47 = .ok (.athrow, 1) := by decide +kernel
theorem dX5_addCondition_48 : decode cX5_addCondition 48 = .ok (.aload_n 0, 1) := by decide +kernel
theorem dX5_addCondition_49 : decode cX5_addCondition 49 = .ok (.invokevirtual 75, 3) := by decide +kernel
theorem dX5_addCondition_52 : decode cX5_addCondition 52 = .ok (.aload_n 0, 1) := by decide +kernel
theorem dX5_addCondition_53 : decode cX5_addCondition 53 = .ok (.getfield 10, 3) := by decide +kernel
theorem dX5_addCondition_56 : decode cX5_addCondition 56 = .ok (.iload_n 1, 1) := by decide +kernel
theorem dX5_addCondition_57 : decode cX5_addCondition 57 = .ok (.iload_n 2, 1) := by decide +kernel
theorem dX5_addCondition_58 : decode cX5_addCondition 58 = .ok (.invokevirtual 78, 3) := by decide +kernel
theorem dX5_addCondition_61 : decode cX5_addCondition 61 = .ok (.ireturn, 1) := by decide +kernel
set_option maxRecDepth 20000 in
theorem ggX5_setCost_X5_isCondition : GoodIn wsX5_setCost wsX5_isCondition := goodIn_r _ [11, 5, 12, 51, 52, 53, 54, 55, 56, 57, 58, 59, 60, 61, 62, 63, 64, 65] (by decide +kernel) (by decide +kernel)
set_option maxRecDepth 20000 in
theorem gX5_setCost_X5_isCondition : GoodIn wsX5_setCost (wsV RX5 82 RX5 yX5_isCondition wsX5_isCondition) := goodIn_app (goodIn_of _ (by decide +kernel)) ggX5_setCost_X5_isCondition
set_option maxRecDepth 20000 in
theorem ggX5_setCost_X5_isCost : GoodIn wsX5_setCost wsX5_isCost := goodIn_r _ [15] (by decide +kernel) (by decide +kernel)
set_option maxRecDepth 20000 in
theorem gX5_setCost_X5_isCost : GoodIn wsX5_setCost (va_wsS RX5 55 yX5_isCost wsX5_isCost) := goodIn_app (goodIn_of _ (by decide +kernel)) ggX5_setCost_X5_isCost
set_option maxRecDepth 20000 in
theorem ggX5_setCost_X5_saveForChange : GoodIn wsX5_setCost wsX5_saveForChange := goodIn_r _ [19, 20, 5, 21, 22, 23, 24, 25, 26, 27, 28, 29, 30, 31, 32, 33, 34, 35, 36, 37, 38, 39, 40, 41, 42, 43, 44, 45, 46, 47, 48, 49, 50, 51, 52, 53, 54, 55, 56, 57, 66, 67, 58, 59, 60, 61, 62, 63, 64, 65] (by decide +kernel) (by decide +kernel)
set_option maxRecDepth 20000 in
theorem gX5_setCost_X5_saveForChange : GoodIn wsX5_setCost (wsV RX5 75 RX5 yX5_saveForChange wsX5_saveForChange) := goodIn_app (goodIn_of _ (by decide +kernel)) ggX5_setCost_X5_saveForChange
theorem dX5_setCost_0 : decode cX5_setCost 0 = .ok (.aload_n 0, 1) := by decide +kernel
theorem dX5_setCost_1 : decode cX5_setCost 1 = .ok (.iload_n 1, 1) := by decide +kernel
theorem dX5_setCost_2 : decode cX5_setCost 2 = .ok (.invokevirtual 82, 3) := by decide +kernel
theorem dX5_setCost_5 : decode cX5_setCost 5 = .ok (.ifCond .ne 13, 3) := by decide +kernel
theorem dX5_setCost_8 : decode cX5_setCost 8 = .ok (.new 85, 3) := by decide +kernel
theorem dX5_setCost_11 : decode cX5_setCost 11 = .ok (.dup, 1) := by decide +kernel
theorem dX5_setCost_12 : decode cX5_setCost 12 = .ok (.ldc 87, 2) := by decide +kernel
theorem dX5_setCost_14 : decode cX5_setCost 14 = .ok (.invokespecial 89, 3) := by decide +kernel
theorem dX5_setCost_17 : decode cX5_setCost 17 = .ok (.athrow, 1) := by decide +kernel
theorem dX5_setCost_18 : decode cX5_setCost 18 = .ok (.iload_n 2, 1) := by decide +kernel
theorem dX5_setCost_19 : decode cX5_setCost 19 = .ok (.invokestatic 55, 3) := by decide +kernel
theorem dX5_setCost_22 : decode cX5_setCost 22 = .ok (.ifCond .ne 13, 3) := by decide +kernel
theorem dX5_setCost_25 : decode cX5_setCost 25 = .ok (.new 59, 3) := by decide +kernel
theorem dX5_setCost_28 : decode cX5_setCost 28 = .ok (.dup, 1) := by decide +kernel
theorem dX5_setCost_29 : decode cX5_setCost 29 = .ok (.ldc 90, 2) := by decide +kernel
theorem dX5_setCost_31 : decode cX5_setCost 31 = .ok (.invokespecial 63, 3) := by decide +kernel
theorem dX5_setCost_34 : decode cX5_setCost 34 = .ok (.athrow, 1) := by decide +kernel
theorem dX5_setCost_35 : decode cX5_setCost 35 = .ok (.aload_n 0, 1) := by decide +kernel
theorem dX5_setCost_36 : decode cX5_setCost 36 = .ok (.invokevirtual 75, 3) := by decide +kernel
theorem dX5_setCost_39 : decode cX5_setCost 39 = .ok (.aload_n 0, 1) := by decide +kernel
theorem dX5_setCost_40 : decode cX5_setCost 40 = .ok (.getfield 10, 3) := by decide +kernel
theorem dX5_setCost_43 : decode cX5_setCost 43 = .ok (.getfield 92, 3) := by decide +kernel
theorem dX5_setCost_46 : decode cX5_setCost 46 = .ok (.iload_n 1, 1) := by decide +kernel
theorem dX5_setCost_47 : decode cX5_setCost 47 = .ok (.iaload, 1) := by decide +kernel
theorem dX5_setCost_48 : decode cX5_setCost 48 = .ok (.istore_n 3, 1) := by decide +kernel
theorem dX5_setCost_49 : decode cX5_setCost 49 = .ok (.aload_n 0, 1) := by decide +kernel
theorem dX5_setCost_50 : decode cX5_setCost 50 = .ok (.getfield 10, 3) := by decide +kernel
theorem dX5_setCost_53 : decode cX5_setCost 53 = .ok (.getfield 92, 3) := by decide +kernel
theorem dX5_setCost_56 : decode cX5_setCost 56 = .ok (.iload_n 1, 1) := by decide +kernel
theorem dX5_setCost_57 : decode cX5_setCost 57 = .ok (.iload_n 2, 1) := by decide +kernel
theorem dX5_setCost_58 : decode cX5_setCost 58 = .ok (.iastore, 1) := by decide +kernel
theorem dX5_setCost_59 : decode cX5_setCost 59 = .ok (.iload_n 3, 1) := by decide +kernel
theorem dX5_setCost_60 : decode cX5_setCost 60 = .ok (.ireturn, 1) := by decide +kernel
set_option maxRecDepth 20000 in
theorem ggX5_addRow_X5_isAction : GoodIn wsX5_addRow wsX5_isAction := goodIn_r _ [10] (by decide +kernel) (by decide +kernel)
set_option maxRecDepth 20000 in
theorem gX5_addRow_X5_isAction : GoodIn wsX5_addRow (va_wsS RX5 96 yX5_isAction wsX5_isAction) := goodIn_app (goodIn_of _ (by decide +kernel)) ggX5_addRow_X5_isAction
set_option maxRecDepth 20000 in
theorem ggX5_addRow_X4_areSets : GoodIn wsX5_addRow wsX4_areSets := goodIn_r _ [15, 16, 17, 18, 19, 14, 20, 21, 22, 23, 24, 25, 69, 70, 71, 72, 73, 74, 75, 76] (by decide +kernel) (by decide +kernel)
set_option maxRecDepth 20000 in
theorem gX5_addRow_X4_areSets : GoodIn wsX5_addRow (wsV RX5 99 RX4 yX4_areSets wsX4_areSets) := goodIn_app (goodIn_of _ (by decide +kernel)) ggX5_addRow_X4_areSets
set_option maxRecDepth 20000 in
theorem ggX5_addRow_X5_saveForChange : GoodIn wsX5_addRow wsX5_saveForChange := goodIn_r _ [29, 30, 5, 31, 32, 33, 34, 35, 36, 37, 38, 39, 40, 41, 42, 43, 44, 45, 46, 14, 47, 16, 48, 49, 25, 50, 51, 52, 53, 54, 55, 56, 57, 62, 63, 64, 65, 66, 67, 68, 77, 78, 69, 70, 71, 72, 73, 74, 75, 76] (by decide +kernel) (by decide +kernel)
set_option maxRecDepth 20000 in
theorem gX5_addRow_X5_saveForChange : GoodIn wsX5_addRow (wsV RX5 75 RX5 yX5_saveForChange wsX5_saveForChange) := goodIn_app (goodIn_of _ (by decide +kernel)) ggX5_addRow_X5_saveForChange
set_option maxRecDepth 20000 in
theorem ggX5_addRow_X4_appendRow : GoodIn wsX5_addRow wsX4_appendRow := goodIn_r _ [61, 48, 55, 49, 56, 57, 69, 70, 71, 72, 73, 74, 75, 76] (by decide +kernel) (by decide +kernel)
set_option maxRecDepth 20000 in
theorem gX5_addRow_X4_appendRow : GoodIn wsX5_addRow (wsV RX5 109 RX4 yX4_appendRow wsX4_appendRow) := goodIn_app (goodIn_of _ (by decide +kernel)) ggX5_addRow_X4_appendRow
theorem dX5_addRow_0 : decode cX5_addRow 0 = .ok (.iload_n 2, 1) := by decide +kernel
theorem dX5_addRow_1 : decode cX5_addRow 1 = .ok (.invokestatic 96, 3) := by decide +kernel
theorem dX5_addRow_4 : decode cX5_addRow 4 = .ok (.ifCond .eq 14, 3) := by decide +kernel
theorem dX5_addRow_7 : decode cX5_addRow 7 = .ok (.aload_n 0, 1) := by decide +kernel
theorem dX5_addRow_8 : decode cX5_addRow 8 = .ok (.getfield 10, 3) := by decide +kernel
theorem dX5_addRow_11 : decode cX5_addRow 11 = .ok (.iload_n 1, 1) := by decide +kernel
theorem dX5_addRow_12 : decode cX5_addRow 12 = .ok (.invokevirtual 99, 3) := by decide +kernel
theorem dX5_addRow_15 : decode cX5_addRow 15 = .ok (.ifCond .ne 13, 3) := by decide +kernel
theorem dX5_addRow_18 : decode cX5_addRow 18 = .ok (.new 59, 3) := by decide +kernel
theorem dX5_addRow_21 : decode cX5_addRow 21 = .ok (.dup, 1) := by decide +kernel
theorem dX5_addRow_22 : decode cX5_addRow 22 = .ok (.ldc 102, 2) := by decide +kernel
theorem dX5_addRow_24 : decode cX5_addRow 24 = .ok (.invokespecial 63, 3) := by decide +kernel
theorem dX5_addRow_27 : decode cX5_addRow 27 = .ok (.athrow, 1) := by decide +kernel
theorem dX5_addRow_28 : decode cX5_addRow 28 = .ok (.aload_n 0, 1) := by decide +kernel
theorem dX5_addRow_29 : decode cX5_addRow 29 = .ok (.getfield 10, 3) := by decide +kernel
theorem dX5_addRow_32 : decode cX5_addRow 32 = .ok (.getfield 104, 3) := by decide +kernel
theorem dX5_addRow_35 : decode cX5_addRow 35 = .ok (.bipush 20, 2) := by decide +kernel
theorem dX5_addRow_37 : decode cX5_addRow 37 = .ok (.if_icmp .lt 13, 3) := by decide +kernel
theorem dX5_addRow_40 : decode cX5_addRow 40 = .ok (.new 70, 3) := by decide +kernel
theorem dX5_addRow_43 : decode cX5_addRow 43 = .ok (.dup, 1) := by decide +kernel
theorem dX5_addRow_44 : decode cX5_addRow 44 = .ok (.ldc 107, 2) := by decide +kernel
theorem dX5_addRow_46 : decode cX5_addRow 46 = .ok (.invokespecial 74, 3) := by decide +kernel
theorem dX5_addRow_49 : decode cX5_addRow 49 = .ok (.athrow, 1) := by decide +kernel
theorem dX5_addRow_50 : decode cX5_addRow 50 = .ok (.aload_n 0, 1) := by decide +kernel
theorem dX5_addRow_51 : decode cX5_addRow 51 = .ok (.invokevirtual 75, 3) := by decide +kernel
theorem dX5_addRow_54 : decode cX5_addRow 54 = .ok (.aload_n 0, 1) := by decide +kernel
theorem dX5_addRow_55 : decode cX5_addRow 55 = .ok (.getfield 10, 3) := by decide +kernel
theorem dX5_addRow_58 : decode cX5_addRow 58 = .ok (.iload_n 1, 1) := by decide +kernel
theorem dX5_addRow_59 : decode cX5_addRow 59 = .ok (.iload_n 2, 1) := by decide +kernel
theorem dX5_addRow_60 : decode cX5_addRow 60 = .ok (.invokevirtual 109, 3) := by decide +kernel
theorem dX5_addRow_63 : decode cX5_addRow 63 = .ok (.ireturn, 1) := by decide +kernel
set_option maxRecDepth 20000 in
theorem ggX5_setAnswers_X4_placeOf : GoodIn wsX5_setAnswers wsX4_placeOf := goodIn_r _ [10, 11, 12, 74, 75, 76, 77, 78, 79, 80, 81] (by decide +kernel) (by decide +kernel)
set_option maxRecDepth 20000 in
theorem gX5_setAnswers_X4_placeOf : GoodIn wsX5_setAnswers (wsV RX5 112 RX4 yX4_placeOf wsX4_placeOf) := goodIn_app (goodIn_of _ (by decide +kernel)) ggX5_setAnswers_X4_placeOf
set_option maxRecDepth 20000 in
theorem ggX5_setAnswers_X5_isCondition : GoodIn wsX5_setAnswers wsX5_isCondition := goodIn_r _ [17, 5, 18, 67, 68, 69, 70, 71, 72, 73, 74, 75, 76, 77, 78, 79, 80, 81] (by decide +kernel) (by decide +kernel)
set_option maxRecDepth 20000 in
theorem gX5_setAnswers_X5_isCondition : GoodIn wsX5_setAnswers (wsV RX5 82 RX5 yX5_isCondition wsX5_isCondition) := goodIn_app (goodIn_of _ (by decide +kernel)) ggX5_setAnswers_X5_isCondition
set_option maxRecDepth 20000 in
theorem ggX5_setAnswers_X4_isSet : GoodIn wsX5_setAnswers wsX4_isSet := goodIn_r _ [22, 23, 24, 25, 9, 26, 27, 74, 75, 76, 77, 78, 79, 80, 81] (by decide +kernel) (by decide +kernel)
set_option maxRecDepth 20000 in
theorem gX5_setAnswers_X4_isSet : GoodIn wsX5_setAnswers (wsV RX5 118 RX4 yX4_isSet wsX4_isSet) := goodIn_app (goodIn_of _ (by decide +kernel)) ggX5_setAnswers_X4_isSet
set_option maxRecDepth 20000 in
theorem ggX5_setAnswers_X5_saveForChange : GoodIn wsX5_setAnswers wsX5_saveForChange := goodIn_r _ [31, 32, 5, 33, 34, 35, 36, 37, 38, 39, 40, 41, 42, 43, 44, 45, 46, 47, 48, 9, 49, 50, 51, 11, 27, 52, 53, 54, 55, 56, 12, 57, 58, 67, 68, 69, 70, 71, 72, 73, 82, 83, 74, 75, 76, 77, 78, 79, 80, 81] (by decide +kernel) (by decide +kernel)
set_option maxRecDepth 20000 in
theorem gX5_setAnswers_X5_saveForChange : GoodIn wsX5_setAnswers (wsV RX5 75 RX5 yX5_saveForChange wsX5_saveForChange) := goodIn_app (goodIn_of _ (by decide +kernel)) ggX5_setAnswers_X5_saveForChange
set_option maxRecDepth 20000 in
theorem ggX5_setAnswers_X4_replaceSet : GoodIn wsX5_setAnswers wsX4_replaceSet := goodIn_r _ [62, 57, 63, 64, 65, 9, 66, 74, 75, 76, 77, 78, 79, 80, 81] (by decide +kernel) (by decide +kernel)
set_option maxRecDepth 20000 in
theorem gX5_setAnswers_X4_replaceSet : GoodIn wsX5_setAnswers (wsV RX5 124 RX4 yX4_replaceSet wsX4_replaceSet) := goodIn_app (goodIn_of _ (by decide +kernel)) ggX5_setAnswers_X4_replaceSet
theorem dX5_setAnswers_0 : decode cX5_setAnswers 0 = .ok (.aload_n 0, 1) := by decide +kernel
theorem dX5_setAnswers_1 : decode cX5_setAnswers 1 = .ok (.getfield 10, 3) := by decide +kernel
theorem dX5_setAnswers_4 : decode cX5_setAnswers 4 = .ok (.iload_n 1, 1) := by decide +kernel
theorem dX5_setAnswers_5 : decode cX5_setAnswers 5 = .ok (.invokevirtual 112, 3) := by decide +kernel
theorem dX5_setAnswers_8 : decode cX5_setAnswers 8 = .ok (.istore 4, 2) := by decide +kernel
theorem dX5_setAnswers_10 : decode cX5_setAnswers 10 = .ok (.iload 4, 2) := by decide +kernel
theorem dX5_setAnswers_12 : decode cX5_setAnswers 12 = .ok (.ifCond .lt 11, 3) := by decide +kernel
theorem dX5_setAnswers_15 : decode cX5_setAnswers 15 = .ok (.aload_n 0, 1) := by decide +kernel
theorem dX5_setAnswers_16 : decode cX5_setAnswers 16 = .ok (.iload_n 2, 1) := by decide +kernel
theorem dX5_setAnswers_17 : decode cX5_setAnswers 17 = .ok (.invokevirtual 82, 3) := by decide +kernel
theorem dX5_setAnswers_20 : decode cX5_setAnswers 20 = .ok (.ifCond .ne 13, 3) := by decide +kernel
theorem dX5_setAnswers_23 : decode cX5_setAnswers 23 = .ok (.new 85, 3) := by decide +kernel
theorem dX5_setAnswers_26 : decode cX5_setAnswers 26 = .ok (.dup, 1) := by decide +kernel
theorem dX5_setAnswers_27 : decode cX5_setAnswers 27 = .ok (.ldc 116, 2) := by decide +kernel
theorem dX5_setAnswers_29 : decode cX5_setAnswers 29 = .ok (.invokespecial 89, 3) := by decide +kernel
theorem dX5_setAnswers_32 : decode cX5_setAnswers 32 = .ok (.athrow, 1) := by decide +kernel
theorem dX5_setAnswers_33 : decode cX5_setAnswers 33 = .ok (.aload_n 0, 1) := by decide +kernel
theorem dX5_setAnswers_34 : decode cX5_setAnswers 34 = .ok (.getfield 10, 3) := by decide +kernel
theorem dX5_setAnswers_37 : decode cX5_setAnswers 37 = .ok (.iload_n 2, 1) := by decide +kernel
theorem dX5_setAnswers_38 : decode cX5_setAnswers 38 = .ok (.iload_n 3, 1) := by decide +kernel
theorem dX5_setAnswers_39 : decode cX5_setAnswers 39 = .ok (.invokevirtual 118, 3) := by decide +kernel
theorem dX5_setAnswers_42 : decode cX5_setAnswers 42 = .ok (.ifCond .ne 13, 3) := by decide +kernel
theorem dX5_setAnswers_45 : decode cX5_setAnswers 45 = .ok (.new 59, 3) := by decide +kernel
theorem dX5_setAnswers_48 : decode cX5_setAnswers 48 = .ok (.dup, 1) := by decide +kernel
theorem dX5_setAnswers_49 : decode cX5_setAnswers 49 = .ok (.ldc 122, 2) := by decide +kernel
theorem dX5_setAnswers_51 : decode cX5_setAnswers 51 = .ok (.invokespecial 63, 3) := by decide +kernel
theorem dX5_setAnswers_54 : decode cX5_setAnswers 54 = .ok (.athrow, 1) := by decide +kernel
theorem dX5_setAnswers_55 : decode cX5_setAnswers 55 = .ok (.aload_n 0, 1) := by decide +kernel
theorem dX5_setAnswers_56 : decode cX5_setAnswers 56 = .ok (.invokevirtual 75, 3) := by decide +kernel
theorem dX5_setAnswers_59 : decode cX5_setAnswers 59 = .ok (.aload_n 0, 1) := by decide +kernel
theorem dX5_setAnswers_60 : decode cX5_setAnswers 60 = .ok (.getfield 10, 3) := by decide +kernel
theorem dX5_setAnswers_63 : decode cX5_setAnswers 63 = .ok (.iload 4, 2) := by decide +kernel
theorem dX5_setAnswers_65 : decode cX5_setAnswers 65 = .ok (.iload_n 2, 1) := by decide +kernel
theorem dX5_setAnswers_66 : decode cX5_setAnswers 66 = .ok (.iload_n 3, 1) := by decide +kernel
theorem dX5_setAnswers_67 : decode cX5_setAnswers 67 = .ok (.invokevirtual 124, 3) := by decide +kernel
theorem dX5_setAnswers_70 : decode cX5_setAnswers 70 = .ok (.ireturn, 1) := by decide +kernel
set_option maxRecDepth 20000 in
theorem ggX5_setAction_X4_placeOf : GoodIn wsX5_setAction wsX4_placeOf := goodIn_r _ [11, 12, 13, 57, 58, 59, 60, 61, 62, 63, 64] (by decide +kernel) (by decide +kernel)
set_option maxRecDepth 20000 in
theorem gX5_setAction_X4_placeOf : GoodIn wsX5_setAction (wsV RX5 112 RX4 yX4_placeOf wsX4_placeOf) := goodIn_app (goodIn_of _ (by decide +kernel)) ggX5_setAction_X4_placeOf
set_option maxRecDepth 20000 in
theorem ggX5_setAction_X5_isAction : GoodIn wsX5_setAction wsX5_isAction := goodIn_r _ [17] (by decide +kernel) (by decide +kernel)
set_option maxRecDepth 20000 in
theorem gX5_setAction_X5_isAction : GoodIn wsX5_setAction (va_wsS RX5 96 yX5_isAction wsX5_isAction) := goodIn_app (goodIn_of _ (by decide +kernel)) ggX5_setAction_X5_isAction
set_option maxRecDepth 20000 in
theorem ggX5_setAction_X5_saveForChange : GoodIn wsX5_setAction wsX5_saveForChange := goodIn_r _ [21, 22, 5, 23, 24, 25, 26, 27, 28, 29, 30, 31, 32, 33, 34, 35, 36, 37, 38, 10, 39, 40, 41, 12, 42, 43, 44, 45, 46, 47, 13, 48, 49, 50, 51, 52, 53, 54, 55, 56, 65, 66, 57, 58, 59, 60, 61, 62, 63, 64] (by decide +kernel) (by decide +kernel)
set_option maxRecDepth 20000 in
theorem gX5_setAction_X5_saveForChange : GoodIn wsX5_setAction (wsV RX5 75 RX5 yX5_saveForChange wsX5_saveForChange) := goodIn_app (goodIn_of _ (by decide +kernel)) ggX5_setAction_X5_saveForChange
theorem dX5_setAction_0 : decode cX5_setAction 0 = .ok (.aload_n 0, 1) := by decide +kernel
theorem dX5_setAction_1 : decode cX5_setAction 1 = .ok (.getfield 10, 3) := by decide +kernel
theorem dX5_setAction_4 : decode cX5_setAction 4 = .ok (.iload_n 1, 1) := by decide +kernel
theorem dX5_setAction_5 : decode cX5_setAction 5 = .ok (.invokevirtual 112, 3) := by decide +kernel
theorem dX5_setAction_8 : decode cX5_setAction 8 = .ok (.istore_n 3, 1) := by decide +kernel
theorem dX5_setAction_9 : decode cX5_setAction 9 = .ok (.iload_n 3, 1) := by decide +kernel
theorem dX5_setAction_10 : decode cX5_setAction 10 = .ok (.ifCond .ge 13, 3) := by decide +kernel
theorem dX5_setAction_13 : decode cX5_setAction 13 = .ok (.new 85, 3) := by decide +kernel
theorem dX5_setAction_16 : decode cX5_setAction 16 = .ok (.dup, 1) := by decide +kernel
theorem dX5_setAction_17 : decode cX5_setAction 17 = .ok (.ldc 128, 2) := by decide +kernel
theorem dX5_setAction_19 : decode cX5_setAction 19 = .ok (.invokespecial 89, 3) := by decide +kernel
theorem dX5_setAction_22 : decode cX5_setAction 22 = .ok (.athrow, 1) := by decide +kernel
theorem dX5_setAction_23 : decode cX5_setAction 23 = .ok (.iload_n 2, 1) := by decide +kernel
theorem dX5_setAction_24 : decode cX5_setAction 24 = .ok (.invokestatic 96, 3) := by decide +kernel
theorem dX5_setAction_27 : decode cX5_setAction 27 = .ok (.ifCond .ne 13, 3) := by decide +kernel
theorem dX5_setAction_30 : decode cX5_setAction 30 = .ok (.new 59, 3) := by decide +kernel
theorem dX5_setAction_33 : decode cX5_setAction 33 = .ok (.dup, 1) := by decide +kernel
theorem dX5_setAction_34 : decode cX5_setAction 34 = .ok (.ldc 130, 2) := by decide +kernel
theorem dX5_setAction_36 : decode cX5_setAction 36 = .ok (.invokespecial 63, 3) := by decide +kernel
theorem dX5_setAction_39 : decode cX5_setAction 39 = .ok (.athrow, 1) := by decide +kernel
theorem dX5_setAction_40 : decode cX5_setAction 40 = .ok (.aload_n 0, 1) := by decide +kernel
theorem dX5_setAction_41 : decode cX5_setAction 41 = .ok (.invokevirtual 75, 3) := by decide +kernel
theorem dX5_setAction_44 : decode cX5_setAction 44 = .ok (.aload_n 0, 1) := by decide +kernel
theorem dX5_setAction_45 : decode cX5_setAction 45 = .ok (.getfield 10, 3) := by decide +kernel
theorem dX5_setAction_48 : decode cX5_setAction 48 = .ok (.getfield 132, 3) := by decide +kernel
theorem dX5_setAction_51 : decode cX5_setAction 51 = .ok (.iload_n 3, 1) := by decide +kernel
theorem dX5_setAction_52 : decode cX5_setAction 52 = .ok (.iaload, 1) := by decide +kernel
theorem dX5_setAction_53 : decode cX5_setAction 53 = .ok (.istore 4, 2) := by decide +kernel
theorem dX5_setAction_55 : decode cX5_setAction 55 = .ok (.aload_n 0, 1) := by decide +kernel
theorem dX5_setAction_56 : decode cX5_setAction 56 = .ok (.getfield 10, 3) := by decide +kernel
theorem dX5_setAction_59 : decode cX5_setAction 59 = .ok (.getfield 132, 3) := by decide +kernel
theorem dX5_setAction_62 : decode cX5_setAction 62 = .ok (.iload_n 3, 1) := by decide +kernel
theorem dX5_setAction_63 : decode cX5_setAction 63 = .ok (.iload_n 2, 1) := by decide +kernel
theorem dX5_setAction_64 : decode cX5_setAction 64 = .ok (.iastore, 1) := by decide +kernel
theorem dX5_setAction_65 : decode cX5_setAction 65 = .ok (.iload 4, 2) := by decide +kernel
theorem dX5_setAction_67 : decode cX5_setAction 67 = .ok (.ireturn, 1) := by decide +kernel
set_option maxRecDepth 20000 in
theorem ggX5_dropRow_X4_placeOf : GoodIn wsX5_dropRow wsX4_placeOf := goodIn_r _ [8, 9, 10, 59, 60, 61, 62, 63, 64, 65, 66] (by decide +kernel) (by decide +kernel)
set_option maxRecDepth 20000 in
theorem gX5_dropRow_X4_placeOf : GoodIn wsX5_dropRow (wsV RX5 112 RX4 yX4_placeOf wsX4_placeOf) := goodIn_app (goodIn_of _ (by decide +kernel)) ggX5_dropRow_X4_placeOf
set_option maxRecDepth 20000 in
theorem ggX5_dropRow_X5_saveForChange : GoodIn wsX5_dropRow wsX5_saveForChange := goodIn_r _ [15, 16, 3, 17, 18, 19, 20, 21, 22, 23, 24, 25, 26, 27, 28, 29, 30, 31, 32, 7, 33, 34, 35, 9, 36, 37, 38, 39, 40, 41, 10, 42, 43, 52, 53, 54, 55, 56, 57, 58, 67, 68, 59, 60, 61, 62, 63, 64, 65, 66] (by decide +kernel) (by decide +kernel)
set_option maxRecDepth 20000 in
theorem gX5_dropRow_X5_saveForChange : GoodIn wsX5_dropRow (wsV RX5 75 RX5 yX5_saveForChange wsX5_saveForChange) := goodIn_app (goodIn_of _ (by decide +kernel)) ggX5_dropRow_X5_saveForChange
set_option maxRecDepth 20000 in
theorem ggX5_dropRow_X4_removeAt : GoodIn wsX5_dropRow wsX4_removeAt := goodIn_r _ [47, 9, 48, 49, 50, 7, 51, 10, 42, 43, 59, 60, 61, 62, 63, 64, 65, 66] (by decide +kernel) (by decide +kernel)
set_option maxRecDepth 20000 in
theorem gX5_dropRow_X4_removeAt : GoodIn wsX5_dropRow (wsV RX5 135 RX4 yX4_removeAt wsX4_removeAt) := goodIn_app (goodIn_of _ (by decide +kernel)) ggX5_dropRow_X4_removeAt
theorem dX5_dropRow_0 : decode cX5_dropRow 0 = .ok (.aload_n 0, 1) := by decide +kernel
theorem dX5_dropRow_1 : decode cX5_dropRow 1 = .ok (.getfield 10, 3) := by decide +kernel
theorem dX5_dropRow_4 : decode cX5_dropRow 4 = .ok (.iload_n 1, 1) := by decide +kernel
theorem dX5_dropRow_5 : decode cX5_dropRow 5 = .ok (.invokevirtual 112, 3) := by decide +kernel
theorem dX5_dropRow_8 : decode cX5_dropRow 8 = .ok (.istore_n 2, 1) := by decide +kernel
theorem dX5_dropRow_9 : decode cX5_dropRow 9 = .ok (.iload_n 2, 1) := by decide +kernel
theorem dX5_dropRow_10 : decode cX5_dropRow 10 = .ok (.ifCond .ge 13, 3) := by decide +kernel
theorem dX5_dropRow_13 : decode cX5_dropRow 13 = .ok (.new 85, 3) := by decide +kernel
theorem dX5_dropRow_16 : decode cX5_dropRow 16 = .ok (.dup, 1) := by decide +kernel
theorem dX5_dropRow_17 : decode cX5_dropRow 17 = .ok (.ldc 128, 2) := by decide +kernel
theorem dX5_dropRow_19 : decode cX5_dropRow 19 = .ok (.invokespecial 89, 3) := by decide +kernel
theorem dX5_dropRow_22 : decode cX5_dropRow 22 = .ok (.athrow, 1) := by decide +kernel
theorem dX5_dropRow_23 : decode cX5_dropRow 23 = .ok (.aload_n 0, 1) := by decide +kernel
theorem dX5_dropRow_24 : decode cX5_dropRow 24 = .ok (.invokevirtual 75, 3) := by decide +kernel
theorem dX5_dropRow_27 : decode cX5_dropRow 27 = .ok (.aload_n 0, 1) := by decide +kernel
theorem dX5_dropRow_28 : decode cX5_dropRow 28 = .ok (.getfield 10, 3) := by decide +kernel
theorem dX5_dropRow_31 : decode cX5_dropRow 31 = .ok (.iload_n 2, 1) := by decide +kernel
theorem dX5_dropRow_32 : decode cX5_dropRow 32 = .ok (.invokevirtual 135, 3) := by decide +kernel
theorem dX5_dropRow_35 : decode cX5_dropRow 35 = .ok (.iload_n 2, 1) := by decide +kernel
theorem dX5_dropRow_36 : decode cX5_dropRow 36 = .ok (.ireturn, 1) := by decide +kernel
set_option maxRecDepth 20000 in
theorem ggX5_moveUp_X4_placeOf : GoodIn wsX5_moveUp wsX4_placeOf := goodIn_r _ [10, 11, 12, 61, 62, 63, 64, 65, 66, 67, 68] (by decide +kernel) (by decide +kernel)
set_option maxRecDepth 20000 in
theorem gX5_moveUp_X4_placeOf : GoodIn wsX5_moveUp (wsV RX5 112 RX4 yX4_placeOf wsX4_placeOf) := goodIn_app (goodIn_of _ (by decide +kernel)) ggX5_moveUp_X4_placeOf
set_option maxRecDepth 20000 in
theorem ggX5_moveUp_X5_saveForChange : GoodIn wsX5_moveUp wsX5_saveForChange := goodIn_r _ [17, 18, 5, 19, 20, 21, 22, 23, 24, 25, 26, 27, 28, 29, 30, 31, 32, 33, 34, 9, 35, 36, 37, 11, 38, 39, 40, 41, 42, 43, 12, 44, 45, 54, 55, 56, 57, 58, 59, 60, 69, 70, 61, 62, 63, 64, 65, 66, 67, 68] (by decide +kernel) (by decide +kernel)
set_option maxRecDepth 20000 in
theorem gX5_moveUp_X5_saveForChange : GoodIn wsX5_moveUp (wsV RX5 75 RX5 yX5_saveForChange wsX5_saveForChange) := goodIn_app (goodIn_of _ (by decide +kernel)) ggX5_moveUp_X5_saveForChange
set_option maxRecDepth 20000 in
theorem ggX5_moveUp_X4_liftAt : GoodIn wsX5_moveUp wsX4_liftAt := goodIn_r _ [49, 12, 44, 45, 50, 51, 52, 9, 53, 61, 62, 63, 64, 65, 66, 67, 68] (by decide +kernel) (by decide +kernel)
set_option maxRecDepth 20000 in
theorem gX5_moveUp_X4_liftAt : GoodIn wsX5_moveUp (wsV RX5 141 RX4 yX4_liftAt wsX4_liftAt) := goodIn_app (goodIn_of _ (by decide +kernel)) ggX5_moveUp_X4_liftAt
theorem dX5_moveUp_0 : decode cX5_moveUp 0 = .ok (.aload_n 0, 1) := by decide +kernel
theorem dX5_moveUp_1 : decode cX5_moveUp 1 = .ok (.getfield 10, 3) := by decide +kernel
theorem dX5_moveUp_4 : decode cX5_moveUp 4 = .ok (.iload_n 1, 1) := by decide +kernel
theorem dX5_moveUp_5 : decode cX5_moveUp 5 = .ok (.invokevirtual 112, 3) := by decide +kernel
theorem dX5_moveUp_8 : decode cX5_moveUp 8 = .ok (.istore_n 2, 1) := by decide +kernel
theorem dX5_moveUp_9 : decode cX5_moveUp 9 = .ok (.iload_n 2, 1) := by decide +kernel
theorem dX5_moveUp_10 : decode cX5_moveUp 10 = .ok (.ifCond .ge 13, 3) := by decide +kernel
theorem dX5_moveUp_13 : decode cX5_moveUp 13 = .ok (.new 85, 3) := by decide +kernel
theorem dX5_moveUp_16 : decode cX5_moveUp 16 = .ok (.dup, 1) := by decide +kernel
theorem dX5_moveUp_17 : decode cX5_moveUp 17 = .ok (.ldc 128, 2) := by decide +kernel
theorem dX5_moveUp_19 : decode cX5_moveUp 19 = .ok (.invokespecial 89, 3) := by decide +kernel
theorem dX5_moveUp_22 : decode cX5_moveUp 22 = .ok (.athrow, 1) := by decide +kernel
theorem dX5_moveUp_23 : decode cX5_moveUp 23 = .ok (.iload_n 2, 1) := by decide +kernel
theorem dX5_moveUp_24 : decode cX5_moveUp 24 = .ok (.ifCond .ne 13, 3) := by decide +kernel
theorem dX5_moveUp_27 : decode cX5_moveUp 27 = .ok (.new 70, 3) := by decide +kernel
theorem dX5_moveUp_30 : decode cX5_moveUp 30 = .ok (.dup, 1) := by decide +kernel
theorem dX5_moveUp_31 : decode cX5_moveUp 31 = .ok (.ldc 139, 2) := by decide +kernel
theorem dX5_moveUp_33 : decode cX5_moveUp 33 = .ok (.invokespecial 74, 3) := by decide +kernel
theorem dX5_moveUp_36 : decode cX5_moveUp 36 = .ok (.athrow, 1) := by decide +kernel
theorem dX5_moveUp_37 : decode cX5_moveUp 37 = .ok (.aload_n 0, 1) := by decide +kernel
theorem dX5_moveUp_38 : decode cX5_moveUp 38 = .ok (.invokevirtual 75, 3) := by decide +kernel
theorem dX5_moveUp_41 : decode cX5_moveUp 41 = .ok (.aload_n 0, 1) := by decide +kernel
theorem dX5_moveUp_42 : decode cX5_moveUp 42 = .ok (.getfield 10, 3) := by decide +kernel
theorem dX5_moveUp_45 : decode cX5_moveUp 45 = .ok (.iload_n 2, 1) := by decide +kernel
theorem dX5_moveUp_46 : decode cX5_moveUp 46 = .ok (.invokevirtual 141, 3) := by decide +kernel
theorem dX5_moveUp_49 : decode cX5_moveUp 49 = .ok (.iload_n 2, 1) := by decide +kernel
theorem dX5_moveUp_50 : decode cX5_moveUp 50 = .ok (.iconst 1, 1) := by decide +kernel
theorem dX5_moveUp_51 : decode cX5_moveUp 51 = .ok (.isub, 1) := by decide +kernel
theorem dX5_moveUp_52 : decode cX5_moveUp 52 = .ok (.ireturn, 1) := by decide +kernel
set_option maxRecDepth 20000 in
theorem ggX5_condition_X5_isCondition : GoodIn wsX5_condition wsX5_isCondition := goodIn_r _ [9, 10, 11, 63, 64, 65, 66, 67, 68, 69, 70, 71, 72, 73, 74, 75, 76, 77] (by decide +kernel) (by decide +kernel)
set_option maxRecDepth 20000 in
theorem gX5_condition_X5_isCondition : GoodIn wsX5_condition (wsV RX5 82 RX5 yX5_isCondition wsX5_isCondition) := goodIn_app (goodIn_of _ (by decide +kernel)) ggX5_condition_X5_isCondition
set_option maxRecDepth 20000 in
theorem ggX5_condition_X5_conditionValue : GoodIn wsX5_condition wsX5_conditionValue := goodIn_r _ [15, 10, 16, 17, 18, 19, 20, 21, 8, 22, 23, 24, 25, 26, 27, 28, 29, 30, 31, 32, 33, 34, 35, 36, 37, 38, 39, 40, 41, 42, 43, 44, 45, 46, 47, 48, 49, 50, 51, 52, 53, 54, 55, 56, 57, 58, 59, 60, 61, 62, 63, 64, 65, 66, 67, 68, 69, 70, 71, 72, 73, 74, 75, 76, 77, 78, 79, 80, 81, 82, 83, 84, 85, 86, 87, 88, 89, 90] (by decide +kernel) (by decide +kernel)
set_option maxRecDepth 20000 in
theorem gX5_condition_X5_conditionValue : GoodIn wsX5_condition (wsV RX5 164 RX5 yX5_conditionValue wsX5_conditionValue) := goodIn_app (goodIn_of _ (by decide +kernel)) ggX5_condition_X5_conditionValue
theorem dX5_condition_0 : decode cX5_condition 0 = .ok (.aload_n 0, 1) := by decide +kernel
theorem dX5_condition_1 : decode cX5_condition 1 = .ok (.iload_n 1, 1) := by decide +kernel
theorem dX5_condition_2 : decode cX5_condition 2 = .ok (.invokevirtual 82, 3) := by decide +kernel
theorem dX5_condition_5 : decode cX5_condition 5 = .ok (.ifCond .ne 13, 3) := by decide +kernel
theorem dX5_condition_8 : decode cX5_condition 8 = .ok (.new 85, 3) := by decide +kernel
theorem dX5_condition_11 : decode cX5_condition 11 = .ok (.dup, 1) := by decide +kernel
theorem dX5_condition_12 : decode cX5_condition 12 = .ok (.ldc 87, 2) := by decide +kernel
theorem dX5_condition_14 : decode cX5_condition 14 = .ok (.invokespecial 89, 3) := by decide +kernel
theorem dX5_condition_17 : decode cX5_condition 17 = .ok (.athrow, 1) := by decide +kernel
theorem dX5_condition_18 : decode cX5_condition 18 = .ok (.iload_n 2, 1) := by decide +kernel
theorem dX5_condition_19 : decode cX5_condition 19 = .ok (.ifCond .lt 8, 3) := by decide +kernel
theorem dX5_condition_22 : decode cX5_condition 22 = .ok (.iload_n 2, 1) := by decide +kernel
theorem dX5_condition_23 : decode cX5_condition 23 = .ok (.iconst 3, 1) := by decide +kernel
theorem dX5_condition_24 : decode cX5_condition 24 = .ok (.if_icmp .lt 13, 3) := by decide +kernel
theorem dX5_condition_27 : decode cX5_condition 27 = .ok (.new 59, 3) := by decide +kernel
theorem dX5_condition_30 : decode cX5_condition 30 = .ok (.dup, 1) := by decide +kernel
theorem dX5_condition_31 : decode cX5_condition 31 = .ok (.ldc 162, 2) := by decide +kernel
theorem dX5_condition_33 : decode cX5_condition 33 = .ok (.invokespecial 63, 3) := by decide +kernel
theorem dX5_condition_36 : decode cX5_condition 36 = .ok (.athrow, 1) := by decide +kernel
theorem dX5_condition_37 : decode cX5_condition 37 = .ok (.aload_n 0, 1) := by decide +kernel
theorem dX5_condition_38 : decode cX5_condition 38 = .ok (.iload_n 1, 1) := by decide +kernel
theorem dX5_condition_39 : decode cX5_condition 39 = .ok (.iload_n 2, 1) := by decide +kernel
theorem dX5_condition_40 : decode cX5_condition 40 = .ok (.invokevirtual 164, 3) := by decide +kernel
theorem dX5_condition_43 : decode cX5_condition 43 = .ok (.ireturn, 1) := by decide +kernel
set_option maxRecDepth 20000 in
theorem ggX5_row_X4_placeOf : GoodIn wsX5_row wsX4_placeOf := goodIn_r _ [10, 11, 12, 86, 87, 88, 89, 90, 91, 92, 93] (by decide +kernel) (by decide +kernel)
set_option maxRecDepth 20000 in
theorem gX5_row_X4_placeOf : GoodIn wsX5_row (wsV RX5 112 RX4 yX4_placeOf wsX4_placeOf) := goodIn_app (goodIn_of _ (by decide +kernel)) ggX5_row_X4_placeOf
set_option maxRecDepth 20000 in
theorem ggX5_row_X5_rowValue : GoodIn wsX5_row wsX5_rowValue := goodIn_r _ [17, 5, 18, 19, 20, 21, 22, 23, 24, 9, 25, 26, 27, 28, 29, 30, 31, 32, 33, 34, 35, 36, 37, 38, 39, 40, 41, 16, 42, 43, 44, 45, 46, 47, 48, 49, 50, 51, 52, 53, 54, 55, 56, 57, 58, 59, 60, 61, 62, 63, 64, 65, 66, 67, 68, 69, 70, 71, 72, 73, 74, 75, 76, 77, 78, 79, 80, 81, 82, 83, 84, 85, 86, 87, 88, 89, 90, 91, 92, 93, 94, 95, 96, 97, 98, 99, 100, 101, 102, 103, 104, 105, 106] (by decide +kernel) (by decide +kernel)
set_option maxRecDepth 20000 in
theorem gX5_row_X5_rowValue : GoodIn wsX5_row (wsV RX5 167 RX5 yX5_rowValue wsX5_rowValue) := goodIn_app (goodIn_of _ (by decide +kernel)) ggX5_row_X5_rowValue
theorem dX5_row_0 : decode cX5_row 0 = .ok (.aload_n 0, 1) := by decide +kernel
theorem dX5_row_1 : decode cX5_row 1 = .ok (.getfield 10, 3) := by decide +kernel
theorem dX5_row_4 : decode cX5_row 4 = .ok (.iload_n 1, 1) := by decide +kernel
theorem dX5_row_5 : decode cX5_row 5 = .ok (.invokevirtual 112, 3) := by decide +kernel
theorem dX5_row_8 : decode cX5_row 8 = .ok (.istore_n 3, 1) := by decide +kernel
theorem dX5_row_9 : decode cX5_row 9 = .ok (.iload_n 3, 1) := by decide +kernel
theorem dX5_row_10 : decode cX5_row 10 = .ok (.ifCond .ge 13, 3) := by decide +kernel
theorem dX5_row_13 : decode cX5_row 13 = .ok (.new 85, 3) := by decide +kernel
theorem dX5_row_16 : decode cX5_row 16 = .ok (.dup, 1) := by decide +kernel
theorem dX5_row_17 : decode cX5_row 17 = .ok (.ldc 128, 2) := by decide +kernel
theorem dX5_row_19 : decode cX5_row 19 = .ok (.invokespecial 89, 3) := by decide +kernel
theorem dX5_row_22 : decode cX5_row 22 = .ok (.athrow, 1) := by decide +kernel
theorem dX5_row_23 : decode cX5_row 23 = .ok (.iload_n 2, 1) := by decide +kernel
theorem dX5_row_24 : decode cX5_row 24 = .ok (.ifCond .lt 9, 3) := by decide +kernel
theorem dX5_row_27 : decode cX5_row 27 = .ok (.iload_n 2, 1) := by decide +kernel
theorem dX5_row_28 : decode cX5_row 28 = .ok (.bipush 6, 2) := by decide +kernel
theorem dX5_row_30 : decode cX5_row 30 = .ok (.if_icmp .lt 13, 3) := by decide +kernel
theorem dX5_row_33 : decode cX5_row 33 = .ok (.new 59, 3) := by decide +kernel
theorem dX5_row_36 : decode cX5_row 36 = .ok (.dup, 1) := by decide +kernel
theorem dX5_row_37 : decode cX5_row 37 = .ok (.ldc 162, 2) := by decide +kernel
theorem dX5_row_39 : decode cX5_row 39 = .ok (.invokespecial 63, 3) := by decide +kernel
theorem dX5_row_42 : decode cX5_row 42 = .ok (.athrow, 1) := by decide +kernel
theorem dX5_row_43 : decode cX5_row 43 = .ok (.aload_n 0, 1) := by decide +kernel
theorem dX5_row_44 : decode cX5_row 44 = .ok (.iload_n 3, 1) := by decide +kernel
theorem dX5_row_45 : decode cX5_row 45 = .ok (.iload_n 2, 1) := by decide +kernel
theorem dX5_row_46 : decode cX5_row 46 = .ok (.invokevirtual 167, 3) := by decide +kernel
theorem dX5_row_49 : decode cX5_row 49 = .ok (.ireturn, 1) := by decide +kernel
set_option maxRecDepth 20000 in
theorem ggX5_answers_X4_placeOf : GoodIn wsX5_answers wsX4_placeOf := goodIn_r _ [8, 9, 10, 29, 30, 31, 32, 33, 34, 35, 36] (by decide +kernel) (by decide +kernel)
set_option maxRecDepth 20000 in
theorem gX5_answers_X4_placeOf : GoodIn wsX5_answers (wsV RX5 112 RX4 yX4_placeOf wsX4_placeOf) := goodIn_app (goodIn_of _ (by decide +kernel)) ggX5_answers_X4_placeOf
set_option maxRecDepth 20000 in
theorem ggX5_answers_X5_isCondition : GoodIn wsX5_answers wsX5_isCondition := goodIn_r _ [15, 3, 16, 22, 23, 24, 25, 26, 27, 28, 29, 30, 31, 32, 33, 34, 35, 36] (by decide +kernel) (by decide +kernel)
set_option maxRecDepth 20000 in
theorem gX5_answers_X5_isCondition : GoodIn wsX5_answers (wsV RX5 82 RX5 yX5_isCondition wsX5_isCondition) := goodIn_app (goodIn_of _ (by decide +kernel)) ggX5_answers_X5_isCondition
set_option maxRecDepth 20000 in
theorem ggX5_answers_X4_setAt : GoodIn wsX5_answers wsX4_setAt := goodIn_r _ [20, 21, 29, 30, 31, 32, 33, 34, 35, 36] (by decide +kernel) (by decide +kernel)
set_option maxRecDepth 20000 in
theorem gX5_answers_X4_setAt : GoodIn wsX5_answers (wsV RX5 170 RX4 yX4_setAt wsX4_setAt) := goodIn_app (goodIn_of _ (by decide +kernel)) ggX5_answers_X4_setAt
theorem dX5_answers_0 : decode cX5_answers 0 = .ok (.aload_n 0, 1) := by decide +kernel
theorem dX5_answers_1 : decode cX5_answers 1 = .ok (.getfield 10, 3) := by decide +kernel
theorem dX5_answers_4 : decode cX5_answers 4 = .ok (.iload_n 1, 1) := by decide +kernel
theorem dX5_answers_5 : decode cX5_answers 5 = .ok (.invokevirtual 112, 3) := by decide +kernel
theorem dX5_answers_8 : decode cX5_answers 8 = .ok (.istore_n 3, 1) := by decide +kernel
theorem dX5_answers_9 : decode cX5_answers 9 = .ok (.iload_n 3, 1) := by decide +kernel
theorem dX5_answers_10 : decode cX5_answers 10 = .ok (.ifCond .lt 11, 3) := by decide +kernel
theorem dX5_answers_13 : decode cX5_answers 13 = .ok (.aload_n 0, 1) := by decide +kernel
theorem dX5_answers_14 : decode cX5_answers 14 = .ok (.iload_n 2, 1) := by decide +kernel
theorem dX5_answers_15 : decode cX5_answers 15 = .ok (.invokevirtual 82, 3) := by decide +kernel
theorem dX5_answers_18 : decode cX5_answers 18 = .ok (.ifCond .ne 13, 3) := by decide +kernel
theorem dX5_answers_21 : decode cX5_answers 21 = .ok (.new 85, 3) := by decide +kernel
theorem dX5_answers_24 : decode cX5_answers 24 = .ok (.dup, 1) := by decide +kernel
theorem dX5_answers_25 : decode cX5_answers 25 = .ok (.ldc 116, 2) := by decide +kernel
theorem dX5_answers_27 : decode cX5_answers 27 = .ok (.invokespecial 89, 3) := by decide +kernel
theorem dX5_answers_30 : decode cX5_answers 30 = .ok (.athrow, 1) := by decide +kernel
theorem dX5_answers_31 : decode cX5_answers 31 = .ok (.aload_n 0, 1) := by decide +kernel
theorem dX5_answers_32 : decode cX5_answers 32 = .ok (.getfield 10, 3) := by decide +kernel
theorem dX5_answers_35 : decode cX5_answers 35 = .ok (.iload_n 3, 1) := by decide +kernel
theorem dX5_answers_36 : decode cX5_answers 36 = .ok (.iload_n 2, 1) := by decide +kernel
theorem dX5_answers_37 : decode cX5_answers 37 = .ok (.invokevirtual 170, 3) := by decide +kernel
theorem dX5_answers_40 : decode cX5_answers 40 = .ok (.ireturn, 1) := by decide +kernel
theorem dX5_rowAt_0 : decode cX5_rowAt 0 = .ok (.iload_n 1, 1) := by decide +kernel
theorem dX5_rowAt_1 : decode cX5_rowAt 1 = .ok (.ifCond .ge 13, 3) := by decide +kernel
theorem dX5_rowAt_4 : decode cX5_rowAt 4 = .ok (.new 59, 3) := by decide +kernel
theorem dX5_rowAt_7 : decode cX5_rowAt 7 = .ok (.dup, 1) := by decide +kernel
theorem dX5_rowAt_8 : decode cX5_rowAt 8 = .ok (.ldc 173, 2) := by decide +kernel
theorem dX5_rowAt_10 : decode cX5_rowAt 10 = .ok (.invokespecial 63, 3) := by decide +kernel
theorem dX5_rowAt_13 : decode cX5_rowAt 13 = .ok (.athrow, 1) := by decide +kernel
theorem dX5_rowAt_14 : decode cX5_rowAt 14 = .ok (.iload_n 1, 1) := by decide +kernel
theorem dX5_rowAt_15 : decode cX5_rowAt 15 = .ok (.aload_n 0, 1) := by decide +kernel
theorem dX5_rowAt_16 : decode cX5_rowAt 16 = .ok (.getfield 10, 3) := by decide +kernel
theorem dX5_rowAt_19 : decode cX5_rowAt 19 = .ok (.getfield 104, 3) := by decide +kernel
theorem dX5_rowAt_22 : decode cX5_rowAt 22 = .ok (.if_icmp .ge 15, 3) := by decide +kernel
theorem dX5_rowAt_25 : decode cX5_rowAt 25 = .ok (.aload_n 0, 1) := by decide +kernel
theorem dX5_rowAt_26 : decode cX5_rowAt 26 = .ok (.getfield 10, 3) := by decide +kernel
theorem dX5_rowAt_29 : decode cX5_rowAt 29 = .ok (.getfield 175, 3) := by decide +kernel
theorem dX5_rowAt_32 : decode cX5_rowAt 32 = .ok (.iload_n 1, 1) := by decide +kernel
theorem dX5_rowAt_33 : decode cX5_rowAt 33 = .ok (.iaload, 1) := by decide +kernel
theorem dX5_rowAt_34 : decode cX5_rowAt 34 = .ok (.goto 4, 3) := by decide +kernel
theorem dX5_rowAt_37 : decode cX5_rowAt 37 = .ok (.iconst (-1), 1) := by decide +kernel
theorem dX5_rowAt_38 : decode cX5_rowAt 38 = .ok (.ireturn, 1) := by decide +kernel
set_option maxRecDepth 20000 in
theorem ggX5_caseOf_X5_freshCases : GoodIn wsX5_caseOf wsX5_freshCases := goodIn_r _ [9, 10, 11, 12, 13, 14, 15, 16, 17, 18, 19, 20, 21, 22, 23, 24, 25, 26, 27, 28, 29, 30, 31, 32, 33, 34, 35, 36, 37, 38, 39, 40, 41, 42, 43, 44, 45, 46, 68, 69, 70, 71, 72, 73, 74, 75, 76, 77, 78, 79, 80, 81, 82, 83, 84, 85, 86, 87, 88, 89, 90, 91, 92, 93, 94, 95] (by decide +kernel) (by decide +kernel)
set_option maxRecDepth 20000 in
theorem gX5_caseOf_X5_freshCases : GoodIn wsX5_caseOf (wsV RX5 156 RX5 yX5_freshCases wsX5_freshCases) := goodIn_app (goodIn_of _ (by decide +kernel)) ggX5_caseOf_X5_freshCases
set_option maxRecDepth 20000 in
theorem ggX5_caseOf_X5_isCase : GoodIn wsX5_caseOf wsX5_isCase := goodIn_r _ [50, 11, 51, 68, 69, 70, 71, 72, 73, 74, 75, 76, 77, 78, 79, 80, 81, 82, 83, 84, 85, 86, 87] (by decide +kernel) (by decide +kernel)
set_option maxRecDepth 20000 in
theorem gX5_caseOf_X5_isCase : GoodIn wsX5_caseOf (wsV RX5 178 RX5 yX5_isCase wsX5_isCase) := goodIn_app (goodIn_of _ (by decide +kernel)) ggX5_caseOf_X5_isCase
set_option maxRecDepth 20000 in
theorem ggX5_caseOf_X5_caseValue : GoodIn wsX5_caseOf wsX5_caseValue := goodIn_r _ [55, 11, 56, 57, 58, 59, 60, 61, 62, 63, 8, 64, 65, 66, 67, 68, 69, 70, 71, 72, 73, 74, 75, 76, 77, 78, 79, 80, 81, 82, 83, 84, 85, 86, 87, 88, 89, 90, 91, 92, 93, 94, 95] (by decide +kernel) (by decide +kernel)
set_option maxRecDepth 20000 in
theorem gX5_caseOf_X5_caseValue : GoodIn wsX5_caseOf (wsV RX5 183 RX5 yX5_caseValue wsX5_caseValue) := goodIn_app (goodIn_of _ (by decide +kernel)) ggX5_caseOf_X5_caseValue
theorem dX5_caseOf_0 : decode cX5_caseOf 0 = .ok (.aload_n 0, 1) := by decide +kernel
theorem dX5_caseOf_1 : decode cX5_caseOf 1 = .ok (.invokevirtual 156, 3) := by decide +kernel
theorem dX5_caseOf_4 : decode cX5_caseOf 4 = .ok (.aload_n 0, 1) := by decide +kernel
theorem dX5_caseOf_5 : decode cX5_caseOf 5 = .ok (.iload_n 1, 1) := by decide +kernel
theorem dX5_caseOf_6 : decode cX5_caseOf 6 = .ok (.invokevirtual 178, 3) := by decide +kernel
theorem dX5_caseOf_9 : decode cX5_caseOf 9 = .ok (.ifCond .ne 13, 3) := by decide +kernel
theorem dX5_caseOf_12 : decode cX5_caseOf 12 = .ok (.new 85, 3) := by decide +kernel
theorem dX5_caseOf_15 : decode cX5_caseOf 15 = .ok (.dup, 1) := by decide +kernel
theorem dX5_caseOf_16 : decode cX5_caseOf 16 = .ok (.ldc 181, 2) := by decide +kernel
theorem dX5_caseOf_18 : decode cX5_caseOf 18 = .ok (.invokespecial 89, 3) := by decide +kernel
theorem dX5_caseOf_21 : decode cX5_caseOf 21 = .ok (.athrow, 1) := by decide +kernel
theorem dX5_caseOf_22 : decode cX5_caseOf 22 = .ok (.iload_n 2, 1) := by decide +kernel
theorem dX5_caseOf_23 : decode cX5_caseOf 23 = .ok (.ifCond .lt 8, 3) := by decide +kernel
theorem dX5_caseOf_26 : decode cX5_caseOf 26 = .ok (.iload_n 2, 1) := by decide +kernel
theorem dX5_caseOf_27 : decode cX5_caseOf 27 = .ok (.iconst 5, 1) := by decide +kernel
theorem dX5_caseOf_28 : decode cX5_caseOf 28 = .ok (.if_icmp .lt 13, 3) := by decide +kernel
theorem dX5_caseOf_31 : decode cX5_caseOf 31 = .ok (.new 59, 3) := by decide +kernel
theorem dX5_caseOf_34 : decode cX5_caseOf 34 = .ok (.dup, 1) := by decide +kernel
theorem dX5_caseOf_35 : decode cX5_caseOf 35 = .ok (.ldc 162, 2) := by decide +kernel
theorem dX5_caseOf_37 : decode cX5_caseOf 37 = .ok (.invokespecial 63, 3) := by decide +kernel
theorem dX5_caseOf_40 : decode cX5_caseOf 40 = .ok (.athrow, 1) := by decide +kernel
theorem dX5_caseOf_41 : decode cX5_caseOf 41 = .ok (.aload_n 0, 1) := by decide +kernel
theorem dX5_caseOf_42 : decode cX5_caseOf 42 = .ok (.iload_n 1, 1) := by decide +kernel
theorem dX5_caseOf_43 : decode cX5_caseOf 43 = .ok (.iload_n 2, 1) := by decide +kernel
theorem dX5_caseOf_44 : decode cX5_caseOf 44 = .ok (.invokevirtual 183, 3) := by decide +kernel
theorem dX5_caseOf_47 : decode cX5_caseOf 47 = .ok (.ireturn, 1) := by decide +kernel
set_option maxRecDepth 20000 in
theorem ggX5_answerOf_X5_freshCases : GoodIn wsX5_answerOf wsX5_freshCases := goodIn_r _ [8, 9, 3, 10, 11, 12, 13, 14, 15, 16, 17, 18, 19, 20, 21, 22, 23, 24, 25, 26, 27, 28, 29, 30, 31, 32, 33, 34, 35, 36, 37, 38, 39, 40, 41, 42, 43, 44, 60, 61, 62, 63, 64, 65, 66, 67, 68, 69, 70, 71, 72, 73, 74, 75, 76, 77, 78, 79, 80, 81, 82, 83, 84, 85, 86, 87] (by decide +kernel) (by decide +kernel)
set_option maxRecDepth 20000 in
theorem gX5_answerOf_X5_freshCases : GoodIn wsX5_answerOf (wsV RX5 156 RX5 yX5_freshCases wsX5_freshCases) := goodIn_app (goodIn_of _ (by decide +kernel)) ggX5_answerOf_X5_freshCases
set_option maxRecDepth 20000 in
theorem ggX5_answerOf_X5_isCase : GoodIn wsX5_answerOf wsX5_isCase := goodIn_r _ [48, 3, 49, 60, 61, 62, 63, 64, 65, 66, 67, 68, 69, 70, 71, 72, 73, 74, 75, 76, 77, 78, 79] (by decide +kernel) (by decide +kernel)
set_option maxRecDepth 20000 in
theorem gX5_answerOf_X5_isCase : GoodIn wsX5_answerOf (wsV RX5 178 RX5 yX5_isCase wsX5_isCase) := goodIn_app (goodIn_of _ (by decide +kernel)) ggX5_answerOf_X5_isCase
set_option maxRecDepth 20000 in
theorem ggX5_answerOf_X5_isCondition : GoodIn wsX5_answerOf wsX5_isCondition := goodIn_r _ [53, 54, 55, 60, 61, 62, 63, 64, 65, 66, 80, 81, 82, 83, 84, 85, 86, 87] (by decide +kernel) (by decide +kernel)
set_option maxRecDepth 20000 in
theorem gX5_answerOf_X5_isCondition : GoodIn wsX5_answerOf (wsV RX5 82 RX5 yX5_isCondition wsX5_isCondition) := goodIn_app (goodIn_of _ (by decide +kernel)) ggX5_answerOf_X5_isCondition
set_option maxRecDepth 20000 in
theorem ggX5_answerOf_X0_answer : GoodIn wsX5_answerOf wsX0_answer := goodIn_r _ [59, 24, 67, 68, 69, 70, 71, 72, 73, 74, 75, 76, 77, 78, 79] (by decide +kernel) (by decide +kernel)
set_option maxRecDepth 20000 in
theorem gX5_answerOf_X0_answer : GoodIn wsX5_answerOf (wsV RX5 188 RX0 yX0_answer wsX0_answer) := goodIn_app (goodIn_of _ (by decide +kernel)) ggX5_answerOf_X0_answer
theorem dX5_answerOf_0 : decode cX5_answerOf 0 = .ok (.aload_n 0, 1) := by decide +kernel
theorem dX5_answerOf_1 : decode cX5_answerOf 1 = .ok (.invokevirtual 156, 3) := by decide +kernel
theorem dX5_answerOf_4 : decode cX5_answerOf 4 = .ok (.aload_n 0, 1) := by decide +kernel
theorem dX5_answerOf_5 : decode cX5_answerOf 5 = .ok (.iload_n 1, 1) := by decide +kernel
theorem dX5_answerOf_6 : decode cX5_answerOf 6 = .ok (.invokevirtual 178, 3) := by decide +kernel
theorem dX5_answerOf_9 : decode cX5_answerOf 9 = .ok (.ifCond .eq 11, 3) := by decide +kernel
theorem dX5_answerOf_12 : decode cX5_answerOf 12 = .ok (.aload_n 0, 1) := by decide +kernel
theorem dX5_answerOf_13 : decode cX5_answerOf 13 = .ok (.iload_n 2, 1) := by decide +kernel
theorem dX5_answerOf_14 : decode cX5_answerOf 14 = .ok (.invokevirtual 82, 3) := by decide +kernel
theorem dX5_answerOf_17 : decode cX5_answerOf 17 = .ok (.ifCond .ne 13, 3) := by decide +kernel
theorem dX5_answerOf_20 : decode cX5_answerOf 20 = .ok (.new 85, 3) := by decide +kernel
theorem dX5_answerOf_23 : decode cX5_answerOf 23 = .ok (.dup, 1) := by decide +kernel
theorem dX5_answerOf_24 : decode cX5_answerOf 24 = .ok (.ldc 186, 2) := by decide +kernel
theorem dX5_answerOf_26 : decode cX5_answerOf 26 = .ok (.invokespecial 89, 3) := by decide +kernel
theorem dX5_answerOf_29 : decode cX5_answerOf 29 = .ok (.athrow, 1) := by decide +kernel
theorem dX5_answerOf_30 : decode cX5_answerOf 30 = .ok (.aload_n 0, 1) := by decide +kernel
theorem dX5_answerOf_31 : decode cX5_answerOf 31 = .ok (.getfield 21, 3) := by decide +kernel
theorem dX5_answerOf_34 : decode cX5_answerOf 34 = .ok (.iload_n 1, 1) := by decide +kernel
theorem dX5_answerOf_35 : decode cX5_answerOf 35 = .ok (.iload_n 2, 1) := by decide +kernel
theorem dX5_answerOf_36 : decode cX5_answerOf 36 = .ok (.invokevirtual 188, 3) := by decide +kernel
theorem dX5_answerOf_39 : decode cX5_answerOf 39 = .ok (.ireturn, 1) := by decide +kernel
set_option maxRecDepth 20000 in
theorem ggX5_hole_X5_freshCases : GoodIn wsX5_hole wsX5_freshCases := goodIn_r _ [8, 9, 3, 10, 11, 12, 13, 14, 15, 16, 17, 18, 19, 20, 21, 22, 23, 24, 25, 26, 27, 28, 29, 30, 31, 32, 33, 34, 35, 36, 37, 38, 39, 40, 41, 42, 43, 44, 49, 50, 51, 52, 53, 54, 55, 56, 57, 58, 59, 60, 61, 62, 63, 64, 65, 66, 67, 68, 69, 70, 71, 72, 73, 74, 75, 76] (by decide +kernel) (by decide +kernel)
set_option maxRecDepth 20000 in
theorem gX5_hole_X5_freshCases : GoodIn wsX5_hole (wsV RX5 156 RX5 yX5_freshCases wsX5_freshCases) := goodIn_app (goodIn_of _ (by decide +kernel)) ggX5_hole_X5_freshCases
set_option maxRecDepth 20000 in
theorem ggX5_hole_X0_holeAt : GoodIn wsX5_hole wsX0_holeAt := goodIn_r _ [48, 19, 40, 56, 57, 58, 59, 60, 61, 62, 63, 64, 65, 66, 67, 68] (by decide +kernel) (by decide +kernel)
set_option maxRecDepth 20000 in
theorem gX5_hole_X0_holeAt : GoodIn wsX5_hole (wsV RX5 193 RX0 yX0_holeAt wsX0_holeAt) := goodIn_app (goodIn_of _ (by decide +kernel)) ggX5_hole_X0_holeAt
theorem dX5_hole_0 : decode cX5_hole 0 = .ok (.iload_n 1, 1) := by decide +kernel
theorem dX5_hole_1 : decode cX5_hole 1 = .ok (.ifCond .ge 13, 3) := by decide +kernel
theorem dX5_hole_4 : decode cX5_hole 4 = .ok (.new 59, 3) := by decide +kernel
theorem dX5_hole_7 : decode cX5_hole 7 = .ok (.dup, 1) := by decide +kernel
theorem dX5_hole_8 : decode cX5_hole 8 = .ok (.ldc 191, 2) := by decide +kernel
theorem dX5_hole_10 : decode cX5_hole 10 = .ok (.invokespecial 63, 3) := by decide +kernel
theorem dX5_hole_13 : decode cX5_hole 13 = .ok (.athrow, 1) := by decide +kernel
theorem dX5_hole_14 : decode cX5_hole 14 = .ok (.aload_n 0, 1) := by decide +kernel
theorem dX5_hole_15 : decode cX5_hole 15 = .ok (.invokevirtual 156, 3) := by decide +kernel
theorem dX5_hole_18 : decode cX5_hole 18 = .ok (.aload_n 0, 1) := by decide +kernel
theorem dX5_hole_19 : decode cX5_hole 19 = .ok (.getfield 21, 3) := by decide +kernel
theorem dX5_hole_22 : decode cX5_hole 22 = .ok (.iload_n 1, 1) := by decide +kernel
theorem dX5_hole_23 : decode cX5_hole 23 = .ok (.invokevirtual 193, 3) := by decide +kernel
theorem dX5_hole_26 : decode cX5_hole 26 = .ok (.ireturn, 1) := by decide +kernel
set_option maxRecDepth 20000 in
theorem ggX5_whole_X5_wholeValue : GoodIn wsX5_whole wsX5_wholeValue := goodIn_r _ [7, 8, 9, 10, 11, 12, 13, 14, 15, 16, 17, 18, 19, 20, 21, 22, 23, 6, 24, 25, 26, 27, 28, 29, 30, 31, 32, 33, 34, 35, 36, 37, 38, 39, 40, 41, 42, 43, 44, 45, 46, 47, 48, 49, 50, 51, 52, 53, 54, 55, 56, 57, 58, 59, 60, 61, 62, 63, 64, 65, 66, 67, 68, 69, 70, 71, 72, 73, 74, 75, 76, 77, 78, 79, 80, 81, 82, 83, 84, 85, 86, 87, 88, 89, 90, 91, 92, 93, 94, 95, 96, 97, 98, 99, 100, 101, 102, 103, 104, 105, 106, 107, 108, 109, 110, 111, 112, 113, 114, 115, 116, 117, 118, 119, 120, 121, 122, 123, 124, 125, 126, 127, 128, 129, 130, 131, 132, 133, 134, 135, 136, 137, 138, 139, 140, 141, 142, 143, 144, 145, 146, 147, 148, 149, 150, 151, 152, 153, 154, 155, 156, 157, 158, 159, 160, 161, 162, 163, 164, 165, 166, 167, 168, 169] (by decide +kernel) (by decide +kernel)
set_option maxRecDepth 20000 in
theorem gX5_whole_X5_wholeValue : GoodIn wsX5_whole (wsV RX5 196 RX5 yX5_wholeValue wsX5_wholeValue) := goodIn_app (goodIn_of _ (by decide +kernel)) ggX5_whole_X5_wholeValue
theorem dX5_whole_0 : decode cX5_whole 0 = .ok (.iload_n 1, 1) := by decide +kernel
theorem dX5_whole_1 : decode cX5_whole 1 = .ok (.ifCond .lt 9, 3) := by decide +kernel
theorem dX5_whole_4 : decode cX5_whole 4 = .ok (.iload_n 1, 1) := by decide +kernel
theorem dX5_whole_5 : decode cX5_whole 5 = .ok (.bipush 12, 2) := by decide +kernel
theorem dX5_whole_7 : decode cX5_whole 7 = .ok (.if_icmp .lt 13, 3) := by decide +kernel
theorem dX5_whole_10 : decode cX5_whole 10 = .ok (.new 59, 3) := by decide +kernel
theorem dX5_whole_13 : decode cX5_whole 13 = .ok (.dup, 1) := by decide +kernel
theorem dX5_whole_14 : decode cX5_whole 14 = .ok (.ldc 162, 2) := by decide +kernel
theorem dX5_whole_16 : decode cX5_whole 16 = .ok (.invokespecial 63, 3) := by decide +kernel
theorem dX5_whole_19 : decode cX5_whole 19 = .ok (.athrow, 1) := by decide +kernel
theorem dX5_whole_20 : decode cX5_whole 20 = .ok (.aload_n 0, 1) := by decide +kernel
theorem dX5_whole_21 : decode cX5_whole 21 = .ok (.iload_n 1, 1) := by decide +kernel
theorem dX5_whole_22 : decode cX5_whole 22 = .ok (.invokevirtual 196, 3) := by decide +kernel
theorem dX5_whole_25 : decode cX5_whole 25 = .ok (.ireturn, 1) := by decide +kernel
set_option maxRecDepth 20000 in
theorem ggX5_changedWithout_X4_placeOf : GoodIn wsX5_changedWithout wsX4_placeOf := goodIn_r _ [9, 10, 11, 64, 65, 66, 67, 68, 69, 70, 71] (by decide +kernel) (by decide +kernel)
set_option maxRecDepth 20000 in
theorem gX5_changedWithout_X4_placeOf : GoodIn wsX5_changedWithout (wsV RX5 112 RX4 yX4_placeOf wsX4_placeOf) := goodIn_app (goodIn_of _ (by decide +kernel)) ggX5_changedWithout_X4_placeOf
set_option maxRecDepth 20000 in
theorem ggX5_changedWithout_X5_freshCases : GoodIn wsX5_changedWithout wsX5_freshCases := goodIn_r _ [16, 17, 4, 18, 19, 20, 21, 22, 23, 24, 25, 26, 27, 28, 29, 30, 31, 32, 33, 34, 35, 36, 37, 38, 39, 40, 41, 42, 43, 44, 45, 46, 47, 48, 49, 50, 51, 52, 57, 58, 59, 60, 61, 62, 63, 72, 73, 74, 75, 76, 77, 78, 79, 80, 81, 82, 83, 84, 64, 65, 66, 67, 68, 69, 70, 71] (by decide +kernel) (by decide +kernel)
set_option maxRecDepth 20000 in
theorem gX5_changedWithout_X5_freshCases : GoodIn wsX5_changedWithout (wsV RX5 156 RX5 yX5_freshCases wsX5_freshCases) := goodIn_app (goodIn_of _ (by decide +kernel)) ggX5_changedWithout_X5_freshCases
set_option maxRecDepth 20000 in
theorem ggX5_changedWithout_X0_changesWithout : GoodIn wsX5_changedWithout wsX0_changesWithout := goodIn_r _ [56, 27, 41, 42, 33, 47, 43, 72, 73, 74, 75, 76, 77, 78, 79, 80, 81, 82, 83, 84, 64, 65, 66, 67, 68, 69, 70, 71] (by decide +kernel) (by decide +kernel)
set_option maxRecDepth 20000 in
theorem gX5_changedWithout_X0_changesWithout : GoodIn wsX5_changedWithout (wsV RX5 213 RX0 yX0_changesWithout wsX0_changesWithout) := goodIn_app (goodIn_of _ (by decide +kernel)) ggX5_changedWithout_X0_changesWithout
theorem dX5_changedWithout_0 : decode cX5_changedWithout 0 = .ok (.aload_n 0, 1) := by decide +kernel
theorem dX5_changedWithout_1 : decode cX5_changedWithout 1 = .ok (.getfield 10, 3) := by decide +kernel
theorem dX5_changedWithout_4 : decode cX5_changedWithout 4 = .ok (.iload_n 1, 1) := by decide +kernel
theorem dX5_changedWithout_5 : decode cX5_changedWithout 5 = .ok (.invokevirtual 112, 3) := by decide +kernel
theorem dX5_changedWithout_8 : decode cX5_changedWithout 8 = .ok (.istore_n 2, 1) := by decide +kernel
theorem dX5_changedWithout_9 : decode cX5_changedWithout 9 = .ok (.iload_n 2, 1) := by decide +kernel
theorem dX5_changedWithout_10 : decode cX5_changedWithout 10 = .ok (.ifCond .ge 13, 3) := by decide +kernel
theorem dX5_changedWithout_13 : decode cX5_changedWithout 13 = .ok (.new 85, 3) := by decide +kernel
theorem dX5_changedWithout_16 : decode cX5_changedWithout 16 = .ok (.dup, 1) := by decide +kernel
theorem dX5_changedWithout_17 : decode cX5_changedWithout 17 = .ok (.ldc 128, 2) := by decide +kernel
theorem dX5_changedWithout_19 : decode cX5_changedWithout 19 = .ok (.invokespecial 89, 3) := by decide +kernel
theorem dX5_changedWithout_22 : decode cX5_changedWithout 22 = .ok (.athrow, 1) := by decide +kernel
theorem dX5_changedWithout_23 : decode cX5_changedWithout 23 = .ok (.aload_n 0, 1) := by decide +kernel
theorem dX5_changedWithout_24 : decode cX5_changedWithout 24 = .ok (.invokevirtual 156, 3) := by decide +kernel
theorem dX5_changedWithout_27 : decode cX5_changedWithout 27 = .ok (.aload_n 0, 1) := by decide +kernel
theorem dX5_changedWithout_28 : decode cX5_changedWithout 28 = .ok (.getfield 21, 3) := by decide +kernel
theorem dX5_changedWithout_31 : decode cX5_changedWithout 31 = .ok (.iload_n 2, 1) := by decide +kernel
theorem dX5_changedWithout_32 : decode cX5_changedWithout 32 = .ok (.invokevirtual 213, 3) := by decide +kernel
theorem dX5_changedWithout_35 : decode cX5_changedWithout 35 = .ok (.ireturn, 1) := by decide +kernel
set_option maxRecDepth 20000 in
theorem ggX5_undo_X1_restore : GoodIn wsX5_undo wsX1_restore := goodIn_r _ [12, 13, 14, 15, 16, 17, 18, 19, 20, 21, 22, 23, 24, 25, 26, 27, 28, 29, 30, 31, 39, 40, 41, 42, 43, 44, 45, 46, 47, 48] (by decide +kernel) (by decide +kernel)
set_option maxRecDepth 20000 in
theorem gX5_undo_X1_restore : GoodIn wsX5_undo (wsV RX5 256 RX1 yX1_restore wsX1_restore) := goodIn_app (goodIn_of _ (by decide +kernel)) ggX5_undo_X1_restore
theorem dX5_undo_0 : decode cX5_undo 0 = .ok (.aload_n 0, 1) := by decide +kernel
theorem dX5_undo_1 : decode cX5_undo 1 = .ok (.getfield 37, 3) := by decide +kernel
theorem dX5_undo_4 : decode cX5_undo 4 = .ok (.getfield 251, 3) := by decide +kernel
theorem dX5_undo_7 : decode cX5_undo 7 = .ok (.ifCond .ne 13, 3) := by decide +kernel
theorem dX5_undo_10 : decode cX5_undo 10 = .ok (.new 70, 3) := by decide +kernel
theorem dX5_undo_13 : decode cX5_undo 13 = .ok (.dup, 1) := by decide +kernel
theorem dX5_undo_14 : decode cX5_undo 14 = .ok (.ldc 254, 2) := by decide +kernel
theorem dX5_undo_16 : decode cX5_undo 16 = .ok (.invokespecial 74, 3) := by decide +kernel
theorem dX5_undo_19 : decode cX5_undo 19 = .ok (.athrow, 1) := by decide +kernel
theorem dX5_undo_20 : decode cX5_undo 20 = .ok (.aload_n 0, 1) := by decide +kernel
theorem dX5_undo_21 : decode cX5_undo 21 = .ok (.getfield 37, 3) := by decide +kernel
theorem dX5_undo_24 : decode cX5_undo 24 = .ok (.aload_n 0, 1) := by decide +kernel
theorem dX5_undo_25 : decode cX5_undo 25 = .ok (.getfield 10, 3) := by decide +kernel
theorem dX5_undo_28 : decode cX5_undo 28 = .ok (.invokevirtual 256, 3) := by decide +kernel
theorem dX5_undo_31 : decode cX5_undo 31 = .ok (.aload_n 0, 1) := by decide +kernel
theorem dX5_undo_32 : decode cX5_undo 32 = .ok (.iconst 1, 1) := by decide +kernel
theorem dX5_undo_33 : decode cX5_undo 33 = .ok (.putfield 48, 3) := by decide +kernel
theorem dX5_undo_36 : decode cX5_undo 36 = .ok (.aload_n 0, 1) := by decide +kernel
theorem dX5_undo_37 : decode cX5_undo 37 = .ok (.iconst 1, 1) := by decide +kernel
theorem dX5_undo_38 : decode cX5_undo 38 = .ok (.putfield 52, 3) := by decide +kernel
theorem dX5_undo_41 : decode cX5_undo 41 = .ok (.aload_n 0, 1) := by decide +kernel
theorem dX5_undo_42 : decode cX5_undo 42 = .ok (.getfield 37, 3) := by decide +kernel
theorem dX5_undo_45 : decode cX5_undo 45 = .ok (.getfield 251, 3) := by decide +kernel
theorem dX5_undo_48 : decode cX5_undo 48 = .ok (.ireturn, 1) := by decide +kernel
theorem dX5_isCost_0 : decode cX5_isCost 0 = .ok (.iload_n 0, 1) := by decide +kernel
theorem dX5_isCost_1 : decode cX5_isCost 1 = .ok (.iconst 1, 1) := by decide +kernel
theorem dX5_isCost_2 : decode cX5_isCost 2 = .ok (.if_icmp .lt 13, 3) := by decide +kernel
theorem dX5_isCost_5 : decode cX5_isCost 5 = .ok (.iload_n 0, 1) := by decide +kernel
theorem dX5_isCost_6 : decode cX5_isCost 6 = .ok (.bipush 9, 2) := by decide +kernel
theorem dX5_isCost_8 : decode cX5_isCost 8 = .ok (.if_icmp .gt 7, 3) := by decide +kernel
theorem dX5_isCost_11 : decode cX5_isCost 11 = .ok (.iconst 1, 1) := by decide +kernel
theorem dX5_isCost_12 : decode cX5_isCost 12 = .ok (.goto 4, 3) := by decide +kernel
theorem dX5_isCost_15 : decode cX5_isCost 15 = .ok (.iconst 0, 1) := by decide +kernel
theorem dX5_isCost_16 : decode cX5_isCost 16 = .ok (.ireturn, 1) := by decide +kernel
theorem dX5_isAction_0 : decode cX5_isAction 0 = .ok (.iload_n 0, 1) := by decide +kernel
theorem dX5_isAction_1 : decode cX5_isAction 1 = .ok (.ifCond .lt 13, 3) := by decide +kernel
theorem dX5_isAction_4 : decode cX5_isAction 4 = .ok (.iload_n 0, 1) := by decide +kernel
theorem dX5_isAction_5 : decode cX5_isAction 5 = .ok (.bipush 9, 2) := by decide +kernel
theorem dX5_isAction_7 : decode cX5_isAction 7 = .ok (.if_icmp .gt 7, 3) := by decide +kernel
theorem dX5_isAction_10 : decode cX5_isAction 10 = .ok (.iconst 1, 1) := by decide +kernel
theorem dX5_isAction_11 : decode cX5_isAction 11 = .ok (.goto 4, 3) := by decide +kernel
theorem dX5_isAction_14 : decode cX5_isAction 14 = .ok (.iconst 0, 1) := by decide +kernel
theorem dX5_isAction_15 : decode cX5_isAction 15 = .ok (.ireturn, 1) := by decide +kernel
theorem dX5_isCondition_0 : decode cX5_isCondition 0 = .ok (.iload_n 1, 1) := by decide +kernel
theorem dX5_isCondition_1 : decode cX5_isCondition 1 = .ok (.ifCond .lt 18, 3) := by decide +kernel
theorem dX5_isCondition_4 : decode cX5_isCondition 4 = .ok (.iload_n 1, 1) := by decide +kernel
theorem dX5_isCondition_5 : decode cX5_isCondition 5 = .ok (.aload_n 0, 1) := by decide +kernel
theorem dX5_isCondition_6 : decode cX5_isCondition 6 = .ok (.getfield 10, 3) := by decide +kernel
theorem dX5_isCondition_9 : decode cX5_isCondition 9 = .ok (.getfield 66, 3) := by decide +kernel
theorem dX5_isCondition_12 : decode cX5_isCondition 12 = .ok (.if_icmp .ge 7, 3) := by decide +kernel
theorem dX5_isCondition_15 : decode cX5_isCondition 15 = .ok (.iconst 1, 1) := by decide +kernel
theorem dX5_isCondition_16 : decode cX5_isCondition 16 = .ok (.goto 4, 3) := by decide +kernel
theorem dX5_isCondition_19 : decode cX5_isCondition 19 = .ok (.iconst 0, 1) := by decide +kernel
theorem dX5_isCondition_20 : decode cX5_isCondition 20 = .ok (.ireturn, 1) := by decide +kernel
theorem dX5_isCase_0 : decode cX5_isCase 0 = .ok (.iload_n 1, 1) := by decide +kernel
theorem dX5_isCase_1 : decode cX5_isCase 1 = .ok (.ifCond .lt 18, 3) := by decide +kernel
theorem dX5_isCase_4 : decode cX5_isCase 4 = .ok (.iload_n 1, 1) := by decide +kernel
theorem dX5_isCase_5 : decode cX5_isCase 5 = .ok (.aload_n 0, 1) := by decide +kernel
theorem dX5_isCase_6 : decode cX5_isCase 6 = .ok (.getfield 21, 3) := by decide +kernel
theorem dX5_isCase_9 : decode cX5_isCase 9 = .ok (.getfield 263, 3) := by decide +kernel
theorem dX5_isCase_12 : decode cX5_isCase 12 = .ok (.if_icmp .ge 7, 3) := by decide +kernel
theorem dX5_isCase_15 : decode cX5_isCase 15 = .ok (.iconst 1, 1) := by decide +kernel
theorem dX5_isCase_16 : decode cX5_isCase 16 = .ok (.goto 4, 3) := by decide +kernel
theorem dX5_isCase_19 : decode cX5_isCase 19 = .ok (.iconst 0, 1) := by decide +kernel
theorem dX5_isCase_20 : decode cX5_isCase 20 = .ok (.ireturn, 1) := by decide +kernel
set_option maxRecDepth 20000 in
theorem ggX5_saveForChange_X1_save : GoodIn wsX5_saveForChange wsX1_save := goodIn_r _ [9, 10, 11, 12, 13, 14, 8, 15, 16, 17, 18, 19, 20, 21, 22, 23, 24, 25, 26, 27, 28, 29, 30, 31, 32, 40, 41, 42, 43, 44, 45, 46, 47, 48, 49] (by decide +kernel) (by decide +kernel)
set_option maxRecDepth 20000 in
theorem gX5_saveForChange_X1_save : GoodIn wsX5_saveForChange (wsV RX5 264 RX1 yX1_save wsX1_save) := goodIn_app (goodIn_of _ (by decide +kernel)) ggX5_saveForChange_X1_save
theorem dX5_saveForChange_0 : decode cX5_saveForChange 0 = .ok (.aload_n 0, 1) := by decide +kernel
theorem dX5_saveForChange_1 : decode cX5_saveForChange 1 = .ok (.getfield 37, 3) := by decide +kernel
theorem dX5_saveForChange_4 : decode cX5_saveForChange 4 = .ok (.aload_n 0, 1) := by decide +kernel
theorem dX5_saveForChange_5 : decode cX5_saveForChange 5 = .ok (.getfield 10, 3) := by decide +kernel
theorem dX5_saveForChange_8 : decode cX5_saveForChange 8 = .ok (.invokevirtual 264, 3) := by decide +kernel
theorem dX5_saveForChange_11 : decode cX5_saveForChange 11 = .ok (.aload_n 0, 1) := by decide +kernel
theorem dX5_saveForChange_12 : decode cX5_saveForChange 12 = .ok (.iconst 1, 1) := by decide +kernel
theorem dX5_saveForChange_13 : decode cX5_saveForChange 13 = .ok (.putfield 48, 3) := by decide +kernel
theorem dX5_saveForChange_16 : decode cX5_saveForChange 16 = .ok (.aload_n 0, 1) := by decide +kernel
theorem dX5_saveForChange_17 : decode cX5_saveForChange 17 = .ok (.iconst 1, 1) := by decide +kernel
theorem dX5_saveForChange_18 : decode cX5_saveForChange 18 = .ok (.putfield 52, 3) := by decide +kernel
theorem dX5_saveForChange_21 : decode cX5_saveForChange 21 = .ok (.return_, 1) := by decide +kernel
set_option maxRecDepth 20000 in
theorem ggX5_freshCases_X0_refresh : GoodIn wsX5_freshCases wsX0_refresh := goodIn_r _ [7, 8, 9, 10, 11, 12, 13, 14, 15, 6, 16, 17, 18, 19, 20, 21, 22, 23, 24, 25, 26, 27, 28, 29, 30, 31, 32, 33, 34, 35, 36, 37, 45, 46, 47, 48, 49, 50, 51, 52, 53, 54, 55, 56, 57, 58, 59, 60, 61, 62, 63, 64, 65] (by decide +kernel) (by decide +kernel)
set_option maxRecDepth 20000 in
theorem gX5_freshCases_X0_refresh : GoodIn wsX5_freshCases (wsV RX5 267 RX0 yX0_refresh wsX0_refresh) := goodIn_app (goodIn_of _ (by decide +kernel)) ggX5_freshCases_X0_refresh
theorem dX5_freshCases_0 : decode cX5_freshCases 0 = .ok (.aload_n 0, 1) := by decide +kernel
theorem dX5_freshCases_1 : decode cX5_freshCases 1 = .ok (.getfield 48, 3) := by decide +kernel
theorem dX5_freshCases_4 : decode cX5_freshCases 4 = .ok (.ifCond .eq 15, 3) := by decide +kernel
theorem dX5_freshCases_7 : decode cX5_freshCases 7 = .ok (.aload_n 0, 1) := by decide +kernel
theorem dX5_freshCases_8 : decode cX5_freshCases 8 = .ok (.getfield 21, 3) := by decide +kernel
theorem dX5_freshCases_11 : decode cX5_freshCases 11 = .ok (.invokevirtual 267, 3) := by decide +kernel
theorem dX5_freshCases_14 : decode cX5_freshCases 14 = .ok (.aload_n 0, 1) := by decide +kernel
theorem dX5_freshCases_15 : decode cX5_freshCases 15 = .ok (.iconst 0, 1) := by decide +kernel
theorem dX5_freshCases_16 : decode cX5_freshCases 16 = .ok (.putfield 48, 3) := by decide +kernel
theorem dX5_freshCases_19 : decode cX5_freshCases 19 = .ok (.return_, 1) := by decide +kernel
set_option maxRecDepth 20000 in
theorem ggX5_freshPlans_X5_freshCases : GoodIn wsX5_freshPlans wsX5_freshCases := goodIn_r _ [7, 8, 9, 10, 11, 12, 13, 14, 15, 16, 17, 18, 19, 20, 21, 22, 23, 24, 25, 26, 27, 28, 29, 30, 31, 32, 33, 34, 35, 36, 37, 38, 39, 40, 41, 42, 43, 44, 89, 90, 91, 92, 93, 94, 95, 96, 97, 98, 99, 100, 101, 102, 103, 104, 105, 106, 107, 108, 109, 110, 111, 112, 113, 114, 115, 116] (by decide +kernel) (by decide +kernel)
set_option maxRecDepth 20000 in
theorem gX5_freshPlans_X5_freshCases : GoodIn wsX5_freshPlans (wsV RX5 156 RX5 yX5_freshCases wsX5_freshCases) := goodIn_app (goodIn_of _ (by decide +kernel)) ggX5_freshPlans_X5_freshCases
set_option maxRecDepth 20000 in
theorem ggX5_freshPlans_X2_refresh : GoodIn wsX5_freshPlans wsX2_refresh := goodIn_r _ [49, 50, 51, 52, 53, 54, 55, 48, 56, 57, 58, 59, 60, 61, 62, 63, 64, 65, 66, 67, 68, 69, 70, 71, 72, 73, 74, 75, 76, 77, 78, 79, 80, 81, 82, 83, 84, 85, 86, 87, 88, 117, 118, 119, 120, 121, 109, 110, 111, 112, 113, 114, 115, 116, 96, 97, 98, 99, 100, 101, 102, 103, 104, 105, 106, 107, 108] (by decide +kernel) (by decide +kernel)
set_option maxRecDepth 20000 in
theorem gX5_freshPlans_X2_refresh : GoodIn wsX5_freshPlans (wsV RX5 270 RX2 yX2_refresh wsX2_refresh) := goodIn_app (goodIn_of _ (by decide +kernel)) ggX5_freshPlans_X2_refresh
theorem dX5_freshPlans_0 : decode cX5_freshPlans 0 = .ok (.aload_n 0, 1) := by decide +kernel
theorem dX5_freshPlans_1 : decode cX5_freshPlans 1 = .ok (.invokevirtual 156, 3) := by decide +kernel
theorem dX5_freshPlans_4 : decode cX5_freshPlans 4 = .ok (.aload_n 0, 1) := by decide +kernel
theorem dX5_freshPlans_5 : decode cX5_freshPlans 5 = .ok (.getfield 52, 3) := by decide +kernel
theorem dX5_freshPlans_8 : decode cX5_freshPlans 8 = .ok (.ifCond .eq 15, 3) := by decide +kernel
theorem dX5_freshPlans_11 : decode cX5_freshPlans 11 = .ok (.aload_n 0, 1) := by decide +kernel
theorem dX5_freshPlans_12 : decode cX5_freshPlans 12 = .ok (.getfield 30, 3) := by decide +kernel
theorem dX5_freshPlans_15 : decode cX5_freshPlans 15 = .ok (.invokevirtual 270, 3) := by decide +kernel
theorem dX5_freshPlans_18 : decode cX5_freshPlans 18 = .ok (.aload_n 0, 1) := by decide +kernel
theorem dX5_freshPlans_19 : decode cX5_freshPlans 19 = .ok (.iconst 0, 1) := by decide +kernel
theorem dX5_freshPlans_20 : decode cX5_freshPlans 20 = .ok (.putfield 52, 3) := by decide +kernel
theorem dX5_freshPlans_23 : decode cX5_freshPlans 23 = .ok (.return_, 1) := by decide +kernel
set_option maxRecDepth 20000 in
theorem ggX5_conditionValue_X5_freshCases : GoodIn wsX5_conditionValue wsX5_freshCases := goodIn_r _ [9, 10, 4, 11, 12, 13, 14, 15, 16, 17, 18, 19, 20, 21, 22, 23, 24, 25, 26, 27, 28, 29, 30, 31, 32, 33, 34, 35, 36, 37, 38, 39, 40, 41, 42, 43, 44, 45, 50, 51, 52, 53, 54, 55, 56, 65, 66, 67, 68, 69, 70, 71, 72, 73, 74, 75, 76, 77, 57, 58, 59, 60, 61, 62, 63, 64] (by decide +kernel) (by decide +kernel)
set_option maxRecDepth 20000 in
theorem gX5_conditionValue_X5_freshCases : GoodIn wsX5_conditionValue (wsV RX5 156 RX5 yX5_freshCases wsX5_freshCases) := goodIn_app (goodIn_of _ (by decide +kernel)) ggX5_conditionValue_X5_freshCases
set_option maxRecDepth 20000 in
theorem ggX5_conditionValue_X0_matters : GoodIn wsX5_conditionValue wsX0_matters := goodIn_r _ [49, 28, 26, 29, 20, 25, 36, 65, 66, 67, 68, 69, 70, 71, 72, 73, 74, 75, 76, 77, 57, 58, 59, 60, 61, 62, 63, 64] (by decide +kernel) (by decide +kernel)
set_option maxRecDepth 20000 in
theorem gX5_conditionValue_X0_matters : GoodIn wsX5_conditionValue (wsV RX5 285 RX0 yX0_matters wsX0_matters) := goodIn_app (goodIn_of _ (by decide +kernel)) ggX5_conditionValue_X0_matters
theorem dX5_conditionValue_0 : decode cX5_conditionValue 0 = .ok (.iload_n 2, 1) := by decide +kernel
theorem dX5_conditionValue_1 : decode cX5_conditionValue 1 = .ok (.lookupswitch 47 #[(0, 27), (1, 37)], 27) := by decide +kernel
theorem dX5_conditionValue_28 : decode cX5_conditionValue 28 = .ok (.aload_n 0, 1) := by decide +kernel
theorem dX5_conditionValue_29 : decode cX5_conditionValue 29 = .ok (.getfield 10, 3) := by decide +kernel
theorem dX5_conditionValue_32 : decode cX5_conditionValue 32 = .ok (.getfield 282, 3) := by decide +kernel
theorem dX5_conditionValue_35 : decode cX5_conditionValue 35 = .ok (.iload_n 1, 1) := by decide +kernel
theorem dX5_conditionValue_36 : decode cX5_conditionValue 36 = .ok (.iaload, 1) := by decide +kernel
theorem dX5_conditionValue_37 : decode cX5_conditionValue 37 = .ok (.ireturn, 1) := by decide +kernel
theorem dX5_conditionValue_38 : decode cX5_conditionValue 38 = .ok (.aload_n 0, 1) := by decide +kernel
theorem dX5_conditionValue_39 : decode cX5_conditionValue 39 = .ok (.getfield 10, 3) := by decide +kernel
theorem dX5_conditionValue_42 : decode cX5_conditionValue 42 = .ok (.getfield 92, 3) := by decide +kernel
theorem dX5_conditionValue_45 : decode cX5_conditionValue 45 = .ok (.iload_n 1, 1) := by decide +kernel
theorem dX5_conditionValue_46 : decode cX5_conditionValue 46 = .ok (.iaload, 1) := by decide +kernel
theorem dX5_conditionValue_47 : decode cX5_conditionValue 47 = .ok (.ireturn, 1) := by decide +kernel
theorem dX5_conditionValue_48 : decode cX5_conditionValue 48 = .ok (.aload_n 0, 1) := by decide +kernel
theorem dX5_conditionValue_49 : decode cX5_conditionValue 49 = .ok (.invokevirtual 156, 3) := by decide +kernel
theorem dX5_conditionValue_52 : decode cX5_conditionValue 52 = .ok (.aload_n 0, 1) := by decide +kernel
theorem dX5_conditionValue_53 : decode cX5_conditionValue 53 = .ok (.getfield 21, 3) := by decide +kernel
theorem dX5_conditionValue_56 : decode cX5_conditionValue 56 = .ok (.iload_n 1, 1) := by decide +kernel
theorem dX5_conditionValue_57 : decode cX5_conditionValue 57 = .ok (.invokevirtual 285, 3) := by decide +kernel
theorem dX5_conditionValue_60 : decode cX5_conditionValue 60 = .ok (.ifCond .eq 7, 3) := by decide +kernel
theorem dX5_conditionValue_63 : decode cX5_conditionValue 63 = .ok (.iconst 1, 1) := by decide +kernel
theorem dX5_conditionValue_64 : decode cX5_conditionValue 64 = .ok (.goto 4, 3) := by decide +kernel
theorem dX5_conditionValue_67 : decode cX5_conditionValue 67 = .ok (.iconst 0, 1) := by decide +kernel
theorem dX5_conditionValue_68 : decode cX5_conditionValue 68 = .ok (.ireturn, 1) := by decide +kernel
set_option maxRecDepth 20000 in
theorem ggX5_rowValue_X4_casesToldAt : GoodIn wsX5_rowValue wsX4_casesToldAt := goodIn_r _ [10, 11, 12, 13, 14, 9, 15, 16, 17, 18, 19, 20, 21, 22, 23, 72, 73, 74, 75, 76, 77, 78, 79] (by decide +kernel) (by decide +kernel)
set_option maxRecDepth 20000 in
theorem gX5_rowValue_X4_casesToldAt : GoodIn wsX5_rowValue (wsV RX5 288 RX4 yX4_casesToldAt wsX4_casesToldAt) := goodIn_app (goodIn_of _ (by decide +kernel)) ggX5_rowValue_X4_casesToldAt
set_option maxRecDepth 20000 in
theorem ggX5_rowValue_X5_freshCases : GoodIn wsX5_rowValue wsX5_freshCases := goodIn_r _ [28, 29, 3, 30, 31, 32, 33, 34, 35, 36, 37, 38, 39, 40, 41, 42, 43, 44, 45, 46, 47, 48, 49, 50, 51, 52, 53, 54, 55, 56, 57, 58, 59, 60, 61, 62, 63, 64, 65, 66, 67, 68, 69, 70, 71, 80, 81, 82, 83, 84, 85, 86, 87, 88, 89, 90, 91, 92, 72, 73, 74, 75, 76, 77, 78, 79] (by decide +kernel) (by decide +kernel)
set_option maxRecDepth 20000 in
theorem gX5_rowValue_X5_freshCases : GoodIn wsX5_rowValue (wsV RX5 156 RX5 yX5_freshCases wsX5_freshCases) := goodIn_app (goodIn_of _ (by decide +kernel)) ggX5_rowValue_X5_freshCases
theorem dX5_rowValue_0 : decode cX5_rowValue 0 = .ok (.iload_n 2, 1) := by decide +kernel
theorem dX5_rowValue_1 : decode cX5_rowValue 1 = .ok (.tableswitch 92 0 4 #[35, 37, 47, 56, 70], 35) := by decide +kernel
theorem dX5_rowValue_36 : decode cX5_rowValue 36 = .ok (.iload_n 1, 1) := by decide +kernel
theorem dX5_rowValue_37 : decode cX5_rowValue 37 = .ok (.ireturn, 1) := by decide +kernel
theorem dX5_rowValue_38 : decode cX5_rowValue 38 = .ok (.aload_n 0, 1) := by decide +kernel
theorem dX5_rowValue_39 : decode cX5_rowValue 39 = .ok (.getfield 10, 3) := by decide +kernel
theorem dX5_rowValue_42 : decode cX5_rowValue 42 = .ok (.getfield 132, 3) := by decide +kernel
theorem dX5_rowValue_45 : decode cX5_rowValue 45 = .ok (.iload_n 1, 1) := by decide +kernel
theorem dX5_rowValue_46 : decode cX5_rowValue 46 = .ok (.iaload, 1) := by decide +kernel
theorem dX5_rowValue_47 : decode cX5_rowValue 47 = .ok (.ireturn, 1) := by decide +kernel
theorem dX5_rowValue_48 : decode cX5_rowValue 48 = .ok (.aload_n 0, 1) := by decide +kernel
theorem dX5_rowValue_49 : decode cX5_rowValue 49 = .ok (.getfield 10, 3) := by decide +kernel
theorem dX5_rowValue_52 : decode cX5_rowValue 52 = .ok (.iload_n 1, 1) := by decide +kernel
theorem dX5_rowValue_53 : decode cX5_rowValue 53 = .ok (.invokevirtual 288, 3) := by decide +kernel
theorem dX5_rowValue_56 : decode cX5_rowValue 56 = .ok (.ireturn, 1) := by decide +kernel
theorem dX5_rowValue_57 : decode cX5_rowValue 57 = .ok (.aload_n 0, 1) := by decide +kernel
theorem dX5_rowValue_58 : decode cX5_rowValue 58 = .ok (.invokevirtual 156, 3) := by decide +kernel
theorem dX5_rowValue_61 : decode cX5_rowValue 61 = .ok (.aload_n 0, 1) := by decide +kernel
theorem dX5_rowValue_62 : decode cX5_rowValue 62 = .ok (.getfield 21, 3) := by decide +kernel
theorem dX5_rowValue_65 : decode cX5_rowValue 65 = .ok (.getfield 159, 3) := by decide +kernel
theorem dX5_rowValue_68 : decode cX5_rowValue 68 = .ok (.iload_n 1, 1) := by decide +kernel
theorem dX5_rowValue_69 : decode cX5_rowValue 69 = .ok (.iaload, 1) := by decide +kernel
theorem dX5_rowValue_70 : decode cX5_rowValue 70 = .ok (.ireturn, 1) := by decide +kernel
theorem dX5_rowValue_71 : decode cX5_rowValue 71 = .ok (.aload_n 0, 1) := by decide +kernel
theorem dX5_rowValue_72 : decode cX5_rowValue 72 = .ok (.invokevirtual 156, 3) := by decide +kernel
theorem dX5_rowValue_75 : decode cX5_rowValue 75 = .ok (.aload_n 0, 1) := by decide +kernel
theorem dX5_rowValue_76 : decode cX5_rowValue 76 = .ok (.getfield 21, 3) := by decide +kernel
theorem dX5_rowValue_79 : decode cX5_rowValue 79 = .ok (.getfield 159, 3) := by decide +kernel
theorem dX5_rowValue_82 : decode cX5_rowValue 82 = .ok (.iload_n 1, 1) := by decide +kernel
theorem dX5_rowValue_83 : decode cX5_rowValue 83 = .ok (.iaload, 1) := by decide +kernel
theorem dX5_rowValue_84 : decode cX5_rowValue 84 = .ok (.ifCond .le 7, 3) := by decide +kernel
theorem dX5_rowValue_87 : decode cX5_rowValue 87 = .ok (.iconst 1, 1) := by decide +kernel
theorem dX5_rowValue_88 : decode cX5_rowValue 88 = .ok (.goto 4, 3) := by decide +kernel
theorem dX5_rowValue_91 : decode cX5_rowValue 91 = .ok (.iconst 0, 1) := by decide +kernel
theorem dX5_rowValue_92 : decode cX5_rowValue 92 = .ok (.ireturn, 1) := by decide +kernel
theorem dX5_rowValue_93 : decode cX5_rowValue 93 = .ok (.aload_n 0, 1) := by decide +kernel
theorem dX5_rowValue_94 : decode cX5_rowValue 94 = .ok (.getfield 10, 3) := by decide +kernel
theorem dX5_rowValue_97 : decode cX5_rowValue 97 = .ok (.getfield 291, 3) := by decide +kernel
theorem dX5_rowValue_100 : decode cX5_rowValue 100 = .ok (.iload_n 1, 1) := by decide +kernel
theorem dX5_rowValue_101 : decode cX5_rowValue 101 = .ok (.iaload, 1) := by decide +kernel
theorem dX5_rowValue_102 : decode cX5_rowValue 102 = .ok (.ireturn, 1) := by decide +kernel
set_option maxRecDepth 20000 in
theorem ggX5_caseValue_X5_numberAt : GoodIn wsX5_caseValue wsX5_numberAt := goodIn_r _ [11, 12, 13, 14, 15, 16, 17, 18, 19, 20, 21, 35, 36, 37, 38, 39, 40, 41, 42] (by decide +kernel) (by decide +kernel)
set_option maxRecDepth 20000 in
theorem gX5_caseValue_X5_numberAt : GoodIn wsX5_caseValue (wsV RX5 296 RX5 yX5_numberAt wsX5_numberAt) := goodIn_app (goodIn_of _ (by decide +kernel)) ggX5_caseValue_X5_numberAt
theorem dX5_caseValue_0 : decode cX5_caseValue 0 = .ok (.iload_n 2, 1) := by decide +kernel
theorem dX5_caseValue_1 : decode cX5_caseValue 1 = .ok (.tableswitch 83 0 3 #[31, 45, 55, 65], 31) := by decide +kernel
theorem dX5_caseValue_32 : decode cX5_caseValue 32 = .ok (.aload_n 0, 1) := by decide +kernel
theorem dX5_caseValue_33 : decode cX5_caseValue 33 = .ok (.aload_n 0, 1) := by decide +kernel
theorem dX5_caseValue_34 : decode cX5_caseValue 34 = .ok (.getfield 21, 3) := by decide +kernel
theorem dX5_caseValue_37 : decode cX5_caseValue 37 = .ok (.getfield 293, 3) := by decide +kernel
theorem dX5_caseValue_40 : decode cX5_caseValue 40 = .ok (.iload_n 1, 1) := by decide +kernel
theorem dX5_caseValue_41 : decode cX5_caseValue 41 = .ok (.iaload, 1) := by decide +kernel
theorem dX5_caseValue_42 : decode cX5_caseValue 42 = .ok (.invokevirtual 296, 3) := by decide +kernel
theorem dX5_caseValue_45 : decode cX5_caseValue 45 = .ok (.ireturn, 1) := by decide +kernel
theorem dX5_caseValue_46 : decode cX5_caseValue 46 = .ok (.aload_n 0, 1) := by decide +kernel
theorem dX5_caseValue_47 : decode cX5_caseValue 47 = .ok (.getfield 21, 3) := by decide +kernel
theorem dX5_caseValue_50 : decode cX5_caseValue 50 = .ok (.getfield 299, 3) := by decide +kernel
theorem dX5_caseValue_53 : decode cX5_caseValue 53 = .ok (.iload_n 1, 1) := by decide +kernel
theorem dX5_caseValue_54 : decode cX5_caseValue 54 = .ok (.iaload, 1) := by decide +kernel
theorem dX5_caseValue_55 : decode cX5_caseValue 55 = .ok (.ireturn, 1) := by decide +kernel
theorem dX5_caseValue_56 : decode cX5_caseValue 56 = .ok (.aload_n 0, 1) := by decide +kernel
theorem dX5_caseValue_57 : decode cX5_caseValue 57 = .ok (.getfield 21, 3) := by decide +kernel
theorem dX5_caseValue_60 : decode cX5_caseValue 60 = .ok (.getfield 216, 3) := by decide +kernel
theorem dX5_caseValue_63 : decode cX5_caseValue 63 = .ok (.iload_n 1, 1) := by decide +kernel
theorem dX5_caseValue_64 : decode cX5_caseValue 64 = .ok (.iaload, 1) := by decide +kernel
theorem dX5_caseValue_65 : decode cX5_caseValue 65 = .ok (.ireturn, 1) := by decide +kernel
theorem dX5_caseValue_66 : decode cX5_caseValue 66 = .ok (.aload_n 0, 1) := by decide +kernel
theorem dX5_caseValue_67 : decode cX5_caseValue 67 = .ok (.getfield 21, 3) := by decide +kernel
theorem dX5_caseValue_70 : decode cX5_caseValue 70 = .ok (.getfield 300, 3) := by decide +kernel
theorem dX5_caseValue_73 : decode cX5_caseValue 73 = .ok (.iload_n 1, 1) := by decide +kernel
theorem dX5_caseValue_74 : decode cX5_caseValue 74 = .ok (.baload, 1) := by decide +kernel
theorem dX5_caseValue_75 : decode cX5_caseValue 75 = .ok (.ifCond .eq 7, 3) := by decide +kernel
theorem dX5_caseValue_78 : decode cX5_caseValue 78 = .ok (.iconst 1, 1) := by decide +kernel
theorem dX5_caseValue_79 : decode cX5_caseValue 79 = .ok (.goto 4, 3) := by decide +kernel
theorem dX5_caseValue_82 : decode cX5_caseValue 82 = .ok (.iconst 0, 1) := by decide +kernel
theorem dX5_caseValue_83 : decode cX5_caseValue 83 = .ok (.ireturn, 1) := by decide +kernel
theorem dX5_caseValue_84 : decode cX5_caseValue 84 = .ok (.aload_n 0, 1) := by decide +kernel
theorem dX5_caseValue_85 : decode cX5_caseValue 85 = .ok (.aload_n 0, 1) := by decide +kernel
theorem dX5_caseValue_86 : decode cX5_caseValue 86 = .ok (.getfield 21, 3) := by decide +kernel
theorem dX5_caseValue_89 : decode cX5_caseValue 89 = .ok (.getfield 304, 3) := by decide +kernel
theorem dX5_caseValue_92 : decode cX5_caseValue 92 = .ok (.iload_n 1, 1) := by decide +kernel
theorem dX5_caseValue_93 : decode cX5_caseValue 93 = .ok (.iaload, 1) := by decide +kernel
theorem dX5_caseValue_94 : decode cX5_caseValue 94 = .ok (.invokevirtual 296, 3) := by decide +kernel
theorem dX5_caseValue_97 : decode cX5_caseValue 97 = .ok (.ireturn, 1) := by decide +kernel
theorem dX5_numberAt_0 : decode cX5_numberAt 0 = .ok (.iload_n 1, 1) := by decide +kernel
theorem dX5_numberAt_1 : decode cX5_numberAt 1 = .ok (.ifCond .lt 26, 3) := by decide +kernel
theorem dX5_numberAt_4 : decode cX5_numberAt 4 = .ok (.iload_n 1, 1) := by decide +kernel
theorem dX5_numberAt_5 : decode cX5_numberAt 5 = .ok (.aload_n 0, 1) := by decide +kernel
theorem dX5_numberAt_6 : decode cX5_numberAt 6 = .ok (.getfield 10, 3) := by decide +kernel
theorem dX5_numberAt_9 : decode cX5_numberAt 9 = .ok (.getfield 104, 3) := by decide +kernel
theorem dX5_numberAt_12 : decode cX5_numberAt 12 = .ok (.if_icmp .ge 15, 3) := by decide +kernel
theorem dX5_numberAt_15 : decode cX5_numberAt 15 = .ok (.aload_n 0, 1) := by decide +kernel
theorem dX5_numberAt_16 : decode cX5_numberAt 16 = .ok (.getfield 10, 3) := by decide +kernel
theorem dX5_numberAt_19 : decode cX5_numberAt 19 = .ok (.getfield 175, 3) := by decide +kernel
theorem dX5_numberAt_22 : decode cX5_numberAt 22 = .ok (.iload_n 1, 1) := by decide +kernel
theorem dX5_numberAt_23 : decode cX5_numberAt 23 = .ok (.iaload, 1) := by decide +kernel
theorem dX5_numberAt_24 : decode cX5_numberAt 24 = .ok (.goto 4, 3) := by decide +kernel
theorem dX5_numberAt_27 : decode cX5_numberAt 27 = .ok (.iconst (-1), 1) := by decide +kernel
theorem dX5_numberAt_28 : decode cX5_numberAt 28 = .ok (.ireturn, 1) := by decide +kernel
set_option maxRecDepth 20000 in
theorem ggX5_wholeValue_X5_freshCases : GoodIn wsX5_wholeValue wsX5_freshCases := goodIn_r _ [18, 19, 3, 20, 21, 22, 23, 24, 25, 26, 27, 28, 29, 30, 31, 32, 33, 34, 35, 36, 37, 38, 39, 40, 41, 42, 43, 44, 45, 46, 47, 48, 49, 50, 51, 52, 53, 54, 123, 124, 125, 126, 127, 128, 129, 138, 139, 140, 141, 142, 143, 144, 145, 146, 147, 148, 149, 150, 130, 131, 132, 133, 134, 135, 136, 137] (by decide +kernel) (by decide +kernel)
set_option maxRecDepth 20000 in
theorem gX5_wholeValue_X5_freshCases : GoodIn wsX5_wholeValue (wsV RX5 156 RX5 yX5_freshCases wsX5_freshCases) := goodIn_app (goodIn_of _ (by decide +kernel)) ggX5_wholeValue_X5_freshCases
set_option maxRecDepth 20000 in
theorem ggX5_wholeValue_X0_neededRows : GoodIn wsX5_wholeValue wsX0_neededRows := goodIn_r _ [58, 35, 47, 28, 138, 139, 140, 141, 142, 143, 144, 145, 146, 147, 148, 149, 150, 130, 131, 132, 133, 134, 135, 136, 137] (by decide +kernel) (by decide +kernel)
set_option maxRecDepth 20000 in
theorem gX5_wholeValue_X0_neededRows : GoodIn wsX5_wholeValue (wsV RX5 316 RX0 yX0_neededRows wsX0_neededRows) := goodIn_app (goodIn_of _ (by decide +kernel)) ggX5_wholeValue_X0_neededRows
set_option maxRecDepth 20000 in
theorem ggX5_wholeValue_X5_freshPlans : GoodIn wsX5_wholeValue wsX5_freshPlans := goodIn_r _ [62, 63, 9, 14, 15, 16, 17, 18, 19, 3, 20, 21, 22, 23, 24, 25, 26, 27, 28, 29, 30, 31, 32, 33, 34, 35, 36, 37, 38, 39, 40, 41, 42, 43, 44, 45, 46, 47, 48, 49, 50, 51, 52, 53, 54, 64, 65, 66, 67, 68, 69, 70, 71, 72, 73, 74, 75, 76, 77, 78, 79, 80, 81, 82, 83, 84, 85, 86, 87, 88, 89, 90, 91, 92, 93, 94, 95, 96, 97, 98, 99, 100, 101, 102, 103, 104, 105, 106, 107, 123, 124, 125, 126, 127, 128, 129, 138, 139, 140, 141, 142, 143, 144, 145, 146, 147, 148, 149, 150, 130, 131, 132, 133, 134, 135, 136, 137, 151, 152, 153, 154, 155] (by decide +kernel) (by decide +kernel)
set_option maxRecDepth 20000 in
theorem gX5_wholeValue_X5_freshPlans : GoodIn wsX5_wholeValue (wsV RX5 204 RX5 yX5_freshPlans wsX5_freshPlans) := goodIn_app (goodIn_of _ (by decide +kernel)) ggX5_wholeValue_X5_freshPlans
set_option maxRecDepth 20000 in
theorem ggX5_wholeValue_X2_question : GoodIn wsX5_wholeValue wsX2_question := goodIn_r _ [111, 82, 70, 71, 77, 85, 72, 73, 74, 67, 75, 76, 103, 104, 105, 106, 69, 107, 151, 152, 153, 154, 155, 130, 131, 132, 133, 134, 135, 136, 137] (by decide +kernel) (by decide +kernel)
set_option maxRecDepth 20000 in
theorem gX5_wholeValue_X2_question : GoodIn wsX5_wholeValue (wsV RX5 207 RX2 yX2_question wsX2_question) := goodIn_app (goodIn_of _ (by decide +kernel)) ggX5_wholeValue_X2_question
set_option maxRecDepth 20000 in
theorem ggX5_wholeValue_X0_unlikeActions : GoodIn wsX5_wholeValue wsX0_unlikeActions := goodIn_r _ [115, 29, 45, 116, 117, 118, 119, 120, 121, 122, 138, 139, 140, 141, 142, 143, 144, 145, 146, 147, 148, 149, 150] (by decide +kernel) (by decide +kernel)
set_option maxRecDepth 20000 in
theorem gX5_wholeValue_X0_unlikeActions : GoodIn wsX5_wholeValue (wsV RX5 319 RX0 yX0_unlikeActions wsX0_unlikeActions) := goodIn_app (goodIn_of _ (by decide +kernel)) ggX5_wholeValue_X0_unlikeActions
theorem dX5_wholeValue_0 : decode cX5_wholeValue 0 = .ok (.aload_n 0, 1) := by decide +kernel
theorem dX5_wholeValue_1 : decode cX5_wholeValue 1 = .ok (.invokevirtual 156, 3) := by decide +kernel
theorem dX5_wholeValue_4 : decode cX5_wholeValue 4 = .ok (.iload_n 1, 1) := by decide +kernel
theorem dX5_wholeValue_5 : decode cX5_wholeValue 5 = .ok (.tableswitch 158 0 10 #[59, 67, 75, 83, 91, 99, 107, 115, 129, 142, 150], 59) := by decide +kernel
theorem dX5_wholeValue_64 : decode cX5_wholeValue 64 = .ok (.aload_n 0, 1) := by decide +kernel
theorem dX5_wholeValue_65 : decode cX5_wholeValue 65 = .ok (.getfield 10, 3) := by decide +kernel
theorem dX5_wholeValue_68 : decode cX5_wholeValue 68 = .ok (.getfield 66, 3) := by decide +kernel
theorem dX5_wholeValue_71 : decode cX5_wholeValue 71 = .ok (.ireturn, 1) := by decide +kernel
theorem dX5_wholeValue_72 : decode cX5_wholeValue 72 = .ok (.aload_n 0, 1) := by decide +kernel
theorem dX5_wholeValue_73 : decode cX5_wholeValue 73 = .ok (.getfield 21, 3) := by decide +kernel
theorem dX5_wholeValue_76 : decode cX5_wholeValue 76 = .ok (.getfield 263, 3) := by decide +kernel
theorem dX5_wholeValue_79 : decode cX5_wholeValue 79 = .ok (.ireturn, 1) := by decide +kernel
theorem dX5_wholeValue_80 : decode cX5_wholeValue 80 = .ok (.aload_n 0, 1) := by decide +kernel
theorem dX5_wholeValue_81 : decode cX5_wholeValue 81 = .ok (.getfield 10, 3) := by decide +kernel
theorem dX5_wholeValue_84 : decode cX5_wholeValue 84 = .ok (.getfield 104, 3) := by decide +kernel
theorem dX5_wholeValue_87 : decode cX5_wholeValue 87 = .ok (.ireturn, 1) := by decide +kernel
theorem dX5_wholeValue_88 : decode cX5_wholeValue 88 = .ok (.aload_n 0, 1) := by decide +kernel
theorem dX5_wholeValue_89 : decode cX5_wholeValue 89 = .ok (.getfield 21, 3) := by decide +kernel
theorem dX5_wholeValue_92 : decode cX5_wholeValue 92 = .ok (.getfield 307, 3) := by decide +kernel
theorem dX5_wholeValue_95 : decode cX5_wholeValue 95 = .ok (.ireturn, 1) := by decide +kernel
theorem dX5_wholeValue_96 : decode cX5_wholeValue 96 = .ok (.aload_n 0, 1) := by decide +kernel
theorem dX5_wholeValue_97 : decode cX5_wholeValue 97 = .ok (.getfield 21, 3) := by decide +kernel
theorem dX5_wholeValue_100 : decode cX5_wholeValue 100 = .ok (.getfield 310, 3) := by decide +kernel
theorem dX5_wholeValue_103 : decode cX5_wholeValue 103 = .ok (.ireturn, 1) := by decide +kernel
theorem dX5_wholeValue_104 : decode cX5_wholeValue 104 = .ok (.aload_n 0, 1) := by decide +kernel
theorem dX5_wholeValue_105 : decode cX5_wholeValue 105 = .ok (.getfield 21, 3) := by decide +kernel
theorem dX5_wholeValue_108 : decode cX5_wholeValue 108 = .ok (.getfield 313, 3) := by decide +kernel
theorem dX5_wholeValue_111 : decode cX5_wholeValue 111 = .ok (.ireturn, 1) := by decide +kernel
theorem dX5_wholeValue_112 : decode cX5_wholeValue 112 = .ok (.aload_n 0, 1) := by decide +kernel
theorem dX5_wholeValue_113 : decode cX5_wholeValue 113 = .ok (.getfield 21, 3) := by decide +kernel
theorem dX5_wholeValue_116 : decode cX5_wholeValue 116 = .ok (.invokevirtual 316, 3) := by decide +kernel
theorem dX5_wholeValue_119 : decode cX5_wholeValue 119 = .ok (.ireturn, 1) := by decide +kernel
theorem dX5_wholeValue_120 : decode cX5_wholeValue 120 = .ok (.aload_n 0, 1) := by decide +kernel
theorem dX5_wholeValue_121 : decode cX5_wholeValue 121 = .ok (.invokevirtual 204, 3) := by decide +kernel
theorem dX5_wholeValue_124 : decode cX5_wholeValue 124 = .ok (.aload_n 0, 1) := by decide +kernel
theorem dX5_wholeValue_125 : decode cX5_wholeValue 125 = .ok (.getfield 30, 3) := by decide +kernel
theorem dX5_wholeValue_128 : decode cX5_wholeValue 128 = .ok (.getfield 210, 3) := by decide +kernel
theorem dX5_wholeValue_131 : decode cX5_wholeValue 131 = .ok (.iconst 0, 1) := by decide +kernel
theorem dX5_wholeValue_132 : decode cX5_wholeValue 132 = .ok (.iaload, 1) := by decide +kernel
theorem dX5_wholeValue_133 : decode cX5_wholeValue 133 = .ok (.ireturn, 1) := by decide +kernel
theorem dX5_wholeValue_134 : decode cX5_wholeValue 134 = .ok (.aload_n 0, 1) := by decide +kernel
theorem dX5_wholeValue_135 : decode cX5_wholeValue 135 = .ok (.invokevirtual 204, 3) := by decide +kernel
theorem dX5_wholeValue_138 : decode cX5_wholeValue 138 = .ok (.aload_n 0, 1) := by decide +kernel
theorem dX5_wholeValue_139 : decode cX5_wholeValue 139 = .ok (.getfield 30, 3) := by decide +kernel
theorem dX5_wholeValue_142 : decode cX5_wholeValue 142 = .ok (.iconst 0, 1) := by decide +kernel
theorem dX5_wholeValue_143 : decode cX5_wholeValue 143 = .ok (.invokevirtual 207, 3) := by decide +kernel
theorem dX5_wholeValue_146 : decode cX5_wholeValue 146 = .ok (.ireturn, 1) := by decide +kernel
theorem dX5_wholeValue_147 : decode cX5_wholeValue 147 = .ok (.aload_n 0, 1) := by decide +kernel
theorem dX5_wholeValue_148 : decode cX5_wholeValue 148 = .ok (.getfield 21, 3) := by decide +kernel
theorem dX5_wholeValue_151 : decode cX5_wholeValue 151 = .ok (.invokevirtual 319, 3) := by decide +kernel
theorem dX5_wholeValue_154 : decode cX5_wholeValue 154 = .ok (.ireturn, 1) := by decide +kernel
theorem dX5_wholeValue_155 : decode cX5_wholeValue 155 = .ok (.aload_n 0, 1) := by decide +kernel
theorem dX5_wholeValue_156 : decode cX5_wholeValue 156 = .ok (.getfield 10, 3) := by decide +kernel
theorem dX5_wholeValue_159 : decode cX5_wholeValue 159 = .ok (.getfield 322, 3) := by decide +kernel
theorem dX5_wholeValue_162 : decode cX5_wholeValue 162 = .ok (.ireturn, 1) := by decide +kernel
theorem dX5_wholeValue_163 : decode cX5_wholeValue 163 = .ok (.aload_n 0, 1) := by decide +kernel
theorem dX5_wholeValue_164 : decode cX5_wholeValue 164 = .ok (.getfield 44, 3) := by decide +kernel
theorem dX5_wholeValue_167 : decode cX5_wholeValue 167 = .ok (.getfield 224, 3) := by decide +kernel
theorem dX5_wholeValue_170 : decode cX5_wholeValue 170 = .ok (.ireturn, 1) := by decide +kernel
