theorem dX6_init_0 : decode cX6_init 0 = .ok (.aload_n 0, 1) := by decide +kernel
theorem dX6_init_1 : decode cX6_init 1 = .ok (.invokespecial 1, 3) := by decide +kernel
theorem dX6_init_4 : decode cX6_init 4 = .ok (.aload_n 0, 1) := by decide +kernel
theorem dX6_init_5 : decode cX6_init 5 = .ok (.bipush 73, 2) := by decide +kernel
theorem dX6_init_7 : decode cX6_init 7 = .ok (.newarray .int, 2) := by decide +kernel
theorem dX6_init_9 : decode cX6_init 9 = .ok (.putfield 7, 3) := by decide +kernel
theorem dX6_init_12 : decode cX6_init 12 = .ok (.aload_n 0, 1) := by decide +kernel
theorem dX6_init_13 : decode cX6_init 13 = .ok (.sipush 292, 3) := by decide +kernel
theorem dX6_init_16 : decode cX6_init 16 = .ok (.newarray .int, 2) := by decide +kernel
theorem dX6_init_18 : decode cX6_init 18 = .ok (.putfield 13, 3) := by decide +kernel
theorem dX6_init_21 : decode cX6_init 21 = .ok (.aload_n 0, 1) := by decide +kernel
theorem dX6_init_22 : decode cX6_init 22 = .ok (.sipush 150, 3) := by decide +kernel
theorem dX6_init_25 : decode cX6_init 25 = .ok (.newarray .int, 2) := by decide +kernel
theorem dX6_init_27 : decode cX6_init 27 = .ok (.putfield 16, 3) := by decide +kernel
theorem dX6_init_30 : decode cX6_init 30 = .ok (.aload_n 0, 1) := by decide +kernel
theorem dX6_init_31 : decode cX6_init 31 = .ok (.sipush 1024, 3) := by decide +kernel
theorem dX6_init_34 : decode cX6_init 34 = .ok (.newarray .int, 2) := by decide +kernel
theorem dX6_init_36 : decode cX6_init 36 = .ok (.putfield 19, 3) := by decide +kernel
theorem dX6_init_39 : decode cX6_init 39 = .ok (.aload_n 0, 1) := by decide +kernel
theorem dX6_init_40 : decode cX6_init 40 = .ok (.sipush 1024, 3) := by decide +kernel
theorem dX6_init_43 : decode cX6_init 43 = .ok (.newarray .int, 2) := by decide +kernel
theorem dX6_init_45 : decode cX6_init 45 = .ok (.putfield 22, 3) := by decide +kernel
theorem dX6_init_48 : decode cX6_init 48 = .ok (.aload_n 0, 1) := by decide +kernel
theorem dX6_init_49 : decode cX6_init 49 = .ok (.sipush 1024, 3) := by decide +kernel
theorem dX6_init_52 : decode cX6_init 52 = .ok (.newarray .int, 2) := by decide +kernel
theorem dX6_init_54 : decode cX6_init 54 = .ok (.putfield 25, 3) := by decide +kernel
theorem dX6_init_57 : decode cX6_init 57 = .ok (.aload_n 0, 1) := by decide +kernel
theorem dX6_init_58 : decode cX6_init 58 = .ok (.sipush 1024, 3) := by decide +kernel
theorem dX6_init_61 : decode cX6_init 61 = .ok (.newarray .int, 2) := by decide +kernel
theorem dX6_init_63 : decode cX6_init 63 = .ok (.putfield 28, 3) := by decide +kernel
theorem dX6_init_66 : decode cX6_init 66 = .ok (.aload_n 0, 1) := by decide +kernel
theorem dX6_init_67 : decode cX6_init 67 = .ok (.sipush 3125, 3) := by decide +kernel
theorem dX6_init_70 : decode cX6_init 70 = .ok (.newarray .int, 2) := by decide +kernel
theorem dX6_init_72 : decode cX6_init 72 = .ok (.putfield 31, 3) := by decide +kernel
theorem dX6_init_75 : decode cX6_init 75 = .ok (.aload_n 0, 1) := by decide +kernel
theorem dX6_init_76 : decode cX6_init 76 = .ok (.sipush 3125, 3) := by decide +kernel
theorem dX6_init_79 : decode cX6_init 79 = .ok (.newarray .int, 2) := by decide +kernel
theorem dX6_init_81 : decode cX6_init 81 = .ok (.putfield 34, 3) := by decide +kernel
theorem dX6_init_84 : decode cX6_init 84 = .ok (.aload_n 0, 1) := by decide +kernel
theorem dX6_init_85 : decode cX6_init 85 = .ok (.sipush 3125, 3) := by decide +kernel
theorem dX6_init_88 : decode cX6_init 88 = .ok (.newarray .int, 2) := by decide +kernel
theorem dX6_init_90 : decode cX6_init 90 = .ok (.putfield 37, 3) := by decide +kernel
theorem dX6_init_93 : decode cX6_init 93 = .ok (.aload_n 0, 1) := by decide +kernel
theorem dX6_init_94 : decode cX6_init 94 = .ok (.bipush 6, 2) := by decide +kernel
theorem dX6_init_96 : decode cX6_init 96 = .ok (.newarray .int, 2) := by decide +kernel
theorem dX6_init_98 : decode cX6_init 98 = .ok (.putfield 40, 3) := by decide +kernel
theorem dX6_init_101 : decode cX6_init 101 = .ok (.aload_n 0, 1) := by decide +kernel
theorem dX6_init_102 : decode cX6_init 102 = .ok (.bipush 120, 2) := by decide +kernel
theorem dX6_init_104 : decode cX6_init 104 = .ok (.newarray .int, 2) := by decide +kernel
theorem dX6_init_106 : decode cX6_init 106 = .ok (.putfield 43, 3) := by decide +kernel
theorem dX6_init_109 : decode cX6_init 109 = .ok (.return_, 1) := by decide +kernel
theorem dX6_thrown_0 : decode cX6_thrown 0 = .ok (.aload_n 0, 1) := by decide +kernel
theorem dX6_thrown_1 : decode cX6_thrown 1 = .ok (.getfield 46, 3) := by decide +kernel
theorem dX6_thrown_4 : decode cX6_thrown 4 = .ok (.ireturn, 1) := by decide +kernel
theorem dX6_throwing_0 : decode cX6_throwing 0 = .ok (.aload_n 0, 1) := by decide +kernel
theorem dX6_throwing_1 : decode cX6_throwing 1 = .ok (.iload_n 1, 1) := by decide +kernel
theorem dX6_throwing_2 : decode cX6_throwing 2 = .ok (.ifCond .eq 7, 3) := by decide +kernel
theorem dX6_throwing_5 : decode cX6_throwing 5 = .ok (.iconst 1, 1) := by decide +kernel
theorem dX6_throwing_6 : decode cX6_throwing 6 = .ok (.goto 12, 3) := by decide +kernel
theorem dX6_throwing_9 : decode cX6_throwing 9 = .ok (.iload_n 2, 1) := by decide +kernel
theorem dX6_throwing_10 : decode cX6_throwing 10 = .ok (.ifCond .eq 7, 3) := by decide +kernel
theorem dX6_throwing_13 : decode cX6_throwing 13 = .ok (.iconst 2, 1) := by decide +kernel
theorem dX6_throwing_14 : decode cX6_throwing 14 = .ok (.goto 4, 3) := by decide +kernel
theorem dX6_throwing_17 : decode cX6_throwing 17 = .ok (.iconst 0, 1) := by decide +kernel
theorem dX6_throwing_18 : decode cX6_throwing 18 = .ok (.putfield 46, 3) := by decide +kernel
theorem dX6_throwing_21 : decode cX6_throwing 21 = .ok (.aload_n 0, 1) := by decide +kernel
theorem dX6_throwing_22 : decode cX6_throwing 22 = .ok (.getfield 46, 3) := by decide +kernel
theorem dX6_throwing_25 : decode cX6_throwing 25 = .ok (.ifCond .le 7, 3) := by decide +kernel
theorem dX6_throwing_28 : decode cX6_throwing 28 = .ok (.iconst 1, 1) := by decide +kernel
theorem dX6_throwing_29 : decode cX6_throwing 29 = .ok (.goto 4, 3) := by decide +kernel
theorem dX6_throwing_32 : decode cX6_throwing 32 = .ok (.iconst 0, 1) := by decide +kernel
theorem dX6_throwing_33 : decode cX6_throwing 33 = .ok (.ireturn, 1) := by decide +kernel
theorem dX6_in_0 : decode cX6_in 0 = .ok (.iload_n 0, 1) := by decide +kernel
theorem dX6_in_1 : decode cX6_in 1 = .ok (.iload_n 1, 1) := by decide +kernel
theorem dX6_in_2 : decode cX6_in 2 = .ok (.if_icmp .lt 12, 3) := by decide +kernel
theorem dX6_in_5 : decode cX6_in 5 = .ok (.iload_n 0, 1) := by decide +kernel
theorem dX6_in_6 : decode cX6_in 6 = .ok (.iload_n 2, 1) := by decide +kernel
theorem dX6_in_7 : decode cX6_in 7 = .ok (.if_icmp .gt 7, 3) := by decide +kernel
theorem dX6_in_10 : decode cX6_in 10 = .ok (.iconst 1, 1) := by decide +kernel
theorem dX6_in_11 : decode cX6_in 11 = .ok (.goto 4, 3) := by decide +kernel
theorem dX6_in_14 : decode cX6_in 14 = .ok (.iconst 0, 1) := by decide +kernel
theorem dX6_in_15 : decode cX6_in 15 = .ok (.ireturn, 1) := by decide +kernel
theorem dX6_has_0 : decode cX6_has 0 = .ok (.iload_n 0, 1) := by decide +kernel
theorem dX6_has_1 : decode cX6_has 1 = .ok (.iload_n 1, 1) := by decide +kernel
theorem dX6_has_2 : decode cX6_has 2 = .ok (.ishr, 1) := by decide +kernel
theorem dX6_has_3 : decode cX6_has 3 = .ok (.iconst 1, 1) := by decide +kernel
theorem dX6_has_4 : decode cX6_has 4 = .ok (.iand, 1) := by decide +kernel
theorem dX6_has_5 : decode cX6_has 5 = .ok (.iconst 1, 1) := by decide +kernel
theorem dX6_has_6 : decode cX6_has 6 = .ok (.if_icmp .ne 7, 3) := by decide +kernel
theorem dX6_has_9 : decode cX6_has 9 = .ok (.iconst 1, 1) := by decide +kernel
theorem dX6_has_10 : decode cX6_has 10 = .ok (.goto 4, 3) := by decide +kernel
theorem dX6_has_13 : decode cX6_has 13 = .ok (.iconst 0, 1) := by decide +kernel
theorem dX6_has_14 : decode cX6_has 14 = .ok (.ireturn, 1) := by decide +kernel
theorem dX6_bits_0 : decode cX6_bits 0 = .ok (.iconst 0, 1) := by decide +kernel
theorem dX6_bits_1 : decode cX6_bits 1 = .ok (.istore_n 1, 1) := by decide +kernel
theorem dX6_bits_2 : decode cX6_bits 2 = .ok (.iconst 0, 1) := by decide +kernel
theorem dX6_bits_3 : decode cX6_bits 3 = .ok (.istore_n 2, 1) := by decide +kernel
theorem dX6_bits_4 : decode cX6_bits 4 = .ok (.iload_n 2, 1) := by decide +kernel
theorem dX6_bits_5 : decode cX6_bits 5 = .ok (.iconst 4, 1) := by decide +kernel
theorem dX6_bits_6 : decode cX6_bits 6 = .ok (.if_icmp .ge 17, 3) := by decide +kernel
theorem dX6_bits_9 : decode cX6_bits 9 = .ok (.iload_n 1, 1) := by decide +kernel
theorem dX6_bits_10 : decode cX6_bits 10 = .ok (.iload_n 0, 1) := by decide +kernel
theorem dX6_bits_11 : decode cX6_bits 11 = .ok (.iload_n 2, 1) := by decide +kernel
theorem dX6_bits_12 : decode cX6_bits 12 = .ok (.ishr, 1) := by decide +kernel
theorem dX6_bits_13 : decode cX6_bits 13 = .ok (.iconst 1, 1) := by decide +kernel
theorem dX6_bits_14 : decode cX6_bits 14 = .ok (.iand, 1) := by decide +kernel
theorem dX6_bits_15 : decode cX6_bits 15 = .ok (.iadd, 1) := by decide +kernel
theorem dX6_bits_16 : decode cX6_bits 16 = .ok (.istore_n 1, 1) := by decide +kernel
theorem dX6_bits_17 : decode cX6_bits 17 = .ok (.iinc 2 1, 3) := by decide +kernel
theorem dX6_bits_20 : decode cX6_bits 20 = .ok (.goto (-16), 3) := by decide +kernel
theorem dX6_bits_23 : decode cX6_bits 23 = .ok (.iload_n 1, 1) := by decide +kernel
theorem dX6_bits_24 : decode cX6_bits 24 = .ok (.ireturn, 1) := by decide +kernel
theorem dX6_answersOf_0 : decode cX6_answersOf 0 = .ok (.aload_n 0, 1) := by decide +kernel
theorem dX6_answersOf_1 : decode cX6_answersOf 1 = .ok (.getfield 7, 3) := by decide +kernel
theorem dX6_answersOf_4 : decode cX6_answersOf 4 = .ok (.iconst 3, 1) := by decide +kernel
theorem dX6_answersOf_5 : decode cX6_answersOf 5 = .ok (.iload_n 1, 1) := by decide +kernel
theorem dX6_answersOf_6 : decode cX6_answersOf 6 = .ok (.iadd, 1) := by decide +kernel
theorem dX6_answersOf_7 : decode cX6_answersOf 7 = .ok (.iaload, 1) := by decide +kernel
theorem dX6_answersOf_8 : decode cX6_answersOf 8 = .ok (.ireturn, 1) := by decide +kernel
theorem dX6_r_0 : decode cX6_r 0 = .ok (.bipush 13, 2) := by decide +kernel
theorem dX6_r_2 : decode cX6_r 2 = .ok (.iconst 3, 1) := by decide +kernel
theorem dX6_r_3 : decode cX6_r 3 = .ok (.iload_n 0, 1) := by decide +kernel
theorem dX6_r_4 : decode cX6_r 4 = .ok (.imul, 1) := by decide +kernel
theorem dX6_r_5 : decode cX6_r 5 = .ok (.iadd, 1) := by decide +kernel
theorem dX6_r_6 : decode cX6_r 6 = .ok (.iload_n 1, 1) := by decide +kernel
theorem dX6_r_7 : decode cX6_r 7 = .ok (.iadd, 1) := by decide +kernel
theorem dX6_r_8 : decode cX6_r 8 = .ok (.ireturn, 1) := by decide +kernel
set_option maxRecDepth 20000 in
theorem ggX6_setOf_X6_r : GoodIn wsX6_setOf wsX6_r := goodIn_r _ [5] (by decide +kernel) (by decide +kernel)
set_option maxRecDepth 20000 in
theorem gX6_setOf_X6_r : GoodIn wsX6_setOf (va_wsS RX6 50 yX6_r wsX6_r) := goodIn_app (goodIn_of _ (by decide +kernel)) ggX6_setOf_X6_r
theorem dX6_setOf_0 : decode cX6_setOf 0 = .ok (.aload_n 0, 1) := by decide +kernel
theorem dX6_setOf_1 : decode cX6_setOf 1 = .ok (.getfield 7, 3) := by decide +kernel
theorem dX6_setOf_4 : decode cX6_setOf 4 = .ok (.iload_n 1, 1) := by decide +kernel
theorem dX6_setOf_5 : decode cX6_setOf 5 = .ok (.iconst 2, 1) := by decide +kernel
theorem dX6_setOf_6 : decode cX6_setOf 6 = .ok (.invokestatic 50, 3) := by decide +kernel
theorem dX6_setOf_9 : decode cX6_setOf 9 = .ok (.iaload, 1) := by decide +kernel
theorem dX6_setOf_10 : decode cX6_setOf 10 = .ok (.iconst 4, 1) := by decide +kernel
theorem dX6_setOf_11 : decode cX6_setOf 11 = .ok (.iload_n 2, 1) := by decide +kernel
theorem dX6_setOf_12 : decode cX6_setOf 12 = .ok (.imul, 1) := by decide +kernel
theorem dX6_setOf_13 : decode cX6_setOf 13 = .ok (.ishr, 1) := by decide +kernel
theorem dX6_setOf_14 : decode cX6_setOf 14 = .ok (.bipush 15, 2) := by decide +kernel
theorem dX6_setOf_16 : decode cX6_setOf 16 = .ok (.iand, 1) := by decide +kernel
theorem dX6_setOf_17 : decode cX6_setOf 17 = .ok (.ireturn, 1) := by decide +kernel
set_option maxRecDepth 20000 in
theorem ggX6_placeOf_X6_r : GoodIn wsX6_placeOf wsX6_r := goodIn_r _ [5] (by decide +kernel) (by decide +kernel)
set_option maxRecDepth 20000 in
theorem gX6_placeOf_X6_r : GoodIn wsX6_placeOf (va_wsS RX6 50 yX6_r wsX6_r) := goodIn_app (goodIn_of _ (by decide +kernel)) ggX6_placeOf_X6_r
theorem dX6_placeOf_0 : decode cX6_placeOf 0 = .ok (.iconst 0, 1) := by decide +kernel
theorem dX6_placeOf_1 : decode cX6_placeOf 1 = .ok (.istore_n 2, 1) := by decide +kernel
theorem dX6_placeOf_2 : decode cX6_placeOf 2 = .ok (.iload_n 2, 1) := by decide +kernel
theorem dX6_placeOf_3 : decode cX6_placeOf 3 = .ok (.aload_n 0, 1) := by decide +kernel
theorem dX6_placeOf_4 : decode cX6_placeOf 4 = .ok (.getfield 7, 3) := by decide +kernel
theorem dX6_placeOf_7 : decode cX6_placeOf 7 = .ok (.iconst 1, 1) := by decide +kernel
theorem dX6_placeOf_8 : decode cX6_placeOf 8 = .ok (.iaload, 1) := by decide +kernel
theorem dX6_placeOf_9 : decode cX6_placeOf 9 = .ok (.if_icmp .ge 25, 3) := by decide +kernel
theorem dX6_placeOf_12 : decode cX6_placeOf 12 = .ok (.aload_n 0, 1) := by decide +kernel
theorem dX6_placeOf_13 : decode cX6_placeOf 13 = .ok (.getfield 7, 3) := by decide +kernel
theorem dX6_placeOf_16 : decode cX6_placeOf 16 = .ok (.iload_n 2, 1) := by decide +kernel
theorem dX6_placeOf_17 : decode cX6_placeOf 17 = .ok (.iconst 0, 1) := by decide +kernel
theorem dX6_placeOf_18 : decode cX6_placeOf 18 = .ok (.invokestatic 50, 3) := by decide +kernel
theorem dX6_placeOf_21 : decode cX6_placeOf 21 = .ok (.iaload, 1) := by decide +kernel
theorem dX6_placeOf_22 : decode cX6_placeOf 22 = .ok (.iload_n 1, 1) := by decide +kernel
theorem dX6_placeOf_23 : decode cX6_placeOf 23 = .ok (.if_icmp .ne 5, 3) := by decide +kernel
theorem dX6_placeOf_26 : decode cX6_placeOf 26 = .ok (.iload_n 2, 1) := by decide +kernel
theorem dX6_placeOf_27 : decode cX6_placeOf 27 = .ok (.ireturn, 1) := by decide +kernel
theorem dX6_placeOf_28 : decode cX6_placeOf 28 = .ok (.iinc 2 1, 3) := by decide +kernel
theorem dX6_placeOf_31 : decode cX6_placeOf 31 = .ok (.goto (-29), 3) := by decide +kernel
theorem dX6_placeOf_34 : decode cX6_placeOf 34 = .ok (.iconst (-1), 1) := by decide +kernel
theorem dX6_placeOf_35 : decode cX6_placeOf 35 = .ok (.ireturn, 1) := by decide +kernel
set_option maxRecDepth 20000 in
theorem ggX6_isCondition_X6_in : GoodIn wsX6_isCondition wsX6_in := goodIn_r _ [5] (by decide +kernel) (by decide +kernel)
set_option maxRecDepth 20000 in
theorem gX6_isCondition_X6_in : GoodIn wsX6_isCondition (va_wsS RX6 54 yX6_in wsX6_in) := goodIn_app (goodIn_of _ (by decide +kernel)) ggX6_isCondition_X6_in
theorem dX6_isCondition_0 : decode cX6_isCondition 0 = .ok (.iload_n 1, 1) := by decide +kernel
theorem dX6_isCondition_1 : decode cX6_isCondition 1 = .ok (.iconst 0, 1) := by decide +kernel
theorem dX6_isCondition_2 : decode cX6_isCondition 2 = .ok (.aload_n 0, 1) := by decide +kernel
theorem dX6_isCondition_3 : decode cX6_isCondition 3 = .ok (.getfield 7, 3) := by decide +kernel
theorem dX6_isCondition_6 : decode cX6_isCondition 6 = .ok (.iconst 0, 1) := by decide +kernel
theorem dX6_isCondition_7 : decode cX6_isCondition 7 = .ok (.iaload, 1) := by decide +kernel
theorem dX6_isCondition_8 : decode cX6_isCondition 8 = .ok (.iconst 1, 1) := by decide +kernel
theorem dX6_isCondition_9 : decode cX6_isCondition 9 = .ok (.isub, 1) := by decide +kernel
theorem dX6_isCondition_10 : decode cX6_isCondition 10 = .ok (.invokestatic 54, 3) := by decide +kernel
theorem dX6_isCondition_13 : decode cX6_isCondition 13 = .ok (.ireturn, 1) := by decide +kernel
set_option maxRecDepth 20000 in
theorem ggX6_cases_X6_answersOf : GoodIn wsX6_cases wsX6_answersOf := goodIn_r _ [6, 1, 7, 8, 9, 10, 11, 12, 13, 14, 15, 16, 17, 18, 19, 20, 21, 22, 23, 24] (by decide +kernel) (by decide +kernel)
set_option maxRecDepth 20000 in
theorem gX6_cases_X6_answersOf : GoodIn wsX6_cases (wsV RX6 58 RX6 yX6_answersOf wsX6_answersOf) := goodIn_app (goodIn_of _ (by decide +kernel)) ggX6_cases_X6_answersOf
theorem dX6_cases_0 : decode cX6_cases 0 = .ok (.iconst 1, 1) := by decide +kernel
theorem dX6_cases_1 : decode cX6_cases 1 = .ok (.istore_n 1, 1) := by decide +kernel
theorem dX6_cases_2 : decode cX6_cases 2 = .ok (.iconst 0, 1) := by decide +kernel
theorem dX6_cases_3 : decode cX6_cases 3 = .ok (.istore_n 2, 1) := by decide +kernel
theorem dX6_cases_4 : decode cX6_cases 4 = .ok (.iload_n 2, 1) := by decide +kernel
theorem dX6_cases_5 : decode cX6_cases 5 = .ok (.aload_n 0, 1) := by decide +kernel
theorem dX6_cases_6 : decode cX6_cases 6 = .ok (.getfield 7, 3) := by decide +kernel
theorem dX6_cases_9 : decode cX6_cases 9 = .ok (.iconst 0, 1) := by decide +kernel
theorem dX6_cases_10 : decode cX6_cases 10 = .ok (.iaload, 1) := by decide +kernel
theorem dX6_cases_11 : decode cX6_cases 11 = .ok (.if_icmp .ge 17, 3) := by decide +kernel
theorem dX6_cases_14 : decode cX6_cases 14 = .ok (.iload_n 1, 1) := by decide +kernel
theorem dX6_cases_15 : decode cX6_cases 15 = .ok (.aload_n 0, 1) := by decide +kernel
theorem dX6_cases_16 : decode cX6_cases 16 = .ok (.iload_n 2, 1) := by decide +kernel
theorem dX6_cases_17 : decode cX6_cases 17 = .ok (.invokevirtual 58, 3) := by decide +kernel
theorem dX6_cases_20 : decode cX6_cases 20 = .ok (.imul, 1) := by decide +kernel
theorem dX6_cases_21 : decode cX6_cases 21 = .ok (.istore_n 1, 1) := by decide +kernel
theorem dX6_cases_22 : decode cX6_cases 22 = .ok (.iinc 2 1, 3) := by decide +kernel
theorem dX6_cases_25 : decode cX6_cases 25 = .ok (.goto (-21), 3) := by decide +kernel
theorem dX6_cases_28 : decode cX6_cases 28 = .ok (.iload_n 1, 1) := by decide +kernel
theorem dX6_cases_29 : decode cX6_cases 29 = .ok (.ireturn, 1) := by decide +kernel
set_option maxRecDepth 20000 in
theorem ggX6_answer_X6_answersOf : GoodIn wsX6_answer wsX6_answersOf := goodIn_r _ [5, 6, 7, 8, 9, 10, 11, 12, 13, 14, 15, 16, 17, 18, 19, 20, 21, 22, 23, 24] (by decide +kernel) (by decide +kernel)
set_option maxRecDepth 20000 in
theorem gX6_answer_X6_answersOf : GoodIn wsX6_answer (wsV RX6 58 RX6 yX6_answersOf wsX6_answersOf) := goodIn_app (goodIn_of _ (by decide +kernel)) ggX6_answer_X6_answersOf
theorem dX6_answer_0 : decode cX6_answer 0 = .ok (.iload_n 1, 1) := by decide +kernel
theorem dX6_answer_1 : decode cX6_answer 1 = .ok (.istore_n 3, 1) := by decide +kernel
theorem dX6_answer_2 : decode cX6_answer 2 = .ok (.iconst 0, 1) := by decide +kernel
theorem dX6_answer_3 : decode cX6_answer 3 = .ok (.istore 4, 2) := by decide +kernel
theorem dX6_answer_5 : decode cX6_answer 5 = .ok (.iload 4, 2) := by decide +kernel
theorem dX6_answer_7 : decode cX6_answer 7 = .ok (.iload_n 2, 1) := by decide +kernel
theorem dX6_answer_8 : decode cX6_answer 8 = .ok (.if_icmp .ge 18, 3) := by decide +kernel
theorem dX6_answer_11 : decode cX6_answer 11 = .ok (.iload_n 3, 1) := by decide +kernel
theorem dX6_answer_12 : decode cX6_answer 12 = .ok (.aload_n 0, 1) := by decide +kernel
theorem dX6_answer_13 : decode cX6_answer 13 = .ok (.iload 4, 2) := by decide +kernel
theorem dX6_answer_15 : decode cX6_answer 15 = .ok (.invokevirtual 58, 3) := by decide +kernel
theorem dX6_answer_18 : decode cX6_answer 18 = .ok (.idiv, 1) := by decide +kernel
theorem dX6_answer_19 : decode cX6_answer 19 = .ok (.istore_n 3, 1) := by decide +kernel
theorem dX6_answer_20 : decode cX6_answer 20 = .ok (.iinc 4 1, 3) := by decide +kernel
theorem dX6_answer_23 : decode cX6_answer 23 = .ok (.goto (-18), 3) := by decide +kernel
theorem dX6_answer_26 : decode cX6_answer 26 = .ok (.iload_n 3, 1) := by decide +kernel
theorem dX6_answer_27 : decode cX6_answer 27 = .ok (.aload_n 0, 1) := by decide +kernel
theorem dX6_answer_28 : decode cX6_answer 28 = .ok (.iload_n 2, 1) := by decide +kernel
theorem dX6_answer_29 : decode cX6_answer 29 = .ok (.invokevirtual 58, 3) := by decide +kernel
theorem dX6_answer_32 : decode cX6_answer 32 = .ok (.irem, 1) := by decide +kernel
theorem dX6_answer_33 : decode cX6_answer 33 = .ok (.ireturn, 1) := by decide +kernel
theorem dX6_keeps_0 : decode cX6_keeps 0 = .ok (.aload_n 0, 1) := by decide +kernel
theorem dX6_keeps_1 : decode cX6_keeps 1 = .ok (.getfield 62, 3) := by decide +kernel
theorem dX6_keeps_4 : decode cX6_keeps 4 = .ok (.iconst 4, 1) := by decide +kernel
theorem dX6_keeps_5 : decode cX6_keeps 5 = .ok (.if_icmp .ne 43, 3) := by decide +kernel
theorem dX6_keeps_8 : decode cX6_keeps 8 = .ok (.iconst 0, 1) := by decide +kernel
theorem dX6_keeps_9 : decode cX6_keeps 9 = .ok (.istore_n 1, 1) := by decide +kernel
theorem dX6_keeps_10 : decode cX6_keeps 10 = .ok (.iload_n 1, 1) := by decide +kernel
theorem dX6_keeps_11 : decode cX6_keeps 11 = .ok (.sipush 219, 3) := by decide +kernel
theorem dX6_keeps_14 : decode cX6_keeps 14 = .ok (.if_icmp .ge 24, 3) := by decide +kernel
theorem dX6_keeps_17 : decode cX6_keeps 17 = .ok (.aload_n 0, 1) := by decide +kernel
theorem dX6_keeps_18 : decode cX6_keeps 18 = .ok (.getfield 13, 3) := by decide +kernel
theorem dX6_keeps_21 : decode cX6_keeps 21 = .ok (.iload_n 1, 1) := by decide +kernel
theorem dX6_keeps_22 : decode cX6_keeps 22 = .ok (.aload_n 0, 1) := by decide +kernel
theorem dX6_keeps_23 : decode cX6_keeps 23 = .ok (.getfield 13, 3) := by decide +kernel
theorem dX6_keeps_26 : decode cX6_keeps 26 = .ok (.iload_n 1, 1) := by decide +kernel
theorem dX6_keeps_27 : decode cX6_keeps 27 = .ok (.bipush 73, 2) := by decide +kernel
theorem dX6_keeps_29 : decode cX6_keeps 29 = .ok (.iadd, 1) := by decide +kernel
theorem dX6_keeps_30 : decode cX6_keeps 30 = .ok (.iaload, 1) := by decide +kernel
theorem dX6_keeps_31 : decode cX6_keeps 31 = .ok (.iastore, 1) := by decide +kernel
theorem dX6_keeps_32 : decode cX6_keeps 32 = .ok (.iinc 1 1, 3) := by decide +kernel
theorem dX6_keeps_35 : decode cX6_keeps 35 = .ok (.goto (-25), 3) := by decide +kernel
theorem dX6_keeps_38 : decode cX6_keeps 38 = .ok (.aload_n 0, 1) := by decide +kernel
theorem dX6_keeps_39 : decode cX6_keeps 39 = .ok (.dup, 1) := by decide +kernel
theorem dX6_keeps_40 : decode cX6_keeps 40 = .ok (.getfield 62, 3) := by decide +kernel
theorem dX6_keeps_43 : decode cX6_keeps 43 = .ok (.iconst 1, 1) := by decide +kernel
theorem dX6_keeps_44 : decode cX6_keeps 44 = .ok (.isub, 1) := by decide +kernel
theorem dX6_keeps_45 : decode cX6_keeps 45 = .ok (.putfield 62, 3) := by decide +kernel
theorem dX6_keeps_48 : decode cX6_keeps 48 = .ok (.iconst 0, 1) := by decide +kernel
theorem dX6_keeps_49 : decode cX6_keeps 49 = .ok (.istore_n 1, 1) := by decide +kernel
theorem dX6_keeps_50 : decode cX6_keeps 50 = .ok (.iload_n 1, 1) := by decide +kernel
theorem dX6_keeps_51 : decode cX6_keeps 51 = .ok (.bipush 73, 2) := by decide +kernel
theorem dX6_keeps_53 : decode cX6_keeps 53 = .ok (.if_icmp .ge 29, 3) := by decide +kernel
theorem dX6_keeps_56 : decode cX6_keeps 56 = .ok (.aload_n 0, 1) := by decide +kernel
theorem dX6_keeps_57 : decode cX6_keeps 57 = .ok (.getfield 13, 3) := by decide +kernel
theorem dX6_keeps_60 : decode cX6_keeps 60 = .ok (.bipush 73, 2) := by decide +kernel
theorem dX6_keeps_62 : decode cX6_keeps 62 = .ok (.aload_n 0, 1) := by decide +kernel
theorem dX6_keeps_63 : decode cX6_keeps 63 = .ok (.getfield 62, 3) := by decide +kernel
theorem dX6_keeps_66 : decode cX6_keeps 66 = .ok (.imul, 1) := by decide +kernel
theorem dX6_keeps_67 : decode cX6_keeps 67 = .ok (.iload_n 1, 1) := by decide +kernel
theorem dX6_keeps_68 : decode cX6_keeps 68 = .ok (.iadd, 1) := by decide +kernel
theorem dX6_keeps_69 : decode cX6_keeps 69 = .ok (.aload_n 0, 1) := by decide +kernel
theorem dX6_keeps_70 : decode cX6_keeps 70 = .ok (.getfield 7, 3) := by decide +kernel
theorem dX6_keeps_73 : decode cX6_keeps 73 = .ok (.iload_n 1, 1) := by decide +kernel
theorem dX6_keeps_74 : decode cX6_keeps 74 = .ok (.iaload, 1) := by decide +kernel
theorem dX6_keeps_75 : decode cX6_keeps 75 = .ok (.iastore, 1) := by decide +kernel
theorem dX6_keeps_76 : decode cX6_keeps 76 = .ok (.iinc 1 1, 3) := by decide +kernel
theorem dX6_keeps_79 : decode cX6_keeps 79 = .ok (.goto (-29), 3) := by decide +kernel
theorem dX6_keeps_82 : decode cX6_keeps 82 = .ok (.aload_n 0, 1) := by decide +kernel
theorem dX6_keeps_83 : decode cX6_keeps 83 = .ok (.dup, 1) := by decide +kernel
theorem dX6_keeps_84 : decode cX6_keeps 84 = .ok (.getfield 62, 3) := by decide +kernel
theorem dX6_keeps_87 : decode cX6_keeps 87 = .ok (.iconst 1, 1) := by decide +kernel
theorem dX6_keeps_88 : decode cX6_keeps 88 = .ok (.iadd, 1) := by decide +kernel
theorem dX6_keeps_89 : decode cX6_keeps 89 = .ok (.putfield 62, 3) := by decide +kernel
theorem dX6_keeps_92 : decode cX6_keeps 92 = .ok (.return_, 1) := by decide +kernel
set_option maxRecDepth 20000 in
theorem ggX6_tells_X6_setOf : GoodIn wsX6_tells wsX6_setOf := goodIn_r _ [6, 1, 7, 8, 5, 9, 17, 18, 19, 20, 21, 22, 23, 24, 25, 26, 27, 28, 29, 30, 31, 32, 33, 34] (by decide +kernel) (by decide +kernel)
set_option maxRecDepth 20000 in
theorem gX6_tells_X6_setOf : GoodIn wsX6_tells (wsV RX6 65 RX6 yX6_setOf wsX6_setOf) := goodIn_app (goodIn_of _ (by decide +kernel)) ggX6_tells_X6_setOf
set_option maxRecDepth 20000 in
theorem ggX6_tells_X6_answersOf : GoodIn wsX6_tells wsX6_answersOf := goodIn_r _ [13, 1, 17, 18, 19, 20, 21, 22, 23, 24, 25, 26, 27, 28, 29, 30, 31, 32, 33, 34] (by decide +kernel) (by decide +kernel)
set_option maxRecDepth 20000 in
theorem gX6_tells_X6_answersOf : GoodIn wsX6_tells (wsV RX6 58 RX6 yX6_answersOf wsX6_answersOf) := goodIn_app (goodIn_of _ (by decide +kernel)) ggX6_tells_X6_answersOf
set_option maxRecDepth 20000 in
theorem ggX6_tells_X6_has : GoodIn wsX6_tells wsX6_has := goodIn_r _ [16] (by decide +kernel) (by decide +kernel)
set_option maxRecDepth 20000 in
theorem gX6_tells_X6_has : GoodIn wsX6_tells (va_wsS RX6 68 yX6_has wsX6_has) := goodIn_app (goodIn_of _ (by decide +kernel)) ggX6_tells_X6_has
theorem dX6_tells_0 : decode cX6_tells 0 = .ok (.iload_n 2, 1) := by decide +kernel
theorem dX6_tells_1 : decode cX6_tells 1 = .ok (.istore_n 3, 1) := by decide +kernel
theorem dX6_tells_2 : decode cX6_tells 2 = .ok (.iconst 0, 1) := by decide +kernel
theorem dX6_tells_3 : decode cX6_tells 3 = .ok (.istore 4, 2) := by decide +kernel
theorem dX6_tells_5 : decode cX6_tells 5 = .ok (.iload 4, 2) := by decide +kernel
theorem dX6_tells_7 : decode cX6_tells 7 = .ok (.aload_n 0, 1) := by decide +kernel
theorem dX6_tells_8 : decode cX6_tells 8 = .ok (.getfield 7, 3) := by decide +kernel
theorem dX6_tells_11 : decode cX6_tells 11 = .ok (.iconst 0, 1) := by decide +kernel
theorem dX6_tells_12 : decode cX6_tells 12 = .ok (.iaload, 1) := by decide +kernel
theorem dX6_tells_13 : decode cX6_tells 13 = .ok (.if_icmp .ge 41, 3) := by decide +kernel
theorem dX6_tells_16 : decode cX6_tells 16 = .ok (.aload_n 0, 1) := by decide +kernel
theorem dX6_tells_17 : decode cX6_tells 17 = .ok (.iload_n 1, 1) := by decide +kernel
theorem dX6_tells_18 : decode cX6_tells 18 = .ok (.iload 4, 2) := by decide +kernel
theorem dX6_tells_20 : decode cX6_tells 20 = .ok (.invokevirtual 65, 3) := by decide +kernel
theorem dX6_tells_23 : decode cX6_tells 23 = .ok (.iload_n 3, 1) := by decide +kernel
theorem dX6_tells_24 : decode cX6_tells 24 = .ok (.aload_n 0, 1) := by decide +kernel
theorem dX6_tells_25 : decode cX6_tells 25 = .ok (.iload 4, 2) := by decide +kernel
theorem dX6_tells_27 : decode cX6_tells 27 = .ok (.invokevirtual 58, 3) := by decide +kernel
theorem dX6_tells_30 : decode cX6_tells 30 = .ok (.irem, 1) := by decide +kernel
theorem dX6_tells_31 : decode cX6_tells 31 = .ok (.invokestatic 68, 3) := by decide +kernel
theorem dX6_tells_34 : decode cX6_tells 34 = .ok (.ifCond .ne 5, 3) := by decide +kernel
theorem dX6_tells_37 : decode cX6_tells 37 = .ok (.iconst 0, 1) := by decide +kernel
theorem dX6_tells_38 : decode cX6_tells 38 = .ok (.ireturn, 1) := by decide +kernel
theorem dX6_tells_39 : decode cX6_tells 39 = .ok (.iload_n 3, 1) := by decide +kernel
theorem dX6_tells_40 : decode cX6_tells 40 = .ok (.aload_n 0, 1) := by decide +kernel
theorem dX6_tells_41 : decode cX6_tells 41 = .ok (.iload 4, 2) := by decide +kernel
theorem dX6_tells_43 : decode cX6_tells 43 = .ok (.invokevirtual 58, 3) := by decide +kernel
theorem dX6_tells_46 : decode cX6_tells 46 = .ok (.idiv, 1) := by decide +kernel
theorem dX6_tells_47 : decode cX6_tells 47 = .ok (.istore_n 3, 1) := by decide +kernel
theorem dX6_tells_48 : decode cX6_tells 48 = .ok (.iinc 4 1, 3) := by decide +kernel
theorem dX6_tells_51 : decode cX6_tells 51 = .ok (.goto (-46), 3) := by decide +kernel
theorem dX6_tells_54 : decode cX6_tells 54 = .ok (.iconst 1, 1) := by decide +kernel
theorem dX6_tells_55 : decode cX6_tells 55 = .ok (.ireturn, 1) := by decide +kernel
set_option maxRecDepth 20000 in
theorem ggX6_lays_X6_cases : GoodIn wsX6_lays wsX6_cases := goodIn_r _ [10, 4, 11, 12, 13, 9, 14, 29, 30, 31, 32, 33, 34, 35, 36, 37, 38, 39, 40, 41, 42, 43, 44, 45, 46] (by decide +kernel) (by decide +kernel)
set_option maxRecDepth 20000 in
theorem gX6_lays_X6_cases : GoodIn wsX6_lays (wsV RX6 72 RX6 yX6_cases wsX6_cases) := goodIn_app (goodIn_of _ (by decide +kernel)) ggX6_lays_X6_cases
set_option maxRecDepth 20000 in
theorem ggX6_lays_X6_tells : GoodIn wsX6_lays wsX6_tells := goodIn_r _ [18, 4, 19, 20, 21, 9, 22, 23, 24, 25, 11, 12, 13, 14, 26, 27, 28, 29, 30, 31, 32, 33, 34, 35, 36, 37, 38, 39, 40, 41, 42, 43, 44, 45, 46] (by decide +kernel) (by decide +kernel)
set_option maxRecDepth 20000 in
theorem gX6_lays_X6_tells : GoodIn wsX6_lays (wsV RX6 76 RX6 yX6_tells wsX6_tells) := goodIn_app (goodIn_of _ (by decide +kernel)) ggX6_lays_X6_tells
set_option maxRecDepth 20000 in
theorem ggX6_lays_X6_r : GoodIn wsX6_lays wsX6_r := goodIn_r _ [25] (by decide +kernel) (by decide +kernel)
set_option maxRecDepth 20000 in
theorem gX6_lays_X6_r : GoodIn wsX6_lays (va_wsS RX6 50 yX6_r wsX6_r) := goodIn_app (goodIn_of _ (by decide +kernel)) ggX6_lays_X6_r
theorem dX6_lays_0 : decode cX6_lays 0 = .ok (.aload_n 0, 1) := by decide +kernel
theorem dX6_lays_1 : decode cX6_lays 1 = .ok (.invokevirtual 72, 3) := by decide +kernel
theorem dX6_lays_4 : decode cX6_lays 4 = .ok (.istore_n 2, 1) := by decide +kernel
theorem dX6_lays_5 : decode cX6_lays 5 = .ok (.iconst 0, 1) := by decide +kernel
theorem dX6_lays_6 : decode cX6_lays 6 = .ok (.istore_n 3, 1) := by decide +kernel
theorem dX6_lays_7 : decode cX6_lays 7 = .ok (.iload_n 3, 1) := by decide +kernel
theorem dX6_lays_8 : decode cX6_lays 8 = .ok (.iload_n 2, 1) := by decide +kernel
theorem dX6_lays_9 : decode cX6_lays 9 = .ok (.if_icmp .ge 165, 3) := by decide +kernel
theorem dX6_lays_12 : decode cX6_lays 12 = .ok (.aload_n 0, 1) := by decide +kernel
theorem dX6_lays_13 : decode cX6_lays 13 = .ok (.getfield 19, 3) := by decide +kernel
theorem dX6_lays_16 : decode cX6_lays 16 = .ok (.iload_n 3, 1) := by decide +kernel
theorem dX6_lays_17 : decode cX6_lays 17 = .ok (.iconst (-1), 1) := by decide +kernel
theorem dX6_lays_18 : decode cX6_lays 18 = .ok (.iastore, 1) := by decide +kernel
theorem dX6_lays_19 : decode cX6_lays 19 = .ok (.aload_n 0, 1) := by decide +kernel
theorem dX6_lays_20 : decode cX6_lays 20 = .ok (.getfield 25, 3) := by decide +kernel
theorem dX6_lays_23 : decode cX6_lays 23 = .ok (.iload_n 3, 1) := by decide +kernel
theorem dX6_lays_24 : decode cX6_lays 24 = .ok (.iconst (-1), 1) := by decide +kernel
theorem dX6_lays_25 : decode cX6_lays 25 = .ok (.iastore, 1) := by decide +kernel
theorem dX6_lays_26 : decode cX6_lays 26 = .ok (.aload_n 0, 1) := by decide +kernel
theorem dX6_lays_27 : decode cX6_lays 27 = .ok (.getfield 22, 3) := by decide +kernel
theorem dX6_lays_30 : decode cX6_lays 30 = .ok (.iload_n 3, 1) := by decide +kernel
theorem dX6_lays_31 : decode cX6_lays 31 = .ok (.iconst 0, 1) := by decide +kernel
theorem dX6_lays_32 : decode cX6_lays 32 = .ok (.iastore, 1) := by decide +kernel
theorem dX6_lays_33 : decode cX6_lays 33 = .ok (.iconst 0, 1) := by decide +kernel
theorem dX6_lays_34 : decode cX6_lays 34 = .ok (.istore 4, 2) := by decide +kernel
theorem dX6_lays_36 : decode cX6_lays 36 = .ok (.iload 4, 2) := by decide +kernel
theorem dX6_lays_38 : decode cX6_lays 38 = .ok (.aload_n 0, 1) := by decide +kernel
theorem dX6_lays_39 : decode cX6_lays 39 = .ok (.getfield 7, 3) := by decide +kernel
theorem dX6_lays_42 : decode cX6_lays 42 = .ok (.iconst 1, 1) := by decide +kernel
theorem dX6_lays_43 : decode cX6_lays 43 = .ok (.iaload, 1) := by decide +kernel
theorem dX6_lays_44 : decode cX6_lays 44 = .ok (.if_icmp .ge 88, 3) := by decide +kernel
theorem dX6_lays_47 : decode cX6_lays 47 = .ok (.iload 4, 2) := by decide +kernel
theorem dX6_lays_49 : decode cX6_lays 49 = .ok (.iload_n 1, 1) := by decide +kernel
theorem dX6_lays_50 : decode cX6_lays 50 = .ok (.if_icmp .eq 76, 3) := by decide +kernel
theorem dX6_lays_53 : decode cX6_lays 53 = .ok (.aload_n 0, 1) := by decide +kernel
theorem dX6_lays_54 : decode cX6_lays 54 = .ok (.iload 4, 2) := by decide +kernel
theorem dX6_lays_56 : decode cX6_lays 56 = .ok (.iload_n 3, 1) := by decide +kernel
theorem dX6_lays_57 : decode cX6_lays 57 = .ok (.invokevirtual 76, 3) := by decide +kernel
theorem dX6_lays_60 : decode cX6_lays 60 = .ok (.ifCond .eq 66, 3) := by decide +kernel
theorem dX6_lays_63 : decode cX6_lays 63 = .ok (.aload_n 0, 1) := by decide +kernel
theorem dX6_lays_64 : decode cX6_lays 64 = .ok (.getfield 19, 3) := by decide +kernel
theorem dX6_lays_67 : decode cX6_lays 67 = .ok (.iload_n 3, 1) := by decide +kernel
theorem dX6_lays_68 : decode cX6_lays 68 = .ok (.aload_n 0, 1) := by decide +kernel
theorem dX6_lays_69 : decode cX6_lays 69 = .ok (.getfield 22, 3) := by decide +kernel
theorem dX6_lays_72 : decode cX6_lays 72 = .ok (.iload_n 3, 1) := by decide +kernel
theorem dX6_lays_73 : decode cX6_lays 73 = .ok (.iaload, 1) := by decide +kernel
theorem dX6_lays_74 : decode cX6_lays 74 = .ok (.ifCond .ne 8, 3) := by decide +kernel
theorem dX6_lays_77 : decode cX6_lays 77 = .ok (.iload 4, 2) := by decide +kernel
theorem dX6_lays_79 : decode cX6_lays 79 = .ok (.goto 9, 3) := by decide +kernel
theorem dX6_lays_82 : decode cX6_lays 82 = .ok (.aload_n 0, 1) := by decide +kernel
theorem dX6_lays_83 : decode cX6_lays 83 = .ok (.getfield 19, 3) := by decide +kernel
theorem dX6_lays_86 : decode cX6_lays 86 = .ok (.iload_n 3, 1) := by decide +kernel
theorem dX6_lays_87 : decode cX6_lays 87 = .ok (.iaload, 1) := by decide +kernel
theorem dX6_lays_88 : decode cX6_lays 88 = .ok (.iastore, 1) := by decide +kernel
theorem dX6_lays_89 : decode cX6_lays 89 = .ok (.aload_n 0, 1) := by decide +kernel
theorem dX6_lays_90 : decode cX6_lays 90 = .ok (.getfield 25, 3) := by decide +kernel
theorem dX6_lays_93 : decode cX6_lays 93 = .ok (.iload_n 3, 1) := by decide +kernel
theorem dX6_lays_94 : decode cX6_lays 94 = .ok (.aload_n 0, 1) := by decide +kernel
theorem dX6_lays_95 : decode cX6_lays 95 = .ok (.getfield 22, 3) := by decide +kernel
theorem dX6_lays_98 : decode cX6_lays 98 = .ok (.iload_n 3, 1) := by decide +kernel
theorem dX6_lays_99 : decode cX6_lays 99 = .ok (.iaload, 1) := by decide +kernel
theorem dX6_lays_100 : decode cX6_lays 100 = .ok (.iconst 1, 1) := by decide +kernel
theorem dX6_lays_101 : decode cX6_lays 101 = .ok (.if_icmp .ne 8, 3) := by decide +kernel
theorem dX6_lays_104 : decode cX6_lays 104 = .ok (.iload 4, 2) := by decide +kernel
theorem dX6_lays_106 : decode cX6_lays 106 = .ok (.goto 9, 3) := by decide +kernel
theorem dX6_lays_109 : decode cX6_lays 109 = .ok (.aload_n 0, 1) := by decide +kernel
theorem dX6_lays_110 : decode cX6_lays 110 = .ok (.getfield 25, 3) := by decide +kernel
theorem dX6_lays_113 : decode cX6_lays 113 = .ok (.iload_n 3, 1) := by decide +kernel
theorem dX6_lays_114 : decode cX6_lays 114 = .ok (.iaload, 1) := by decide +kernel
theorem dX6_lays_115 : decode cX6_lays 115 = .ok (.iastore, 1) := by decide +kernel
theorem dX6_lays_116 : decode cX6_lays 116 = .ok (.aload_n 0, 1) := by decide +kernel
theorem dX6_lays_117 : decode cX6_lays 117 = .ok (.getfield 22, 3) := by decide +kernel
theorem dX6_lays_120 : decode cX6_lays 120 = .ok (.iload_n 3, 1) := by decide +kernel
theorem dX6_lays_121 : decode cX6_lays 121 = .ok (.dup2, 1) := by decide +kernel
theorem dX6_lays_122 : decode cX6_lays 122 = .ok (.iaload, 1) := by decide +kernel
theorem dX6_lays_123 : decode cX6_lays 123 = .ok (.iconst 1, 1) := by decide +kernel
theorem dX6_lays_124 : decode cX6_lays 124 = .ok (.iadd, 1) := by decide +kernel
theorem dX6_lays_125 : decode cX6_lays 125 = .ok (.iastore, 1) := by decide +kernel
theorem dX6_lays_126 : decode cX6_lays 126 = .ok (.iinc 4 1, 3) := by decide +kernel
theorem dX6_lays_129 : decode cX6_lays 129 = .ok (.goto (-93), 3) := by decide +kernel
theorem dX6_lays_132 : decode cX6_lays 132 = .ok (.aload_n 0, 1) := by decide +kernel
theorem dX6_lays_133 : decode cX6_lays 133 = .ok (.getfield 28, 3) := by decide +kernel
theorem dX6_lays_136 : decode cX6_lays 136 = .ok (.iload_n 3, 1) := by decide +kernel
theorem dX6_lays_137 : decode cX6_lays 137 = .ok (.aload_n 0, 1) := by decide +kernel
theorem dX6_lays_138 : decode cX6_lays 138 = .ok (.getfield 19, 3) := by decide +kernel
theorem dX6_lays_141 : decode cX6_lays 141 = .ok (.iload_n 3, 1) := by decide +kernel
theorem dX6_lays_142 : decode cX6_lays 142 = .ok (.iaload, 1) := by decide +kernel
theorem dX6_lays_143 : decode cX6_lays 143 = .ok (.iconst (-1), 1) := by decide +kernel
theorem dX6_lays_144 : decode cX6_lays 144 = .ok (.if_icmp .ne 8, 3) := by decide +kernel
theorem dX6_lays_147 : decode cX6_lays 147 = .ok (.bipush 10, 2) := by decide +kernel
theorem dX6_lays_149 : decode cX6_lays 149 = .ok (.goto 18, 3) := by decide +kernel
theorem dX6_lays_152 : decode cX6_lays 152 = .ok (.aload_n 0, 1) := by decide +kernel
theorem dX6_lays_153 : decode cX6_lays 153 = .ok (.getfield 7, 3) := by decide +kernel
theorem dX6_lays_156 : decode cX6_lays 156 = .ok (.aload_n 0, 1) := by decide +kernel
theorem dX6_lays_157 : decode cX6_lays 157 = .ok (.getfield 19, 3) := by decide +kernel
theorem dX6_lays_160 : decode cX6_lays 160 = .ok (.iload_n 3, 1) := by decide +kernel
theorem dX6_lays_161 : decode cX6_lays 161 = .ok (.iaload, 1) := by decide +kernel
theorem dX6_lays_162 : decode cX6_lays 162 = .ok (.iconst 1, 1) := by decide +kernel
theorem dX6_lays_163 : decode cX6_lays 163 = .ok (.invokestatic 50, 3) := by decide +kernel
theorem dX6_lays_166 : decode cX6_lays 166 = .ok (.iaload, 1) := by decide +kernel
theorem dX6_lays_167 : decode cX6_lays 167 = .ok (.iastore, 1) := by decide +kernel
theorem dX6_lays_168 : decode cX6_lays 168 = .ok (.iinc 3 1, 3) := by decide +kernel
theorem dX6_lays_171 : decode cX6_lays 171 = .ok (.goto (-164), 3) := by decide +kernel
theorem dX6_lays_174 : decode cX6_lays 174 = .ok (.return_, 1) := by decide +kernel
set_option maxRecDepth 20000 in
theorem ggX6_known_X6_answersOf : GoodIn wsX6_known wsX6_answersOf := goodIn_r _ [6, 7, 8, 9, 10, 11, 12, 13, 14, 15, 16, 17, 18, 19, 20, 21, 22, 23, 24, 25] (by decide +kernel) (by decide +kernel)
set_option maxRecDepth 20000 in
theorem gX6_known_X6_answersOf : GoodIn wsX6_known (wsV RX6 58 RX6 yX6_answersOf wsX6_answersOf) := goodIn_app (goodIn_of _ (by decide +kernel)) ggX6_known_X6_answersOf
theorem dX6_known_0 : decode cX6_known 0 = .ok (.iload_n 1, 1) := by decide +kernel
theorem dX6_known_1 : decode cX6_known 1 = .ok (.aload_n 0, 1) := by decide +kernel
theorem dX6_known_2 : decode cX6_known 2 = .ok (.getfield 40, 3) := by decide +kernel
theorem dX6_known_5 : decode cX6_known 5 = .ok (.iload_n 2, 1) := by decide +kernel
theorem dX6_known_6 : decode cX6_known 6 = .ok (.iaload, 1) := by decide +kernel
theorem dX6_known_7 : decode cX6_known 7 = .ok (.idiv, 1) := by decide +kernel
theorem dX6_known_8 : decode cX6_known 8 = .ok (.aload_n 0, 1) := by decide +kernel
theorem dX6_known_9 : decode cX6_known 9 = .ok (.iload_n 2, 1) := by decide +kernel
theorem dX6_known_10 : decode cX6_known 10 = .ok (.invokevirtual 58, 3) := by decide +kernel
theorem dX6_known_13 : decode cX6_known 13 = .ok (.iconst 1, 1) := by decide +kernel
theorem dX6_known_14 : decode cX6_known 14 = .ok (.iadd, 1) := by decide +kernel
theorem dX6_known_15 : decode cX6_known 15 = .ok (.irem, 1) := by decide +kernel
theorem dX6_known_16 : decode cX6_known 16 = .ok (.ireturn, 1) := by decide +kernel
set_option maxRecDepth 20000 in
theorem ggX6_caseBy_X6_answersOf : GoodIn wsX6_caseBy wsX6_answersOf := goodIn_r _ [6, 1, 12, 13, 14, 15, 16, 17, 18, 19, 20, 21, 22, 23, 24, 25, 26, 27, 28, 29] (by decide +kernel) (by decide +kernel)
set_option maxRecDepth 20000 in
theorem gX6_caseBy_X6_answersOf : GoodIn wsX6_caseBy (wsV RX6 58 RX6 yX6_answersOf wsX6_answersOf) := goodIn_app (goodIn_of _ (by decide +kernel)) ggX6_caseBy_X6_answersOf
set_option maxRecDepth 20000 in
theorem ggX6_caseBy_X6_known : GoodIn wsX6_caseBy wsX6_known := goodIn_r _ [10, 11, 2, 3, 4, 5, 6, 1, 12, 13, 14, 15, 16, 17, 18, 19, 20, 21, 22, 23, 24, 25, 26, 27, 28, 29] (by decide +kernel) (by decide +kernel)
set_option maxRecDepth 20000 in
theorem gX6_caseBy_X6_known : GoodIn wsX6_caseBy (wsV RX6 79 RX6 yX6_known wsX6_known) := goodIn_app (goodIn_of _ (by decide +kernel)) ggX6_caseBy_X6_known
theorem dX6_caseBy_0 : decode cX6_caseBy 0 = .ok (.iconst 0, 1) := by decide +kernel
theorem dX6_caseBy_1 : decode cX6_caseBy 1 = .ok (.istore_n 2, 1) := by decide +kernel
theorem dX6_caseBy_2 : decode cX6_caseBy 2 = .ok (.aload_n 0, 1) := by decide +kernel
theorem dX6_caseBy_3 : decode cX6_caseBy 3 = .ok (.getfield 7, 3) := by decide +kernel
theorem dX6_caseBy_6 : decode cX6_caseBy 6 = .ok (.iconst 0, 1) := by decide +kernel
theorem dX6_caseBy_7 : decode cX6_caseBy 7 = .ok (.iaload, 1) := by decide +kernel
theorem dX6_caseBy_8 : decode cX6_caseBy 8 = .ok (.iconst 1, 1) := by decide +kernel
theorem dX6_caseBy_9 : decode cX6_caseBy 9 = .ok (.isub, 1) := by decide +kernel
theorem dX6_caseBy_10 : decode cX6_caseBy 10 = .ok (.istore_n 3, 1) := by decide +kernel
theorem dX6_caseBy_11 : decode cX6_caseBy 11 = .ok (.iload_n 3, 1) := by decide +kernel
theorem dX6_caseBy_12 : decode cX6_caseBy 12 = .ok (.ifCond .lt 26, 3) := by decide +kernel
theorem dX6_caseBy_15 : decode cX6_caseBy 15 = .ok (.iload_n 2, 1) := by decide +kernel
theorem dX6_caseBy_16 : decode cX6_caseBy 16 = .ok (.aload_n 0, 1) := by decide +kernel
theorem dX6_caseBy_17 : decode cX6_caseBy 17 = .ok (.iload_n 3, 1) := by decide +kernel
theorem dX6_caseBy_18 : decode cX6_caseBy 18 = .ok (.invokevirtual 58, 3) := by decide +kernel
theorem dX6_caseBy_21 : decode cX6_caseBy 21 = .ok (.imul, 1) := by decide +kernel
theorem dX6_caseBy_22 : decode cX6_caseBy 22 = .ok (.aload_n 0, 1) := by decide +kernel
theorem dX6_caseBy_23 : decode cX6_caseBy 23 = .ok (.iload_n 1, 1) := by decide +kernel
theorem dX6_caseBy_24 : decode cX6_caseBy 24 = .ok (.iload_n 3, 1) := by decide +kernel
theorem dX6_caseBy_25 : decode cX6_caseBy 25 = .ok (.invokevirtual 79, 3) := by decide +kernel
theorem dX6_caseBy_28 : decode cX6_caseBy 28 = .ok (.iadd, 1) := by decide +kernel
theorem dX6_caseBy_29 : decode cX6_caseBy 29 = .ok (.iconst 1, 1) := by decide +kernel
theorem dX6_caseBy_30 : decode cX6_caseBy 30 = .ok (.isub, 1) := by decide +kernel
theorem dX6_caseBy_31 : decode cX6_caseBy 31 = .ok (.istore_n 2, 1) := by decide +kernel
theorem dX6_caseBy_32 : decode cX6_caseBy 32 = .ok (.iinc 3 (-1), 3) := by decide +kernel
theorem dX6_caseBy_35 : decode cX6_caseBy 35 = .ok (.goto (-24), 3) := by decide +kernel
theorem dX6_caseBy_38 : decode cX6_caseBy 38 = .ok (.iload_n 2, 1) := by decide +kernel
theorem dX6_caseBy_39 : decode cX6_caseBy 39 = .ok (.ireturn, 1) := by decide +kernel
set_option maxRecDepth 20000 in
theorem ggX6_firstUnknown_X6_known : GoodIn wsX6_firstUnknown wsX6_known := goodIn_r _ [6, 7, 8, 9, 10, 5, 11, 1, 12, 13, 14, 15, 16, 17, 18, 19, 20, 21, 22, 23, 24, 25, 26, 27, 28, 29] (by decide +kernel) (by decide +kernel)
set_option maxRecDepth 20000 in
theorem gX6_firstUnknown_X6_known : GoodIn wsX6_firstUnknown (wsV RX6 79 RX6 yX6_known wsX6_known) := goodIn_app (goodIn_of _ (by decide +kernel)) ggX6_firstUnknown_X6_known
theorem dX6_firstUnknown_0 : decode cX6_firstUnknown 0 = .ok (.iconst 0, 1) := by decide +kernel
theorem dX6_firstUnknown_1 : decode cX6_firstUnknown 1 = .ok (.istore_n 2, 1) := by decide +kernel
theorem dX6_firstUnknown_2 : decode cX6_firstUnknown 2 = .ok (.iload_n 2, 1) := by decide +kernel
theorem dX6_firstUnknown_3 : decode cX6_firstUnknown 3 = .ok (.aload_n 0, 1) := by decide +kernel
theorem dX6_firstUnknown_4 : decode cX6_firstUnknown 4 = .ok (.getfield 7, 3) := by decide +kernel
theorem dX6_firstUnknown_7 : decode cX6_firstUnknown 7 = .ok (.iconst 0, 1) := by decide +kernel
theorem dX6_firstUnknown_8 : decode cX6_firstUnknown 8 = .ok (.iaload, 1) := by decide +kernel
theorem dX6_firstUnknown_9 : decode cX6_firstUnknown 9 = .ok (.if_icmp .ge 20, 3) := by decide +kernel
theorem dX6_firstUnknown_12 : decode cX6_firstUnknown 12 = .ok (.aload_n 0, 1) := by decide +kernel
theorem dX6_firstUnknown_13 : decode cX6_firstUnknown 13 = .ok (.iload_n 1, 1) := by decide +kernel
theorem dX6_firstUnknown_14 : decode cX6_firstUnknown 14 = .ok (.iload_n 2, 1) := by decide +kernel
theorem dX6_firstUnknown_15 : decode cX6_firstUnknown 15 = .ok (.invokevirtual 79, 3) := by decide +kernel
theorem dX6_firstUnknown_18 : decode cX6_firstUnknown 18 = .ok (.ifCond .ne 5, 3) := by decide +kernel
theorem dX6_firstUnknown_21 : decode cX6_firstUnknown 21 = .ok (.iload_n 2, 1) := by decide +kernel
theorem dX6_firstUnknown_22 : decode cX6_firstUnknown 22 = .ok (.ireturn, 1) := by decide +kernel
theorem dX6_firstUnknown_23 : decode cX6_firstUnknown 23 = .ok (.iinc 2 1, 3) := by decide +kernel
theorem dX6_firstUnknown_26 : decode cX6_firstUnknown 26 = .ok (.goto (-24), 3) := by decide +kernel
theorem dX6_firstUnknown_29 : decode cX6_firstUnknown 29 = .ok (.iconst (-1), 1) := by decide +kernel
theorem dX6_firstUnknown_30 : decode cX6_firstUnknown 30 = .ok (.ireturn, 1) := by decide +kernel
set_option maxRecDepth 20000 in
theorem ggX6_wholeOf_X6_answersOf : GoodIn wsX6_wholeOf wsX6_answersOf := goodIn_r _ [7, 8, 9, 10, 11, 12, 13, 14, 15, 16, 17, 18, 19, 20, 21, 22, 23, 24, 25, 26] (by decide +kernel) (by decide +kernel)
set_option maxRecDepth 20000 in
theorem gX6_wholeOf_X6_answersOf : GoodIn wsX6_wholeOf (wsV RX6 58 RX6 yX6_answersOf wsX6_answersOf) := goodIn_app (goodIn_of _ (by decide +kernel)) ggX6_wholeOf_X6_answersOf
theorem dX6_wholeOf_0 : decode cX6_wholeOf 0 = .ok (.aload_n 0, 1) := by decide +kernel
theorem dX6_wholeOf_1 : decode cX6_wholeOf 1 = .ok (.getfield 31, 3) := by decide +kernel
theorem dX6_wholeOf_4 : decode cX6_wholeOf 4 = .ok (.iload_n 1, 1) := by decide +kernel
theorem dX6_wholeOf_5 : decode cX6_wholeOf 5 = .ok (.aload_n 0, 1) := by decide +kernel
theorem dX6_wholeOf_6 : decode cX6_wholeOf 6 = .ok (.getfield 40, 3) := by decide +kernel
theorem dX6_wholeOf_9 : decode cX6_wholeOf 9 = .ok (.iload_n 2, 1) := by decide +kernel
theorem dX6_wholeOf_10 : decode cX6_wholeOf 10 = .ok (.iaload, 1) := by decide +kernel
theorem dX6_wholeOf_11 : decode cX6_wholeOf 11 = .ok (.iadd, 1) := by decide +kernel
theorem dX6_wholeOf_12 : decode cX6_wholeOf 12 = .ok (.iaload, 1) := by decide +kernel
theorem dX6_wholeOf_13 : decode cX6_wholeOf 13 = .ok (.istore_n 3, 1) := by decide +kernel
theorem dX6_wholeOf_14 : decode cX6_wholeOf 14 = .ok (.iconst 2, 1) := by decide +kernel
theorem dX6_wholeOf_15 : decode cX6_wholeOf 15 = .ok (.istore 4, 2) := by decide +kernel
theorem dX6_wholeOf_17 : decode cX6_wholeOf 17 = .ok (.iload 4, 2) := by decide +kernel
theorem dX6_wholeOf_19 : decode cX6_wholeOf 19 = .ok (.aload_n 0, 1) := by decide +kernel
theorem dX6_wholeOf_20 : decode cX6_wholeOf 20 = .ok (.iload_n 2, 1) := by decide +kernel
theorem dX6_wholeOf_21 : decode cX6_wholeOf 21 = .ok (.invokevirtual 58, 3) := by decide +kernel
theorem dX6_wholeOf_24 : decode cX6_wholeOf 24 = .ok (.if_icmp .gt 36, 3) := by decide +kernel
theorem dX6_wholeOf_27 : decode cX6_wholeOf 27 = .ok (.aload_n 0, 1) := by decide +kernel
theorem dX6_wholeOf_28 : decode cX6_wholeOf 28 = .ok (.getfield 31, 3) := by decide +kernel
theorem dX6_wholeOf_31 : decode cX6_wholeOf 31 = .ok (.iload_n 1, 1) := by decide +kernel
theorem dX6_wholeOf_32 : decode cX6_wholeOf 32 = .ok (.iload 4, 2) := by decide +kernel
theorem dX6_wholeOf_34 : decode cX6_wholeOf 34 = .ok (.aload_n 0, 1) := by decide +kernel
theorem dX6_wholeOf_35 : decode cX6_wholeOf 35 = .ok (.getfield 40, 3) := by decide +kernel
theorem dX6_wholeOf_38 : decode cX6_wholeOf 38 = .ok (.iload_n 2, 1) := by decide +kernel
theorem dX6_wholeOf_39 : decode cX6_wholeOf 39 = .ok (.iaload, 1) := by decide +kernel
theorem dX6_wholeOf_40 : decode cX6_wholeOf 40 = .ok (.imul, 1) := by decide +kernel
theorem dX6_wholeOf_41 : decode cX6_wholeOf 41 = .ok (.iadd, 1) := by decide +kernel
theorem dX6_wholeOf_42 : decode cX6_wholeOf 42 = .ok (.iaload, 1) := by decide +kernel
theorem dX6_wholeOf_43 : decode cX6_wholeOf 43 = .ok (.iload_n 3, 1) := by decide +kernel
theorem dX6_wholeOf_44 : decode cX6_wholeOf 44 = .ok (.if_icmp .ne 7, 3) := by decide +kernel
theorem dX6_wholeOf_47 : decode cX6_wholeOf 47 = .ok (.iload_n 3, 1) := by decide +kernel
theorem dX6_wholeOf_48 : decode cX6_wholeOf 48 = .ok (.goto 5, 3) := by decide +kernel
theorem dX6_wholeOf_51 : decode cX6_wholeOf 51 = .ok (.bipush (-2), 2) := by decide +kernel
theorem dX6_wholeOf_53 : decode cX6_wholeOf 53 = .ok (.istore_n 3, 1) := by decide +kernel
theorem dX6_wholeOf_54 : decode cX6_wholeOf 54 = .ok (.iinc 4 1, 3) := by decide +kernel
theorem dX6_wholeOf_57 : decode cX6_wholeOf 57 = .ok (.goto (-40), 3) := by decide +kernel
theorem dX6_wholeOf_60 : decode cX6_wholeOf 60 = .ok (.iload_n 3, 1) := by decide +kernel
theorem dX6_wholeOf_61 : decode cX6_wholeOf 61 = .ok (.ireturn, 1) := by decide +kernel
set_option maxRecDepth 20000 in
theorem ggX6_costBy_X6_answersOf : GoodIn wsX6_costBy wsX6_answersOf := goodIn_r _ [8, 3, 9, 10, 11, 12, 13, 14, 15, 16, 17, 18, 19, 20, 21, 22, 23, 24, 25, 26] (by decide +kernel) (by decide +kernel)
set_option maxRecDepth 20000 in
theorem gX6_costBy_X6_answersOf : GoodIn wsX6_costBy (wsV RX6 58 RX6 yX6_answersOf wsX6_answersOf) := goodIn_app (goodIn_of _ (by decide +kernel)) ggX6_costBy_X6_answersOf
theorem dX6_costBy_0 : decode cX6_costBy 0 = .ok (.iconst 0, 1) := by decide +kernel
theorem dX6_costBy_1 : decode cX6_costBy 1 = .ok (.istore_n 3, 1) := by decide +kernel
theorem dX6_costBy_2 : decode cX6_costBy 2 = .ok (.iconst 1, 1) := by decide +kernel
theorem dX6_costBy_3 : decode cX6_costBy 3 = .ok (.istore 4, 2) := by decide +kernel
theorem dX6_costBy_5 : decode cX6_costBy 5 = .ok (.iload 4, 2) := by decide +kernel
theorem dX6_costBy_7 : decode cX6_costBy 7 = .ok (.aload_n 0, 1) := by decide +kernel
theorem dX6_costBy_8 : decode cX6_costBy 8 = .ok (.iload_n 2, 1) := by decide +kernel
theorem dX6_costBy_9 : decode cX6_costBy 9 = .ok (.invokevirtual 58, 3) := by decide +kernel
theorem dX6_costBy_12 : decode cX6_costBy 12 = .ok (.if_icmp .gt 40, 3) := by decide +kernel
theorem dX6_costBy_15 : decode cX6_costBy 15 = .ok (.aload_n 0, 1) := by decide +kernel
theorem dX6_costBy_16 : decode cX6_costBy 16 = .ok (.getfield 34, 3) := by decide +kernel
theorem dX6_costBy_19 : decode cX6_costBy 19 = .ok (.iload_n 1, 1) := by decide +kernel
theorem dX6_costBy_20 : decode cX6_costBy 20 = .ok (.iload 4, 2) := by decide +kernel
theorem dX6_costBy_22 : decode cX6_costBy 22 = .ok (.aload_n 0, 1) := by decide +kernel
theorem dX6_costBy_23 : decode cX6_costBy 23 = .ok (.getfield 40, 3) := by decide +kernel
theorem dX6_costBy_26 : decode cX6_costBy 26 = .ok (.iload_n 2, 1) := by decide +kernel
theorem dX6_costBy_27 : decode cX6_costBy 27 = .ok (.iaload, 1) := by decide +kernel
theorem dX6_costBy_28 : decode cX6_costBy 28 = .ok (.imul, 1) := by decide +kernel
theorem dX6_costBy_29 : decode cX6_costBy 29 = .ok (.iadd, 1) := by decide +kernel
theorem dX6_costBy_30 : decode cX6_costBy 30 = .ok (.iaload, 1) := by decide +kernel
theorem dX6_costBy_31 : decode cX6_costBy 31 = .ok (.istore 5, 2) := by decide +kernel
theorem dX6_costBy_33 : decode cX6_costBy 33 = .ok (.iload 5, 2) := by decide +kernel
theorem dX6_costBy_35 : decode cX6_costBy 35 = .ok (.iload_n 3, 1) := by decide +kernel
theorem dX6_costBy_36 : decode cX6_costBy 36 = .ok (.if_icmp .le 8, 3) := by decide +kernel
theorem dX6_costBy_39 : decode cX6_costBy 39 = .ok (.iload 5, 2) := by decide +kernel
theorem dX6_costBy_41 : decode cX6_costBy 41 = .ok (.goto 4, 3) := by decide +kernel
theorem dX6_costBy_44 : decode cX6_costBy 44 = .ok (.iload_n 3, 1) := by decide +kernel
theorem dX6_costBy_45 : decode cX6_costBy 45 = .ok (.istore_n 3, 1) := by decide +kernel
theorem dX6_costBy_46 : decode cX6_costBy 46 = .ok (.iinc 4 1, 3) := by decide +kernel
theorem dX6_costBy_49 : decode cX6_costBy 49 = .ok (.goto (-44), 3) := by decide +kernel
theorem dX6_costBy_52 : decode cX6_costBy 52 = .ok (.aload_n 0, 1) := by decide +kernel
theorem dX6_costBy_53 : decode cX6_costBy 53 = .ok (.getfield 7, 3) := by decide +kernel
theorem dX6_costBy_56 : decode cX6_costBy 56 = .ok (.bipush 8, 2) := by decide +kernel
theorem dX6_costBy_58 : decode cX6_costBy 58 = .ok (.iload_n 2, 1) := by decide +kernel
theorem dX6_costBy_59 : decode cX6_costBy 59 = .ok (.iadd, 1) := by decide +kernel
theorem dX6_costBy_60 : decode cX6_costBy 60 = .ok (.iaload, 1) := by decide +kernel
theorem dX6_costBy_61 : decode cX6_costBy 61 = .ok (.iload_n 3, 1) := by decide +kernel
theorem dX6_costBy_62 : decode cX6_costBy 62 = .ok (.iadd, 1) := by decide +kernel
theorem dX6_costBy_63 : decode cX6_costBy 63 = .ok (.ireturn, 1) := by decide +kernel
set_option maxRecDepth 20000 in
theorem ggX6_plans_X6_firstUnknown : GoodIn wsX6_plans wsX6_firstUnknown := goodIn_r _ [10, 5, 11, 12, 13, 9, 14, 15, 16, 17, 18, 19, 32, 33, 34, 35, 36, 37, 38, 39, 40, 41, 42, 43, 44, 45, 46, 47, 48, 49] (by decide +kernel) (by decide +kernel)
set_option maxRecDepth 20000 in
theorem gX6_plans_X6_firstUnknown : GoodIn wsX6_plans (wsV RX6 82 RX6 yX6_firstUnknown wsX6_firstUnknown) := goodIn_app (goodIn_of _ (by decide +kernel)) ggX6_plans_X6_firstUnknown
set_option maxRecDepth 20000 in
theorem ggX6_plans_X6_caseBy : GoodIn wsX6_plans wsX6_caseBy := goodIn_r _ [23, 5, 16, 17, 18, 9, 19, 11, 12, 13, 14, 15, 32, 33, 34, 35, 36, 37, 38, 39, 40, 41, 42, 43, 44, 45, 46, 47, 48, 49] (by decide +kernel) (by decide +kernel)
set_option maxRecDepth 20000 in
theorem gX6_plans_X6_caseBy : GoodIn wsX6_plans (wsV RX6 85 RX6 yX6_caseBy wsX6_caseBy) := goodIn_app (goodIn_of _ (by decide +kernel)) ggX6_plans_X6_caseBy
set_option maxRecDepth 20000 in
theorem ggX6_plans_X6_wholeOf : GoodIn wsX6_plans wsX6_wholeOf := goodIn_r _ [27, 1, 15, 16, 17, 18, 9, 19, 5, 32, 33, 34, 35, 36, 37, 38, 39, 40, 41, 42, 43, 44, 45, 46, 47, 48, 49] (by decide +kernel) (by decide +kernel)
set_option maxRecDepth 20000 in
theorem gX6_plans_X6_wholeOf : GoodIn wsX6_plans (wsV RX6 88 RX6 yX6_wholeOf wsX6_wholeOf) := goodIn_app (goodIn_of _ (by decide +kernel)) ggX6_plans_X6_wholeOf
set_option maxRecDepth 20000 in
theorem ggX6_plans_X6_known : GoodIn wsX6_plans wsX6_known := goodIn_r _ [14, 15, 16, 17, 18, 9, 19, 5, 32, 33, 34, 35, 36, 37, 38, 39, 40, 41, 42, 43, 44, 45, 46, 47, 48, 49] (by decide +kernel) (by decide +kernel)
set_option maxRecDepth 20000 in
theorem gX6_plans_X6_known : GoodIn wsX6_plans (wsV RX6 79 RX6 yX6_known wsX6_known) := goodIn_app (goodIn_of _ (by decide +kernel)) ggX6_plans_X6_known
set_option maxRecDepth 20000 in
theorem ggX6_plans_X6_costBy : GoodIn wsX6_plans wsX6_costBy := goodIn_r _ [31, 3, 15, 5, 16, 17, 18, 9, 19, 32, 33, 34, 35, 36, 37, 38, 39, 40, 41, 42, 43, 44, 45, 46, 47, 48, 49] (by decide +kernel) (by decide +kernel)
set_option maxRecDepth 20000 in
theorem gX6_plans_X6_costBy : GoodIn wsX6_plans (wsV RX6 91 RX6 yX6_costBy wsX6_costBy) := goodIn_app (goodIn_of _ (by decide +kernel)) ggX6_plans_X6_costBy
theorem dX6_plans_0 : decode cX6_plans 0 = .ok (.aload_n 0, 1) := by decide +kernel
theorem dX6_plans_1 : decode cX6_plans 1 = .ok (.iload_n 1, 1) := by decide +kernel
theorem dX6_plans_2 : decode cX6_plans 2 = .ok (.invokevirtual 82, 3) := by decide +kernel
theorem dX6_plans_5 : decode cX6_plans 5 = .ok (.istore_n 2, 1) := by decide +kernel
theorem dX6_plans_6 : decode cX6_plans 6 = .ok (.aload_n 0, 1) := by decide +kernel
theorem dX6_plans_7 : decode cX6_plans 7 = .ok (.getfield 31, 3) := by decide +kernel
theorem dX6_plans_10 : decode cX6_plans 10 = .ok (.iload_n 1, 1) := by decide +kernel
theorem dX6_plans_11 : decode cX6_plans 11 = .ok (.iload_n 2, 1) := by decide +kernel
theorem dX6_plans_12 : decode cX6_plans 12 = .ok (.iconst (-1), 1) := by decide +kernel
theorem dX6_plans_13 : decode cX6_plans 13 = .ok (.if_icmp .ne 16, 3) := by decide +kernel
theorem dX6_plans_16 : decode cX6_plans 16 = .ok (.aload_n 0, 1) := by decide +kernel
theorem dX6_plans_17 : decode cX6_plans 17 = .ok (.getfield 28, 3) := by decide +kernel
theorem dX6_plans_20 : decode cX6_plans 20 = .ok (.aload_n 0, 1) := by decide +kernel
theorem dX6_plans_21 : decode cX6_plans 21 = .ok (.iload_n 1, 1) := by decide +kernel
theorem dX6_plans_22 : decode cX6_plans 22 = .ok (.invokevirtual 85, 3) := by decide +kernel
theorem dX6_plans_25 : decode cX6_plans 25 = .ok (.iaload, 1) := by decide +kernel
theorem dX6_plans_26 : decode cX6_plans 26 = .ok (.goto 9, 3) := by decide +kernel
theorem dX6_plans_29 : decode cX6_plans 29 = .ok (.aload_n 0, 1) := by decide +kernel
theorem dX6_plans_30 : decode cX6_plans 30 = .ok (.iload_n 1, 1) := by decide +kernel
theorem dX6_plans_31 : decode cX6_plans 31 = .ok (.iload_n 2, 1) := by decide +kernel
theorem dX6_plans_32 : decode cX6_plans 32 = .ok (.invokevirtual 88, 3) := by decide +kernel
theorem dX6_plans_35 : decode cX6_plans 35 = .ok (.iastore, 1) := by decide +kernel
theorem dX6_plans_36 : decode cX6_plans 36 = .ok (.aload_n 0, 1) := by decide +kernel
theorem dX6_plans_37 : decode cX6_plans 37 = .ok (.getfield 34, 3) := by decide +kernel
theorem dX6_plans_40 : decode cX6_plans 40 = .ok (.iload_n 1, 1) := by decide +kernel
theorem dX6_plans_41 : decode cX6_plans 41 = .ok (.iconst 0, 1) := by decide +kernel
theorem dX6_plans_42 : decode cX6_plans 42 = .ok (.iastore, 1) := by decide +kernel
theorem dX6_plans_43 : decode cX6_plans 43 = .ok (.aload_n 0, 1) := by decide +kernel
theorem dX6_plans_44 : decode cX6_plans 44 = .ok (.getfield 37, 3) := by decide +kernel
theorem dX6_plans_47 : decode cX6_plans 47 = .ok (.iload_n 1, 1) := by decide +kernel
theorem dX6_plans_48 : decode cX6_plans 48 = .ok (.iconst (-1), 1) := by decide +kernel
theorem dX6_plans_49 : decode cX6_plans 49 = .ok (.iastore, 1) := by decide +kernel
theorem dX6_plans_50 : decode cX6_plans 50 = .ok (.aload_n 0, 1) := by decide +kernel
theorem dX6_plans_51 : decode cX6_plans 51 = .ok (.getfield 31, 3) := by decide +kernel
theorem dX6_plans_54 : decode cX6_plans 54 = .ok (.iload_n 1, 1) := by decide +kernel
theorem dX6_plans_55 : decode cX6_plans 55 = .ok (.iaload, 1) := by decide +kernel
theorem dX6_plans_56 : decode cX6_plans 56 = .ok (.bipush (-2), 2) := by decide +kernel
theorem dX6_plans_58 : decode cX6_plans 58 = .ok (.if_icmp .eq 4, 3) := by decide +kernel
theorem dX6_plans_61 : decode cX6_plans 61 = .ok (.return_, 1) := by decide +kernel
theorem dX6_plans_62 : decode cX6_plans 62 = .ok (.iconst 0, 1) := by decide +kernel
theorem dX6_plans_63 : decode cX6_plans 63 = .ok (.istore_n 3, 1) := by decide +kernel
theorem dX6_plans_64 : decode cX6_plans 64 = .ok (.iload_n 3, 1) := by decide +kernel
theorem dX6_plans_65 : decode cX6_plans 65 = .ok (.aload_n 0, 1) := by decide +kernel
theorem dX6_plans_66 : decode cX6_plans 66 = .ok (.getfield 7, 3) := by decide +kernel
theorem dX6_plans_69 : decode cX6_plans 69 = .ok (.iconst 0, 1) := by decide +kernel
theorem dX6_plans_70 : decode cX6_plans 70 = .ok (.iaload, 1) := by decide +kernel
theorem dX6_plans_71 : decode cX6_plans 71 = .ok (.if_icmp .ge 62, 3) := by decide +kernel
theorem dX6_plans_74 : decode cX6_plans 74 = .ok (.aload_n 0, 1) := by decide +kernel
theorem dX6_plans_75 : decode cX6_plans 75 = .ok (.iload_n 1, 1) := by decide +kernel
theorem dX6_plans_76 : decode cX6_plans 76 = .ok (.iload_n 3, 1) := by decide +kernel
theorem dX6_plans_77 : decode cX6_plans 77 = .ok (.invokevirtual 79, 3) := by decide +kernel
theorem dX6_plans_80 : decode cX6_plans 80 = .ok (.ifCond .ne 47, 3) := by decide +kernel
theorem dX6_plans_83 : decode cX6_plans 83 = .ok (.aload_n 0, 1) := by decide +kernel
theorem dX6_plans_84 : decode cX6_plans 84 = .ok (.getfield 37, 3) := by decide +kernel
theorem dX6_plans_87 : decode cX6_plans 87 = .ok (.iload_n 1, 1) := by decide +kernel
theorem dX6_plans_88 : decode cX6_plans 88 = .ok (.iaload, 1) := by decide +kernel
theorem dX6_plans_89 : decode cX6_plans 89 = .ok (.iconst (-1), 1) := by decide +kernel
theorem dX6_plans_90 : decode cX6_plans 90 = .ok (.if_icmp .eq 18, 3) := by decide +kernel
theorem dX6_plans_93 : decode cX6_plans 93 = .ok (.aload_n 0, 1) := by decide +kernel
theorem dX6_plans_94 : decode cX6_plans 94 = .ok (.iload_n 1, 1) := by decide +kernel
theorem dX6_plans_95 : decode cX6_plans 95 = .ok (.iload_n 3, 1) := by decide +kernel
theorem dX6_plans_96 : decode cX6_plans 96 = .ok (.invokevirtual 91, 3) := by decide +kernel
theorem dX6_plans_99 : decode cX6_plans 99 = .ok (.aload_n 0, 1) := by decide +kernel
theorem dX6_plans_100 : decode cX6_plans 100 = .ok (.getfield 34, 3) := by decide +kernel
theorem dX6_plans_103 : decode cX6_plans 103 = .ok (.iload_n 1, 1) := by decide +kernel
theorem dX6_plans_104 : decode cX6_plans 104 = .ok (.iaload, 1) := by decide +kernel
theorem dX6_plans_105 : decode cX6_plans 105 = .ok (.if_icmp .ge 22, 3) := by decide +kernel
theorem dX6_plans_108 : decode cX6_plans 108 = .ok (.aload_n 0, 1) := by decide +kernel
theorem dX6_plans_109 : decode cX6_plans 109 = .ok (.getfield 37, 3) := by decide +kernel
theorem dX6_plans_112 : decode cX6_plans 112 = .ok (.iload_n 1, 1) := by decide +kernel
theorem dX6_plans_113 : decode cX6_plans 113 = .ok (.iload_n 3, 1) := by decide +kernel
theorem dX6_plans_114 : decode cX6_plans 114 = .ok (.iastore, 1) := by decide +kernel
theorem dX6_plans_115 : decode cX6_plans 115 = .ok (.aload_n 0, 1) := by decide +kernel
theorem dX6_plans_116 : decode cX6_plans 116 = .ok (.getfield 34, 3) := by decide +kernel
theorem dX6_plans_119 : decode cX6_plans 119 = .ok (.iload_n 1, 1) := by decide +kernel
theorem dX6_plans_120 : decode cX6_plans 120 = .ok (.aload_n 0, 1) := by decide +kernel
theorem dX6_plans_121 : decode cX6_plans 121 = .ok (.iload_n 1, 1) := by decide +kernel
theorem dX6_plans_122 : decode cX6_plans 122 = .ok (.iload_n 3, 1) := by decide +kernel
theorem dX6_plans_123 : decode cX6_plans 123 = .ok (.invokevirtual 91, 3) := by decide +kernel
theorem dX6_plans_126 : decode cX6_plans 126 = .ok (.iastore, 1) := by decide +kernel
theorem dX6_plans_127 : decode cX6_plans 127 = .ok (.iinc 3 1, 3) := by decide +kernel
theorem dX6_plans_130 : decode cX6_plans 130 = .ok (.goto (-66), 3) := by decide +kernel
theorem dX6_plans_133 : decode cX6_plans 133 = .ok (.return_, 1) := by decide +kernel
set_option maxRecDepth 20000 in
theorem ggX6_laysPlans_X6_answersOf : GoodIn wsX6_laysPlans wsX6_answersOf := goodIn_r _ [7, 2, 36, 37, 38, 39, 40, 41, 42, 43, 44, 45, 46, 47, 48, 49, 50, 51, 52, 53] (by decide +kernel) (by decide +kernel)
set_option maxRecDepth 20000 in
theorem gX6_laysPlans_X6_answersOf : GoodIn wsX6_laysPlans (wsV RX6 58 RX6 yX6_answersOf wsX6_answersOf) := goodIn_app (goodIn_of _ (by decide +kernel)) ggX6_laysPlans_X6_answersOf
set_option maxRecDepth 20000 in
theorem ggX6_laysPlans_X6_plans : GoodIn wsX6_laysPlans wsX6_plans := goodIn_r _ [11, 12, 13, 14, 15, 2, 16, 17, 18, 6, 19, 20, 21, 22, 23, 1, 3, 4, 5, 7, 24, 25, 26, 27, 28, 29, 30, 31, 32, 33, 34, 35, 36, 37, 38, 39, 40, 41, 42, 43, 44, 45, 46, 47, 48, 49, 50, 51, 52, 53] (by decide +kernel) (by decide +kernel)
set_option maxRecDepth 20000 in
theorem gX6_laysPlans_X6_plans : GoodIn wsX6_laysPlans (wsV RX6 94 RX6 yX6_plans wsX6_plans) := goodIn_app (goodIn_of _ (by decide +kernel)) ggX6_laysPlans_X6_plans
theorem dX6_laysPlans_0 : decode cX6_laysPlans 0 = .ok (.aload_n 0, 1) := by decide +kernel
theorem dX6_laysPlans_1 : decode cX6_laysPlans 1 = .ok (.getfield 40, 3) := by decide +kernel
theorem dX6_laysPlans_4 : decode cX6_laysPlans 4 = .ok (.iconst 0, 1) := by decide +kernel
theorem dX6_laysPlans_5 : decode cX6_laysPlans 5 = .ok (.iconst 1, 1) := by decide +kernel
theorem dX6_laysPlans_6 : decode cX6_laysPlans 6 = .ok (.iastore, 1) := by decide +kernel
theorem dX6_laysPlans_7 : decode cX6_laysPlans 7 = .ok (.iconst 0, 1) := by decide +kernel
theorem dX6_laysPlans_8 : decode cX6_laysPlans 8 = .ok (.istore_n 1, 1) := by decide +kernel
theorem dX6_laysPlans_9 : decode cX6_laysPlans 9 = .ok (.iload_n 1, 1) := by decide +kernel
theorem dX6_laysPlans_10 : decode cX6_laysPlans 10 = .ok (.aload_n 0, 1) := by decide +kernel
theorem dX6_laysPlans_11 : decode cX6_laysPlans 11 = .ok (.getfield 7, 3) := by decide +kernel
theorem dX6_laysPlans_14 : decode cX6_laysPlans 14 = .ok (.iconst 0, 1) := by decide +kernel
theorem dX6_laysPlans_15 : decode cX6_laysPlans 15 = .ok (.iaload, 1) := by decide +kernel
theorem dX6_laysPlans_16 : decode cX6_laysPlans 16 = .ok (.if_icmp .ge 31, 3) := by decide +kernel
theorem dX6_laysPlans_19 : decode cX6_laysPlans 19 = .ok (.aload_n 0, 1) := by decide +kernel
theorem dX6_laysPlans_20 : decode cX6_laysPlans 20 = .ok (.getfield 40, 3) := by decide +kernel
theorem dX6_laysPlans_23 : decode cX6_laysPlans 23 = .ok (.iload_n 1, 1) := by decide +kernel
theorem dX6_laysPlans_24 : decode cX6_laysPlans 24 = .ok (.iconst 1, 1) := by decide +kernel
theorem dX6_laysPlans_25 : decode cX6_laysPlans 25 = .ok (.iadd, 1) := by decide +kernel
theorem dX6_laysPlans_26 : decode cX6_laysPlans 26 = .ok (.aload_n 0, 1) := by decide +kernel
theorem dX6_laysPlans_27 : decode cX6_laysPlans 27 = .ok (.getfield 40, 3) := by decide +kernel
theorem dX6_laysPlans_30 : decode cX6_laysPlans 30 = .ok (.iload_n 1, 1) := by decide +kernel
theorem dX6_laysPlans_31 : decode cX6_laysPlans 31 = .ok (.iaload, 1) := by decide +kernel
theorem dX6_laysPlans_32 : decode cX6_laysPlans 32 = .ok (.aload_n 0, 1) := by decide +kernel
theorem dX6_laysPlans_33 : decode cX6_laysPlans 33 = .ok (.iload_n 1, 1) := by decide +kernel
theorem dX6_laysPlans_34 : decode cX6_laysPlans 34 = .ok (.invokevirtual 58, 3) := by decide +kernel
theorem dX6_laysPlans_37 : decode cX6_laysPlans 37 = .ok (.iconst 1, 1) := by decide +kernel
theorem dX6_laysPlans_38 : decode cX6_laysPlans 38 = .ok (.iadd, 1) := by decide +kernel
theorem dX6_laysPlans_39 : decode cX6_laysPlans 39 = .ok (.imul, 1) := by decide +kernel
theorem dX6_laysPlans_40 : decode cX6_laysPlans 40 = .ok (.iastore, 1) := by decide +kernel
theorem dX6_laysPlans_41 : decode cX6_laysPlans 41 = .ok (.iinc 1 1, 3) := by decide +kernel
theorem dX6_laysPlans_44 : decode cX6_laysPlans 44 = .ok (.goto (-35), 3) := by decide +kernel
theorem dX6_laysPlans_47 : decode cX6_laysPlans 47 = .ok (.aload_n 0, 1) := by decide +kernel
theorem dX6_laysPlans_48 : decode cX6_laysPlans 48 = .ok (.getfield 40, 3) := by decide +kernel
theorem dX6_laysPlans_51 : decode cX6_laysPlans 51 = .ok (.aload_n 0, 1) := by decide +kernel
theorem dX6_laysPlans_52 : decode cX6_laysPlans 52 = .ok (.getfield 7, 3) := by decide +kernel
theorem dX6_laysPlans_55 : decode cX6_laysPlans 55 = .ok (.iconst 0, 1) := by decide +kernel
theorem dX6_laysPlans_56 : decode cX6_laysPlans 56 = .ok (.iaload, 1) := by decide +kernel
theorem dX6_laysPlans_57 : decode cX6_laysPlans 57 = .ok (.iaload, 1) := by decide +kernel
theorem dX6_laysPlans_58 : decode cX6_laysPlans 58 = .ok (.iconst 1, 1) := by decide +kernel
theorem dX6_laysPlans_59 : decode cX6_laysPlans 59 = .ok (.isub, 1) := by decide +kernel
theorem dX6_laysPlans_60 : decode cX6_laysPlans 60 = .ok (.istore_n 1, 1) := by decide +kernel
theorem dX6_laysPlans_61 : decode cX6_laysPlans 61 = .ok (.iload_n 1, 1) := by decide +kernel
theorem dX6_laysPlans_62 : decode cX6_laysPlans 62 = .ok (.ifCond .lt 14, 3) := by decide +kernel
theorem dX6_laysPlans_65 : decode cX6_laysPlans 65 = .ok (.aload_n 0, 1) := by decide +kernel
theorem dX6_laysPlans_66 : decode cX6_laysPlans 66 = .ok (.iload_n 1, 1) := by decide +kernel
theorem dX6_laysPlans_67 : decode cX6_laysPlans 67 = .ok (.invokevirtual 94, 3) := by decide +kernel
theorem dX6_laysPlans_70 : decode cX6_laysPlans 70 = .ok (.iinc 1 (-1), 3) := by decide +kernel
theorem dX6_laysPlans_73 : decode cX6_laysPlans 73 = .ok (.goto (-12), 3) := by decide +kernel
theorem dX6_laysPlans_76 : decode cX6_laysPlans 76 = .ok (.return_, 1) := by decide +kernel
set_option maxRecDepth 20000 in
theorem ggX6_isSets_X6_answersOf : GoodIn wsX6_isSets wsX6_answersOf := goodIn_r _ [6, 1, 10, 11, 12, 13, 14, 15, 16, 17, 18, 19, 20, 21, 22, 23, 24, 25, 26, 27] (by decide +kernel) (by decide +kernel)
set_option maxRecDepth 20000 in
theorem gX6_isSets_X6_answersOf : GoodIn wsX6_isSets (wsV RX6 58 RX6 yX6_answersOf wsX6_answersOf) := goodIn_app (goodIn_of _ (by decide +kernel)) ggX6_isSets_X6_answersOf
set_option maxRecDepth 20000 in
theorem ggX6_isSets_X6_in : GoodIn wsX6_isSets wsX6_in := goodIn_r _ [9] (by decide +kernel) (by decide +kernel)
set_option maxRecDepth 20000 in
theorem gX6_isSets_X6_in : GoodIn wsX6_isSets (va_wsS RX6 54 yX6_in wsX6_in) := goodIn_app (goodIn_of _ (by decide +kernel)) ggX6_isSets_X6_in
theorem dX6_isSets_0 : decode cX6_isSets 0 = .ok (.iload_n 1, 1) := by decide +kernel
theorem dX6_isSets_1 : decode cX6_isSets 1 = .ok (.ifCond .lt 16, 3) := by decide +kernel
theorem dX6_isSets_4 : decode cX6_isSets 4 = .ok (.iload_n 1, 1) := by decide +kernel
theorem dX6_isSets_5 : decode cX6_isSets 5 = .ok (.iconst 4, 1) := by decide +kernel
theorem dX6_isSets_6 : decode cX6_isSets 6 = .ok (.aload_n 0, 1) := by decide +kernel
theorem dX6_isSets_7 : decode cX6_isSets 7 = .ok (.getfield 7, 3) := by decide +kernel
theorem dX6_isSets_10 : decode cX6_isSets 10 = .ok (.iconst 0, 1) := by decide +kernel
theorem dX6_isSets_11 : decode cX6_isSets 11 = .ok (.iaload, 1) := by decide +kernel
theorem dX6_isSets_12 : decode cX6_isSets 12 = .ok (.imul, 1) := by decide +kernel
theorem dX6_isSets_13 : decode cX6_isSets 13 = .ok (.ishr, 1) := by decide +kernel
theorem dX6_isSets_14 : decode cX6_isSets 14 = .ok (.ifCond .eq 5, 3) := by decide +kernel
theorem dX6_isSets_17 : decode cX6_isSets 17 = .ok (.iconst 0, 1) := by decide +kernel
theorem dX6_isSets_18 : decode cX6_isSets 18 = .ok (.ireturn, 1) := by decide +kernel
theorem dX6_isSets_19 : decode cX6_isSets 19 = .ok (.iconst 0, 1) := by decide +kernel
theorem dX6_isSets_20 : decode cX6_isSets 20 = .ok (.istore_n 2, 1) := by decide +kernel
theorem dX6_isSets_21 : decode cX6_isSets 21 = .ok (.iload_n 2, 1) := by decide +kernel
theorem dX6_isSets_22 : decode cX6_isSets 22 = .ok (.aload_n 0, 1) := by decide +kernel
theorem dX6_isSets_23 : decode cX6_isSets 23 = .ok (.getfield 7, 3) := by decide +kernel
theorem dX6_isSets_26 : decode cX6_isSets 26 = .ok (.iconst 0, 1) := by decide +kernel
theorem dX6_isSets_27 : decode cX6_isSets 27 = .ok (.iaload, 1) := by decide +kernel
theorem dX6_isSets_28 : decode cX6_isSets 28 = .ok (.if_icmp .ge 35, 3) := by decide +kernel
theorem dX6_isSets_31 : decode cX6_isSets 31 = .ok (.iload_n 1, 1) := by decide +kernel
theorem dX6_isSets_32 : decode cX6_isSets 32 = .ok (.iconst 4, 1) := by decide +kernel
theorem dX6_isSets_33 : decode cX6_isSets 33 = .ok (.iload_n 2, 1) := by decide +kernel
theorem dX6_isSets_34 : decode cX6_isSets 34 = .ok (.imul, 1) := by decide +kernel
theorem dX6_isSets_35 : decode cX6_isSets 35 = .ok (.ishr, 1) := by decide +kernel
theorem dX6_isSets_36 : decode cX6_isSets 36 = .ok (.bipush 15, 2) := by decide +kernel
theorem dX6_isSets_38 : decode cX6_isSets 38 = .ok (.iand, 1) := by decide +kernel
theorem dX6_isSets_39 : decode cX6_isSets 39 = .ok (.iconst 1, 1) := by decide +kernel
theorem dX6_isSets_40 : decode cX6_isSets 40 = .ok (.iconst 1, 1) := by decide +kernel
theorem dX6_isSets_41 : decode cX6_isSets 41 = .ok (.aload_n 0, 1) := by decide +kernel
theorem dX6_isSets_42 : decode cX6_isSets 42 = .ok (.iload_n 2, 1) := by decide +kernel
theorem dX6_isSets_43 : decode cX6_isSets 43 = .ok (.invokevirtual 58, 3) := by decide +kernel
theorem dX6_isSets_46 : decode cX6_isSets 46 = .ok (.ishl, 1) := by decide +kernel
theorem dX6_isSets_47 : decode cX6_isSets 47 = .ok (.iconst 1, 1) := by decide +kernel
theorem dX6_isSets_48 : decode cX6_isSets 48 = .ok (.isub, 1) := by decide +kernel
theorem dX6_isSets_49 : decode cX6_isSets 49 = .ok (.invokestatic 54, 3) := by decide +kernel
theorem dX6_isSets_52 : decode cX6_isSets 52 = .ok (.ifCond .ne 5, 3) := by decide +kernel
theorem dX6_isSets_55 : decode cX6_isSets 55 = .ok (.iconst 0, 1) := by decide +kernel
theorem dX6_isSets_56 : decode cX6_isSets 56 = .ok (.ireturn, 1) := by decide +kernel
theorem dX6_isSets_57 : decode cX6_isSets 57 = .ok (.iinc 2 1, 3) := by decide +kernel
theorem dX6_isSets_60 : decode cX6_isSets 60 = .ok (.goto (-39), 3) := by decide +kernel
theorem dX6_isSets_63 : decode cX6_isSets 63 = .ok (.iconst 1, 1) := by decide +kernel
theorem dX6_isSets_64 : decode cX6_isSets 64 = .ok (.ireturn, 1) := by decide +kernel
set_option maxRecDepth 20000 in
theorem ggX6_adds_X6_r : GoodIn wsX6_adds wsX6_r := goodIn_r _ [5] (by decide +kernel) (by decide +kernel)
set_option maxRecDepth 20000 in
theorem gX6_adds_X6_r : GoodIn wsX6_adds (va_wsS RX6 50 yX6_r wsX6_r) := goodIn_app (goodIn_of _ (by decide +kernel)) ggX6_adds_X6_r
theorem dX6_adds_0 : decode cX6_adds 0 = .ok (.aload_n 0, 1) := by decide +kernel
theorem dX6_adds_1 : decode cX6_adds 1 = .ok (.getfield 7, 3) := by decide +kernel
theorem dX6_adds_4 : decode cX6_adds 4 = .ok (.iconst 1, 1) := by decide +kernel
theorem dX6_adds_5 : decode cX6_adds 5 = .ok (.iaload, 1) := by decide +kernel
theorem dX6_adds_6 : decode cX6_adds 6 = .ok (.istore_n 3, 1) := by decide +kernel
theorem dX6_adds_7 : decode cX6_adds 7 = .ok (.aload_n 0, 1) := by decide +kernel
theorem dX6_adds_8 : decode cX6_adds 8 = .ok (.getfield 7, 3) := by decide +kernel
theorem dX6_adds_11 : decode cX6_adds 11 = .ok (.iload_n 3, 1) := by decide +kernel
theorem dX6_adds_12 : decode cX6_adds 12 = .ok (.iconst 0, 1) := by decide +kernel
theorem dX6_adds_13 : decode cX6_adds 13 = .ok (.invokestatic 50, 3) := by decide +kernel
theorem dX6_adds_16 : decode cX6_adds 16 = .ok (.aload_n 0, 1) := by decide +kernel
theorem dX6_adds_17 : decode cX6_adds 17 = .ok (.getfield 7, 3) := by decide +kernel
theorem dX6_adds_20 : decode cX6_adds 20 = .ok (.iconst 2, 1) := by decide +kernel
theorem dX6_adds_21 : decode cX6_adds 21 = .ok (.iaload, 1) := by decide +kernel
theorem dX6_adds_22 : decode cX6_adds 22 = .ok (.iastore, 1) := by decide +kernel
theorem dX6_adds_23 : decode cX6_adds 23 = .ok (.aload_n 0, 1) := by decide +kernel
theorem dX6_adds_24 : decode cX6_adds 24 = .ok (.getfield 7, 3) := by decide +kernel
theorem dX6_adds_27 : decode cX6_adds 27 = .ok (.iload_n 3, 1) := by decide +kernel
theorem dX6_adds_28 : decode cX6_adds 28 = .ok (.iconst 1, 1) := by decide +kernel
theorem dX6_adds_29 : decode cX6_adds 29 = .ok (.invokestatic 50, 3) := by decide +kernel
theorem dX6_adds_32 : decode cX6_adds 32 = .ok (.iload_n 2, 1) := by decide +kernel
theorem dX6_adds_33 : decode cX6_adds 33 = .ok (.iastore, 1) := by decide +kernel
theorem dX6_adds_34 : decode cX6_adds 34 = .ok (.aload_n 0, 1) := by decide +kernel
theorem dX6_adds_35 : decode cX6_adds 35 = .ok (.getfield 7, 3) := by decide +kernel
theorem dX6_adds_38 : decode cX6_adds 38 = .ok (.iload_n 3, 1) := by decide +kernel
theorem dX6_adds_39 : decode cX6_adds 39 = .ok (.iconst 2, 1) := by decide +kernel
theorem dX6_adds_40 : decode cX6_adds 40 = .ok (.invokestatic 50, 3) := by decide +kernel
theorem dX6_adds_43 : decode cX6_adds 43 = .ok (.iload_n 1, 1) := by decide +kernel
theorem dX6_adds_44 : decode cX6_adds 44 = .ok (.iastore, 1) := by decide +kernel
theorem dX6_adds_45 : decode cX6_adds 45 = .ok (.aload_n 0, 1) := by decide +kernel
theorem dX6_adds_46 : decode cX6_adds 46 = .ok (.getfield 7, 3) := by decide +kernel
theorem dX6_adds_49 : decode cX6_adds 49 = .ok (.iconst 1, 1) := by decide +kernel
theorem dX6_adds_50 : decode cX6_adds 50 = .ok (.dup2, 1) := by decide +kernel
theorem dX6_adds_51 : decode cX6_adds 51 = .ok (.iaload, 1) := by decide +kernel
theorem dX6_adds_52 : decode cX6_adds 52 = .ok (.iconst 1, 1) := by decide +kernel
theorem dX6_adds_53 : decode cX6_adds 53 = .ok (.iadd, 1) := by decide +kernel
theorem dX6_adds_54 : decode cX6_adds 54 = .ok (.iastore, 1) := by decide +kernel
theorem dX6_adds_55 : decode cX6_adds 55 = .ok (.aload_n 0, 1) := by decide +kernel
theorem dX6_adds_56 : decode cX6_adds 56 = .ok (.getfield 7, 3) := by decide +kernel
theorem dX6_adds_59 : decode cX6_adds 59 = .ok (.iconst 2, 1) := by decide +kernel
theorem dX6_adds_60 : decode cX6_adds 60 = .ok (.dup2, 1) := by decide +kernel
theorem dX6_adds_61 : decode cX6_adds 61 = .ok (.iaload, 1) := by decide +kernel
theorem dX6_adds_62 : decode cX6_adds 62 = .ok (.iconst 1, 1) := by decide +kernel
theorem dX6_adds_63 : decode cX6_adds 63 = .ok (.iadd, 1) := by decide +kernel
theorem dX6_adds_64 : decode cX6_adds 64 = .ok (.iastore, 1) := by decide +kernel
theorem dX6_adds_65 : decode cX6_adds 65 = .ok (.aload_n 0, 1) := by decide +kernel
theorem dX6_adds_66 : decode cX6_adds 66 = .ok (.getfield 7, 3) := by decide +kernel
theorem dX6_adds_69 : decode cX6_adds 69 = .ok (.iconst 2, 1) := by decide +kernel
theorem dX6_adds_70 : decode cX6_adds 70 = .ok (.iaload, 1) := by decide +kernel
theorem dX6_adds_71 : decode cX6_adds 71 = .ok (.iconst 1, 1) := by decide +kernel
theorem dX6_adds_72 : decode cX6_adds 72 = .ok (.isub, 1) := by decide +kernel
theorem dX6_adds_73 : decode cX6_adds 73 = .ok (.ireturn, 1) := by decide +kernel
set_option maxRecDepth 20000 in
theorem ggX6_drops_X6_r : GoodIn wsX6_drops wsX6_r := goodIn_r _ [5] (by decide +kernel) (by decide +kernel)
set_option maxRecDepth 20000 in
theorem gX6_drops_X6_r : GoodIn wsX6_drops (va_wsS RX6 50 yX6_r wsX6_r) := goodIn_app (goodIn_of _ (by decide +kernel)) ggX6_drops_X6_r
theorem dX6_drops_0 : decode cX6_drops 0 = .ok (.aload_n 0, 1) := by decide +kernel
theorem dX6_drops_1 : decode cX6_drops 1 = .ok (.getfield 7, 3) := by decide +kernel
theorem dX6_drops_4 : decode cX6_drops 4 = .ok (.iconst 1, 1) := by decide +kernel
theorem dX6_drops_5 : decode cX6_drops 5 = .ok (.dup2, 1) := by decide +kernel
theorem dX6_drops_6 : decode cX6_drops 6 = .ok (.iaload, 1) := by decide +kernel
theorem dX6_drops_7 : decode cX6_drops 7 = .ok (.iconst 1, 1) := by decide +kernel
theorem dX6_drops_8 : decode cX6_drops 8 = .ok (.isub, 1) := by decide +kernel
theorem dX6_drops_9 : decode cX6_drops 9 = .ok (.iastore, 1) := by decide +kernel
theorem dX6_drops_10 : decode cX6_drops 10 = .ok (.iload_n 1, 1) := by decide +kernel
theorem dX6_drops_11 : decode cX6_drops 11 = .ok (.iconst 0, 1) := by decide +kernel
theorem dX6_drops_12 : decode cX6_drops 12 = .ok (.invokestatic 50, 3) := by decide +kernel
theorem dX6_drops_15 : decode cX6_drops 15 = .ok (.istore_n 2, 1) := by decide +kernel
theorem dX6_drops_16 : decode cX6_drops 16 = .ok (.iload_n 2, 1) := by decide +kernel
theorem dX6_drops_17 : decode cX6_drops 17 = .ok (.aload_n 0, 1) := by decide +kernel
theorem dX6_drops_18 : decode cX6_drops 18 = .ok (.getfield 7, 3) := by decide +kernel
theorem dX6_drops_21 : decode cX6_drops 21 = .ok (.iconst 1, 1) := by decide +kernel
theorem dX6_drops_22 : decode cX6_drops 22 = .ok (.iaload, 1) := by decide +kernel
theorem dX6_drops_23 : decode cX6_drops 23 = .ok (.iconst 0, 1) := by decide +kernel
theorem dX6_drops_24 : decode cX6_drops 24 = .ok (.invokestatic 50, 3) := by decide +kernel
theorem dX6_drops_27 : decode cX6_drops 27 = .ok (.if_icmp .ge 23, 3) := by decide +kernel
theorem dX6_drops_30 : decode cX6_drops 30 = .ok (.aload_n 0, 1) := by decide +kernel
theorem dX6_drops_31 : decode cX6_drops 31 = .ok (.getfield 7, 3) := by decide +kernel
theorem dX6_drops_34 : decode cX6_drops 34 = .ok (.iload_n 2, 1) := by decide +kernel
theorem dX6_drops_35 : decode cX6_drops 35 = .ok (.aload_n 0, 1) := by decide +kernel
theorem dX6_drops_36 : decode cX6_drops 36 = .ok (.getfield 7, 3) := by decide +kernel
theorem dX6_drops_39 : decode cX6_drops 39 = .ok (.iload_n 2, 1) := by decide +kernel
theorem dX6_drops_40 : decode cX6_drops 40 = .ok (.iconst 3, 1) := by decide +kernel
theorem dX6_drops_41 : decode cX6_drops 41 = .ok (.iadd, 1) := by decide +kernel
theorem dX6_drops_42 : decode cX6_drops 42 = .ok (.iaload, 1) := by decide +kernel
theorem dX6_drops_43 : decode cX6_drops 43 = .ok (.iastore, 1) := by decide +kernel
theorem dX6_drops_44 : decode cX6_drops 44 = .ok (.iinc 2 1, 3) := by decide +kernel
theorem dX6_drops_47 : decode cX6_drops 47 = .ok (.goto (-31), 3) := by decide +kernel
theorem dX6_drops_50 : decode cX6_drops 50 = .ok (.return_, 1) := by decide +kernel
set_option maxRecDepth 20000 in
theorem ggX6_ups_X6_r : GoodIn wsX6_ups wsX6_r := goodIn_r _ [5] (by decide +kernel) (by decide +kernel)
set_option maxRecDepth 20000 in
theorem gX6_ups_X6_r : GoodIn wsX6_ups (va_wsS RX6 50 yX6_r wsX6_r) := goodIn_app (goodIn_of _ (by decide +kernel)) ggX6_ups_X6_r
theorem dX6_ups_0 : decode cX6_ups 0 = .ok (.iconst 0, 1) := by decide +kernel
theorem dX6_ups_1 : decode cX6_ups 1 = .ok (.istore_n 2, 1) := by decide +kernel
theorem dX6_ups_2 : decode cX6_ups 2 = .ok (.iload_n 2, 1) := by decide +kernel
theorem dX6_ups_3 : decode cX6_ups 3 = .ok (.iconst 3, 1) := by decide +kernel
theorem dX6_ups_4 : decode cX6_ups 4 = .ok (.if_icmp .ge 55, 3) := by decide +kernel
theorem dX6_ups_7 : decode cX6_ups 7 = .ok (.aload_n 0, 1) := by decide +kernel
theorem dX6_ups_8 : decode cX6_ups 8 = .ok (.getfield 7, 3) := by decide +kernel
theorem dX6_ups_11 : decode cX6_ups 11 = .ok (.iload_n 1, 1) := by decide +kernel
theorem dX6_ups_12 : decode cX6_ups 12 = .ok (.iload_n 2, 1) := by decide +kernel
theorem dX6_ups_13 : decode cX6_ups 13 = .ok (.invokestatic 50, 3) := by decide +kernel
theorem dX6_ups_16 : decode cX6_ups 16 = .ok (.iaload, 1) := by decide +kernel
theorem dX6_ups_17 : decode cX6_ups 17 = .ok (.istore_n 3, 1) := by decide +kernel
theorem dX6_ups_18 : decode cX6_ups 18 = .ok (.aload_n 0, 1) := by decide +kernel
theorem dX6_ups_19 : decode cX6_ups 19 = .ok (.getfield 7, 3) := by decide +kernel
theorem dX6_ups_22 : decode cX6_ups 22 = .ok (.iload_n 1, 1) := by decide +kernel
theorem dX6_ups_23 : decode cX6_ups 23 = .ok (.iload_n 2, 1) := by decide +kernel
theorem dX6_ups_24 : decode cX6_ups 24 = .ok (.invokestatic 50, 3) := by decide +kernel
theorem dX6_ups_27 : decode cX6_ups 27 = .ok (.aload_n 0, 1) := by decide +kernel
theorem dX6_ups_28 : decode cX6_ups 28 = .ok (.getfield 7, 3) := by decide +kernel
theorem dX6_ups_31 : decode cX6_ups 31 = .ok (.iload_n 1, 1) := by decide +kernel
theorem dX6_ups_32 : decode cX6_ups 32 = .ok (.iconst 1, 1) := by decide +kernel
theorem dX6_ups_33 : decode cX6_ups 33 = .ok (.isub, 1) := by decide +kernel
theorem dX6_ups_34 : decode cX6_ups 34 = .ok (.iload_n 2, 1) := by decide +kernel
theorem dX6_ups_35 : decode cX6_ups 35 = .ok (.invokestatic 50, 3) := by decide +kernel
theorem dX6_ups_38 : decode cX6_ups 38 = .ok (.iaload, 1) := by decide +kernel
theorem dX6_ups_39 : decode cX6_ups 39 = .ok (.iastore, 1) := by decide +kernel
theorem dX6_ups_40 : decode cX6_ups 40 = .ok (.aload_n 0, 1) := by decide +kernel
theorem dX6_ups_41 : decode cX6_ups 41 = .ok (.getfield 7, 3) := by decide +kernel
theorem dX6_ups_44 : decode cX6_ups 44 = .ok (.iload_n 1, 1) := by decide +kernel
theorem dX6_ups_45 : decode cX6_ups 45 = .ok (.iconst 1, 1) := by decide +kernel
theorem dX6_ups_46 : decode cX6_ups 46 = .ok (.isub, 1) := by decide +kernel
theorem dX6_ups_47 : decode cX6_ups 47 = .ok (.iload_n 2, 1) := by decide +kernel
theorem dX6_ups_48 : decode cX6_ups 48 = .ok (.invokestatic 50, 3) := by decide +kernel
theorem dX6_ups_51 : decode cX6_ups 51 = .ok (.iload_n 3, 1) := by decide +kernel
theorem dX6_ups_52 : decode cX6_ups 52 = .ok (.iastore, 1) := by decide +kernel
theorem dX6_ups_53 : decode cX6_ups 53 = .ok (.iinc 2 1, 3) := by decide +kernel
theorem dX6_ups_56 : decode cX6_ups 56 = .ok (.goto (-54), 3) := by decide +kernel
theorem dX6_ups_59 : decode cX6_ups 59 = .ok (.return_, 1) := by decide +kernel
set_option maxRecDepth 20000 in
theorem ggX6_reasonOf_X6_r : GoodIn wsX6_reasonOf wsX6_r := goodIn_r _ [5] (by decide +kernel) (by decide +kernel)
set_option maxRecDepth 20000 in
theorem gX6_reasonOf_X6_r : GoodIn wsX6_reasonOf (va_wsS RX6 50 yX6_r wsX6_r) := goodIn_app (goodIn_of _ (by decide +kernel)) ggX6_reasonOf_X6_r
set_option maxRecDepth 20000 in
theorem ggX6_reasonOf_X6_setOf : GoodIn wsX6_reasonOf wsX6_setOf := goodIn_r _ [9, 1, 2, 3, 4, 5, 10, 11, 12, 13, 14, 15, 16, 17, 18, 19, 20, 21, 22, 23, 24, 25, 26, 27] (by decide +kernel) (by decide +kernel)
set_option maxRecDepth 20000 in
theorem gX6_reasonOf_X6_setOf : GoodIn wsX6_reasonOf (wsV RX6 65 RX6 yX6_setOf wsX6_setOf) := goodIn_app (goodIn_of _ (by decide +kernel)) ggX6_reasonOf_X6_setOf
theorem dX6_reasonOf_0 : decode cX6_reasonOf 0 = .ok (.iload_n 1, 1) := by decide +kernel
theorem dX6_reasonOf_1 : decode cX6_reasonOf 1 = .ok (.iconst 1, 1) := by decide +kernel
theorem dX6_reasonOf_2 : decode cX6_reasonOf 2 = .ok (.iadd, 1) := by decide +kernel
theorem dX6_reasonOf_3 : decode cX6_reasonOf 3 = .ok (.aload_n 0, 1) := by decide +kernel
theorem dX6_reasonOf_4 : decode cX6_reasonOf 4 = .ok (.getfield 7, 3) := by decide +kernel
theorem dX6_reasonOf_7 : decode cX6_reasonOf 7 = .ok (.iconst 1, 1) := by decide +kernel
theorem dX6_reasonOf_8 : decode cX6_reasonOf 8 = .ok (.iaload, 1) := by decide +kernel
theorem dX6_reasonOf_9 : decode cX6_reasonOf 9 = .ok (.if_icmp .ne 5, 3) := by decide +kernel
theorem dX6_reasonOf_12 : decode cX6_reasonOf 12 = .ok (.iconst 1, 1) := by decide +kernel
theorem dX6_reasonOf_13 : decode cX6_reasonOf 13 = .ok (.ireturn, 1) := by decide +kernel
theorem dX6_reasonOf_14 : decode cX6_reasonOf 14 = .ok (.aload_n 0, 1) := by decide +kernel
theorem dX6_reasonOf_15 : decode cX6_reasonOf 15 = .ok (.getfield 7, 3) := by decide +kernel
theorem dX6_reasonOf_18 : decode cX6_reasonOf 18 = .ok (.iload_n 1, 1) := by decide +kernel
theorem dX6_reasonOf_19 : decode cX6_reasonOf 19 = .ok (.iconst 1, 1) := by decide +kernel
theorem dX6_reasonOf_20 : decode cX6_reasonOf 20 = .ok (.invokestatic 50, 3) := by decide +kernel
theorem dX6_reasonOf_23 : decode cX6_reasonOf 23 = .ok (.iaload, 1) := by decide +kernel
theorem dX6_reasonOf_24 : decode cX6_reasonOf 24 = .ok (.aload_n 0, 1) := by decide +kernel
theorem dX6_reasonOf_25 : decode cX6_reasonOf 25 = .ok (.getfield 7, 3) := by decide +kernel
theorem dX6_reasonOf_28 : decode cX6_reasonOf 28 = .ok (.iload_n 1, 1) := by decide +kernel
theorem dX6_reasonOf_29 : decode cX6_reasonOf 29 = .ok (.iconst 1, 1) := by decide +kernel
theorem dX6_reasonOf_30 : decode cX6_reasonOf 30 = .ok (.iadd, 1) := by decide +kernel
theorem dX6_reasonOf_31 : decode cX6_reasonOf 31 = .ok (.iconst 1, 1) := by decide +kernel
theorem dX6_reasonOf_32 : decode cX6_reasonOf 32 = .ok (.invokestatic 50, 3) := by decide +kernel
theorem dX6_reasonOf_35 : decode cX6_reasonOf 35 = .ok (.iaload, 1) := by decide +kernel
theorem dX6_reasonOf_36 : decode cX6_reasonOf 36 = .ok (.if_icmp .eq 5, 3) := by decide +kernel
theorem dX6_reasonOf_39 : decode cX6_reasonOf 39 = .ok (.iconst 2, 1) := by decide +kernel
theorem dX6_reasonOf_40 : decode cX6_reasonOf 40 = .ok (.ireturn, 1) := by decide +kernel
theorem dX6_reasonOf_41 : decode cX6_reasonOf 41 = .ok (.iconst 0, 1) := by decide +kernel
theorem dX6_reasonOf_42 : decode cX6_reasonOf 42 = .ok (.istore_n 2, 1) := by decide +kernel
theorem dX6_reasonOf_43 : decode cX6_reasonOf 43 = .ok (.iconst 0, 1) := by decide +kernel
theorem dX6_reasonOf_44 : decode cX6_reasonOf 44 = .ok (.istore_n 3, 1) := by decide +kernel
theorem dX6_reasonOf_45 : decode cX6_reasonOf 45 = .ok (.iload_n 3, 1) := by decide +kernel
theorem dX6_reasonOf_46 : decode cX6_reasonOf 46 = .ok (.aload_n 0, 1) := by decide +kernel
theorem dX6_reasonOf_47 : decode cX6_reasonOf 47 = .ok (.getfield 7, 3) := by decide +kernel
theorem dX6_reasonOf_50 : decode cX6_reasonOf 50 = .ok (.iconst 0, 1) := by decide +kernel
theorem dX6_reasonOf_51 : decode cX6_reasonOf 51 = .ok (.iaload, 1) := by decide +kernel
theorem dX6_reasonOf_52 : decode cX6_reasonOf 52 = .ok (.if_icmp .ge 34, 3) := by decide +kernel
theorem dX6_reasonOf_55 : decode cX6_reasonOf 55 = .ok (.iload_n 2, 1) := by decide +kernel
theorem dX6_reasonOf_56 : decode cX6_reasonOf 56 = .ok (.aload_n 0, 1) := by decide +kernel
theorem dX6_reasonOf_57 : decode cX6_reasonOf 57 = .ok (.iload_n 1, 1) := by decide +kernel
theorem dX6_reasonOf_58 : decode cX6_reasonOf 58 = .ok (.iload_n 3, 1) := by decide +kernel
theorem dX6_reasonOf_59 : decode cX6_reasonOf 59 = .ok (.invokevirtual 65, 3) := by decide +kernel
theorem dX6_reasonOf_62 : decode cX6_reasonOf 62 = .ok (.aload_n 0, 1) := by decide +kernel
theorem dX6_reasonOf_63 : decode cX6_reasonOf 63 = .ok (.iload_n 1, 1) := by decide +kernel
theorem dX6_reasonOf_64 : decode cX6_reasonOf 64 = .ok (.iconst 1, 1) := by decide +kernel
theorem dX6_reasonOf_65 : decode cX6_reasonOf 65 = .ok (.iadd, 1) := by decide +kernel
theorem dX6_reasonOf_66 : decode cX6_reasonOf 66 = .ok (.iload_n 3, 1) := by decide +kernel
theorem dX6_reasonOf_67 : decode cX6_reasonOf 67 = .ok (.invokevirtual 65, 3) := by decide +kernel
theorem dX6_reasonOf_70 : decode cX6_reasonOf 70 = .ok (.if_icmp .ne 7, 3) := by decide +kernel
theorem dX6_reasonOf_73 : decode cX6_reasonOf 73 = .ok (.iconst 0, 1) := by decide +kernel
theorem dX6_reasonOf_74 : decode cX6_reasonOf 74 = .ok (.goto 4, 3) := by decide +kernel
theorem dX6_reasonOf_77 : decode cX6_reasonOf 77 = .ok (.iconst 1, 1) := by decide +kernel
theorem dX6_reasonOf_78 : decode cX6_reasonOf 78 = .ok (.iadd, 1) := by decide +kernel
theorem dX6_reasonOf_79 : decode cX6_reasonOf 79 = .ok (.istore_n 2, 1) := by decide +kernel
theorem dX6_reasonOf_80 : decode cX6_reasonOf 80 = .ok (.iinc 3 1, 3) := by decide +kernel
theorem dX6_reasonOf_83 : decode cX6_reasonOf 83 = .ok (.goto (-38), 3) := by decide +kernel
theorem dX6_reasonOf_86 : decode cX6_reasonOf 86 = .ok (.iload_n 2, 1) := by decide +kernel
theorem dX6_reasonOf_87 : decode cX6_reasonOf 87 = .ok (.iconst 1, 1) := by decide +kernel
theorem dX6_reasonOf_88 : decode cX6_reasonOf 88 = .ok (.if_icmp .le 7, 3) := by decide +kernel
theorem dX6_reasonOf_91 : decode cX6_reasonOf 91 = .ok (.iconst 3, 1) := by decide +kernel
theorem dX6_reasonOf_92 : decode cX6_reasonOf 92 = .ok (.goto 4, 3) := by decide +kernel
theorem dX6_reasonOf_95 : decode cX6_reasonOf 95 = .ok (.iconst 0, 1) := by decide +kernel
theorem dX6_reasonOf_96 : decode cX6_reasonOf 96 = .ok (.ireturn, 1) := by decide +kernel
set_option maxRecDepth 20000 in
theorem ggX6_merges_X6_r : GoodIn wsX6_merges wsX6_r := goodIn_r _ [5] (by decide +kernel) (by decide +kernel)
set_option maxRecDepth 20000 in
theorem gX6_merges_X6_r : GoodIn wsX6_merges (va_wsS RX6 50 yX6_r wsX6_r) := goodIn_app (goodIn_of _ (by decide +kernel)) ggX6_merges_X6_r
set_option maxRecDepth 20000 in
theorem ggX6_merges_X6_drops : GoodIn wsX6_merges wsX6_drops := goodIn_r _ [9, 1, 2, 3, 4, 5, 10, 11, 12, 13, 14, 15, 16, 17, 18, 19, 20, 21, 22, 23, 24, 25, 26, 27] (by decide +kernel) (by decide +kernel)
set_option maxRecDepth 20000 in
theorem gX6_merges_X6_drops : GoodIn wsX6_merges (wsV RX6 98 RX6 yX6_drops wsX6_drops) := goodIn_app (goodIn_of _ (by decide +kernel)) ggX6_merges_X6_drops
theorem dX6_merges_0 : decode cX6_merges 0 = .ok (.aload_n 0, 1) := by decide +kernel
theorem dX6_merges_1 : decode cX6_merges 1 = .ok (.getfield 7, 3) := by decide +kernel
theorem dX6_merges_4 : decode cX6_merges 4 = .ok (.iload_n 1, 1) := by decide +kernel
theorem dX6_merges_5 : decode cX6_merges 5 = .ok (.iconst 2, 1) := by decide +kernel
theorem dX6_merges_6 : decode cX6_merges 6 = .ok (.invokestatic 50, 3) := by decide +kernel
theorem dX6_merges_9 : decode cX6_merges 9 = .ok (.dup2, 1) := by decide +kernel
theorem dX6_merges_10 : decode cX6_merges 10 = .ok (.iaload, 1) := by decide +kernel
theorem dX6_merges_11 : decode cX6_merges 11 = .ok (.aload_n 0, 1) := by decide +kernel
theorem dX6_merges_12 : decode cX6_merges 12 = .ok (.getfield 7, 3) := by decide +kernel
theorem dX6_merges_15 : decode cX6_merges 15 = .ok (.iload_n 1, 1) := by decide +kernel
theorem dX6_merges_16 : decode cX6_merges 16 = .ok (.iconst 1, 1) := by decide +kernel
theorem dX6_merges_17 : decode cX6_merges 17 = .ok (.iadd, 1) := by decide +kernel
theorem dX6_merges_18 : decode cX6_merges 18 = .ok (.iconst 2, 1) := by decide +kernel
theorem dX6_merges_19 : decode cX6_merges 19 = .ok (.invokestatic 50, 3) := by decide +kernel
theorem dX6_merges_22 : decode cX6_merges 22 = .ok (.iaload, 1) := by decide +kernel
theorem dX6_merges_23 : decode cX6_merges 23 = .ok (.ior, 1) := by decide +kernel
theorem dX6_merges_24 : decode cX6_merges 24 = .ok (.iastore, 1) := by decide +kernel
theorem dX6_merges_25 : decode cX6_merges 25 = .ok (.aload_n 0, 1) := by decide +kernel
theorem dX6_merges_26 : decode cX6_merges 26 = .ok (.iload_n 1, 1) := by decide +kernel
theorem dX6_merges_27 : decode cX6_merges 27 = .ok (.iconst 1, 1) := by decide +kernel
theorem dX6_merges_28 : decode cX6_merges 28 = .ok (.iadd, 1) := by decide +kernel
theorem dX6_merges_29 : decode cX6_merges 29 = .ok (.invokevirtual 98, 3) := by decide +kernel
theorem dX6_merges_32 : decode cX6_merges 32 = .ok (.return_, 1) := by decide +kernel
set_option maxRecDepth 20000 in
theorem ggX6_mergesAll_X6_reasonOf : GoodIn wsX6_mergesAll wsX6_reasonOf := goodIn_r _ [6, 1, 7, 8, 5, 9, 10, 11, 12, 13, 22, 23, 24, 25, 26, 27, 28, 29, 30, 31, 32, 33, 34, 35, 36, 37, 38, 39] (by decide +kernel) (by decide +kernel)
set_option maxRecDepth 20000 in
theorem gX6_mergesAll_X6_reasonOf : GoodIn wsX6_mergesAll (wsV RX6 101 RX6 yX6_reasonOf wsX6_reasonOf) := goodIn_app (goodIn_of _ (by decide +kernel)) ggX6_mergesAll_X6_reasonOf
set_option maxRecDepth 20000 in
theorem ggX6_mergesAll_X6_merges : GoodIn wsX6_mergesAll wsX6_merges := goodIn_r _ [17, 1, 7, 8, 5, 9, 18, 19, 20, 21, 22, 23, 24, 25, 26, 27, 28, 29, 30, 31, 32, 33, 34, 35, 36, 37, 38, 39] (by decide +kernel) (by decide +kernel)
set_option maxRecDepth 20000 in
theorem gX6_mergesAll_X6_merges : GoodIn wsX6_mergesAll (wsV RX6 104 RX6 yX6_merges wsX6_merges) := goodIn_app (goodIn_of _ (by decide +kernel)) ggX6_mergesAll_X6_merges
theorem dX6_mergesAll_0 : decode cX6_mergesAll 0 = .ok (.iconst 0, 1) := by decide +kernel
theorem dX6_mergesAll_1 : decode cX6_mergesAll 1 = .ok (.istore_n 1, 1) := by decide +kernel
theorem dX6_mergesAll_2 : decode cX6_mergesAll 2 = .ok (.iconst 0, 1) := by decide +kernel
theorem dX6_mergesAll_3 : decode cX6_mergesAll 3 = .ok (.istore_n 2, 1) := by decide +kernel
theorem dX6_mergesAll_4 : decode cX6_mergesAll 4 = .ok (.iload_n 2, 1) := by decide +kernel
theorem dX6_mergesAll_5 : decode cX6_mergesAll 5 = .ok (.aload_n 0, 1) := by decide +kernel
theorem dX6_mergesAll_6 : decode cX6_mergesAll 6 = .ok (.getfield 7, 3) := by decide +kernel
theorem dX6_mergesAll_9 : decode cX6_mergesAll 9 = .ok (.iconst 1, 1) := by decide +kernel
theorem dX6_mergesAll_10 : decode cX6_mergesAll 10 = .ok (.iaload, 1) := by decide +kernel
theorem dX6_mergesAll_11 : decode cX6_mergesAll 11 = .ok (.if_icmp .ge 30, 3) := by decide +kernel
theorem dX6_mergesAll_14 : decode cX6_mergesAll 14 = .ok (.aload_n 0, 1) := by decide +kernel
theorem dX6_mergesAll_15 : decode cX6_mergesAll 15 = .ok (.iload_n 2, 1) := by decide +kernel
theorem dX6_mergesAll_16 : decode cX6_mergesAll 16 = .ok (.invokevirtual 101, 3) := by decide +kernel
theorem dX6_mergesAll_19 : decode cX6_mergesAll 19 = .ok (.ifCond .ne 16, 3) := by decide +kernel
theorem dX6_mergesAll_22 : decode cX6_mergesAll 22 = .ok (.aload_n 0, 1) := by decide +kernel
theorem dX6_mergesAll_23 : decode cX6_mergesAll 23 = .ok (.iload_n 2, 1) := by decide +kernel
theorem dX6_mergesAll_24 : decode cX6_mergesAll 24 = .ok (.invokevirtual 104, 3) := by decide +kernel
theorem dX6_mergesAll_27 : decode cX6_mergesAll 27 = .ok (.iinc 1 1, 3) := by decide +kernel
theorem dX6_mergesAll_30 : decode cX6_mergesAll 30 = .ok (.iconst 0, 1) := by decide +kernel
theorem dX6_mergesAll_31 : decode cX6_mergesAll 31 = .ok (.istore_n 2, 1) := by decide +kernel
theorem dX6_mergesAll_32 : decode cX6_mergesAll 32 = .ok (.goto (-28), 3) := by decide +kernel
theorem dX6_mergesAll_35 : decode cX6_mergesAll 35 = .ok (.iinc 2 1, 3) := by decide +kernel
theorem dX6_mergesAll_38 : decode cX6_mergesAll 38 = .ok (.goto (-34), 3) := by decide +kernel
theorem dX6_mergesAll_41 : decode cX6_mergesAll 41 = .ok (.iload_n 1, 1) := by decide +kernel
theorem dX6_mergesAll_42 : decode cX6_mergesAll 42 = .ok (.ireturn, 1) := by decide +kernel
set_option maxRecDepth 20000 in
theorem ggX6_addCondition_X6_in : GoodIn wsX6_addCondition wsX6_in := goodIn_r _ [5] (by decide +kernel) (by decide +kernel)
set_option maxRecDepth 20000 in
theorem gX6_addCondition_X6_in : GoodIn wsX6_addCondition (va_wsS RX6 54 yX6_in wsX6_in) := goodIn_app (goodIn_of _ (by decide +kernel)) ggX6_addCondition_X6_in
set_option maxRecDepth 20000 in
theorem ggX6_addCondition_X6_throwing : GoodIn wsX6_addCondition wsX6_throwing := goodIn_r _ [9, 10, 20, 21, 22, 23, 24, 25, 26, 27, 28, 29, 30, 31, 32, 33, 34, 35, 36, 37] (by decide +kernel) (by decide +kernel)
set_option maxRecDepth 20000 in
theorem gX6_addCondition_X6_throwing : GoodIn wsX6_addCondition (wsV RX6 107 RX6 yX6_throwing wsX6_throwing) := goodIn_app (goodIn_of _ (by decide +kernel)) ggX6_addCondition_X6_throwing
set_option maxRecDepth 20000 in
theorem ggX6_addCondition_X6_keeps : GoodIn wsX6_addCondition wsX6_keeps := goodIn_r _ [14, 15, 16, 1, 20, 21, 22, 23, 24, 25, 26, 27, 28, 29, 30, 31, 32, 33, 34, 35, 36, 37] (by decide +kernel) (by decide +kernel)
set_option maxRecDepth 20000 in
theorem gX6_addCondition_X6_keeps : GoodIn wsX6_addCondition (wsV RX6 111 RX6 yX6_keeps wsX6_keeps) := goodIn_app (goodIn_of _ (by decide +kernel)) ggX6_addCondition_X6_keeps
set_option maxRecDepth 20000 in
theorem ggX6_addCondition_X6_r : GoodIn wsX6_addCondition wsX6_r := goodIn_r _ [19] (by decide +kernel) (by decide +kernel)
set_option maxRecDepth 20000 in
theorem gX6_addCondition_X6_r : GoodIn wsX6_addCondition (va_wsS RX6 50 yX6_r wsX6_r) := goodIn_app (goodIn_of _ (by decide +kernel)) ggX6_addCondition_X6_r
theorem dX6_addCondition_0 : decode cX6_addCondition 0 = .ok (.aload_n 0, 1) := by decide +kernel
theorem dX6_addCondition_1 : decode cX6_addCondition 1 = .ok (.iload_n 1, 1) := by decide +kernel
theorem dX6_addCondition_2 : decode cX6_addCondition 2 = .ok (.iconst 2, 1) := by decide +kernel
theorem dX6_addCondition_3 : decode cX6_addCondition 3 = .ok (.iconst 4, 1) := by decide +kernel
theorem dX6_addCondition_4 : decode cX6_addCondition 4 = .ok (.invokestatic 54, 3) := by decide +kernel
theorem dX6_addCondition_7 : decode cX6_addCondition 7 = .ok (.ifCond .eq 13, 3) := by decide +kernel
theorem dX6_addCondition_10 : decode cX6_addCondition 10 = .ok (.iload_n 2, 1) := by decide +kernel
theorem dX6_addCondition_11 : decode cX6_addCondition 11 = .ok (.iconst 1, 1) := by decide +kernel
theorem dX6_addCondition_12 : decode cX6_addCondition 12 = .ok (.bipush 9, 2) := by decide +kernel
theorem dX6_addCondition_14 : decode cX6_addCondition 14 = .ok (.invokestatic 54, 3) := by decide +kernel
theorem dX6_addCondition_17 : decode cX6_addCondition 17 = .ok (.ifCond .ne 7, 3) := by decide +kernel
theorem dX6_addCondition_20 : decode cX6_addCondition 20 = .ok (.iconst 1, 1) := by decide +kernel
theorem dX6_addCondition_21 : decode cX6_addCondition 21 = .ok (.goto 4, 3) := by decide +kernel
theorem dX6_addCondition_24 : decode cX6_addCondition 24 = .ok (.iconst 0, 1) := by decide +kernel
theorem dX6_addCondition_25 : decode cX6_addCondition 25 = .ok (.aload_n 0, 1) := by decide +kernel
theorem dX6_addCondition_26 : decode cX6_addCondition 26 = .ok (.getfield 7, 3) := by decide +kernel
theorem dX6_addCondition_29 : decode cX6_addCondition 29 = .ok (.iconst 0, 1) := by decide +kernel
theorem dX6_addCondition_30 : decode cX6_addCondition 30 = .ok (.iaload, 1) := by decide +kernel
theorem dX6_addCondition_31 : decode cX6_addCondition 31 = .ok (.iconst 5, 1) := by decide +kernel
theorem dX6_addCondition_32 : decode cX6_addCondition 32 = .ok (.if_icmp .ne 7, 3) := by decide +kernel
theorem dX6_addCondition_35 : decode cX6_addCondition 35 = .ok (.iconst 1, 1) := by decide +kernel
theorem dX6_addCondition_36 : decode cX6_addCondition 36 = .ok (.goto 4, 3) := by decide +kernel
theorem dX6_addCondition_39 : decode cX6_addCondition 39 = .ok (.iconst 0, 1) := by decide +kernel
theorem dX6_addCondition_40 : decode cX6_addCondition 40 = .ok (.invokevirtual 107, 3) := by decide +kernel
theorem dX6_addCondition_43 : decode cX6_addCondition 43 = .ok (.ifCond .eq 5, 3) := by decide +kernel
theorem dX6_addCondition_46 : decode cX6_addCondition 46 = .ok (.iconst 0, 1) := by decide +kernel
theorem dX6_addCondition_47 : decode cX6_addCondition 47 = .ok (.ireturn, 1) := by decide +kernel
theorem dX6_addCondition_48 : decode cX6_addCondition 48 = .ok (.aload_n 0, 1) := by decide +kernel
theorem dX6_addCondition_49 : decode cX6_addCondition 49 = .ok (.invokevirtual 111, 3) := by decide +kernel
theorem dX6_addCondition_52 : decode cX6_addCondition 52 = .ok (.aload_n 0, 1) := by decide +kernel
theorem dX6_addCondition_53 : decode cX6_addCondition 53 = .ok (.getfield 7, 3) := by decide +kernel
theorem dX6_addCondition_56 : decode cX6_addCondition 56 = .ok (.iconst 0, 1) := by decide +kernel
theorem dX6_addCondition_57 : decode cX6_addCondition 57 = .ok (.iaload, 1) := by decide +kernel
theorem dX6_addCondition_58 : decode cX6_addCondition 58 = .ok (.istore_n 3, 1) := by decide +kernel
theorem dX6_addCondition_59 : decode cX6_addCondition 59 = .ok (.aload_n 0, 1) := by decide +kernel
theorem dX6_addCondition_60 : decode cX6_addCondition 60 = .ok (.getfield 7, 3) := by decide +kernel
theorem dX6_addCondition_63 : decode cX6_addCondition 63 = .ok (.iconst 3, 1) := by decide +kernel
theorem dX6_addCondition_64 : decode cX6_addCondition 64 = .ok (.iload_n 3, 1) := by decide +kernel
theorem dX6_addCondition_65 : decode cX6_addCondition 65 = .ok (.iadd, 1) := by decide +kernel
theorem dX6_addCondition_66 : decode cX6_addCondition 66 = .ok (.iload_n 1, 1) := by decide +kernel
theorem dX6_addCondition_67 : decode cX6_addCondition 67 = .ok (.iastore, 1) := by decide +kernel
theorem dX6_addCondition_68 : decode cX6_addCondition 68 = .ok (.aload_n 0, 1) := by decide +kernel
theorem dX6_addCondition_69 : decode cX6_addCondition 69 = .ok (.getfield 7, 3) := by decide +kernel
theorem dX6_addCondition_72 : decode cX6_addCondition 72 = .ok (.bipush 8, 2) := by decide +kernel
theorem dX6_addCondition_74 : decode cX6_addCondition 74 = .ok (.iload_n 3, 1) := by decide +kernel
theorem dX6_addCondition_75 : decode cX6_addCondition 75 = .ok (.iadd, 1) := by decide +kernel
theorem dX6_addCondition_76 : decode cX6_addCondition 76 = .ok (.iload_n 2, 1) := by decide +kernel
theorem dX6_addCondition_77 : decode cX6_addCondition 77 = .ok (.iastore, 1) := by decide +kernel
theorem dX6_addCondition_78 : decode cX6_addCondition 78 = .ok (.aload_n 0, 1) := by decide +kernel
theorem dX6_addCondition_79 : decode cX6_addCondition 79 = .ok (.getfield 7, 3) := by decide +kernel
theorem dX6_addCondition_82 : decode cX6_addCondition 82 = .ok (.iconst 0, 1) := by decide +kernel
theorem dX6_addCondition_83 : decode cX6_addCondition 83 = .ok (.dup2, 1) := by decide +kernel
theorem dX6_addCondition_84 : decode cX6_addCondition 84 = .ok (.iaload, 1) := by decide +kernel
theorem dX6_addCondition_85 : decode cX6_addCondition 85 = .ok (.iconst 1, 1) := by decide +kernel
theorem dX6_addCondition_86 : decode cX6_addCondition 86 = .ok (.iadd, 1) := by decide +kernel
theorem dX6_addCondition_87 : decode cX6_addCondition 87 = .ok (.iastore, 1) := by decide +kernel
theorem dX6_addCondition_88 : decode cX6_addCondition 88 = .ok (.iconst 0, 1) := by decide +kernel
theorem dX6_addCondition_89 : decode cX6_addCondition 89 = .ok (.istore 4, 2) := by decide +kernel
theorem dX6_addCondition_91 : decode cX6_addCondition 91 = .ok (.iload 4, 2) := by decide +kernel
theorem dX6_addCondition_93 : decode cX6_addCondition 93 = .ok (.aload_n 0, 1) := by decide +kernel
theorem dX6_addCondition_94 : decode cX6_addCondition 94 = .ok (.getfield 7, 3) := by decide +kernel
theorem dX6_addCondition_97 : decode cX6_addCondition 97 = .ok (.iconst 1, 1) := by decide +kernel
theorem dX6_addCondition_98 : decode cX6_addCondition 98 = .ok (.iaload, 1) := by decide +kernel
theorem dX6_addCondition_99 : decode cX6_addCondition 99 = .ok (.if_icmp .ge 32, 3) := by decide +kernel
theorem dX6_addCondition_102 : decode cX6_addCondition 102 = .ok (.aload_n 0, 1) := by decide +kernel
theorem dX6_addCondition_103 : decode cX6_addCondition 103 = .ok (.getfield 7, 3) := by decide +kernel
theorem dX6_addCondition_106 : decode cX6_addCondition 106 = .ok (.iload 4, 2) := by decide +kernel
theorem dX6_addCondition_108 : decode cX6_addCondition 108 = .ok (.iconst 2, 1) := by decide +kernel
theorem dX6_addCondition_109 : decode cX6_addCondition 109 = .ok (.invokestatic 50, 3) := by decide +kernel
theorem dX6_addCondition_112 : decode cX6_addCondition 112 = .ok (.dup2, 1) := by decide +kernel
theorem dX6_addCondition_113 : decode cX6_addCondition 113 = .ok (.iaload, 1) := by decide +kernel
theorem dX6_addCondition_114 : decode cX6_addCondition 114 = .ok (.iconst 1, 1) := by decide +kernel
theorem dX6_addCondition_115 : decode cX6_addCondition 115 = .ok (.iload_n 1, 1) := by decide +kernel
theorem dX6_addCondition_116 : decode cX6_addCondition 116 = .ok (.ishl, 1) := by decide +kernel
theorem dX6_addCondition_117 : decode cX6_addCondition 117 = .ok (.iconst 1, 1) := by decide +kernel
theorem dX6_addCondition_118 : decode cX6_addCondition 118 = .ok (.isub, 1) := by decide +kernel
theorem dX6_addCondition_119 : decode cX6_addCondition 119 = .ok (.iconst 4, 1) := by decide +kernel
theorem dX6_addCondition_120 : decode cX6_addCondition 120 = .ok (.iload_n 3, 1) := by decide +kernel
theorem dX6_addCondition_121 : decode cX6_addCondition 121 = .ok (.imul, 1) := by decide +kernel
theorem dX6_addCondition_122 : decode cX6_addCondition 122 = .ok (.ishl, 1) := by decide +kernel
theorem dX6_addCondition_123 : decode cX6_addCondition 123 = .ok (.ior, 1) := by decide +kernel
theorem dX6_addCondition_124 : decode cX6_addCondition 124 = .ok (.iastore, 1) := by decide +kernel
theorem dX6_addCondition_125 : decode cX6_addCondition 125 = .ok (.iinc 4 1, 3) := by decide +kernel
theorem dX6_addCondition_128 : decode cX6_addCondition 128 = .ok (.goto (-37), 3) := by decide +kernel
theorem dX6_addCondition_131 : decode cX6_addCondition 131 = .ok (.iload_n 3, 1) := by decide +kernel
theorem dX6_addCondition_132 : decode cX6_addCondition 132 = .ok (.ireturn, 1) := by decide +kernel
set_option maxRecDepth 20000 in
theorem ggX6_setCost_X6_isCondition : GoodIn wsX6_setCost wsX6_isCondition := goodIn_r _ [6, 1, 7, 8, 5, 9, 21, 22, 23, 24, 25, 26, 27, 28, 29, 30, 31, 32, 33, 34, 35, 36, 37, 38] (by decide +kernel) (by decide +kernel)
set_option maxRecDepth 20000 in
theorem gX6_setCost_X6_isCondition : GoodIn wsX6_setCost (wsV RX6 114 RX6 yX6_isCondition wsX6_isCondition) := goodIn_app (goodIn_of _ (by decide +kernel)) ggX6_setCost_X6_isCondition
set_option maxRecDepth 20000 in
theorem ggX6_setCost_X6_in : GoodIn wsX6_setCost wsX6_in := goodIn_r _ [9] (by decide +kernel) (by decide +kernel)
set_option maxRecDepth 20000 in
theorem gX6_setCost_X6_in : GoodIn wsX6_setCost (va_wsS RX6 54 yX6_in wsX6_in) := goodIn_app (goodIn_of _ (by decide +kernel)) ggX6_setCost_X6_in
set_option maxRecDepth 20000 in
theorem ggX6_setCost_X6_throwing : GoodIn wsX6_setCost wsX6_throwing := goodIn_r _ [13, 14, 21, 22, 23, 24, 25, 26, 27, 28, 29, 30, 31, 32, 33, 34, 35, 36, 37, 38] (by decide +kernel) (by decide +kernel)
set_option maxRecDepth 20000 in
theorem gX6_setCost_X6_throwing : GoodIn wsX6_setCost (wsV RX6 107 RX6 yX6_throwing wsX6_throwing) := goodIn_app (goodIn_of _ (by decide +kernel)) ggX6_setCost_X6_throwing
set_option maxRecDepth 20000 in
theorem ggX6_setCost_X6_keeps : GoodIn wsX6_setCost wsX6_keeps := goodIn_r _ [18, 19, 20, 1, 21, 22, 23, 24, 25, 26, 27, 28, 29, 30, 31, 32, 33, 34, 35, 36, 37, 38] (by decide +kernel) (by decide +kernel)
set_option maxRecDepth 20000 in
theorem gX6_setCost_X6_keeps : GoodIn wsX6_setCost (wsV RX6 111 RX6 yX6_keeps wsX6_keeps) := goodIn_app (goodIn_of _ (by decide +kernel)) ggX6_setCost_X6_keeps
theorem dX6_setCost_0 : decode cX6_setCost 0 = .ok (.aload_n 0, 1) := by decide +kernel
theorem dX6_setCost_1 : decode cX6_setCost 1 = .ok (.aload_n 0, 1) := by decide +kernel
theorem dX6_setCost_2 : decode cX6_setCost 2 = .ok (.iload_n 1, 1) := by decide +kernel
theorem dX6_setCost_3 : decode cX6_setCost 3 = .ok (.invokevirtual 114, 3) := by decide +kernel
theorem dX6_setCost_6 : decode cX6_setCost 6 = .ok (.ifCond .ne 7, 3) := by decide +kernel
theorem dX6_setCost_9 : decode cX6_setCost 9 = .ok (.iconst 1, 1) := by decide +kernel
theorem dX6_setCost_10 : decode cX6_setCost 10 = .ok (.goto 4, 3) := by decide +kernel
theorem dX6_setCost_13 : decode cX6_setCost 13 = .ok (.iconst 0, 1) := by decide +kernel
theorem dX6_setCost_14 : decode cX6_setCost 14 = .ok (.iload_n 2, 1) := by decide +kernel
theorem dX6_setCost_15 : decode cX6_setCost 15 = .ok (.iconst 1, 1) := by decide +kernel
theorem dX6_setCost_16 : decode cX6_setCost 16 = .ok (.bipush 9, 2) := by decide +kernel
theorem dX6_setCost_18 : decode cX6_setCost 18 = .ok (.invokestatic 54, 3) := by decide +kernel
theorem dX6_setCost_21 : decode cX6_setCost 21 = .ok (.ifCond .ne 7, 3) := by decide +kernel
theorem dX6_setCost_24 : decode cX6_setCost 24 = .ok (.iconst 1, 1) := by decide +kernel
theorem dX6_setCost_25 : decode cX6_setCost 25 = .ok (.goto 4, 3) := by decide +kernel
theorem dX6_setCost_28 : decode cX6_setCost 28 = .ok (.iconst 0, 1) := by decide +kernel
theorem dX6_setCost_29 : decode cX6_setCost 29 = .ok (.invokevirtual 107, 3) := by decide +kernel
theorem dX6_setCost_32 : decode cX6_setCost 32 = .ok (.ifCond .eq 5, 3) := by decide +kernel
theorem dX6_setCost_35 : decode cX6_setCost 35 = .ok (.iconst 0, 1) := by decide +kernel
theorem dX6_setCost_36 : decode cX6_setCost 36 = .ok (.ireturn, 1) := by decide +kernel
theorem dX6_setCost_37 : decode cX6_setCost 37 = .ok (.aload_n 0, 1) := by decide +kernel
theorem dX6_setCost_38 : decode cX6_setCost 38 = .ok (.invokevirtual 111, 3) := by decide +kernel
theorem dX6_setCost_41 : decode cX6_setCost 41 = .ok (.aload_n 0, 1) := by decide +kernel
theorem dX6_setCost_42 : decode cX6_setCost 42 = .ok (.getfield 7, 3) := by decide +kernel
theorem dX6_setCost_45 : decode cX6_setCost 45 = .ok (.bipush 8, 2) := by decide +kernel
theorem dX6_setCost_47 : decode cX6_setCost 47 = .ok (.iload_n 1, 1) := by decide +kernel
theorem dX6_setCost_48 : decode cX6_setCost 48 = .ok (.iadd, 1) := by decide +kernel
theorem dX6_setCost_49 : decode cX6_setCost 49 = .ok (.iaload, 1) := by decide +kernel
theorem dX6_setCost_50 : decode cX6_setCost 50 = .ok (.istore_n 3, 1) := by decide +kernel
theorem dX6_setCost_51 : decode cX6_setCost 51 = .ok (.aload_n 0, 1) := by decide +kernel
theorem dX6_setCost_52 : decode cX6_setCost 52 = .ok (.getfield 7, 3) := by decide +kernel
theorem dX6_setCost_55 : decode cX6_setCost 55 = .ok (.bipush 8, 2) := by decide +kernel
theorem dX6_setCost_57 : decode cX6_setCost 57 = .ok (.iload_n 1, 1) := by decide +kernel
theorem dX6_setCost_58 : decode cX6_setCost 58 = .ok (.iadd, 1) := by decide +kernel
theorem dX6_setCost_59 : decode cX6_setCost 59 = .ok (.iload_n 2, 1) := by decide +kernel
theorem dX6_setCost_60 : decode cX6_setCost 60 = .ok (.iastore, 1) := by decide +kernel
theorem dX6_setCost_61 : decode cX6_setCost 61 = .ok (.iload_n 3, 1) := by decide +kernel
theorem dX6_setCost_62 : decode cX6_setCost 62 = .ok (.ireturn, 1) := by decide +kernel
set_option maxRecDepth 20000 in
theorem ggX6_addRow_X6_in : GoodIn wsX6_addRow wsX6_in := goodIn_r _ [5] (by decide +kernel) (by decide +kernel)
set_option maxRecDepth 20000 in
theorem gX6_addRow_X6_in : GoodIn wsX6_addRow (va_wsS RX6 54 yX6_in wsX6_in) := goodIn_app (goodIn_of _ (by decide +kernel)) ggX6_addRow_X6_in
set_option maxRecDepth 20000 in
theorem ggX6_addRow_X6_isSets : GoodIn wsX6_addRow wsX6_isSets := goodIn_r _ [9, 1, 10, 11, 12, 4, 13, 2, 3, 5, 32, 33, 34, 35, 36, 37, 38, 39, 40, 41, 42, 43, 44, 45, 46, 47, 48, 49] (by decide +kernel) (by decide +kernel)
set_option maxRecDepth 20000 in
theorem gX6_addRow_X6_isSets : GoodIn wsX6_addRow (wsV RX6 118 RX6 yX6_isSets wsX6_isSets) := goodIn_app (goodIn_of _ (by decide +kernel)) ggX6_addRow_X6_isSets
set_option maxRecDepth 20000 in
theorem ggX6_addRow_X6_throwing : GoodIn wsX6_addRow wsX6_throwing := goodIn_r _ [17, 18, 32, 33, 34, 35, 36, 37, 38, 39, 40, 41, 42, 43, 44, 45, 46, 47, 48, 49] (by decide +kernel) (by decide +kernel)
set_option maxRecDepth 20000 in
theorem gX6_addRow_X6_throwing : GoodIn wsX6_addRow (wsV RX6 107 RX6 yX6_throwing wsX6_throwing) := goodIn_app (goodIn_of _ (by decide +kernel)) ggX6_addRow_X6_throwing
set_option maxRecDepth 20000 in
theorem ggX6_addRow_X6_keeps : GoodIn wsX6_addRow wsX6_keeps := goodIn_r _ [22, 23, 24, 1, 32, 33, 34, 35, 36, 37, 38, 39, 40, 41, 42, 43, 44, 45, 46, 47, 48, 49] (by decide +kernel) (by decide +kernel)
set_option maxRecDepth 20000 in
theorem gX6_addRow_X6_keeps : GoodIn wsX6_addRow (wsV RX6 111 RX6 yX6_keeps wsX6_keeps) := goodIn_app (goodIn_of _ (by decide +kernel)) ggX6_addRow_X6_keeps
set_option maxRecDepth 20000 in
theorem ggX6_addRow_X6_adds : GoodIn wsX6_addRow wsX6_adds := goodIn_r _ [28, 1, 29, 30, 4, 31, 32, 33, 34, 35, 36, 37, 38, 39, 40, 41, 42, 43, 44, 45, 46, 47, 48, 49] (by decide +kernel) (by decide +kernel)
set_option maxRecDepth 20000 in
theorem gX6_addRow_X6_adds : GoodIn wsX6_addRow (wsV RX6 121 RX6 yX6_adds wsX6_adds) := goodIn_app (goodIn_of _ (by decide +kernel)) ggX6_addRow_X6_adds
theorem dX6_addRow_0 : decode cX6_addRow 0 = .ok (.aload_n 0, 1) := by decide +kernel
theorem dX6_addRow_1 : decode cX6_addRow 1 = .ok (.iload_n 2, 1) := by decide +kernel
theorem dX6_addRow_2 : decode cX6_addRow 2 = .ok (.iconst 0, 1) := by decide +kernel
theorem dX6_addRow_3 : decode cX6_addRow 3 = .ok (.bipush 9, 2) := by decide +kernel
theorem dX6_addRow_5 : decode cX6_addRow 5 = .ok (.invokestatic 54, 3) := by decide +kernel
theorem dX6_addRow_8 : decode cX6_addRow 8 = .ok (.ifCond .eq 11, 3) := by decide +kernel
theorem dX6_addRow_11 : decode cX6_addRow 11 = .ok (.aload_n 0, 1) := by decide +kernel
theorem dX6_addRow_12 : decode cX6_addRow 12 = .ok (.iload_n 1, 1) := by decide +kernel
theorem dX6_addRow_13 : decode cX6_addRow 13 = .ok (.invokevirtual 118, 3) := by decide +kernel
theorem dX6_addRow_16 : decode cX6_addRow 16 = .ok (.ifCond .ne 7, 3) := by decide +kernel
theorem dX6_addRow_19 : decode cX6_addRow 19 = .ok (.iconst 1, 1) := by decide +kernel
theorem dX6_addRow_20 : decode cX6_addRow 20 = .ok (.goto 4, 3) := by decide +kernel
theorem dX6_addRow_23 : decode cX6_addRow 23 = .ok (.iconst 0, 1) := by decide +kernel
theorem dX6_addRow_24 : decode cX6_addRow 24 = .ok (.aload_n 0, 1) := by decide +kernel
theorem dX6_addRow_25 : decode cX6_addRow 25 = .ok (.getfield 7, 3) := by decide +kernel
theorem dX6_addRow_28 : decode cX6_addRow 28 = .ok (.iconst 1, 1) := by decide +kernel
theorem dX6_addRow_29 : decode cX6_addRow 29 = .ok (.iaload, 1) := by decide +kernel
theorem dX6_addRow_30 : decode cX6_addRow 30 = .ok (.bipush 20, 2) := by decide +kernel
theorem dX6_addRow_32 : decode cX6_addRow 32 = .ok (.if_icmp .ne 7, 3) := by decide +kernel
theorem dX6_addRow_35 : decode cX6_addRow 35 = .ok (.iconst 1, 1) := by decide +kernel
theorem dX6_addRow_36 : decode cX6_addRow 36 = .ok (.goto 4, 3) := by decide +kernel
theorem dX6_addRow_39 : decode cX6_addRow 39 = .ok (.iconst 0, 1) := by decide +kernel
theorem dX6_addRow_40 : decode cX6_addRow 40 = .ok (.invokevirtual 107, 3) := by decide +kernel
theorem dX6_addRow_43 : decode cX6_addRow 43 = .ok (.ifCond .eq 5, 3) := by decide +kernel
theorem dX6_addRow_46 : decode cX6_addRow 46 = .ok (.iconst 0, 1) := by decide +kernel
theorem dX6_addRow_47 : decode cX6_addRow 47 = .ok (.ireturn, 1) := by decide +kernel
theorem dX6_addRow_48 : decode cX6_addRow 48 = .ok (.aload_n 0, 1) := by decide +kernel
theorem dX6_addRow_49 : decode cX6_addRow 49 = .ok (.invokevirtual 111, 3) := by decide +kernel
theorem dX6_addRow_52 : decode cX6_addRow 52 = .ok (.aload_n 0, 1) := by decide +kernel
theorem dX6_addRow_53 : decode cX6_addRow 53 = .ok (.iload_n 1, 1) := by decide +kernel
theorem dX6_addRow_54 : decode cX6_addRow 54 = .ok (.iload_n 2, 1) := by decide +kernel
theorem dX6_addRow_55 : decode cX6_addRow 55 = .ok (.invokevirtual 121, 3) := by decide +kernel
theorem dX6_addRow_58 : decode cX6_addRow 58 = .ok (.ireturn, 1) := by decide +kernel
set_option maxRecDepth 20000 in
theorem ggX6_setAnswers_X6_placeOf : GoodIn wsX6_setAnswers wsX6_placeOf := goodIn_r _ [6, 1, 7, 8, 5, 9, 36, 37, 38, 39, 40, 41, 42, 43, 44, 45, 46, 47, 48, 49, 50, 51, 52, 53] (by decide +kernel) (by decide +kernel)
set_option maxRecDepth 20000 in
theorem gX6_setAnswers_X6_placeOf : GoodIn wsX6_setAnswers (wsV RX6 124 RX6 yX6_placeOf wsX6_placeOf) := goodIn_app (goodIn_of _ (by decide +kernel)) ggX6_setAnswers_X6_placeOf
set_option maxRecDepth 20000 in
theorem ggX6_setAnswers_X6_isCondition : GoodIn wsX6_setAnswers wsX6_isCondition := goodIn_r _ [13, 1, 14, 15, 5, 16, 36, 37, 38, 39, 40, 41, 42, 43, 44, 45, 46, 47, 48, 49, 50, 51, 52, 53] (by decide +kernel) (by decide +kernel)
set_option maxRecDepth 20000 in
theorem gX6_setAnswers_X6_isCondition : GoodIn wsX6_setAnswers (wsV RX6 114 RX6 yX6_isCondition wsX6_isCondition) := goodIn_app (goodIn_of _ (by decide +kernel)) ggX6_setAnswers_X6_isCondition
set_option maxRecDepth 20000 in
theorem ggX6_setAnswers_X6_answersOf : GoodIn wsX6_setAnswers wsX6_answersOf := goodIn_r _ [20, 1, 36, 37, 38, 39, 40, 41, 42, 43, 44, 45, 46, 47, 48, 49, 50, 51, 52, 53] (by decide +kernel) (by decide +kernel)
set_option maxRecDepth 20000 in
theorem gX6_setAnswers_X6_answersOf : GoodIn wsX6_setAnswers (wsV RX6 58 RX6 yX6_answersOf wsX6_answersOf) := goodIn_app (goodIn_of _ (by decide +kernel)) ggX6_setAnswers_X6_answersOf
set_option maxRecDepth 20000 in
theorem ggX6_setAnswers_X6_in : GoodIn wsX6_setAnswers wsX6_in := goodIn_r _ [16] (by decide +kernel) (by decide +kernel)
set_option maxRecDepth 20000 in
theorem gX6_setAnswers_X6_in : GoodIn wsX6_setAnswers (va_wsS RX6 54 yX6_in wsX6_in) := goodIn_app (goodIn_of _ (by decide +kernel)) ggX6_setAnswers_X6_in
set_option maxRecDepth 20000 in
theorem ggX6_setAnswers_X6_throwing : GoodIn wsX6_setAnswers wsX6_throwing := goodIn_r _ [24, 25, 36, 37, 38, 39, 40, 41, 42, 43, 44, 45, 46, 47, 48, 49, 50, 51, 52, 53] (by decide +kernel) (by decide +kernel)
set_option maxRecDepth 20000 in
theorem gX6_setAnswers_X6_throwing : GoodIn wsX6_setAnswers (wsV RX6 107 RX6 yX6_throwing wsX6_throwing) := goodIn_app (goodIn_of _ (by decide +kernel)) ggX6_setAnswers_X6_throwing
set_option maxRecDepth 20000 in
theorem ggX6_setAnswers_X6_keeps : GoodIn wsX6_setAnswers wsX6_keeps := goodIn_r _ [29, 30, 31, 1, 36, 37, 38, 39, 40, 41, 42, 43, 44, 45, 46, 47, 48, 49, 50, 51, 52, 53] (by decide +kernel) (by decide +kernel)
set_option maxRecDepth 20000 in
theorem gX6_setAnswers_X6_keeps : GoodIn wsX6_setAnswers (wsV RX6 111 RX6 yX6_keeps wsX6_keeps) := goodIn_app (goodIn_of _ (by decide +kernel)) ggX6_setAnswers_X6_keeps
set_option maxRecDepth 20000 in
theorem ggX6_setAnswers_X6_setOf : GoodIn wsX6_setAnswers wsX6_setOf := goodIn_r _ [35, 1, 7, 8, 5, 9, 36, 37, 38, 39, 40, 41, 42, 43, 44, 45, 46, 47, 48, 49, 50, 51, 52, 53] (by decide +kernel) (by decide +kernel)
set_option maxRecDepth 20000 in
theorem gX6_setAnswers_X6_setOf : GoodIn wsX6_setAnswers (wsV RX6 65 RX6 yX6_setOf wsX6_setOf) := goodIn_app (goodIn_of _ (by decide +kernel)) ggX6_setAnswers_X6_setOf
set_option maxRecDepth 20000 in
theorem ggX6_setAnswers_X6_r : GoodIn wsX6_setAnswers wsX6_r := goodIn_r _ [9] (by decide +kernel) (by decide +kernel)
set_option maxRecDepth 20000 in
theorem gX6_setAnswers_X6_r : GoodIn wsX6_setAnswers (va_wsS RX6 50 yX6_r wsX6_r) := goodIn_app (goodIn_of _ (by decide +kernel)) ggX6_setAnswers_X6_r
theorem dX6_setAnswers_0 : decode cX6_setAnswers 0 = .ok (.aload_n 0, 1) := by decide +kernel
theorem dX6_setAnswers_1 : decode cX6_setAnswers 1 = .ok (.iload_n 1, 1) := by decide +kernel
theorem dX6_setAnswers_2 : decode cX6_setAnswers 2 = .ok (.invokevirtual 124, 3) := by decide +kernel
theorem dX6_setAnswers_5 : decode cX6_setAnswers 5 = .ok (.istore 4, 2) := by decide +kernel
theorem dX6_setAnswers_7 : decode cX6_setAnswers 7 = .ok (.iload 4, 2) := by decide +kernel
theorem dX6_setAnswers_9 : decode cX6_setAnswers 9 = .ok (.iconst (-1), 1) := by decide +kernel
theorem dX6_setAnswers_10 : decode cX6_setAnswers 10 = .ok (.if_icmp .eq 11, 3) := by decide +kernel
theorem dX6_setAnswers_13 : decode cX6_setAnswers 13 = .ok (.aload_n 0, 1) := by decide +kernel
theorem dX6_setAnswers_14 : decode cX6_setAnswers 14 = .ok (.iload_n 2, 1) := by decide +kernel
theorem dX6_setAnswers_15 : decode cX6_setAnswers 15 = .ok (.invokevirtual 114, 3) := by decide +kernel
theorem dX6_setAnswers_18 : decode cX6_setAnswers 18 = .ok (.ifCond .ne 7, 3) := by decide +kernel
theorem dX6_setAnswers_21 : decode cX6_setAnswers 21 = .ok (.iconst 1, 1) := by decide +kernel
theorem dX6_setAnswers_22 : decode cX6_setAnswers 22 = .ok (.goto 4, 3) := by decide +kernel
theorem dX6_setAnswers_25 : decode cX6_setAnswers 25 = .ok (.iconst 0, 1) := by decide +kernel
theorem dX6_setAnswers_26 : decode cX6_setAnswers 26 = .ok (.istore 5, 2) := by decide +kernel
theorem dX6_setAnswers_28 : decode cX6_setAnswers 28 = .ok (.aload_n 0, 1) := by decide +kernel
theorem dX6_setAnswers_29 : decode cX6_setAnswers 29 = .ok (.iload 5, 2) := by decide +kernel
theorem dX6_setAnswers_31 : decode cX6_setAnswers 31 = .ok (.iload 5, 2) := by decide +kernel
theorem dX6_setAnswers_33 : decode cX6_setAnswers 33 = .ok (.ifCond .ne 24, 3) := by decide +kernel
theorem dX6_setAnswers_36 : decode cX6_setAnswers 36 = .ok (.iload_n 3, 1) := by decide +kernel
theorem dX6_setAnswers_37 : decode cX6_setAnswers 37 = .ok (.iconst 1, 1) := by decide +kernel
theorem dX6_setAnswers_38 : decode cX6_setAnswers 38 = .ok (.iconst 1, 1) := by decide +kernel
theorem dX6_setAnswers_39 : decode cX6_setAnswers 39 = .ok (.aload_n 0, 1) := by decide +kernel
theorem dX6_setAnswers_40 : decode cX6_setAnswers 40 = .ok (.iload_n 2, 1) := by decide +kernel
theorem dX6_setAnswers_41 : decode cX6_setAnswers 41 = .ok (.invokevirtual 58, 3) := by decide +kernel
theorem dX6_setAnswers_44 : decode cX6_setAnswers 44 = .ok (.ishl, 1) := by decide +kernel
theorem dX6_setAnswers_45 : decode cX6_setAnswers 45 = .ok (.iconst 1, 1) := by decide +kernel
theorem dX6_setAnswers_46 : decode cX6_setAnswers 46 = .ok (.isub, 1) := by decide +kernel
theorem dX6_setAnswers_47 : decode cX6_setAnswers 47 = .ok (.invokestatic 54, 3) := by decide +kernel
theorem dX6_setAnswers_50 : decode cX6_setAnswers 50 = .ok (.ifCond .ne 7, 3) := by decide +kernel
theorem dX6_setAnswers_53 : decode cX6_setAnswers 53 = .ok (.iconst 1, 1) := by decide +kernel
theorem dX6_setAnswers_54 : decode cX6_setAnswers 54 = .ok (.goto 4, 3) := by decide +kernel
theorem dX6_setAnswers_57 : decode cX6_setAnswers 57 = .ok (.iconst 0, 1) := by decide +kernel
theorem dX6_setAnswers_58 : decode cX6_setAnswers 58 = .ok (.invokevirtual 107, 3) := by decide +kernel
theorem dX6_setAnswers_61 : decode cX6_setAnswers 61 = .ok (.ifCond .eq 5, 3) := by decide +kernel
theorem dX6_setAnswers_64 : decode cX6_setAnswers 64 = .ok (.iconst 0, 1) := by decide +kernel
theorem dX6_setAnswers_65 : decode cX6_setAnswers 65 = .ok (.ireturn, 1) := by decide +kernel
theorem dX6_setAnswers_66 : decode cX6_setAnswers 66 = .ok (.aload_n 0, 1) := by decide +kernel
theorem dX6_setAnswers_67 : decode cX6_setAnswers 67 = .ok (.invokevirtual 111, 3) := by decide +kernel
theorem dX6_setAnswers_70 : decode cX6_setAnswers 70 = .ok (.aload_n 0, 1) := by decide +kernel
theorem dX6_setAnswers_71 : decode cX6_setAnswers 71 = .ok (.iload 4, 2) := by decide +kernel
theorem dX6_setAnswers_73 : decode cX6_setAnswers 73 = .ok (.iload_n 2, 1) := by decide +kernel
theorem dX6_setAnswers_74 : decode cX6_setAnswers 74 = .ok (.invokevirtual 65, 3) := by decide +kernel
theorem dX6_setAnswers_77 : decode cX6_setAnswers 77 = .ok (.istore 6, 2) := by decide +kernel
theorem dX6_setAnswers_79 : decode cX6_setAnswers 79 = .ok (.aload_n 0, 1) := by decide +kernel
theorem dX6_setAnswers_80 : decode cX6_setAnswers 80 = .ok (.getfield 7, 3) := by decide +kernel
theorem dX6_setAnswers_83 : decode cX6_setAnswers 83 = .ok (.iload 4, 2) := by decide +kernel
theorem dX6_setAnswers_85 : decode cX6_setAnswers 85 = .ok (.iconst 2, 1) := by decide +kernel
theorem dX6_setAnswers_86 : decode cX6_setAnswers 86 = .ok (.invokestatic 50, 3) := by decide +kernel
theorem dX6_setAnswers_89 : decode cX6_setAnswers 89 = .ok (.dup2, 1) := by decide +kernel
theorem dX6_setAnswers_90 : decode cX6_setAnswers 90 = .ok (.iaload, 1) := by decide +kernel
theorem dX6_setAnswers_91 : decode cX6_setAnswers 91 = .ok (.iload_n 3, 1) := by decide +kernel
theorem dX6_setAnswers_92 : decode cX6_setAnswers 92 = .ok (.iload 6, 2) := by decide +kernel
theorem dX6_setAnswers_94 : decode cX6_setAnswers 94 = .ok (.isub, 1) := by decide +kernel
theorem dX6_setAnswers_95 : decode cX6_setAnswers 95 = .ok (.iconst 4, 1) := by decide +kernel
theorem dX6_setAnswers_96 : decode cX6_setAnswers 96 = .ok (.iload_n 2, 1) := by decide +kernel
theorem dX6_setAnswers_97 : decode cX6_setAnswers 97 = .ok (.imul, 1) := by decide +kernel
theorem dX6_setAnswers_98 : decode cX6_setAnswers 98 = .ok (.ishl, 1) := by decide +kernel
theorem dX6_setAnswers_99 : decode cX6_setAnswers 99 = .ok (.iadd, 1) := by decide +kernel
theorem dX6_setAnswers_100 : decode cX6_setAnswers 100 = .ok (.iastore, 1) := by decide +kernel
theorem dX6_setAnswers_101 : decode cX6_setAnswers 101 = .ok (.iload 6, 2) := by decide +kernel
theorem dX6_setAnswers_103 : decode cX6_setAnswers 103 = .ok (.ireturn, 1) := by decide +kernel
set_option maxRecDepth 20000 in
theorem ggX6_setAction_X6_placeOf : GoodIn wsX6_setAction wsX6_placeOf := goodIn_r _ [6, 1, 7, 8, 5, 9, 24, 25, 26, 27, 28, 29, 30, 31, 32, 33, 34, 35, 36, 37, 38, 39, 40, 41] (by decide +kernel) (by decide +kernel)
set_option maxRecDepth 20000 in
theorem gX6_setAction_X6_placeOf : GoodIn wsX6_setAction (wsV RX6 124 RX6 yX6_placeOf wsX6_placeOf) := goodIn_app (goodIn_of _ (by decide +kernel)) ggX6_setAction_X6_placeOf
set_option maxRecDepth 20000 in
theorem ggX6_setAction_X6_in : GoodIn wsX6_setAction wsX6_in := goodIn_r _ [12] (by decide +kernel) (by decide +kernel)
set_option maxRecDepth 20000 in
theorem gX6_setAction_X6_in : GoodIn wsX6_setAction (va_wsS RX6 54 yX6_in wsX6_in) := goodIn_app (goodIn_of _ (by decide +kernel)) ggX6_setAction_X6_in
set_option maxRecDepth 20000 in
theorem ggX6_setAction_X6_throwing : GoodIn wsX6_setAction wsX6_throwing := goodIn_r _ [16, 17, 24, 25, 26, 27, 28, 29, 30, 31, 32, 33, 34, 35, 36, 37, 38, 39, 40, 41] (by decide +kernel) (by decide +kernel)
set_option maxRecDepth 20000 in
theorem gX6_setAction_X6_throwing : GoodIn wsX6_setAction (wsV RX6 107 RX6 yX6_throwing wsX6_throwing) := goodIn_app (goodIn_of _ (by decide +kernel)) ggX6_setAction_X6_throwing
set_option maxRecDepth 20000 in
theorem ggX6_setAction_X6_keeps : GoodIn wsX6_setAction wsX6_keeps := goodIn_r _ [21, 22, 23, 1, 24, 25, 26, 27, 28, 29, 30, 31, 32, 33, 34, 35, 36, 37, 38, 39, 40, 41] (by decide +kernel) (by decide +kernel)
set_option maxRecDepth 20000 in
theorem gX6_setAction_X6_keeps : GoodIn wsX6_setAction (wsV RX6 111 RX6 yX6_keeps wsX6_keeps) := goodIn_app (goodIn_of _ (by decide +kernel)) ggX6_setAction_X6_keeps
set_option maxRecDepth 20000 in
theorem ggX6_setAction_X6_r : GoodIn wsX6_setAction wsX6_r := goodIn_r _ [9] (by decide +kernel) (by decide +kernel)
set_option maxRecDepth 20000 in
theorem gX6_setAction_X6_r : GoodIn wsX6_setAction (va_wsS RX6 50 yX6_r wsX6_r) := goodIn_app (goodIn_of _ (by decide +kernel)) ggX6_setAction_X6_r
theorem dX6_setAction_0 : decode cX6_setAction 0 = .ok (.aload_n 0, 1) := by decide +kernel
theorem dX6_setAction_1 : decode cX6_setAction 1 = .ok (.iload_n 1, 1) := by decide +kernel
theorem dX6_setAction_2 : decode cX6_setAction 2 = .ok (.invokevirtual 124, 3) := by decide +kernel
theorem dX6_setAction_5 : decode cX6_setAction 5 = .ok (.istore_n 3, 1) := by decide +kernel
theorem dX6_setAction_6 : decode cX6_setAction 6 = .ok (.aload_n 0, 1) := by decide +kernel
theorem dX6_setAction_7 : decode cX6_setAction 7 = .ok (.iload_n 3, 1) := by decide +kernel
theorem dX6_setAction_8 : decode cX6_setAction 8 = .ok (.iconst (-1), 1) := by decide +kernel
theorem dX6_setAction_9 : decode cX6_setAction 9 = .ok (.if_icmp .ne 7, 3) := by decide +kernel
theorem dX6_setAction_12 : decode cX6_setAction 12 = .ok (.iconst 1, 1) := by decide +kernel
theorem dX6_setAction_13 : decode cX6_setAction 13 = .ok (.goto 4, 3) := by decide +kernel
theorem dX6_setAction_16 : decode cX6_setAction 16 = .ok (.iconst 0, 1) := by decide +kernel
theorem dX6_setAction_17 : decode cX6_setAction 17 = .ok (.iload_n 2, 1) := by decide +kernel
theorem dX6_setAction_18 : decode cX6_setAction 18 = .ok (.iconst 0, 1) := by decide +kernel
theorem dX6_setAction_19 : decode cX6_setAction 19 = .ok (.bipush 9, 2) := by decide +kernel
theorem dX6_setAction_21 : decode cX6_setAction 21 = .ok (.invokestatic 54, 3) := by decide +kernel
theorem dX6_setAction_24 : decode cX6_setAction 24 = .ok (.ifCond .ne 7, 3) := by decide +kernel
theorem dX6_setAction_27 : decode cX6_setAction 27 = .ok (.iconst 1, 1) := by decide +kernel
theorem dX6_setAction_28 : decode cX6_setAction 28 = .ok (.goto 4, 3) := by decide +kernel
theorem dX6_setAction_31 : decode cX6_setAction 31 = .ok (.iconst 0, 1) := by decide +kernel
theorem dX6_setAction_32 : decode cX6_setAction 32 = .ok (.invokevirtual 107, 3) := by decide +kernel
theorem dX6_setAction_35 : decode cX6_setAction 35 = .ok (.ifCond .eq 5, 3) := by decide +kernel
theorem dX6_setAction_38 : decode cX6_setAction 38 = .ok (.iconst 0, 1) := by decide +kernel
theorem dX6_setAction_39 : decode cX6_setAction 39 = .ok (.ireturn, 1) := by decide +kernel
theorem dX6_setAction_40 : decode cX6_setAction 40 = .ok (.aload_n 0, 1) := by decide +kernel
theorem dX6_setAction_41 : decode cX6_setAction 41 = .ok (.invokevirtual 111, 3) := by decide +kernel
theorem dX6_setAction_44 : decode cX6_setAction 44 = .ok (.aload_n 0, 1) := by decide +kernel
theorem dX6_setAction_45 : decode cX6_setAction 45 = .ok (.getfield 7, 3) := by decide +kernel
theorem dX6_setAction_48 : decode cX6_setAction 48 = .ok (.iload_n 3, 1) := by decide +kernel
theorem dX6_setAction_49 : decode cX6_setAction 49 = .ok (.iconst 1, 1) := by decide +kernel
theorem dX6_setAction_50 : decode cX6_setAction 50 = .ok (.invokestatic 50, 3) := by decide +kernel
theorem dX6_setAction_53 : decode cX6_setAction 53 = .ok (.iaload, 1) := by decide +kernel
theorem dX6_setAction_54 : decode cX6_setAction 54 = .ok (.istore 4, 2) := by decide +kernel
theorem dX6_setAction_56 : decode cX6_setAction 56 = .ok (.aload_n 0, 1) := by decide +kernel
theorem dX6_setAction_57 : decode cX6_setAction 57 = .ok (.getfield 7, 3) := by decide +kernel
theorem dX6_setAction_60 : decode cX6_setAction 60 = .ok (.iload_n 3, 1) := by decide +kernel
theorem dX6_setAction_61 : decode cX6_setAction 61 = .ok (.iconst 1, 1) := by decide +kernel
theorem dX6_setAction_62 : decode cX6_setAction 62 = .ok (.invokestatic 50, 3) := by decide +kernel
theorem dX6_setAction_65 : decode cX6_setAction 65 = .ok (.iload_n 2, 1) := by decide +kernel
theorem dX6_setAction_66 : decode cX6_setAction 66 = .ok (.iastore, 1) := by decide +kernel
theorem dX6_setAction_67 : decode cX6_setAction 67 = .ok (.iload 4, 2) := by decide +kernel
theorem dX6_setAction_69 : decode cX6_setAction 69 = .ok (.ireturn, 1) := by decide +kernel
set_option maxRecDepth 20000 in
theorem ggX6_dropRow_X6_placeOf : GoodIn wsX6_dropRow wsX6_placeOf := goodIn_r _ [5, 6, 7, 8, 4, 9, 25, 26, 27, 28, 29, 30, 31, 32, 33, 34, 35, 36, 37, 38, 39, 40, 41, 42] (by decide +kernel) (by decide +kernel)
set_option maxRecDepth 20000 in
theorem gX6_dropRow_X6_placeOf : GoodIn wsX6_dropRow (wsV RX6 124 RX6 yX6_placeOf wsX6_placeOf) := goodIn_app (goodIn_of _ (by decide +kernel)) ggX6_dropRow_X6_placeOf
set_option maxRecDepth 20000 in
theorem ggX6_dropRow_X6_throwing : GoodIn wsX6_dropRow wsX6_throwing := goodIn_r _ [13, 14, 25, 26, 27, 28, 29, 30, 31, 32, 33, 34, 35, 36, 37, 38, 39, 40, 41, 42] (by decide +kernel) (by decide +kernel)
set_option maxRecDepth 20000 in
theorem gX6_dropRow_X6_throwing : GoodIn wsX6_dropRow (wsV RX6 107 RX6 yX6_throwing wsX6_throwing) := goodIn_app (goodIn_of _ (by decide +kernel)) ggX6_dropRow_X6_throwing
set_option maxRecDepth 20000 in
theorem ggX6_dropRow_X6_keeps : GoodIn wsX6_dropRow wsX6_keeps := goodIn_r _ [18, 19, 20, 6, 25, 26, 27, 28, 29, 30, 31, 32, 33, 34, 35, 36, 37, 38, 39, 40, 41, 42] (by decide +kernel) (by decide +kernel)
set_option maxRecDepth 20000 in
theorem gX6_dropRow_X6_keeps : GoodIn wsX6_dropRow (wsV RX6 111 RX6 yX6_keeps wsX6_keeps) := goodIn_app (goodIn_of _ (by decide +kernel)) ggX6_dropRow_X6_keeps
set_option maxRecDepth 20000 in
theorem ggX6_dropRow_X6_drops : GoodIn wsX6_dropRow wsX6_drops := goodIn_r _ [24, 6, 7, 8, 4, 9, 25, 26, 27, 28, 29, 30, 31, 32, 33, 34, 35, 36, 37, 38, 39, 40, 41, 42] (by decide +kernel) (by decide +kernel)
set_option maxRecDepth 20000 in
theorem gX6_dropRow_X6_drops : GoodIn wsX6_dropRow (wsV RX6 98 RX6 yX6_drops wsX6_drops) := goodIn_app (goodIn_of _ (by decide +kernel)) ggX6_dropRow_X6_drops
theorem dX6_dropRow_0 : decode cX6_dropRow 0 = .ok (.aload_n 0, 1) := by decide +kernel
theorem dX6_dropRow_1 : decode cX6_dropRow 1 = .ok (.iload_n 1, 1) := by decide +kernel
theorem dX6_dropRow_2 : decode cX6_dropRow 2 = .ok (.invokevirtual 124, 3) := by decide +kernel
theorem dX6_dropRow_5 : decode cX6_dropRow 5 = .ok (.istore_n 2, 1) := by decide +kernel
theorem dX6_dropRow_6 : decode cX6_dropRow 6 = .ok (.aload_n 0, 1) := by decide +kernel
theorem dX6_dropRow_7 : decode cX6_dropRow 7 = .ok (.iload_n 2, 1) := by decide +kernel
theorem dX6_dropRow_8 : decode cX6_dropRow 8 = .ok (.iconst (-1), 1) := by decide +kernel
theorem dX6_dropRow_9 : decode cX6_dropRow 9 = .ok (.if_icmp .ne 7, 3) := by decide +kernel
theorem dX6_dropRow_12 : decode cX6_dropRow 12 = .ok (.iconst 1, 1) := by decide +kernel
theorem dX6_dropRow_13 : decode cX6_dropRow 13 = .ok (.goto 4, 3) := by decide +kernel
theorem dX6_dropRow_16 : decode cX6_dropRow 16 = .ok (.iconst 0, 1) := by decide +kernel
theorem dX6_dropRow_17 : decode cX6_dropRow 17 = .ok (.iconst 0, 1) := by decide +kernel
theorem dX6_dropRow_18 : decode cX6_dropRow 18 = .ok (.invokevirtual 107, 3) := by decide +kernel
theorem dX6_dropRow_21 : decode cX6_dropRow 21 = .ok (.ifCond .eq 5, 3) := by decide +kernel
theorem dX6_dropRow_24 : decode cX6_dropRow 24 = .ok (.iconst 0, 1) := by decide +kernel
theorem dX6_dropRow_25 : decode cX6_dropRow 25 = .ok (.ireturn, 1) := by decide +kernel
theorem dX6_dropRow_26 : decode cX6_dropRow 26 = .ok (.aload_n 0, 1) := by decide +kernel
theorem dX6_dropRow_27 : decode cX6_dropRow 27 = .ok (.invokevirtual 111, 3) := by decide +kernel
theorem dX6_dropRow_30 : decode cX6_dropRow 30 = .ok (.aload_n 0, 1) := by decide +kernel
theorem dX6_dropRow_31 : decode cX6_dropRow 31 = .ok (.iload_n 2, 1) := by decide +kernel
theorem dX6_dropRow_32 : decode cX6_dropRow 32 = .ok (.invokevirtual 98, 3) := by decide +kernel
theorem dX6_dropRow_35 : decode cX6_dropRow 35 = .ok (.iload_n 2, 1) := by decide +kernel
theorem dX6_dropRow_36 : decode cX6_dropRow 36 = .ok (.ireturn, 1) := by decide +kernel
set_option maxRecDepth 20000 in
theorem ggX6_moveUp_X6_placeOf : GoodIn wsX6_moveUp wsX6_placeOf := goodIn_r _ [5, 6, 7, 8, 4, 9, 25, 26, 27, 28, 29, 30, 31, 32, 33, 34, 35, 36, 37, 38, 39, 40, 41, 42] (by decide +kernel) (by decide +kernel)
set_option maxRecDepth 20000 in
theorem gX6_moveUp_X6_placeOf : GoodIn wsX6_moveUp (wsV RX6 124 RX6 yX6_placeOf wsX6_placeOf) := goodIn_app (goodIn_of _ (by decide +kernel)) ggX6_moveUp_X6_placeOf
set_option maxRecDepth 20000 in
theorem ggX6_moveUp_X6_throwing : GoodIn wsX6_moveUp wsX6_throwing := goodIn_r _ [13, 14, 25, 26, 27, 28, 29, 30, 31, 32, 33, 34, 35, 36, 37, 38, 39, 40, 41, 42] (by decide +kernel) (by decide +kernel)
set_option maxRecDepth 20000 in
theorem gX6_moveUp_X6_throwing : GoodIn wsX6_moveUp (wsV RX6 107 RX6 yX6_throwing wsX6_throwing) := goodIn_app (goodIn_of _ (by decide +kernel)) ggX6_moveUp_X6_throwing
set_option maxRecDepth 20000 in
theorem ggX6_moveUp_X6_keeps : GoodIn wsX6_moveUp wsX6_keeps := goodIn_r _ [18, 19, 20, 6, 25, 26, 27, 28, 29, 30, 31, 32, 33, 34, 35, 36, 37, 38, 39, 40, 41, 42] (by decide +kernel) (by decide +kernel)
set_option maxRecDepth 20000 in
theorem gX6_moveUp_X6_keeps : GoodIn wsX6_moveUp (wsV RX6 111 RX6 yX6_keeps wsX6_keeps) := goodIn_app (goodIn_of _ (by decide +kernel)) ggX6_moveUp_X6_keeps
set_option maxRecDepth 20000 in
theorem ggX6_moveUp_X6_ups : GoodIn wsX6_moveUp wsX6_ups := goodIn_r _ [24, 6, 7, 8, 4, 9, 25, 26, 27, 28, 29, 30, 31, 32, 33, 34, 35, 36, 37, 38, 39, 40, 41, 42] (by decide +kernel) (by decide +kernel)
set_option maxRecDepth 20000 in
theorem gX6_moveUp_X6_ups : GoodIn wsX6_moveUp (wsV RX6 127 RX6 yX6_ups wsX6_ups) := goodIn_app (goodIn_of _ (by decide +kernel)) ggX6_moveUp_X6_ups
theorem dX6_moveUp_0 : decode cX6_moveUp 0 = .ok (.aload_n 0, 1) := by decide +kernel
theorem dX6_moveUp_1 : decode cX6_moveUp 1 = .ok (.iload_n 1, 1) := by decide +kernel
theorem dX6_moveUp_2 : decode cX6_moveUp 2 = .ok (.invokevirtual 124, 3) := by decide +kernel
theorem dX6_moveUp_5 : decode cX6_moveUp 5 = .ok (.istore_n 2, 1) := by decide +kernel
theorem dX6_moveUp_6 : decode cX6_moveUp 6 = .ok (.aload_n 0, 1) := by decide +kernel
theorem dX6_moveUp_7 : decode cX6_moveUp 7 = .ok (.iload_n 2, 1) := by decide +kernel
theorem dX6_moveUp_8 : decode cX6_moveUp 8 = .ok (.iconst (-1), 1) := by decide +kernel
theorem dX6_moveUp_9 : decode cX6_moveUp 9 = .ok (.if_icmp .ne 7, 3) := by decide +kernel
theorem dX6_moveUp_12 : decode cX6_moveUp 12 = .ok (.iconst 1, 1) := by decide +kernel
theorem dX6_moveUp_13 : decode cX6_moveUp 13 = .ok (.goto 4, 3) := by decide +kernel
theorem dX6_moveUp_16 : decode cX6_moveUp 16 = .ok (.iconst 0, 1) := by decide +kernel
theorem dX6_moveUp_17 : decode cX6_moveUp 17 = .ok (.iload_n 2, 1) := by decide +kernel
theorem dX6_moveUp_18 : decode cX6_moveUp 18 = .ok (.ifCond .ne 7, 3) := by decide +kernel
theorem dX6_moveUp_21 : decode cX6_moveUp 21 = .ok (.iconst 1, 1) := by decide +kernel
theorem dX6_moveUp_22 : decode cX6_moveUp 22 = .ok (.goto 4, 3) := by decide +kernel
theorem dX6_moveUp_25 : decode cX6_moveUp 25 = .ok (.iconst 0, 1) := by decide +kernel
theorem dX6_moveUp_26 : decode cX6_moveUp 26 = .ok (.invokevirtual 107, 3) := by decide +kernel
theorem dX6_moveUp_29 : decode cX6_moveUp 29 = .ok (.ifCond .eq 5, 3) := by decide +kernel
theorem dX6_moveUp_32 : decode cX6_moveUp 32 = .ok (.iconst 0, 1) := by decide +kernel
theorem dX6_moveUp_33 : decode cX6_moveUp 33 = .ok (.ireturn, 1) := by decide +kernel
theorem dX6_moveUp_34 : decode cX6_moveUp 34 = .ok (.aload_n 0, 1) := by decide +kernel
theorem dX6_moveUp_35 : decode cX6_moveUp 35 = .ok (.invokevirtual 111, 3) := by decide +kernel
theorem dX6_moveUp_38 : decode cX6_moveUp 38 = .ok (.aload_n 0, 1) := by decide +kernel
theorem dX6_moveUp_39 : decode cX6_moveUp 39 = .ok (.iload_n 2, 1) := by decide +kernel
theorem dX6_moveUp_40 : decode cX6_moveUp 40 = .ok (.invokevirtual 127, 3) := by decide +kernel
theorem dX6_moveUp_43 : decode cX6_moveUp 43 = .ok (.iload_n 2, 1) := by decide +kernel
theorem dX6_moveUp_44 : decode cX6_moveUp 44 = .ok (.iconst 1, 1) := by decide +kernel
theorem dX6_moveUp_45 : decode cX6_moveUp 45 = .ok (.isub, 1) := by decide +kernel
theorem dX6_moveUp_46 : decode cX6_moveUp 46 = .ok (.ireturn, 1) := by decide +kernel
set_option maxRecDepth 20000 in
theorem ggX6_merge_X6_placeOf : GoodIn wsX6_merge wsX6_placeOf := goodIn_r _ [6, 1, 7, 8, 5, 9, 37, 38, 39, 40, 41, 42, 43, 44, 45, 46, 47, 48, 49, 50, 51, 52, 53, 54] (by decide +kernel) (by decide +kernel)
set_option maxRecDepth 20000 in
theorem gX6_merge_X6_placeOf : GoodIn wsX6_merge (wsV RX6 124 RX6 yX6_placeOf wsX6_placeOf) := goodIn_app (goodIn_of _ (by decide +kernel)) ggX6_merge_X6_placeOf
set_option maxRecDepth 20000 in
theorem ggX6_merge_X6_reasonOf : GoodIn wsX6_merge wsX6_reasonOf := goodIn_r _ [13, 1, 7, 8, 5, 9, 14, 15, 16, 17, 37, 38, 39, 40, 41, 42, 43, 44, 45, 46, 47, 48, 49, 50, 51, 52, 53, 54] (by decide +kernel) (by decide +kernel)
set_option maxRecDepth 20000 in
theorem gX6_merge_X6_reasonOf : GoodIn wsX6_merge (wsV RX6 101 RX6 yX6_reasonOf wsX6_reasonOf) := goodIn_app (goodIn_of _ (by decide +kernel)) ggX6_merge_X6_reasonOf
set_option maxRecDepth 20000 in
theorem ggX6_merge_X6_throwing : GoodIn wsX6_merge wsX6_throwing := goodIn_r _ [21, 22, 37, 38, 39, 40, 41, 42, 43, 44, 45, 46, 47, 48, 49, 50, 51, 52, 53, 54] (by decide +kernel) (by decide +kernel)
set_option maxRecDepth 20000 in
theorem gX6_merge_X6_throwing : GoodIn wsX6_merge (wsV RX6 107 RX6 yX6_throwing wsX6_throwing) := goodIn_app (goodIn_of _ (by decide +kernel)) ggX6_merge_X6_throwing
set_option maxRecDepth 20000 in
theorem ggX6_merge_X6_keeps : GoodIn wsX6_merge wsX6_keeps := goodIn_r _ [26, 27, 28, 1, 37, 38, 39, 40, 41, 42, 43, 44, 45, 46, 47, 48, 49, 50, 51, 52, 53, 54] (by decide +kernel) (by decide +kernel)
set_option maxRecDepth 20000 in
theorem gX6_merge_X6_keeps : GoodIn wsX6_merge (wsV RX6 111 RX6 yX6_keeps wsX6_keeps) := goodIn_app (goodIn_of _ (by decide +kernel)) ggX6_merge_X6_keeps
set_option maxRecDepth 20000 in
theorem ggX6_merge_X6_r : GoodIn wsX6_merge wsX6_r := goodIn_r _ [9] (by decide +kernel) (by decide +kernel)
set_option maxRecDepth 20000 in
theorem gX6_merge_X6_r : GoodIn wsX6_merge (va_wsS RX6 50 yX6_r wsX6_r) := goodIn_app (goodIn_of _ (by decide +kernel)) ggX6_merge_X6_r
set_option maxRecDepth 20000 in
theorem ggX6_merge_X6_merges : GoodIn wsX6_merge wsX6_merges := goodIn_r _ [32, 1, 7, 8, 5, 9, 33, 34, 35, 36, 37, 38, 39, 40, 41, 42, 43, 44, 45, 46, 47, 48, 49, 50, 51, 52, 53, 54] (by decide +kernel) (by decide +kernel)
set_option maxRecDepth 20000 in
theorem gX6_merge_X6_merges : GoodIn wsX6_merge (wsV RX6 104 RX6 yX6_merges wsX6_merges) := goodIn_app (goodIn_of _ (by decide +kernel)) ggX6_merge_X6_merges
theorem dX6_merge_0 : decode cX6_merge 0 = .ok (.aload_n 0, 1) := by decide +kernel
theorem dX6_merge_1 : decode cX6_merge 1 = .ok (.iload_n 1, 1) := by decide +kernel
theorem dX6_merge_2 : decode cX6_merge 2 = .ok (.invokevirtual 124, 3) := by decide +kernel
theorem dX6_merge_5 : decode cX6_merge 5 = .ok (.istore_n 2, 1) := by decide +kernel
theorem dX6_merge_6 : decode cX6_merge 6 = .ok (.aload_n 0, 1) := by decide +kernel
theorem dX6_merge_7 : decode cX6_merge 7 = .ok (.iload_n 2, 1) := by decide +kernel
theorem dX6_merge_8 : decode cX6_merge 8 = .ok (.iconst (-1), 1) := by decide +kernel
theorem dX6_merge_9 : decode cX6_merge 9 = .ok (.if_icmp .ne 7, 3) := by decide +kernel
theorem dX6_merge_12 : decode cX6_merge 12 = .ok (.iconst 1, 1) := by decide +kernel
theorem dX6_merge_13 : decode cX6_merge 13 = .ok (.goto 4, 3) := by decide +kernel
theorem dX6_merge_16 : decode cX6_merge 16 = .ok (.iconst 0, 1) := by decide +kernel
theorem dX6_merge_17 : decode cX6_merge 17 = .ok (.iload_n 2, 1) := by decide +kernel
theorem dX6_merge_18 : decode cX6_merge 18 = .ok (.iconst (-1), 1) := by decide +kernel
theorem dX6_merge_19 : decode cX6_merge 19 = .ok (.if_icmp .eq 15, 3) := by decide +kernel
theorem dX6_merge_22 : decode cX6_merge 22 = .ok (.aload_n 0, 1) := by decide +kernel
theorem dX6_merge_23 : decode cX6_merge 23 = .ok (.iload_n 2, 1) := by decide +kernel
theorem dX6_merge_24 : decode cX6_merge 24 = .ok (.invokevirtual 101, 3) := by decide +kernel
theorem dX6_merge_27 : decode cX6_merge 27 = .ok (.ifCond .eq 7, 3) := by decide +kernel
theorem dX6_merge_30 : decode cX6_merge 30 = .ok (.iconst 1, 1) := by decide +kernel
theorem dX6_merge_31 : decode cX6_merge 31 = .ok (.goto 4, 3) := by decide +kernel
theorem dX6_merge_34 : decode cX6_merge 34 = .ok (.iconst 0, 1) := by decide +kernel
theorem dX6_merge_35 : decode cX6_merge 35 = .ok (.invokevirtual 107, 3) := by decide +kernel
theorem dX6_merge_38 : decode cX6_merge 38 = .ok (.ifCond .eq 5, 3) := by decide +kernel
theorem dX6_merge_41 : decode cX6_merge 41 = .ok (.iconst 0, 1) := by decide +kernel
theorem dX6_merge_42 : decode cX6_merge 42 = .ok (.ireturn, 1) := by decide +kernel
theorem dX6_merge_43 : decode cX6_merge 43 = .ok (.aload_n 0, 1) := by decide +kernel
theorem dX6_merge_44 : decode cX6_merge 44 = .ok (.invokevirtual 111, 3) := by decide +kernel
theorem dX6_merge_47 : decode cX6_merge 47 = .ok (.aload_n 0, 1) := by decide +kernel
theorem dX6_merge_48 : decode cX6_merge 48 = .ok (.getfield 7, 3) := by decide +kernel
theorem dX6_merge_51 : decode cX6_merge 51 = .ok (.iload_n 2, 1) := by decide +kernel
theorem dX6_merge_52 : decode cX6_merge 52 = .ok (.iconst 1, 1) := by decide +kernel
theorem dX6_merge_53 : decode cX6_merge 53 = .ok (.iadd, 1) := by decide +kernel
theorem dX6_merge_54 : decode cX6_merge 54 = .ok (.iconst 0, 1) := by decide +kernel
theorem dX6_merge_55 : decode cX6_merge 55 = .ok (.invokestatic 50, 3) := by decide +kernel
theorem dX6_merge_58 : decode cX6_merge 58 = .ok (.iaload, 1) := by decide +kernel
theorem dX6_merge_59 : decode cX6_merge 59 = .ok (.istore_n 3, 1) := by decide +kernel
theorem dX6_merge_60 : decode cX6_merge 60 = .ok (.aload_n 0, 1) := by decide +kernel
theorem dX6_merge_61 : decode cX6_merge 61 = .ok (.iload_n 2, 1) := by decide +kernel
theorem dX6_merge_62 : decode cX6_merge 62 = .ok (.invokevirtual 104, 3) := by decide +kernel
theorem dX6_merge_65 : decode cX6_merge 65 = .ok (.iload_n 3, 1) := by decide +kernel
theorem dX6_merge_66 : decode cX6_merge 66 = .ok (.ireturn, 1) := by decide +kernel
set_option maxRecDepth 20000 in
theorem ggX6_mergeAll_X6_keeps : GoodIn wsX6_mergeAll wsX6_keeps := goodIn_r _ [6, 7, 8, 9, 33, 34, 35, 36, 37, 38, 39, 40, 41, 42, 43, 44, 45, 46, 47, 48, 49, 50] (by decide +kernel) (by decide +kernel)
set_option maxRecDepth 20000 in
theorem gX6_mergeAll_X6_keeps : GoodIn wsX6_mergeAll (wsV RX6 111 RX6 yX6_keeps wsX6_keeps) := goodIn_app (goodIn_of _ (by decide +kernel)) ggX6_mergeAll_X6_keeps
set_option maxRecDepth 20000 in
theorem ggX6_mergeAll_X6_mergesAll : GoodIn wsX6_mergeAll wsX6_mergesAll := goodIn_r _ [13, 9, 14, 15, 16, 5, 17, 18, 19, 20, 21, 22, 23, 24, 25, 26, 27, 28, 29, 30, 31, 32, 33, 34, 35, 36, 37, 38, 39, 40, 41, 42, 43, 44, 45, 46, 47, 48, 49, 50] (by decide +kernel) (by decide +kernel)
set_option maxRecDepth 20000 in
theorem gX6_mergeAll_X6_mergesAll : GoodIn wsX6_mergeAll (wsV RX6 130 RX6 yX6_mergesAll wsX6_mergesAll) := goodIn_app (goodIn_of _ (by decide +kernel)) ggX6_mergeAll_X6_mergesAll
theorem dX6_mergeAll_0 : decode cX6_mergeAll 0 = .ok (.aload_n 0, 1) := by decide +kernel
theorem dX6_mergeAll_1 : decode cX6_mergeAll 1 = .ok (.iconst 0, 1) := by decide +kernel
theorem dX6_mergeAll_2 : decode cX6_mergeAll 2 = .ok (.putfield 46, 3) := by decide +kernel
theorem dX6_mergeAll_5 : decode cX6_mergeAll 5 = .ok (.aload_n 0, 1) := by decide +kernel
theorem dX6_mergeAll_6 : decode cX6_mergeAll 6 = .ok (.invokevirtual 111, 3) := by decide +kernel
theorem dX6_mergeAll_9 : decode cX6_mergeAll 9 = .ok (.aload_n 0, 1) := by decide +kernel
theorem dX6_mergeAll_10 : decode cX6_mergeAll 10 = .ok (.invokevirtual 130, 3) := by decide +kernel
theorem dX6_mergeAll_13 : decode cX6_mergeAll 13 = .ok (.ireturn, 1) := by decide +kernel
set_option maxRecDepth 20000 in
theorem ggX6_prune_X6_keeps : GoodIn wsX6_prune wsX6_keeps := goodIn_r _ [7, 8, 9, 2, 48, 49, 50, 51, 52, 53, 54, 55, 56, 57, 58, 59, 60, 61, 62, 63, 64, 65] (by decide +kernel) (by decide +kernel)
set_option maxRecDepth 20000 in
theorem gX6_prune_X6_keeps : GoodIn wsX6_prune (wsV RX6 111 RX6 yX6_keeps wsX6_keeps) := goodIn_app (goodIn_of _ (by decide +kernel)) ggX6_prune_X6_keeps
set_option maxRecDepth 20000 in
theorem ggX6_prune_X6_lays : GoodIn wsX6_prune wsX6_lays := goodIn_r _ [13, 14, 15, 16, 2, 17, 18, 19, 20, 6, 21, 22, 23, 24, 25, 26, 27, 28, 29, 30, 31, 32, 33, 34, 35, 36, 37, 38, 39, 48, 49, 50, 51, 52, 53, 54, 55, 56, 57, 58, 59, 60, 61, 62, 63, 64, 65] (by decide +kernel) (by decide +kernel)
set_option maxRecDepth 20000 in
theorem gX6_prune_X6_lays : GoodIn wsX6_prune (wsV RX6 133 RX6 yX6_lays wsX6_lays) := goodIn_app (goodIn_of _ (by decide +kernel)) ggX6_prune_X6_lays
set_option maxRecDepth 20000 in
theorem ggX6_prune_X6_cases : GoodIn wsX6_prune wsX6_cases := goodIn_r _ [21, 2, 22, 23, 24, 6, 25, 48, 49, 50, 51, 52, 53, 54, 55, 56, 57, 58, 59, 60, 61, 62, 63, 64, 65] (by decide +kernel) (by decide +kernel)
set_option maxRecDepth 20000 in
theorem gX6_prune_X6_cases : GoodIn wsX6_prune (wsV RX6 72 RX6 yX6_cases wsX6_cases) := goodIn_app (goodIn_of _ (by decide +kernel)) ggX6_prune_X6_cases
set_option maxRecDepth 20000 in
theorem ggX6_prune_X6_ownOf : GoodIn wsX6_prune wsX6_ownOf := goodIn_r _ [43, 14, 48, 49, 50, 51, 52, 53, 54, 55, 56, 57, 58, 59, 60, 61, 62, 63, 64, 65] (by decide +kernel) (by decide +kernel)
set_option maxRecDepth 20000 in
theorem gX6_prune_X6_ownOf : GoodIn wsX6_prune (wsV RX6 136 RX6 yX6_ownOf wsX6_ownOf) := goodIn_app (goodIn_of _ (by decide +kernel)) ggX6_prune_X6_ownOf
set_option maxRecDepth 20000 in
theorem ggX6_prune_X6_drops : GoodIn wsX6_prune wsX6_drops := goodIn_r _ [47, 2, 34, 35, 6, 36, 48, 49, 50, 51, 52, 53, 54, 55, 56, 57, 58, 59, 60, 61, 62, 63, 64, 65] (by decide +kernel) (by decide +kernel)
set_option maxRecDepth 20000 in
theorem gX6_prune_X6_drops : GoodIn wsX6_prune (wsV RX6 98 RX6 yX6_drops wsX6_drops) := goodIn_app (goodIn_of _ (by decide +kernel)) ggX6_prune_X6_drops
theorem dX6_prune_0 : decode cX6_prune 0 = .ok (.aload_n 0, 1) := by decide +kernel
theorem dX6_prune_1 : decode cX6_prune 1 = .ok (.iconst 0, 1) := by decide +kernel
theorem dX6_prune_2 : decode cX6_prune 2 = .ok (.putfield 46, 3) := by decide +kernel
theorem dX6_prune_5 : decode cX6_prune 5 = .ok (.aload_n 0, 1) := by decide +kernel
theorem dX6_prune_6 : decode cX6_prune 6 = .ok (.invokevirtual 111, 3) := by decide +kernel
theorem dX6_prune_9 : decode cX6_prune 9 = .ok (.iconst 0, 1) := by decide +kernel
theorem dX6_prune_10 : decode cX6_prune 10 = .ok (.istore_n 1, 1) := by decide +kernel
theorem dX6_prune_11 : decode cX6_prune 11 = .ok (.aload_n 0, 1) := by decide +kernel
theorem dX6_prune_12 : decode cX6_prune 12 = .ok (.iconst (-1), 1) := by decide +kernel
theorem dX6_prune_13 : decode cX6_prune 13 = .ok (.invokevirtual 133, 3) := by decide +kernel
theorem dX6_prune_16 : decode cX6_prune 16 = .ok (.aload_n 0, 1) := by decide +kernel
theorem dX6_prune_17 : decode cX6_prune 17 = .ok (.invokevirtual 72, 3) := by decide +kernel
theorem dX6_prune_20 : decode cX6_prune 20 = .ok (.istore_n 2, 1) := by decide +kernel
theorem dX6_prune_21 : decode cX6_prune 21 = .ok (.aload_n 0, 1) := by decide +kernel
theorem dX6_prune_22 : decode cX6_prune 22 = .ok (.getfield 7, 3) := by decide +kernel
theorem dX6_prune_25 : decode cX6_prune 25 = .ok (.iconst 1, 1) := by decide +kernel
theorem dX6_prune_26 : decode cX6_prune 26 = .ok (.iaload, 1) := by decide +kernel
theorem dX6_prune_27 : decode cX6_prune 27 = .ok (.iconst 1, 1) := by decide +kernel
theorem dX6_prune_28 : decode cX6_prune 28 = .ok (.isub, 1) := by decide +kernel
theorem dX6_prune_29 : decode cX6_prune 29 = .ok (.istore_n 3, 1) := by decide +kernel
theorem dX6_prune_30 : decode cX6_prune 30 = .ok (.iload_n 3, 1) := by decide +kernel
theorem dX6_prune_31 : decode cX6_prune 31 = .ok (.ifCond .lt 26, 3) := by decide +kernel
theorem dX6_prune_34 : decode cX6_prune 34 = .ok (.aload_n 0, 1) := by decide +kernel
theorem dX6_prune_35 : decode cX6_prune 35 = .ok (.iload_n 3, 1) := by decide +kernel
theorem dX6_prune_36 : decode cX6_prune 36 = .ok (.iload_n 2, 1) := by decide +kernel
theorem dX6_prune_37 : decode cX6_prune 37 = .ok (.invokevirtual 136, 3) := by decide +kernel
theorem dX6_prune_40 : decode cX6_prune 40 = .ok (.ifCond .ne 11, 3) := by decide +kernel
theorem dX6_prune_43 : decode cX6_prune 43 = .ok (.aload_n 0, 1) := by decide +kernel
theorem dX6_prune_44 : decode cX6_prune 44 = .ok (.iload_n 3, 1) := by decide +kernel
theorem dX6_prune_45 : decode cX6_prune 45 = .ok (.invokevirtual 98, 3) := by decide +kernel
theorem dX6_prune_48 : decode cX6_prune 48 = .ok (.iinc 1 1, 3) := by decide +kernel
theorem dX6_prune_51 : decode cX6_prune 51 = .ok (.iinc 3 (-1), 3) := by decide +kernel
theorem dX6_prune_54 : decode cX6_prune 54 = .ok (.goto (-24), 3) := by decide +kernel
theorem dX6_prune_57 : decode cX6_prune 57 = .ok (.iload_n 1, 1) := by decide +kernel
theorem dX6_prune_58 : decode cX6_prune 58 = .ok (.ireturn, 1) := by decide +kernel
theorem dX6_ownOf_0 : decode cX6_ownOf 0 = .ok (.iconst 0, 1) := by decide +kernel
theorem dX6_ownOf_1 : decode cX6_ownOf 1 = .ok (.istore_n 3, 1) := by decide +kernel
theorem dX6_ownOf_2 : decode cX6_ownOf 2 = .ok (.iconst 0, 1) := by decide +kernel
theorem dX6_ownOf_3 : decode cX6_ownOf 3 = .ok (.istore 4, 2) := by decide +kernel
theorem dX6_ownOf_5 : decode cX6_ownOf 5 = .ok (.iload 4, 2) := by decide +kernel
theorem dX6_ownOf_7 : decode cX6_ownOf 7 = .ok (.iload_n 2, 1) := by decide +kernel
theorem dX6_ownOf_8 : decode cX6_ownOf 8 = .ok (.if_icmp .ge 28, 3) := by decide +kernel
theorem dX6_ownOf_11 : decode cX6_ownOf 11 = .ok (.iload_n 3, 1) := by decide +kernel
theorem dX6_ownOf_12 : decode cX6_ownOf 12 = .ok (.aload_n 0, 1) := by decide +kernel
theorem dX6_ownOf_13 : decode cX6_ownOf 13 = .ok (.getfield 19, 3) := by decide +kernel
theorem dX6_ownOf_16 : decode cX6_ownOf 16 = .ok (.iload 4, 2) := by decide +kernel
theorem dX6_ownOf_18 : decode cX6_ownOf 18 = .ok (.iaload, 1) := by decide +kernel
theorem dX6_ownOf_19 : decode cX6_ownOf 19 = .ok (.iload_n 1, 1) := by decide +kernel
theorem dX6_ownOf_20 : decode cX6_ownOf 20 = .ok (.if_icmp .ne 7, 3) := by decide +kernel
theorem dX6_ownOf_23 : decode cX6_ownOf 23 = .ok (.iconst 1, 1) := by decide +kernel
theorem dX6_ownOf_24 : decode cX6_ownOf 24 = .ok (.goto 4, 3) := by decide +kernel
theorem dX6_ownOf_27 : decode cX6_ownOf 27 = .ok (.iconst 0, 1) := by decide +kernel
theorem dX6_ownOf_28 : decode cX6_ownOf 28 = .ok (.iadd, 1) := by decide +kernel
theorem dX6_ownOf_29 : decode cX6_ownOf 29 = .ok (.istore_n 3, 1) := by decide +kernel
theorem dX6_ownOf_30 : decode cX6_ownOf 30 = .ok (.iinc 4 1, 3) := by decide +kernel
theorem dX6_ownOf_33 : decode cX6_ownOf 33 = .ok (.goto (-28), 3) := by decide +kernel
theorem dX6_ownOf_36 : decode cX6_ownOf 36 = .ok (.iload_n 3, 1) := by decide +kernel
theorem dX6_ownOf_37 : decode cX6_ownOf 37 = .ok (.ireturn, 1) := by decide +kernel
set_option maxRecDepth 20000 in
theorem ggX6_matters_X6_answersOf : GoodIn wsX6_matters wsX6_answersOf := goodIn_r _ [6, 7, 16, 17, 18, 19, 20, 21, 22, 23, 24, 25, 26, 27, 28, 29, 30, 31, 32, 33] (by decide +kernel) (by decide +kernel)
set_option maxRecDepth 20000 in
theorem gX6_matters_X6_answersOf : GoodIn wsX6_matters (wsV RX6 58 RX6 yX6_answersOf wsX6_answersOf) := goodIn_app (goodIn_of _ (by decide +kernel)) ggX6_matters_X6_answersOf
set_option maxRecDepth 20000 in
theorem ggX6_matters_X6_cases : GoodIn wsX6_matters wsX6_cases := goodIn_r _ [11, 7, 2, 3, 4, 5, 6, 16, 17, 18, 19, 20, 21, 22, 23, 24, 25, 26, 27, 28, 29, 30, 31, 32, 33] (by decide +kernel) (by decide +kernel)
set_option maxRecDepth 20000 in
theorem gX6_matters_X6_cases : GoodIn wsX6_matters (wsV RX6 72 RX6 yX6_cases wsX6_cases) := goodIn_app (goodIn_of _ (by decide +kernel)) ggX6_matters_X6_cases
set_option maxRecDepth 20000 in
theorem ggX6_matters_X6_answer : GoodIn wsX6_matters wsX6_answer := goodIn_r _ [15, 2, 3, 4, 5, 6, 7, 16, 17, 18, 19, 20, 21, 22, 23, 24, 25, 26, 27, 28, 29, 30, 31, 32, 33] (by decide +kernel) (by decide +kernel)
set_option maxRecDepth 20000 in
theorem gX6_matters_X6_answer : GoodIn wsX6_matters (wsV RX6 139 RX6 yX6_answer wsX6_answer) := goodIn_app (goodIn_of _ (by decide +kernel)) ggX6_matters_X6_answer
theorem dX6_matters_0 : decode cX6_matters 0 = .ok (.iconst 1, 1) := by decide +kernel
theorem dX6_matters_1 : decode cX6_matters 1 = .ok (.istore_n 2, 1) := by decide +kernel
theorem dX6_matters_2 : decode cX6_matters 2 = .ok (.iconst 0, 1) := by decide +kernel
theorem dX6_matters_3 : decode cX6_matters 3 = .ok (.istore_n 3, 1) := by decide +kernel
theorem dX6_matters_4 : decode cX6_matters 4 = .ok (.iload_n 3, 1) := by decide +kernel
theorem dX6_matters_5 : decode cX6_matters 5 = .ok (.iload_n 1, 1) := by decide +kernel
theorem dX6_matters_6 : decode cX6_matters 6 = .ok (.if_icmp .ge 17, 3) := by decide +kernel
theorem dX6_matters_9 : decode cX6_matters 9 = .ok (.iload_n 2, 1) := by decide +kernel
theorem dX6_matters_10 : decode cX6_matters 10 = .ok (.aload_n 0, 1) := by decide +kernel
theorem dX6_matters_11 : decode cX6_matters 11 = .ok (.iload_n 3, 1) := by decide +kernel
theorem dX6_matters_12 : decode cX6_matters 12 = .ok (.invokevirtual 58, 3) := by decide +kernel
theorem dX6_matters_15 : decode cX6_matters 15 = .ok (.imul, 1) := by decide +kernel
theorem dX6_matters_16 : decode cX6_matters 16 = .ok (.istore_n 2, 1) := by decide +kernel
theorem dX6_matters_17 : decode cX6_matters 17 = .ok (.iinc 3 1, 3) := by decide +kernel
theorem dX6_matters_20 : decode cX6_matters 20 = .ok (.goto (-16), 3) := by decide +kernel
theorem dX6_matters_23 : decode cX6_matters 23 = .ok (.iconst 0, 1) := by decide +kernel
theorem dX6_matters_24 : decode cX6_matters 24 = .ok (.istore_n 3, 1) := by decide +kernel
theorem dX6_matters_25 : decode cX6_matters 25 = .ok (.iconst 0, 1) := by decide +kernel
theorem dX6_matters_26 : decode cX6_matters 26 = .ok (.istore 4, 2) := by decide +kernel
theorem dX6_matters_28 : decode cX6_matters 28 = .ok (.iload 4, 2) := by decide +kernel
theorem dX6_matters_30 : decode cX6_matters 30 = .ok (.aload_n 0, 1) := by decide +kernel
theorem dX6_matters_31 : decode cX6_matters 31 = .ok (.invokevirtual 72, 3) := by decide +kernel
theorem dX6_matters_34 : decode cX6_matters 34 = .ok (.if_icmp .ge 48, 3) := by decide +kernel
theorem dX6_matters_37 : decode cX6_matters 37 = .ok (.iload_n 3, 1) := by decide +kernel
theorem dX6_matters_38 : decode cX6_matters 38 = .ok (.ifCond .ne 32, 3) := by decide +kernel
theorem dX6_matters_41 : decode cX6_matters 41 = .ok (.aload_n 0, 1) := by decide +kernel
theorem dX6_matters_42 : decode cX6_matters 42 = .ok (.iload 4, 2) := by decide +kernel
theorem dX6_matters_44 : decode cX6_matters 44 = .ok (.iload_n 1, 1) := by decide +kernel
theorem dX6_matters_45 : decode cX6_matters 45 = .ok (.invokevirtual 139, 3) := by decide +kernel
theorem dX6_matters_48 : decode cX6_matters 48 = .ok (.ifCond .le 26, 3) := by decide +kernel
theorem dX6_matters_51 : decode cX6_matters 51 = .ok (.aload_n 0, 1) := by decide +kernel
theorem dX6_matters_52 : decode cX6_matters 52 = .ok (.getfield 28, 3) := by decide +kernel
theorem dX6_matters_55 : decode cX6_matters 55 = .ok (.iload 4, 2) := by decide +kernel
theorem dX6_matters_57 : decode cX6_matters 57 = .ok (.iaload, 1) := by decide +kernel
theorem dX6_matters_58 : decode cX6_matters 58 = .ok (.aload_n 0, 1) := by decide +kernel
theorem dX6_matters_59 : decode cX6_matters 59 = .ok (.getfield 28, 3) := by decide +kernel
theorem dX6_matters_62 : decode cX6_matters 62 = .ok (.iload 4, 2) := by decide +kernel
theorem dX6_matters_64 : decode cX6_matters 64 = .ok (.iload_n 2, 1) := by decide +kernel
theorem dX6_matters_65 : decode cX6_matters 65 = .ok (.isub, 1) := by decide +kernel
theorem dX6_matters_66 : decode cX6_matters 66 = .ok (.iaload, 1) := by decide +kernel
theorem dX6_matters_67 : decode cX6_matters 67 = .ok (.if_icmp .eq 7, 3) := by decide +kernel
theorem dX6_matters_70 : decode cX6_matters 70 = .ok (.iconst 1, 1) := by decide +kernel
theorem dX6_matters_71 : decode cX6_matters 71 = .ok (.goto 4, 3) := by decide +kernel
theorem dX6_matters_74 : decode cX6_matters 74 = .ok (.iconst 0, 1) := by decide +kernel
theorem dX6_matters_75 : decode cX6_matters 75 = .ok (.istore_n 3, 1) := by decide +kernel
theorem dX6_matters_76 : decode cX6_matters 76 = .ok (.iinc 4 1, 3) := by decide +kernel
theorem dX6_matters_79 : decode cX6_matters 79 = .ok (.goto (-51), 3) := by decide +kernel
theorem dX6_matters_82 : decode cX6_matters 82 = .ok (.iload_n 3, 1) := by decide +kernel
theorem dX6_matters_83 : decode cX6_matters 83 = .ok (.ireturn, 1) := by decide +kernel
set_option maxRecDepth 20000 in
theorem ggX6_conditionOf_X6_answersOf : GoodIn wsX6_conditionOf wsX6_answersOf := goodIn_r _ [6, 1, 20, 21, 22, 23, 24, 25, 26, 27, 28, 29, 30, 31, 32, 33, 34, 35, 36, 37] (by decide +kernel) (by decide +kernel)
set_option maxRecDepth 20000 in
theorem gX6_conditionOf_X6_answersOf : GoodIn wsX6_conditionOf (wsV RX6 58 RX6 yX6_answersOf wsX6_answersOf) := goodIn_app (goodIn_of _ (by decide +kernel)) ggX6_conditionOf_X6_answersOf
set_option maxRecDepth 20000 in
theorem ggX6_conditionOf_X6_matters : GoodIn wsX6_conditionOf wsX6_matters := goodIn_r _ [10, 11, 2, 3, 4, 5, 6, 1, 12, 13, 14, 15, 16, 17, 18, 19, 20, 21, 22, 23, 24, 25, 26, 27, 28, 29, 30, 31, 32, 33, 34, 35, 36, 37] (by decide +kernel) (by decide +kernel)
set_option maxRecDepth 20000 in
theorem gX6_conditionOf_X6_matters : GoodIn wsX6_conditionOf (wsV RX6 142 RX6 yX6_matters wsX6_matters) := goodIn_app (goodIn_of _ (by decide +kernel)) ggX6_conditionOf_X6_matters
theorem dX6_conditionOf_0 : decode cX6_conditionOf 0 = .ok (.iload_n 2, 1) := by decide +kernel
theorem dX6_conditionOf_1 : decode cX6_conditionOf 1 = .ok (.ifCond .ne 11, 3) := by decide +kernel
theorem dX6_conditionOf_4 : decode cX6_conditionOf 4 = .ok (.aload_n 0, 1) := by decide +kernel
theorem dX6_conditionOf_5 : decode cX6_conditionOf 5 = .ok (.iload_n 1, 1) := by decide +kernel
theorem dX6_conditionOf_6 : decode cX6_conditionOf 6 = .ok (.invokevirtual 58, 3) := by decide +kernel
theorem dX6_conditionOf_9 : decode cX6_conditionOf 9 = .ok (.goto 33, 3) := by decide +kernel
theorem dX6_conditionOf_12 : decode cX6_conditionOf 12 = .ok (.iload_n 2, 1) := by decide +kernel
theorem dX6_conditionOf_13 : decode cX6_conditionOf 13 = .ok (.iconst 1, 1) := by decide +kernel
theorem dX6_conditionOf_14 : decode cX6_conditionOf 14 = .ok (.if_icmp .ne 15, 3) := by decide +kernel
theorem dX6_conditionOf_17 : decode cX6_conditionOf 17 = .ok (.aload_n 0, 1) := by decide +kernel
theorem dX6_conditionOf_18 : decode cX6_conditionOf 18 = .ok (.getfield 7, 3) := by decide +kernel
theorem dX6_conditionOf_21 : decode cX6_conditionOf 21 = .ok (.bipush 8, 2) := by decide +kernel
theorem dX6_conditionOf_23 : decode cX6_conditionOf 23 = .ok (.iload_n 1, 1) := by decide +kernel
theorem dX6_conditionOf_24 : decode cX6_conditionOf 24 = .ok (.iadd, 1) := by decide +kernel
theorem dX6_conditionOf_25 : decode cX6_conditionOf 25 = .ok (.iaload, 1) := by decide +kernel
theorem dX6_conditionOf_26 : decode cX6_conditionOf 26 = .ok (.goto 16, 3) := by decide +kernel
theorem dX6_conditionOf_29 : decode cX6_conditionOf 29 = .ok (.aload_n 0, 1) := by decide +kernel
theorem dX6_conditionOf_30 : decode cX6_conditionOf 30 = .ok (.iload_n 1, 1) := by decide +kernel
theorem dX6_conditionOf_31 : decode cX6_conditionOf 31 = .ok (.invokevirtual 142, 3) := by decide +kernel
theorem dX6_conditionOf_34 : decode cX6_conditionOf 34 = .ok (.ifCond .eq 7, 3) := by decide +kernel
theorem dX6_conditionOf_37 : decode cX6_conditionOf 37 = .ok (.iconst 1, 1) := by decide +kernel
theorem dX6_conditionOf_38 : decode cX6_conditionOf 38 = .ok (.goto 4, 3) := by decide +kernel
theorem dX6_conditionOf_41 : decode cX6_conditionOf 41 = .ok (.iconst 0, 1) := by decide +kernel
theorem dX6_conditionOf_42 : decode cX6_conditionOf 42 = .ok (.ireturn, 1) := by decide +kernel
set_option maxRecDepth 20000 in
theorem ggX6_condition_X6_isCondition : GoodIn wsX6_condition wsX6_isCondition := goodIn_r _ [5, 6, 7, 8, 4, 9, 57, 58, 59, 60, 61, 62, 63, 64, 65, 66, 67, 68, 69, 70, 71, 72, 73, 74] (by decide +kernel) (by decide +kernel)
set_option maxRecDepth 20000 in
theorem gX6_condition_X6_isCondition : GoodIn wsX6_condition (wsV RX6 114 RX6 yX6_isCondition wsX6_isCondition) := goodIn_app (goodIn_of _ (by decide +kernel)) ggX6_condition_X6_isCondition
set_option maxRecDepth 20000 in
theorem ggX6_condition_X6_in : GoodIn wsX6_condition wsX6_in := goodIn_r _ [9] (by decide +kernel) (by decide +kernel)
set_option maxRecDepth 20000 in
theorem gX6_condition_X6_in : GoodIn wsX6_condition (va_wsS RX6 54 yX6_in wsX6_in) := goodIn_app (goodIn_of _ (by decide +kernel)) ggX6_condition_X6_in
set_option maxRecDepth 20000 in
theorem ggX6_condition_X6_throwing : GoodIn wsX6_condition wsX6_throwing := goodIn_r _ [13, 14, 57, 58, 59, 60, 61, 62, 63, 64, 65, 66, 67, 68, 69, 70, 71, 72, 73, 74] (by decide +kernel) (by decide +kernel)
set_option maxRecDepth 20000 in
theorem gX6_condition_X6_throwing : GoodIn wsX6_condition (wsV RX6 107 RX6 yX6_throwing wsX6_throwing) := goodIn_app (goodIn_of _ (by decide +kernel)) ggX6_condition_X6_throwing
set_option maxRecDepth 20000 in
theorem ggX6_condition_X6_lays : GoodIn wsX6_condition wsX6_lays := goodIn_r _ [18, 19, 20, 21, 6, 22, 23, 24, 25, 4, 26, 27, 28, 29, 30, 31, 32, 33, 34, 35, 36, 37, 38, 39, 40, 41, 42, 43, 44, 57, 58, 59, 60, 61, 62, 63, 64, 65, 66, 67, 68, 69, 70, 71, 72, 73, 74] (by decide +kernel) (by decide +kernel)
set_option maxRecDepth 20000 in
theorem gX6_condition_X6_lays : GoodIn wsX6_condition (wsV RX6 133 RX6 yX6_lays wsX6_lays) := goodIn_app (goodIn_of _ (by decide +kernel)) ggX6_condition_X6_lays
set_option maxRecDepth 20000 in
theorem ggX6_condition_X6_conditionOf : GoodIn wsX6_condition wsX6_conditionOf := goodIn_r _ [48, 6, 27, 28, 29, 4, 30, 49, 50, 51, 52, 22, 23, 24, 25, 26, 53, 54, 55, 56, 57, 58, 59, 60, 61, 62, 63, 64, 65, 66, 67, 68, 69, 70, 71, 72, 73, 74] (by decide +kernel) (by decide +kernel)
set_option maxRecDepth 20000 in
theorem gX6_condition_X6_conditionOf : GoodIn wsX6_condition (wsV RX6 145 RX6 yX6_conditionOf wsX6_conditionOf) := goodIn_app (goodIn_of _ (by decide +kernel)) ggX6_condition_X6_conditionOf
theorem dX6_condition_0 : decode cX6_condition 0 = .ok (.aload_n 0, 1) := by decide +kernel
theorem dX6_condition_1 : decode cX6_condition 1 = .ok (.aload_n 0, 1) := by decide +kernel
theorem dX6_condition_2 : decode cX6_condition 2 = .ok (.iload_n 1, 1) := by decide +kernel
theorem dX6_condition_3 : decode cX6_condition 3 = .ok (.invokevirtual 114, 3) := by decide +kernel
theorem dX6_condition_6 : decode cX6_condition 6 = .ok (.ifCond .ne 7, 3) := by decide +kernel
theorem dX6_condition_9 : decode cX6_condition 9 = .ok (.iconst 1, 1) := by decide +kernel
theorem dX6_condition_10 : decode cX6_condition 10 = .ok (.goto 4, 3) := by decide +kernel
theorem dX6_condition_13 : decode cX6_condition 13 = .ok (.iconst 0, 1) := by decide +kernel
theorem dX6_condition_14 : decode cX6_condition 14 = .ok (.iload_n 2, 1) := by decide +kernel
theorem dX6_condition_15 : decode cX6_condition 15 = .ok (.iconst 0, 1) := by decide +kernel
theorem dX6_condition_16 : decode cX6_condition 16 = .ok (.iconst 2, 1) := by decide +kernel
theorem dX6_condition_17 : decode cX6_condition 17 = .ok (.invokestatic 54, 3) := by decide +kernel
theorem dX6_condition_20 : decode cX6_condition 20 = .ok (.ifCond .ne 7, 3) := by decide +kernel
theorem dX6_condition_23 : decode cX6_condition 23 = .ok (.iconst 1, 1) := by decide +kernel
theorem dX6_condition_24 : decode cX6_condition 24 = .ok (.goto 4, 3) := by decide +kernel
theorem dX6_condition_27 : decode cX6_condition 27 = .ok (.iconst 0, 1) := by decide +kernel
theorem dX6_condition_28 : decode cX6_condition 28 = .ok (.invokevirtual 107, 3) := by decide +kernel
theorem dX6_condition_31 : decode cX6_condition 31 = .ok (.ifCond .eq 5, 3) := by decide +kernel
theorem dX6_condition_34 : decode cX6_condition 34 = .ok (.iconst 0, 1) := by decide +kernel
theorem dX6_condition_35 : decode cX6_condition 35 = .ok (.ireturn, 1) := by decide +kernel
theorem dX6_condition_36 : decode cX6_condition 36 = .ok (.aload_n 0, 1) := by decide +kernel
theorem dX6_condition_37 : decode cX6_condition 37 = .ok (.iconst (-1), 1) := by decide +kernel
theorem dX6_condition_38 : decode cX6_condition 38 = .ok (.invokevirtual 133, 3) := by decide +kernel
theorem dX6_condition_41 : decode cX6_condition 41 = .ok (.aload_n 0, 1) := by decide +kernel
theorem dX6_condition_42 : decode cX6_condition 42 = .ok (.iload_n 1, 1) := by decide +kernel
theorem dX6_condition_43 : decode cX6_condition 43 = .ok (.iload_n 2, 1) := by decide +kernel
theorem dX6_condition_44 : decode cX6_condition 44 = .ok (.invokevirtual 145, 3) := by decide +kernel
theorem dX6_condition_47 : decode cX6_condition 47 = .ok (.ireturn, 1) := by decide +kernel
set_option maxRecDepth 20000 in
theorem ggX6_told_X6_setOf : GoodIn wsX6_told wsX6_setOf := goodIn_r _ [6, 1, 7, 8, 5, 9, 13, 14, 15, 16, 17, 18, 19, 20, 21, 22, 23, 24, 25, 26, 27, 28, 29, 30] (by decide +kernel) (by decide +kernel)
set_option maxRecDepth 20000 in
theorem gX6_told_X6_setOf : GoodIn wsX6_told (wsV RX6 65 RX6 yX6_setOf wsX6_setOf) := goodIn_app (goodIn_of _ (by decide +kernel)) ggX6_told_X6_setOf
set_option maxRecDepth 20000 in
theorem ggX6_told_X6_bits : GoodIn wsX6_told wsX6_bits := goodIn_r _ [12] (by decide +kernel) (by decide +kernel)
set_option maxRecDepth 20000 in
theorem gX6_told_X6_bits : GoodIn wsX6_told (va_wsS RX6 148 yX6_bits wsX6_bits) := goodIn_app (goodIn_of _ (by decide +kernel)) ggX6_told_X6_bits
theorem dX6_told_0 : decode cX6_told 0 = .ok (.iconst 1, 1) := by decide +kernel
theorem dX6_told_1 : decode cX6_told 1 = .ok (.istore_n 2, 1) := by decide +kernel
theorem dX6_told_2 : decode cX6_told 2 = .ok (.iconst 0, 1) := by decide +kernel
theorem dX6_told_3 : decode cX6_told 3 = .ok (.istore_n 3, 1) := by decide +kernel
theorem dX6_told_4 : decode cX6_told 4 = .ok (.iload_n 3, 1) := by decide +kernel
theorem dX6_told_5 : decode cX6_told 5 = .ok (.aload_n 0, 1) := by decide +kernel
theorem dX6_told_6 : decode cX6_told 6 = .ok (.getfield 7, 3) := by decide +kernel
theorem dX6_told_9 : decode cX6_told 9 = .ok (.iconst 0, 1) := by decide +kernel
theorem dX6_told_10 : decode cX6_told 10 = .ok (.iaload, 1) := by decide +kernel
theorem dX6_told_11 : decode cX6_told 11 = .ok (.if_icmp .ge 21, 3) := by decide +kernel
theorem dX6_told_14 : decode cX6_told 14 = .ok (.iload_n 2, 1) := by decide +kernel
theorem dX6_told_15 : decode cX6_told 15 = .ok (.aload_n 0, 1) := by decide +kernel
theorem dX6_told_16 : decode cX6_told 16 = .ok (.iload_n 1, 1) := by decide +kernel
theorem dX6_told_17 : decode cX6_told 17 = .ok (.iload_n 3, 1) := by decide +kernel
theorem dX6_told_18 : decode cX6_told 18 = .ok (.invokevirtual 65, 3) := by decide +kernel
theorem dX6_told_21 : decode cX6_told 21 = .ok (.invokestatic 148, 3) := by decide +kernel
theorem dX6_told_24 : decode cX6_told 24 = .ok (.imul, 1) := by decide +kernel
theorem dX6_told_25 : decode cX6_told 25 = .ok (.istore_n 2, 1) := by decide +kernel
theorem dX6_told_26 : decode cX6_told 26 = .ok (.iinc 3 1, 3) := by decide +kernel
theorem dX6_told_29 : decode cX6_told 29 = .ok (.goto (-25), 3) := by decide +kernel
theorem dX6_told_32 : decode cX6_told 32 = .ok (.iload_n 2, 1) := by decide +kernel
theorem dX6_told_33 : decode cX6_told 33 = .ok (.ireturn, 1) := by decide +kernel
set_option maxRecDepth 20000 in
theorem ggX6_rowOf_X6_r : GoodIn wsX6_rowOf wsX6_r := goodIn_r _ [5] (by decide +kernel) (by decide +kernel)
set_option maxRecDepth 20000 in
theorem gX6_rowOf_X6_r : GoodIn wsX6_rowOf (va_wsS RX6 50 yX6_r wsX6_r) := goodIn_app (goodIn_of _ (by decide +kernel)) ggX6_rowOf_X6_r
set_option maxRecDepth 20000 in
theorem ggX6_rowOf_X6_told : GoodIn wsX6_rowOf wsX6_told := goodIn_r _ [9, 1, 10, 11, 12, 4, 13, 2, 3, 5, 14, 15, 16, 30, 31, 32, 33, 34, 35, 36, 37, 38, 39, 40, 41, 42, 43, 44, 45, 46, 47] (by decide +kernel) (by decide +kernel)
set_option maxRecDepth 20000 in
theorem gX6_rowOf_X6_told : GoodIn wsX6_rowOf (wsV RX6 151 RX6 yX6_told wsX6_told) := goodIn_app (goodIn_of _ (by decide +kernel)) ggX6_rowOf_X6_told
set_option maxRecDepth 20000 in
theorem ggX6_rowOf_X6_cases : GoodIn wsX6_rowOf wsX6_cases := goodIn_r _ [20, 1, 21, 22, 23, 4, 24, 30, 31, 32, 33, 34, 35, 36, 37, 38, 39, 40, 41, 42, 43, 44, 45, 46, 47] (by decide +kernel) (by decide +kernel)
set_option maxRecDepth 20000 in
theorem gX6_rowOf_X6_cases : GoodIn wsX6_rowOf (wsV RX6 72 RX6 yX6_cases wsX6_cases) := goodIn_app (goodIn_of _ (by decide +kernel)) ggX6_rowOf_X6_cases
set_option maxRecDepth 20000 in
theorem ggX6_rowOf_X6_ownOf : GoodIn wsX6_rowOf wsX6_ownOf := goodIn_r _ [28, 29, 30, 31, 32, 33, 34, 35, 36, 37, 38, 39, 40, 41, 42, 43, 44, 45, 46, 47] (by decide +kernel) (by decide +kernel)
set_option maxRecDepth 20000 in
theorem gX6_rowOf_X6_ownOf : GoodIn wsX6_rowOf (wsV RX6 136 RX6 yX6_ownOf wsX6_ownOf) := goodIn_app (goodIn_of _ (by decide +kernel)) ggX6_rowOf_X6_ownOf
theorem dX6_rowOf_0 : decode cX6_rowOf 0 = .ok (.iload_n 2, 1) := by decide +kernel
theorem dX6_rowOf_1 : decode cX6_rowOf 1 = .ok (.tableswitch 82 0 4 #[35, 37, 48, 54, 64], 35) := by decide +kernel
theorem dX6_rowOf_36 : decode cX6_rowOf 36 = .ok (.iload_n 1, 1) := by decide +kernel
theorem dX6_rowOf_37 : decode cX6_rowOf 37 = .ok (.ireturn, 1) := by decide +kernel
theorem dX6_rowOf_38 : decode cX6_rowOf 38 = .ok (.aload_n 0, 1) := by decide +kernel
theorem dX6_rowOf_39 : decode cX6_rowOf 39 = .ok (.getfield 7, 3) := by decide +kernel
theorem dX6_rowOf_42 : decode cX6_rowOf 42 = .ok (.iload_n 1, 1) := by decide +kernel
theorem dX6_rowOf_43 : decode cX6_rowOf 43 = .ok (.iconst 1, 1) := by decide +kernel
theorem dX6_rowOf_44 : decode cX6_rowOf 44 = .ok (.invokestatic 50, 3) := by decide +kernel
theorem dX6_rowOf_47 : decode cX6_rowOf 47 = .ok (.iaload, 1) := by decide +kernel
theorem dX6_rowOf_48 : decode cX6_rowOf 48 = .ok (.ireturn, 1) := by decide +kernel
theorem dX6_rowOf_49 : decode cX6_rowOf 49 = .ok (.aload_n 0, 1) := by decide +kernel
theorem dX6_rowOf_50 : decode cX6_rowOf 50 = .ok (.iload_n 1, 1) := by decide +kernel
theorem dX6_rowOf_51 : decode cX6_rowOf 51 = .ok (.invokevirtual 151, 3) := by decide +kernel
theorem dX6_rowOf_54 : decode cX6_rowOf 54 = .ok (.ireturn, 1) := by decide +kernel
theorem dX6_rowOf_55 : decode cX6_rowOf 55 = .ok (.aload_n 0, 1) := by decide +kernel
theorem dX6_rowOf_56 : decode cX6_rowOf 56 = .ok (.iload_n 1, 1) := by decide +kernel
theorem dX6_rowOf_57 : decode cX6_rowOf 57 = .ok (.aload_n 0, 1) := by decide +kernel
theorem dX6_rowOf_58 : decode cX6_rowOf 58 = .ok (.invokevirtual 72, 3) := by decide +kernel
theorem dX6_rowOf_61 : decode cX6_rowOf 61 = .ok (.invokevirtual 136, 3) := by decide +kernel
theorem dX6_rowOf_64 : decode cX6_rowOf 64 = .ok (.ireturn, 1) := by decide +kernel
theorem dX6_rowOf_65 : decode cX6_rowOf 65 = .ok (.aload_n 0, 1) := by decide +kernel
theorem dX6_rowOf_66 : decode cX6_rowOf 66 = .ok (.iload_n 1, 1) := by decide +kernel
theorem dX6_rowOf_67 : decode cX6_rowOf 67 = .ok (.aload_n 0, 1) := by decide +kernel
theorem dX6_rowOf_68 : decode cX6_rowOf 68 = .ok (.invokevirtual 72, 3) := by decide +kernel
theorem dX6_rowOf_71 : decode cX6_rowOf 71 = .ok (.invokevirtual 136, 3) := by decide +kernel
theorem dX6_rowOf_74 : decode cX6_rowOf 74 = .ok (.ifCond .le 7, 3) := by decide +kernel
theorem dX6_rowOf_77 : decode cX6_rowOf 77 = .ok (.iconst 1, 1) := by decide +kernel
theorem dX6_rowOf_78 : decode cX6_rowOf 78 = .ok (.goto 4, 3) := by decide +kernel
theorem dX6_rowOf_81 : decode cX6_rowOf 81 = .ok (.iconst 0, 1) := by decide +kernel
theorem dX6_rowOf_82 : decode cX6_rowOf 82 = .ok (.ireturn, 1) := by decide +kernel
theorem dX6_rowOf_83 : decode cX6_rowOf 83 = .ok (.aload_n 0, 1) := by decide +kernel
theorem dX6_rowOf_84 : decode cX6_rowOf 84 = .ok (.getfield 7, 3) := by decide +kernel
theorem dX6_rowOf_87 : decode cX6_rowOf 87 = .ok (.iload_n 1, 1) := by decide +kernel
theorem dX6_rowOf_88 : decode cX6_rowOf 88 = .ok (.iconst 2, 1) := by decide +kernel
theorem dX6_rowOf_89 : decode cX6_rowOf 89 = .ok (.invokestatic 50, 3) := by decide +kernel
theorem dX6_rowOf_92 : decode cX6_rowOf 92 = .ok (.iaload, 1) := by decide +kernel
theorem dX6_rowOf_93 : decode cX6_rowOf 93 = .ok (.ireturn, 1) := by decide +kernel
set_option maxRecDepth 20000 in
theorem ggX6_row_X6_placeOf : GoodIn wsX6_row wsX6_placeOf := goodIn_r _ [5, 6, 7, 8, 4, 9, 60, 61, 62, 63, 64, 65, 66, 67, 68, 69, 70, 71, 72, 73, 74, 75, 76, 77] (by decide +kernel) (by decide +kernel)
set_option maxRecDepth 20000 in
theorem gX6_row_X6_placeOf : GoodIn wsX6_row (wsV RX6 124 RX6 yX6_placeOf wsX6_placeOf) := goodIn_app (goodIn_of _ (by decide +kernel)) ggX6_row_X6_placeOf
set_option maxRecDepth 20000 in
theorem ggX6_row_X6_in : GoodIn wsX6_row wsX6_in := goodIn_r _ [12] (by decide +kernel) (by decide +kernel)
set_option maxRecDepth 20000 in
theorem gX6_row_X6_in : GoodIn wsX6_row (va_wsS RX6 54 yX6_in wsX6_in) := goodIn_app (goodIn_of _ (by decide +kernel)) ggX6_row_X6_in
set_option maxRecDepth 20000 in
theorem ggX6_row_X6_throwing : GoodIn wsX6_row wsX6_throwing := goodIn_r _ [16, 17, 60, 61, 62, 63, 64, 65, 66, 67, 68, 69, 70, 71, 72, 73, 74, 75, 76, 77] (by decide +kernel) (by decide +kernel)
set_option maxRecDepth 20000 in
theorem gX6_row_X6_throwing : GoodIn wsX6_row (wsV RX6 107 RX6 yX6_throwing wsX6_throwing) := goodIn_app (goodIn_of _ (by decide +kernel)) ggX6_row_X6_throwing
set_option maxRecDepth 20000 in
theorem ggX6_row_X6_lays : GoodIn wsX6_row wsX6_lays := goodIn_r _ [21, 22, 23, 24, 6, 25, 26, 27, 28, 4, 29, 30, 31, 32, 33, 34, 35, 36, 37, 38, 39, 40, 41, 7, 8, 9, 42, 43, 44, 60, 61, 62, 63, 64, 65, 66, 67, 68, 69, 70, 71, 72, 73, 74, 75, 76, 77] (by decide +kernel) (by decide +kernel)
set_option maxRecDepth 20000 in
theorem gX6_row_X6_lays : GoodIn wsX6_row (wsV RX6 133 RX6 yX6_lays wsX6_lays) := goodIn_app (goodIn_of _ (by decide +kernel)) ggX6_row_X6_lays
set_option maxRecDepth 20000 in
theorem ggX6_row_X6_rowOf : GoodIn wsX6_row wsX6_rowOf := goodIn_r _ [48, 6, 7, 8, 4, 9, 49, 50, 51, 52, 38, 39, 40, 41, 53, 54, 55, 26, 27, 28, 29, 30, 31, 32, 33, 56, 57, 58, 59, 22, 60, 61, 62, 63, 64, 65, 66, 67, 68, 69, 70, 71, 72, 73, 74, 75, 76, 77] (by decide +kernel) (by decide +kernel)
set_option maxRecDepth 20000 in
theorem gX6_row_X6_rowOf : GoodIn wsX6_row (wsV RX6 154 RX6 yX6_rowOf wsX6_rowOf) := goodIn_app (goodIn_of _ (by decide +kernel)) ggX6_row_X6_rowOf
theorem dX6_row_0 : decode cX6_row 0 = .ok (.aload_n 0, 1) := by decide +kernel
theorem dX6_row_1 : decode cX6_row 1 = .ok (.iload_n 1, 1) := by decide +kernel
theorem dX6_row_2 : decode cX6_row 2 = .ok (.invokevirtual 124, 3) := by decide +kernel
theorem dX6_row_5 : decode cX6_row 5 = .ok (.istore_n 3, 1) := by decide +kernel
theorem dX6_row_6 : decode cX6_row 6 = .ok (.aload_n 0, 1) := by decide +kernel
theorem dX6_row_7 : decode cX6_row 7 = .ok (.iload_n 3, 1) := by decide +kernel
theorem dX6_row_8 : decode cX6_row 8 = .ok (.iconst (-1), 1) := by decide +kernel
theorem dX6_row_9 : decode cX6_row 9 = .ok (.if_icmp .ne 7, 3) := by decide +kernel
theorem dX6_row_12 : decode cX6_row 12 = .ok (.iconst 1, 1) := by decide +kernel
theorem dX6_row_13 : decode cX6_row 13 = .ok (.goto 4, 3) := by decide +kernel
theorem dX6_row_16 : decode cX6_row 16 = .ok (.iconst 0, 1) := by decide +kernel
theorem dX6_row_17 : decode cX6_row 17 = .ok (.iload_n 2, 1) := by decide +kernel
theorem dX6_row_18 : decode cX6_row 18 = .ok (.iconst 0, 1) := by decide +kernel
theorem dX6_row_19 : decode cX6_row 19 = .ok (.iconst 5, 1) := by decide +kernel
theorem dX6_row_20 : decode cX6_row 20 = .ok (.invokestatic 54, 3) := by decide +kernel
theorem dX6_row_23 : decode cX6_row 23 = .ok (.ifCond .ne 7, 3) := by decide +kernel
theorem dX6_row_26 : decode cX6_row 26 = .ok (.iconst 1, 1) := by decide +kernel
theorem dX6_row_27 : decode cX6_row 27 = .ok (.goto 4, 3) := by decide +kernel
theorem dX6_row_30 : decode cX6_row 30 = .ok (.iconst 0, 1) := by decide +kernel
theorem dX6_row_31 : decode cX6_row 31 = .ok (.invokevirtual 107, 3) := by decide +kernel
theorem dX6_row_34 : decode cX6_row 34 = .ok (.ifCond .eq 5, 3) := by decide +kernel
theorem dX6_row_37 : decode cX6_row 37 = .ok (.iconst 0, 1) := by decide +kernel
theorem dX6_row_38 : decode cX6_row 38 = .ok (.ireturn, 1) := by decide +kernel
theorem dX6_row_39 : decode cX6_row 39 = .ok (.aload_n 0, 1) := by decide +kernel
theorem dX6_row_40 : decode cX6_row 40 = .ok (.iconst (-1), 1) := by decide +kernel
theorem dX6_row_41 : decode cX6_row 41 = .ok (.invokevirtual 133, 3) := by decide +kernel
theorem dX6_row_44 : decode cX6_row 44 = .ok (.aload_n 0, 1) := by decide +kernel
theorem dX6_row_45 : decode cX6_row 45 = .ok (.iload_n 3, 1) := by decide +kernel
theorem dX6_row_46 : decode cX6_row 46 = .ok (.iload_n 2, 1) := by decide +kernel
theorem dX6_row_47 : decode cX6_row 47 = .ok (.invokevirtual 154, 3) := by decide +kernel
theorem dX6_row_50 : decode cX6_row 50 = .ok (.ireturn, 1) := by decide +kernel
set_option maxRecDepth 20000 in
theorem ggX6_answers_X6_placeOf : GoodIn wsX6_answers wsX6_placeOf := goodIn_r _ [5, 6, 7, 8, 4, 9, 26, 27, 28, 29, 30, 31, 32, 33, 34, 35, 36, 37, 38, 39, 40, 41, 42, 43] (by decide +kernel) (by decide +kernel)
set_option maxRecDepth 20000 in
theorem gX6_answers_X6_placeOf : GoodIn wsX6_answers (wsV RX6 124 RX6 yX6_placeOf wsX6_placeOf) := goodIn_app (goodIn_of _ (by decide +kernel)) ggX6_answers_X6_placeOf
set_option maxRecDepth 20000 in
theorem ggX6_answers_X6_isCondition : GoodIn wsX6_answers wsX6_isCondition := goodIn_r _ [13, 6, 14, 15, 4, 16, 26, 27, 28, 29, 30, 31, 32, 33, 34, 35, 36, 37, 38, 39, 40, 41, 42, 43] (by decide +kernel) (by decide +kernel)
set_option maxRecDepth 20000 in
theorem gX6_answers_X6_isCondition : GoodIn wsX6_answers (wsV RX6 114 RX6 yX6_isCondition wsX6_isCondition) := goodIn_app (goodIn_of _ (by decide +kernel)) ggX6_answers_X6_isCondition
set_option maxRecDepth 20000 in
theorem ggX6_answers_X6_throwing : GoodIn wsX6_answers wsX6_throwing := goodIn_r _ [20, 21, 26, 27, 28, 29, 30, 31, 32, 33, 34, 35, 36, 37, 38, 39, 40, 41, 42, 43] (by decide +kernel) (by decide +kernel)
set_option maxRecDepth 20000 in
theorem gX6_answers_X6_throwing : GoodIn wsX6_answers (wsV RX6 107 RX6 yX6_throwing wsX6_throwing) := goodIn_app (goodIn_of _ (by decide +kernel)) ggX6_answers_X6_throwing
set_option maxRecDepth 20000 in
theorem ggX6_answers_X6_setOf : GoodIn wsX6_answers wsX6_setOf := goodIn_r _ [25, 6, 7, 8, 4, 9, 26, 27, 28, 29, 30, 31, 32, 33, 34, 35, 36, 37, 38, 39, 40, 41, 42, 43] (by decide +kernel) (by decide +kernel)
set_option maxRecDepth 20000 in
theorem gX6_answers_X6_setOf : GoodIn wsX6_answers (wsV RX6 65 RX6 yX6_setOf wsX6_setOf) := goodIn_app (goodIn_of _ (by decide +kernel)) ggX6_answers_X6_setOf
theorem dX6_answers_0 : decode cX6_answers 0 = .ok (.aload_n 0, 1) := by decide +kernel
theorem dX6_answers_1 : decode cX6_answers 1 = .ok (.iload_n 1, 1) := by decide +kernel
theorem dX6_answers_2 : decode cX6_answers 2 = .ok (.invokevirtual 124, 3) := by decide +kernel
theorem dX6_answers_5 : decode cX6_answers 5 = .ok (.istore_n 3, 1) := by decide +kernel
theorem dX6_answers_6 : decode cX6_answers 6 = .ok (.aload_n 0, 1) := by decide +kernel
theorem dX6_answers_7 : decode cX6_answers 7 = .ok (.iload_n 3, 1) := by decide +kernel
theorem dX6_answers_8 : decode cX6_answers 8 = .ok (.iconst (-1), 1) := by decide +kernel
theorem dX6_answers_9 : decode cX6_answers 9 = .ok (.if_icmp .eq 11, 3) := by decide +kernel
theorem dX6_answers_12 : decode cX6_answers 12 = .ok (.aload_n 0, 1) := by decide +kernel
theorem dX6_answers_13 : decode cX6_answers 13 = .ok (.iload_n 2, 1) := by decide +kernel
theorem dX6_answers_14 : decode cX6_answers 14 = .ok (.invokevirtual 114, 3) := by decide +kernel
theorem dX6_answers_17 : decode cX6_answers 17 = .ok (.ifCond .ne 7, 3) := by decide +kernel
theorem dX6_answers_20 : decode cX6_answers 20 = .ok (.iconst 1, 1) := by decide +kernel
theorem dX6_answers_21 : decode cX6_answers 21 = .ok (.goto 4, 3) := by decide +kernel
theorem dX6_answers_24 : decode cX6_answers 24 = .ok (.iconst 0, 1) := by decide +kernel
theorem dX6_answers_25 : decode cX6_answers 25 = .ok (.iconst 0, 1) := by decide +kernel
theorem dX6_answers_26 : decode cX6_answers 26 = .ok (.invokevirtual 107, 3) := by decide +kernel
theorem dX6_answers_29 : decode cX6_answers 29 = .ok (.ifCond .eq 7, 3) := by decide +kernel
theorem dX6_answers_32 : decode cX6_answers 32 = .ok (.iconst 0, 1) := by decide +kernel
theorem dX6_answers_33 : decode cX6_answers 33 = .ok (.goto 9, 3) := by decide +kernel
theorem dX6_answers_36 : decode cX6_answers 36 = .ok (.aload_n 0, 1) := by decide +kernel
theorem dX6_answers_37 : decode cX6_answers 37 = .ok (.iload_n 3, 1) := by decide +kernel
theorem dX6_answers_38 : decode cX6_answers 38 = .ok (.iload_n 2, 1) := by decide +kernel
theorem dX6_answers_39 : decode cX6_answers 39 = .ok (.invokevirtual 65, 3) := by decide +kernel
theorem dX6_answers_42 : decode cX6_answers 42 = .ok (.ireturn, 1) := by decide +kernel
set_option maxRecDepth 20000 in
theorem ggX6_rowAt_X6_throwing : GoodIn wsX6_rowAt wsX6_throwing := goodIn_r _ [6, 7, 11, 12, 13, 14, 15, 16, 17, 18, 19, 20, 21, 22, 23, 24, 25, 26, 27, 28] (by decide +kernel) (by decide +kernel)
set_option maxRecDepth 20000 in
theorem gX6_rowAt_X6_throwing : GoodIn wsX6_rowAt (wsV RX6 107 RX6 yX6_throwing wsX6_throwing) := goodIn_app (goodIn_of _ (by decide +kernel)) ggX6_rowAt_X6_throwing
set_option maxRecDepth 20000 in
theorem ggX6_rowAt_X6_r : GoodIn wsX6_rowAt wsX6_r := goodIn_r _ [10] (by decide +kernel) (by decide +kernel)
set_option maxRecDepth 20000 in
theorem gX6_rowAt_X6_r : GoodIn wsX6_rowAt (va_wsS RX6 50 yX6_r wsX6_r) := goodIn_app (goodIn_of _ (by decide +kernel)) ggX6_rowAt_X6_r
theorem dX6_rowAt_0 : decode cX6_rowAt 0 = .ok (.aload_n 0, 1) := by decide +kernel
theorem dX6_rowAt_1 : decode cX6_rowAt 1 = .ok (.iload_n 1, 1) := by decide +kernel
theorem dX6_rowAt_2 : decode cX6_rowAt 2 = .ok (.ifCond .ge 7, 3) := by decide +kernel
theorem dX6_rowAt_5 : decode cX6_rowAt 5 = .ok (.iconst 1, 1) := by decide +kernel
theorem dX6_rowAt_6 : decode cX6_rowAt 6 = .ok (.goto 4, 3) := by decide +kernel
theorem dX6_rowAt_9 : decode cX6_rowAt 9 = .ok (.iconst 0, 1) := by decide +kernel
theorem dX6_rowAt_10 : decode cX6_rowAt 10 = .ok (.iconst 0, 1) := by decide +kernel
theorem dX6_rowAt_11 : decode cX6_rowAt 11 = .ok (.invokevirtual 107, 3) := by decide +kernel
theorem dX6_rowAt_14 : decode cX6_rowAt 14 = .ok (.ifCond .eq 5, 3) := by decide +kernel
theorem dX6_rowAt_17 : decode cX6_rowAt 17 = .ok (.iconst 0, 1) := by decide +kernel
theorem dX6_rowAt_18 : decode cX6_rowAt 18 = .ok (.ireturn, 1) := by decide +kernel
theorem dX6_rowAt_19 : decode cX6_rowAt 19 = .ok (.iload_n 1, 1) := by decide +kernel
theorem dX6_rowAt_20 : decode cX6_rowAt 20 = .ok (.aload_n 0, 1) := by decide +kernel
theorem dX6_rowAt_21 : decode cX6_rowAt 21 = .ok (.getfield 7, 3) := by decide +kernel
theorem dX6_rowAt_24 : decode cX6_rowAt 24 = .ok (.iconst 1, 1) := by decide +kernel
theorem dX6_rowAt_25 : decode cX6_rowAt 25 = .ok (.iaload, 1) := by decide +kernel
theorem dX6_rowAt_26 : decode cX6_rowAt 26 = .ok (.if_icmp .ge 16, 3) := by decide +kernel
theorem dX6_rowAt_29 : decode cX6_rowAt 29 = .ok (.aload_n 0, 1) := by decide +kernel
theorem dX6_rowAt_30 : decode cX6_rowAt 30 = .ok (.getfield 7, 3) := by decide +kernel
theorem dX6_rowAt_33 : decode cX6_rowAt 33 = .ok (.iload_n 1, 1) := by decide +kernel
theorem dX6_rowAt_34 : decode cX6_rowAt 34 = .ok (.iconst 0, 1) := by decide +kernel
theorem dX6_rowAt_35 : decode cX6_rowAt 35 = .ok (.invokestatic 50, 3) := by decide +kernel
theorem dX6_rowAt_38 : decode cX6_rowAt 38 = .ok (.iaload, 1) := by decide +kernel
theorem dX6_rowAt_39 : decode cX6_rowAt 39 = .ok (.goto 4, 3) := by decide +kernel
theorem dX6_rowAt_42 : decode cX6_rowAt 42 = .ok (.iconst (-1), 1) := by decide +kernel
theorem dX6_rowAt_43 : decode cX6_rowAt 43 = .ok (.ireturn, 1) := by decide +kernel
set_option maxRecDepth 20000 in
theorem ggX6_isConflict_X6_tells : GoodIn wsX6_isConflict wsX6_tells := goodIn_r _ [7, 1, 8, 9, 10, 6, 11, 12, 13, 14, 15, 16, 17, 18, 19, 20, 21, 22, 23, 24, 25, 26, 27, 28, 29, 30, 31, 32, 33, 34, 35, 36, 37, 38, 39] (by decide +kernel) (by decide +kernel)
set_option maxRecDepth 20000 in
theorem gX6_isConflict_X6_tells : GoodIn wsX6_isConflict (wsV RX6 76 RX6 yX6_tells wsX6_tells) := goodIn_app (goodIn_of _ (by decide +kernel)) ggX6_isConflict_X6_tells
set_option maxRecDepth 20000 in
theorem ggX6_isConflict_X6_r : GoodIn wsX6_isConflict wsX6_r := goodIn_r _ [14] (by decide +kernel) (by decide +kernel)
set_option maxRecDepth 20000 in
theorem gX6_isConflict_X6_r : GoodIn wsX6_isConflict (va_wsS RX6 50 yX6_r wsX6_r) := goodIn_app (goodIn_of _ (by decide +kernel)) ggX6_isConflict_X6_r
theorem dX6_isConflict_0 : decode cX6_isConflict 0 = .ok (.iconst 0, 1) := by decide +kernel
theorem dX6_isConflict_1 : decode cX6_isConflict 1 = .ok (.istore_n 2, 1) := by decide +kernel
theorem dX6_isConflict_2 : decode cX6_isConflict 2 = .ok (.iconst 0, 1) := by decide +kernel
theorem dX6_isConflict_3 : decode cX6_isConflict 3 = .ok (.istore_n 3, 1) := by decide +kernel
theorem dX6_isConflict_4 : decode cX6_isConflict 4 = .ok (.iload_n 3, 1) := by decide +kernel
theorem dX6_isConflict_5 : decode cX6_isConflict 5 = .ok (.aload_n 0, 1) := by decide +kernel
theorem dX6_isConflict_6 : decode cX6_isConflict 6 = .ok (.getfield 7, 3) := by decide +kernel
theorem dX6_isConflict_9 : decode cX6_isConflict 9 = .ok (.iconst 1, 1) := by decide +kernel
theorem dX6_isConflict_10 : decode cX6_isConflict 10 = .ok (.iaload, 1) := by decide +kernel
theorem dX6_isConflict_11 : decode cX6_isConflict 11 = .ok (.if_icmp .ge 47, 3) := by decide +kernel
theorem dX6_isConflict_14 : decode cX6_isConflict 14 = .ok (.iload_n 2, 1) := by decide +kernel
theorem dX6_isConflict_15 : decode cX6_isConflict 15 = .ok (.ifCond .ne 31, 3) := by decide +kernel
theorem dX6_isConflict_18 : decode cX6_isConflict 18 = .ok (.aload_n 0, 1) := by decide +kernel
theorem dX6_isConflict_19 : decode cX6_isConflict 19 = .ok (.iload_n 3, 1) := by decide +kernel
theorem dX6_isConflict_20 : decode cX6_isConflict 20 = .ok (.iload_n 1, 1) := by decide +kernel
theorem dX6_isConflict_21 : decode cX6_isConflict 21 = .ok (.invokevirtual 76, 3) := by decide +kernel
theorem dX6_isConflict_24 : decode cX6_isConflict 24 = .ok (.ifCond .eq 26, 3) := by decide +kernel
theorem dX6_isConflict_27 : decode cX6_isConflict 27 = .ok (.aload_n 0, 1) := by decide +kernel
theorem dX6_isConflict_28 : decode cX6_isConflict 28 = .ok (.getfield 7, 3) := by decide +kernel
theorem dX6_isConflict_31 : decode cX6_isConflict 31 = .ok (.iload_n 3, 1) := by decide +kernel
theorem dX6_isConflict_32 : decode cX6_isConflict 32 = .ok (.iconst 1, 1) := by decide +kernel
theorem dX6_isConflict_33 : decode cX6_isConflict 33 = .ok (.invokestatic 50, 3) := by decide +kernel
theorem dX6_isConflict_36 : decode cX6_isConflict 36 = .ok (.iaload, 1) := by decide +kernel
theorem dX6_isConflict_37 : decode cX6_isConflict 37 = .ok (.aload_n 0, 1) := by decide +kernel
theorem dX6_isConflict_38 : decode cX6_isConflict 38 = .ok (.getfield 28, 3) := by decide +kernel
theorem dX6_isConflict_41 : decode cX6_isConflict 41 = .ok (.iload_n 1, 1) := by decide +kernel
theorem dX6_isConflict_42 : decode cX6_isConflict 42 = .ok (.iaload, 1) := by decide +kernel
theorem dX6_isConflict_43 : decode cX6_isConflict 43 = .ok (.if_icmp .eq 7, 3) := by decide +kernel
theorem dX6_isConflict_46 : decode cX6_isConflict 46 = .ok (.iconst 1, 1) := by decide +kernel
theorem dX6_isConflict_47 : decode cX6_isConflict 47 = .ok (.goto 4, 3) := by decide +kernel
theorem dX6_isConflict_50 : decode cX6_isConflict 50 = .ok (.iconst 0, 1) := by decide +kernel
theorem dX6_isConflict_51 : decode cX6_isConflict 51 = .ok (.istore_n 2, 1) := by decide +kernel
theorem dX6_isConflict_52 : decode cX6_isConflict 52 = .ok (.iinc 3 1, 3) := by decide +kernel
theorem dX6_isConflict_55 : decode cX6_isConflict 55 = .ok (.goto (-51), 3) := by decide +kernel
theorem dX6_isConflict_58 : decode cX6_isConflict 58 = .ok (.iload_n 2, 1) := by decide +kernel
theorem dX6_isConflict_59 : decode cX6_isConflict 59 = .ok (.ireturn, 1) := by decide +kernel
set_option maxRecDepth 20000 in
theorem ggX6_numberAt_X6_r : GoodIn wsX6_numberAt wsX6_r := goodIn_r _ [5] (by decide +kernel) (by decide +kernel)
set_option maxRecDepth 20000 in
theorem gX6_numberAt_X6_r : GoodIn wsX6_numberAt (va_wsS RX6 50 yX6_r wsX6_r) := goodIn_app (goodIn_of _ (by decide +kernel)) ggX6_numberAt_X6_r
theorem dX6_numberAt_0 : decode cX6_numberAt 0 = .ok (.iload_n 1, 1) := by decide +kernel
theorem dX6_numberAt_1 : decode cX6_numberAt 1 = .ok (.iconst (-1), 1) := by decide +kernel
theorem dX6_numberAt_2 : decode cX6_numberAt 2 = .ok (.if_icmp .ne 7, 3) := by decide +kernel
theorem dX6_numberAt_5 : decode cX6_numberAt 5 = .ok (.iconst (-1), 1) := by decide +kernel
theorem dX6_numberAt_6 : decode cX6_numberAt 6 = .ok (.goto 13, 3) := by decide +kernel
theorem dX6_numberAt_9 : decode cX6_numberAt 9 = .ok (.aload_n 0, 1) := by decide +kernel
theorem dX6_numberAt_10 : decode cX6_numberAt 10 = .ok (.getfield 7, 3) := by decide +kernel
theorem dX6_numberAt_13 : decode cX6_numberAt 13 = .ok (.iload_n 1, 1) := by decide +kernel
theorem dX6_numberAt_14 : decode cX6_numberAt 14 = .ok (.iconst 0, 1) := by decide +kernel
theorem dX6_numberAt_15 : decode cX6_numberAt 15 = .ok (.invokestatic 50, 3) := by decide +kernel
theorem dX6_numberAt_18 : decode cX6_numberAt 18 = .ok (.iaload, 1) := by decide +kernel
theorem dX6_numberAt_19 : decode cX6_numberAt 19 = .ok (.ireturn, 1) := by decide +kernel
set_option maxRecDepth 20000 in
theorem ggX6_valueOf_X6_numberAt : GoodIn wsX6_valueOf wsX6_numberAt := goodIn_r _ [9, 10, 11, 12, 8, 13, 33, 34, 35, 36, 37, 38, 39, 40, 41, 42, 43, 44, 45, 46, 47, 48, 49, 50] (by decide +kernel) (by decide +kernel)
set_option maxRecDepth 20000 in
theorem gX6_valueOf_X6_numberAt : GoodIn wsX6_valueOf (wsV RX6 157 RX6 yX6_numberAt wsX6_numberAt) := goodIn_app (goodIn_of _ (by decide +kernel)) ggX6_valueOf_X6_numberAt
set_option maxRecDepth 20000 in
theorem ggX6_valueOf_X6_isConflict : GoodIn wsX6_valueOf wsX6_isConflict := goodIn_r _ [17, 10, 2, 18, 19, 20, 8, 21, 22, 23, 24, 25, 11, 12, 13, 26, 27, 28, 29, 30, 31, 32, 33, 34, 35, 36, 37, 38, 39, 40, 41, 42, 43, 44, 45, 46, 47, 48, 49, 50] (by decide +kernel) (by decide +kernel)
set_option maxRecDepth 20000 in
theorem gX6_valueOf_X6_isConflict : GoodIn wsX6_valueOf (wsV RX6 160 RX6 yX6_isConflict wsX6_isConflict) := goodIn_app (goodIn_of _ (by decide +kernel)) ggX6_valueOf_X6_isConflict
theorem dX6_valueOf_0 : decode cX6_valueOf 0 = .ok (.iload_n 2, 1) := by decide +kernel
theorem dX6_valueOf_1 : decode cX6_valueOf 1 = .ok (.tableswitch 70 0 3 #[31, 42, 49, 56], 31) := by decide +kernel
theorem dX6_valueOf_32 : decode cX6_valueOf 32 = .ok (.aload_n 0, 1) := by decide +kernel
theorem dX6_valueOf_33 : decode cX6_valueOf 33 = .ok (.aload_n 0, 1) := by decide +kernel
theorem dX6_valueOf_34 : decode cX6_valueOf 34 = .ok (.getfield 19, 3) := by decide +kernel
theorem dX6_valueOf_37 : decode cX6_valueOf 37 = .ok (.iload_n 1, 1) := by decide +kernel
theorem dX6_valueOf_38 : decode cX6_valueOf 38 = .ok (.iaload, 1) := by decide +kernel
theorem dX6_valueOf_39 : decode cX6_valueOf 39 = .ok (.invokevirtual 157, 3) := by decide +kernel
theorem dX6_valueOf_42 : decode cX6_valueOf 42 = .ok (.ireturn, 1) := by decide +kernel
theorem dX6_valueOf_43 : decode cX6_valueOf 43 = .ok (.aload_n 0, 1) := by decide +kernel
theorem dX6_valueOf_44 : decode cX6_valueOf 44 = .ok (.getfield 28, 3) := by decide +kernel
theorem dX6_valueOf_47 : decode cX6_valueOf 47 = .ok (.iload_n 1, 1) := by decide +kernel
theorem dX6_valueOf_48 : decode cX6_valueOf 48 = .ok (.iaload, 1) := by decide +kernel
theorem dX6_valueOf_49 : decode cX6_valueOf 49 = .ok (.ireturn, 1) := by decide +kernel
theorem dX6_valueOf_50 : decode cX6_valueOf 50 = .ok (.aload_n 0, 1) := by decide +kernel
theorem dX6_valueOf_51 : decode cX6_valueOf 51 = .ok (.getfield 22, 3) := by decide +kernel
theorem dX6_valueOf_54 : decode cX6_valueOf 54 = .ok (.iload_n 1, 1) := by decide +kernel
theorem dX6_valueOf_55 : decode cX6_valueOf 55 = .ok (.iaload, 1) := by decide +kernel
theorem dX6_valueOf_56 : decode cX6_valueOf 56 = .ok (.ireturn, 1) := by decide +kernel
theorem dX6_valueOf_57 : decode cX6_valueOf 57 = .ok (.aload_n 0, 1) := by decide +kernel
theorem dX6_valueOf_58 : decode cX6_valueOf 58 = .ok (.iload_n 1, 1) := by decide +kernel
theorem dX6_valueOf_59 : decode cX6_valueOf 59 = .ok (.invokevirtual 160, 3) := by decide +kernel
theorem dX6_valueOf_62 : decode cX6_valueOf 62 = .ok (.ifCond .eq 7, 3) := by decide +kernel
theorem dX6_valueOf_65 : decode cX6_valueOf 65 = .ok (.iconst 1, 1) := by decide +kernel
theorem dX6_valueOf_66 : decode cX6_valueOf 66 = .ok (.goto 4, 3) := by decide +kernel
theorem dX6_valueOf_69 : decode cX6_valueOf 69 = .ok (.iconst 0, 1) := by decide +kernel
theorem dX6_valueOf_70 : decode cX6_valueOf 70 = .ok (.ireturn, 1) := by decide +kernel
theorem dX6_valueOf_71 : decode cX6_valueOf 71 = .ok (.aload_n 0, 1) := by decide +kernel
theorem dX6_valueOf_72 : decode cX6_valueOf 72 = .ok (.aload_n 0, 1) := by decide +kernel
theorem dX6_valueOf_73 : decode cX6_valueOf 73 = .ok (.getfield 25, 3) := by decide +kernel
theorem dX6_valueOf_76 : decode cX6_valueOf 76 = .ok (.iload_n 1, 1) := by decide +kernel
theorem dX6_valueOf_77 : decode cX6_valueOf 77 = .ok (.iaload, 1) := by decide +kernel
theorem dX6_valueOf_78 : decode cX6_valueOf 78 = .ok (.invokevirtual 157, 3) := by decide +kernel
theorem dX6_valueOf_81 : decode cX6_valueOf 81 = .ok (.ireturn, 1) := by decide +kernel
set_option maxRecDepth 20000 in
theorem ggX6_isCase_X6_cases : GoodIn wsX6_isCase wsX6_cases := goodIn_r _ [5, 6, 7, 8, 9, 4, 10, 14, 15, 16, 17, 18, 19, 20, 21, 22, 23, 24, 25, 26, 27, 28, 29, 30, 31] (by decide +kernel) (by decide +kernel)
set_option maxRecDepth 20000 in
theorem gX6_isCase_X6_cases : GoodIn wsX6_isCase (wsV RX6 72 RX6 yX6_cases wsX6_cases) := goodIn_app (goodIn_of _ (by decide +kernel)) ggX6_isCase_X6_cases
set_option maxRecDepth 20000 in
theorem ggX6_isCase_X6_in : GoodIn wsX6_isCase wsX6_in := goodIn_r _ [13] (by decide +kernel) (by decide +kernel)
set_option maxRecDepth 20000 in
theorem gX6_isCase_X6_in : GoodIn wsX6_isCase (va_wsS RX6 54 yX6_in wsX6_in) := goodIn_app (goodIn_of _ (by decide +kernel)) ggX6_isCase_X6_in
theorem dX6_isCase_0 : decode cX6_isCase 0 = .ok (.iload_n 1, 1) := by decide +kernel
theorem dX6_isCase_1 : decode cX6_isCase 1 = .ok (.iconst 0, 1) := by decide +kernel
theorem dX6_isCase_2 : decode cX6_isCase 2 = .ok (.aload_n 0, 1) := by decide +kernel
theorem dX6_isCase_3 : decode cX6_isCase 3 = .ok (.invokevirtual 72, 3) := by decide +kernel
theorem dX6_isCase_6 : decode cX6_isCase 6 = .ok (.iconst 1, 1) := by decide +kernel
theorem dX6_isCase_7 : decode cX6_isCase 7 = .ok (.isub, 1) := by decide +kernel
theorem dX6_isCase_8 : decode cX6_isCase 8 = .ok (.invokestatic 54, 3) := by decide +kernel
theorem dX6_isCase_11 : decode cX6_isCase 11 = .ok (.ireturn, 1) := by decide +kernel
set_option maxRecDepth 20000 in
theorem ggX6_caseOf_X6_isCase : GoodIn wsX6_caseOf wsX6_isCase := goodIn_r _ [5, 6, 7, 8, 4, 9, 10, 11, 12, 13, 14, 15, 16, 17, 57, 58, 59, 60, 61, 62, 63, 64, 65, 66, 67, 68, 69, 70, 71, 72, 73, 74] (by decide +kernel) (by decide +kernel)
set_option maxRecDepth 20000 in
theorem gX6_caseOf_X6_isCase : GoodIn wsX6_caseOf (wsV RX6 163 RX6 yX6_isCase wsX6_isCase) := goodIn_app (goodIn_of _ (by decide +kernel)) ggX6_caseOf_X6_isCase
set_option maxRecDepth 20000 in
theorem ggX6_caseOf_X6_in : GoodIn wsX6_caseOf wsX6_in := goodIn_r _ [17] (by decide +kernel) (by decide +kernel)
set_option maxRecDepth 20000 in
theorem gX6_caseOf_X6_in : GoodIn wsX6_caseOf (va_wsS RX6 54 yX6_in wsX6_in) := goodIn_app (goodIn_of _ (by decide +kernel)) ggX6_caseOf_X6_in
set_option maxRecDepth 20000 in
theorem ggX6_caseOf_X6_throwing : GoodIn wsX6_caseOf wsX6_throwing := goodIn_r _ [21, 22, 57, 58, 59, 60, 61, 62, 63, 64, 65, 66, 67, 68, 69, 70, 71, 72, 73, 74] (by decide +kernel) (by decide +kernel)
set_option maxRecDepth 20000 in
theorem gX6_caseOf_X6_throwing : GoodIn wsX6_caseOf (wsV RX6 107 RX6 yX6_throwing wsX6_throwing) := goodIn_app (goodIn_of _ (by decide +kernel)) ggX6_caseOf_X6_throwing
set_option maxRecDepth 20000 in
theorem ggX6_caseOf_X6_lays : GoodIn wsX6_caseOf wsX6_lays := goodIn_r _ [26, 27, 28, 29, 10, 30, 6, 7, 8, 4, 9, 11, 12, 13, 14, 31, 32, 33, 34, 35, 36, 37, 38, 39, 40, 41, 42, 43, 44, 57, 58, 59, 60, 61, 62, 63, 64, 65, 66, 67, 68, 69, 70, 71, 72, 73, 74] (by decide +kernel) (by decide +kernel)
set_option maxRecDepth 20000 in
theorem gX6_caseOf_X6_lays : GoodIn wsX6_caseOf (wsV RX6 133 RX6 yX6_lays wsX6_lays) := goodIn_app (goodIn_of _ (by decide +kernel)) ggX6_caseOf_X6_lays
set_option maxRecDepth 20000 in
theorem ggX6_caseOf_X6_valueOf : GoodIn wsX6_caseOf wsX6_valueOf := goodIn_r _ [48, 27, 30, 29, 28, 49, 50, 51, 4, 52, 10, 39, 40, 41, 53, 54, 55, 56, 31, 32, 33, 34, 35, 36, 37, 38, 11, 12, 13, 14, 42, 43, 44, 57, 58, 59, 60, 61, 62, 63, 64, 65, 66, 67, 68, 69, 70, 71, 72, 73, 74] (by decide +kernel) (by decide +kernel)
set_option maxRecDepth 20000 in
theorem gX6_caseOf_X6_valueOf : GoodIn wsX6_caseOf (wsV RX6 166 RX6 yX6_valueOf wsX6_valueOf) := goodIn_app (goodIn_of _ (by decide +kernel)) ggX6_caseOf_X6_valueOf
theorem dX6_caseOf_0 : decode cX6_caseOf 0 = .ok (.aload_n 0, 1) := by decide +kernel
theorem dX6_caseOf_1 : decode cX6_caseOf 1 = .ok (.aload_n 0, 1) := by decide +kernel
theorem dX6_caseOf_2 : decode cX6_caseOf 2 = .ok (.iload_n 1, 1) := by decide +kernel
theorem dX6_caseOf_3 : decode cX6_caseOf 3 = .ok (.invokevirtual 163, 3) := by decide +kernel
theorem dX6_caseOf_6 : decode cX6_caseOf 6 = .ok (.ifCond .ne 7, 3) := by decide +kernel
theorem dX6_caseOf_9 : decode cX6_caseOf 9 = .ok (.iconst 1, 1) := by decide +kernel
theorem dX6_caseOf_10 : decode cX6_caseOf 10 = .ok (.goto 4, 3) := by decide +kernel
theorem dX6_caseOf_13 : decode cX6_caseOf 13 = .ok (.iconst 0, 1) := by decide +kernel
theorem dX6_caseOf_14 : decode cX6_caseOf 14 = .ok (.iload_n 2, 1) := by decide +kernel
theorem dX6_caseOf_15 : decode cX6_caseOf 15 = .ok (.iconst 0, 1) := by decide +kernel
theorem dX6_caseOf_16 : decode cX6_caseOf 16 = .ok (.iconst 4, 1) := by decide +kernel
theorem dX6_caseOf_17 : decode cX6_caseOf 17 = .ok (.invokestatic 54, 3) := by decide +kernel
theorem dX6_caseOf_20 : decode cX6_caseOf 20 = .ok (.ifCond .ne 7, 3) := by decide +kernel
theorem dX6_caseOf_23 : decode cX6_caseOf 23 = .ok (.iconst 1, 1) := by decide +kernel
theorem dX6_caseOf_24 : decode cX6_caseOf 24 = .ok (.goto 4, 3) := by decide +kernel
theorem dX6_caseOf_27 : decode cX6_caseOf 27 = .ok (.iconst 0, 1) := by decide +kernel
theorem dX6_caseOf_28 : decode cX6_caseOf 28 = .ok (.invokevirtual 107, 3) := by decide +kernel
theorem dX6_caseOf_31 : decode cX6_caseOf 31 = .ok (.ifCond .eq 5, 3) := by decide +kernel
theorem dX6_caseOf_34 : decode cX6_caseOf 34 = .ok (.iconst 0, 1) := by decide +kernel
theorem dX6_caseOf_35 : decode cX6_caseOf 35 = .ok (.ireturn, 1) := by decide +kernel
theorem dX6_caseOf_36 : decode cX6_caseOf 36 = .ok (.aload_n 0, 1) := by decide +kernel
theorem dX6_caseOf_37 : decode cX6_caseOf 37 = .ok (.iconst (-1), 1) := by decide +kernel
theorem dX6_caseOf_38 : decode cX6_caseOf 38 = .ok (.invokevirtual 133, 3) := by decide +kernel
theorem dX6_caseOf_41 : decode cX6_caseOf 41 = .ok (.aload_n 0, 1) := by decide +kernel
theorem dX6_caseOf_42 : decode cX6_caseOf 42 = .ok (.iload_n 1, 1) := by decide +kernel
theorem dX6_caseOf_43 : decode cX6_caseOf 43 = .ok (.iload_n 2, 1) := by decide +kernel
theorem dX6_caseOf_44 : decode cX6_caseOf 44 = .ok (.invokevirtual 166, 3) := by decide +kernel
theorem dX6_caseOf_47 : decode cX6_caseOf 47 = .ok (.ireturn, 1) := by decide +kernel
set_option maxRecDepth 20000 in
theorem ggX6_answerOf_X6_isCase : GoodIn wsX6_answerOf wsX6_isCase := goodIn_r _ [5, 6, 7, 8, 4, 9, 10, 11, 12, 13, 14, 15, 16, 17, 31, 32, 33, 34, 35, 36, 37, 38, 39, 40, 41, 42, 43, 44, 45, 46, 47, 48] (by decide +kernel) (by decide +kernel)
set_option maxRecDepth 20000 in
theorem gX6_answerOf_X6_isCase : GoodIn wsX6_answerOf (wsV RX6 163 RX6 yX6_isCase wsX6_isCase) := goodIn_app (goodIn_of _ (by decide +kernel)) ggX6_answerOf_X6_isCase
set_option maxRecDepth 20000 in
theorem ggX6_answerOf_X6_isCondition : GoodIn wsX6_answerOf wsX6_isCondition := goodIn_r _ [21, 10, 15, 16, 4, 17, 31, 32, 33, 34, 35, 36, 37, 38, 39, 40, 41, 42, 43, 44, 45, 46, 47, 48] (by decide +kernel) (by decide +kernel)
set_option maxRecDepth 20000 in
theorem gX6_answerOf_X6_isCondition : GoodIn wsX6_answerOf (wsV RX6 114 RX6 yX6_isCondition wsX6_isCondition) := goodIn_app (goodIn_of _ (by decide +kernel)) ggX6_answerOf_X6_isCondition
set_option maxRecDepth 20000 in
theorem ggX6_answerOf_X6_throwing : GoodIn wsX6_answerOf wsX6_throwing := goodIn_r _ [25, 26, 31, 32, 33, 34, 35, 36, 37, 38, 39, 40, 41, 42, 43, 44, 45, 46, 47, 48] (by decide +kernel) (by decide +kernel)
set_option maxRecDepth 20000 in
theorem gX6_answerOf_X6_throwing : GoodIn wsX6_answerOf (wsV RX6 107 RX6 yX6_throwing wsX6_throwing) := goodIn_app (goodIn_of _ (by decide +kernel)) ggX6_answerOf_X6_throwing
set_option maxRecDepth 20000 in
theorem ggX6_answerOf_X6_answer : GoodIn wsX6_answerOf wsX6_answer := goodIn_r _ [30, 11, 12, 13, 4, 14, 10, 31, 32, 33, 34, 35, 36, 37, 38, 39, 40, 41, 42, 43, 44, 45, 46, 47, 48] (by decide +kernel) (by decide +kernel)
set_option maxRecDepth 20000 in
theorem gX6_answerOf_X6_answer : GoodIn wsX6_answerOf (wsV RX6 139 RX6 yX6_answer wsX6_answer) := goodIn_app (goodIn_of _ (by decide +kernel)) ggX6_answerOf_X6_answer
theorem dX6_answerOf_0 : decode cX6_answerOf 0 = .ok (.aload_n 0, 1) := by decide +kernel
theorem dX6_answerOf_1 : decode cX6_answerOf 1 = .ok (.aload_n 0, 1) := by decide +kernel
theorem dX6_answerOf_2 : decode cX6_answerOf 2 = .ok (.iload_n 1, 1) := by decide +kernel
theorem dX6_answerOf_3 : decode cX6_answerOf 3 = .ok (.invokevirtual 163, 3) := by decide +kernel
theorem dX6_answerOf_6 : decode cX6_answerOf 6 = .ok (.ifCond .eq 11, 3) := by decide +kernel
theorem dX6_answerOf_9 : decode cX6_answerOf 9 = .ok (.aload_n 0, 1) := by decide +kernel
theorem dX6_answerOf_10 : decode cX6_answerOf 10 = .ok (.iload_n 2, 1) := by decide +kernel
theorem dX6_answerOf_11 : decode cX6_answerOf 11 = .ok (.invokevirtual 114, 3) := by decide +kernel
theorem dX6_answerOf_14 : decode cX6_answerOf 14 = .ok (.ifCond .ne 7, 3) := by decide +kernel
theorem dX6_answerOf_17 : decode cX6_answerOf 17 = .ok (.iconst 1, 1) := by decide +kernel
theorem dX6_answerOf_18 : decode cX6_answerOf 18 = .ok (.goto 4, 3) := by decide +kernel
theorem dX6_answerOf_21 : decode cX6_answerOf 21 = .ok (.iconst 0, 1) := by decide +kernel
theorem dX6_answerOf_22 : decode cX6_answerOf 22 = .ok (.iconst 0, 1) := by decide +kernel
theorem dX6_answerOf_23 : decode cX6_answerOf 23 = .ok (.invokevirtual 107, 3) := by decide +kernel
theorem dX6_answerOf_26 : decode cX6_answerOf 26 = .ok (.ifCond .eq 7, 3) := by decide +kernel
theorem dX6_answerOf_29 : decode cX6_answerOf 29 = .ok (.iconst 0, 1) := by decide +kernel
theorem dX6_answerOf_30 : decode cX6_answerOf 30 = .ok (.goto 9, 3) := by decide +kernel
theorem dX6_answerOf_33 : decode cX6_answerOf 33 = .ok (.aload_n 0, 1) := by decide +kernel
theorem dX6_answerOf_34 : decode cX6_answerOf 34 = .ok (.iload_n 1, 1) := by decide +kernel
theorem dX6_answerOf_35 : decode cX6_answerOf 35 = .ok (.iload_n 2, 1) := by decide +kernel
theorem dX6_answerOf_36 : decode cX6_answerOf 36 = .ok (.invokevirtual 139, 3) := by decide +kernel
theorem dX6_answerOf_39 : decode cX6_answerOf 39 = .ok (.ireturn, 1) := by decide +kernel
set_option maxRecDepth 20000 in
theorem ggX6_hole_X6_throwing : GoodIn wsX6_hole wsX6_throwing := goodIn_r _ [6, 7, 38, 39, 40, 41, 42, 43, 44, 45, 46, 47, 48, 49, 50, 51, 52, 53, 54, 55] (by decide +kernel) (by decide +kernel)
set_option maxRecDepth 20000 in
theorem gX6_hole_X6_throwing : GoodIn wsX6_hole (wsV RX6 107 RX6 yX6_throwing wsX6_throwing) := goodIn_app (goodIn_of _ (by decide +kernel)) ggX6_hole_X6_throwing
set_option maxRecDepth 20000 in
theorem ggX6_hole_X6_lays : GoodIn wsX6_hole wsX6_lays := goodIn_r _ [11, 12, 13, 14, 15, 1, 16, 17, 18, 5, 19, 20, 21, 22, 23, 24, 25, 26, 27, 28, 29, 30, 31, 32, 33, 34, 35, 36, 37, 38, 39, 40, 41, 42, 43, 44, 45, 46, 47, 48, 49, 50, 51, 52, 53, 54, 55] (by decide +kernel) (by decide +kernel)
set_option maxRecDepth 20000 in
theorem gX6_hole_X6_lays : GoodIn wsX6_hole (wsV RX6 133 RX6 yX6_lays wsX6_lays) := goodIn_app (goodIn_of _ (by decide +kernel)) ggX6_hole_X6_lays
set_option maxRecDepth 20000 in
theorem ggX6_hole_X6_cases : GoodIn wsX6_hole wsX6_cases := goodIn_r _ [19, 15, 20, 21, 22, 5, 23, 38, 39, 40, 41, 42, 43, 44, 45, 46, 47, 48, 49, 50, 51, 52, 53, 54, 55] (by decide +kernel) (by decide +kernel)
set_option maxRecDepth 20000 in
theorem gX6_hole_X6_cases : GoodIn wsX6_hole (wsV RX6 72 RX6 yX6_cases wsX6_cases) := goodIn_app (goodIn_of _ (by decide +kernel)) ggX6_hole_X6_cases
theorem dX6_hole_0 : decode cX6_hole 0 = .ok (.aload_n 0, 1) := by decide +kernel
theorem dX6_hole_1 : decode cX6_hole 1 = .ok (.iload_n 1, 1) := by decide +kernel
theorem dX6_hole_2 : decode cX6_hole 2 = .ok (.ifCond .ge 7, 3) := by decide +kernel
theorem dX6_hole_5 : decode cX6_hole 5 = .ok (.iconst 1, 1) := by decide +kernel
theorem dX6_hole_6 : decode cX6_hole 6 = .ok (.goto 4, 3) := by decide +kernel
theorem dX6_hole_9 : decode cX6_hole 9 = .ok (.iconst 0, 1) := by decide +kernel
theorem dX6_hole_10 : decode cX6_hole 10 = .ok (.iconst 0, 1) := by decide +kernel
theorem dX6_hole_11 : decode cX6_hole 11 = .ok (.invokevirtual 107, 3) := by decide +kernel
theorem dX6_hole_14 : decode cX6_hole 14 = .ok (.ifCond .eq 5, 3) := by decide +kernel
theorem dX6_hole_17 : decode cX6_hole 17 = .ok (.iconst 0, 1) := by decide +kernel
theorem dX6_hole_18 : decode cX6_hole 18 = .ok (.ireturn, 1) := by decide +kernel
theorem dX6_hole_19 : decode cX6_hole 19 = .ok (.aload_n 0, 1) := by decide +kernel
theorem dX6_hole_20 : decode cX6_hole 20 = .ok (.iconst (-1), 1) := by decide +kernel
theorem dX6_hole_21 : decode cX6_hole 21 = .ok (.invokevirtual 133, 3) := by decide +kernel
theorem dX6_hole_24 : decode cX6_hole 24 = .ok (.iconst 0, 1) := by decide +kernel
theorem dX6_hole_25 : decode cX6_hole 25 = .ok (.istore_n 2, 1) := by decide +kernel
theorem dX6_hole_26 : decode cX6_hole 26 = .ok (.iconst 0, 1) := by decide +kernel
theorem dX6_hole_27 : decode cX6_hole 27 = .ok (.istore_n 3, 1) := by decide +kernel
theorem dX6_hole_28 : decode cX6_hole 28 = .ok (.iload_n 3, 1) := by decide +kernel
theorem dX6_hole_29 : decode cX6_hole 29 = .ok (.aload_n 0, 1) := by decide +kernel
theorem dX6_hole_30 : decode cX6_hole 30 = .ok (.invokevirtual 72, 3) := by decide +kernel
theorem dX6_hole_33 : decode cX6_hole 33 = .ok (.if_icmp .ge 30, 3) := by decide +kernel
theorem dX6_hole_36 : decode cX6_hole 36 = .ok (.aload_n 0, 1) := by decide +kernel
theorem dX6_hole_37 : decode cX6_hole 37 = .ok (.getfield 28, 3) := by decide +kernel
theorem dX6_hole_40 : decode cX6_hole 40 = .ok (.iload_n 3, 1) := by decide +kernel
theorem dX6_hole_41 : decode cX6_hole 41 = .ok (.iaload, 1) := by decide +kernel
theorem dX6_hole_42 : decode cX6_hole 42 = .ok (.bipush 10, 2) := by decide +kernel
theorem dX6_hole_44 : decode cX6_hole 44 = .ok (.if_icmp .ne 13, 3) := by decide +kernel
theorem dX6_hole_47 : decode cX6_hole 47 = .ok (.iload_n 2, 1) := by decide +kernel
theorem dX6_hole_48 : decode cX6_hole 48 = .ok (.iload_n 1, 1) := by decide +kernel
theorem dX6_hole_49 : decode cX6_hole 49 = .ok (.if_icmp .ne 5, 3) := by decide +kernel
theorem dX6_hole_52 : decode cX6_hole 52 = .ok (.iload_n 3, 1) := by decide +kernel
theorem dX6_hole_53 : decode cX6_hole 53 = .ok (.ireturn, 1) := by decide +kernel
theorem dX6_hole_54 : decode cX6_hole 54 = .ok (.iinc 2 1, 3) := by decide +kernel
theorem dX6_hole_57 : decode cX6_hole 57 = .ok (.iinc 3 1, 3) := by decide +kernel
theorem dX6_hole_60 : decode cX6_hole 60 = .ok (.goto (-32), 3) := by decide +kernel
theorem dX6_hole_63 : decode cX6_hole 63 = .ok (.iconst (-1), 1) := by decide +kernel
theorem dX6_hole_64 : decode cX6_hole 64 = .ok (.ireturn, 1) := by decide +kernel
set_option maxRecDepth 20000 in
theorem ggX6_casesOf_X6_cases : GoodIn wsX6_casesOf wsX6_cases := goodIn_r _ [6, 7, 8, 9, 10, 5, 11, 31, 32, 33, 34, 35, 36, 37, 38, 39, 40, 41, 42, 43, 44, 45, 46, 47, 48] (by decide +kernel) (by decide +kernel)
set_option maxRecDepth 20000 in
theorem gX6_casesOf_X6_cases : GoodIn wsX6_casesOf (wsV RX6 72 RX6 yX6_cases wsX6_cases) := goodIn_app (goodIn_of _ (by decide +kernel)) ggX6_casesOf_X6_cases
set_option maxRecDepth 20000 in
theorem ggX6_casesOf_X6_isConflict : GoodIn wsX6_casesOf wsX6_isConflict := goodIn_r _ [15, 7, 16, 17, 18, 19, 5, 20, 21, 22, 23, 24, 25, 26, 27, 8, 9, 10, 11, 28, 29, 30, 31, 32, 33, 34, 35, 36, 37, 38, 39, 40, 41, 42, 43, 44, 45, 46, 47, 48] (by decide +kernel) (by decide +kernel)
set_option maxRecDepth 20000 in
theorem gX6_casesOf_X6_isConflict : GoodIn wsX6_casesOf (wsV RX6 160 RX6 yX6_isConflict wsX6_isConflict) := goodIn_app (goodIn_of _ (by decide +kernel)) ggX6_casesOf_X6_isConflict
theorem dX6_casesOf_0 : decode cX6_casesOf 0 = .ok (.iconst 0, 1) := by decide +kernel
theorem dX6_casesOf_1 : decode cX6_casesOf 1 = .ok (.istore_n 2, 1) := by decide +kernel
theorem dX6_casesOf_2 : decode cX6_casesOf 2 = .ok (.iconst 0, 1) := by decide +kernel
theorem dX6_casesOf_3 : decode cX6_casesOf 3 = .ok (.istore_n 3, 1) := by decide +kernel
theorem dX6_casesOf_4 : decode cX6_casesOf 4 = .ok (.iload_n 3, 1) := by decide +kernel
theorem dX6_casesOf_5 : decode cX6_casesOf 5 = .ok (.aload_n 0, 1) := by decide +kernel
theorem dX6_casesOf_6 : decode cX6_casesOf 6 = .ok (.invokevirtual 72, 3) := by decide +kernel
theorem dX6_casesOf_9 : decode cX6_casesOf 9 = .ok (.if_icmp .ge 74, 3) := by decide +kernel
theorem dX6_casesOf_12 : decode cX6_casesOf 12 = .ok (.iload_n 1, 1) := by decide +kernel
theorem dX6_casesOf_13 : decode cX6_casesOf 13 = .ok (.iconst 3, 1) := by decide +kernel
theorem dX6_casesOf_14 : decode cX6_casesOf 14 = .ok (.if_icmp .ne 20, 3) := by decide +kernel
theorem dX6_casesOf_17 : decode cX6_casesOf 17 = .ok (.aload_n 0, 1) := by decide +kernel
theorem dX6_casesOf_18 : decode cX6_casesOf 18 = .ok (.getfield 22, 3) := by decide +kernel
theorem dX6_casesOf_21 : decode cX6_casesOf 21 = .ok (.iload_n 3, 1) := by decide +kernel
theorem dX6_casesOf_22 : decode cX6_casesOf 22 = .ok (.iaload, 1) := by decide +kernel
theorem dX6_casesOf_23 : decode cX6_casesOf 23 = .ok (.ifCond .ne 7, 3) := by decide +kernel
theorem dX6_casesOf_26 : decode cX6_casesOf 26 = .ok (.iconst 1, 1) := by decide +kernel
theorem dX6_casesOf_27 : decode cX6_casesOf 27 = .ok (.goto 35, 3) := by decide +kernel
theorem dX6_casesOf_30 : decode cX6_casesOf 30 = .ok (.iconst 0, 1) := by decide +kernel
theorem dX6_casesOf_31 : decode cX6_casesOf 31 = .ok (.goto 31, 3) := by decide +kernel
theorem dX6_casesOf_34 : decode cX6_casesOf 34 = .ok (.aload_n 0, 1) := by decide +kernel
theorem dX6_casesOf_35 : decode cX6_casesOf 35 = .ok (.getfield 22, 3) := by decide +kernel
theorem dX6_casesOf_38 : decode cX6_casesOf 38 = .ok (.iload_n 3, 1) := by decide +kernel
theorem dX6_casesOf_39 : decode cX6_casesOf 39 = .ok (.iaload, 1) := by decide +kernel
theorem dX6_casesOf_40 : decode cX6_casesOf 40 = .ok (.iconst 1, 1) := by decide +kernel
theorem dX6_casesOf_41 : decode cX6_casesOf 41 = .ok (.if_icmp .le 20, 3) := by decide +kernel
theorem dX6_casesOf_44 : decode cX6_casesOf 44 = .ok (.iload_n 1, 1) := by decide +kernel
theorem dX6_casesOf_45 : decode cX6_casesOf 45 = .ok (.iconst 4, 1) := by decide +kernel
theorem dX6_casesOf_46 : decode cX6_casesOf 46 = .ok (.if_icmp .eq 11, 3) := by decide +kernel
theorem dX6_casesOf_49 : decode cX6_casesOf 49 = .ok (.aload_n 0, 1) := by decide +kernel
theorem dX6_casesOf_50 : decode cX6_casesOf 50 = .ok (.iload_n 3, 1) := by decide +kernel
theorem dX6_casesOf_51 : decode cX6_casesOf 51 = .ok (.invokevirtual 160, 3) := by decide +kernel
theorem dX6_casesOf_54 : decode cX6_casesOf 54 = .ok (.ifCond .eq 7, 3) := by decide +kernel
theorem dX6_casesOf_57 : decode cX6_casesOf 57 = .ok (.iconst 1, 1) := by decide +kernel
theorem dX6_casesOf_58 : decode cX6_casesOf 58 = .ok (.goto 4, 3) := by decide +kernel
theorem dX6_casesOf_61 : decode cX6_casesOf 61 = .ok (.iconst 0, 1) := by decide +kernel
theorem dX6_casesOf_62 : decode cX6_casesOf 62 = .ok (.istore 4, 2) := by decide +kernel
theorem dX6_casesOf_64 : decode cX6_casesOf 64 = .ok (.iload_n 2, 1) := by decide +kernel
theorem dX6_casesOf_65 : decode cX6_casesOf 65 = .ok (.iload 4, 2) := by decide +kernel
theorem dX6_casesOf_67 : decode cX6_casesOf 67 = .ok (.ifCond .eq 7, 3) := by decide +kernel
theorem dX6_casesOf_70 : decode cX6_casesOf 70 = .ok (.iconst 1, 1) := by decide +kernel
theorem dX6_casesOf_71 : decode cX6_casesOf 71 = .ok (.goto 4, 3) := by decide +kernel
theorem dX6_casesOf_74 : decode cX6_casesOf 74 = .ok (.iconst 0, 1) := by decide +kernel
theorem dX6_casesOf_75 : decode cX6_casesOf 75 = .ok (.iadd, 1) := by decide +kernel
theorem dX6_casesOf_76 : decode cX6_casesOf 76 = .ok (.istore_n 2, 1) := by decide +kernel
theorem dX6_casesOf_77 : decode cX6_casesOf 77 = .ok (.iinc 3 1, 3) := by decide +kernel
theorem dX6_casesOf_80 : decode cX6_casesOf 80 = .ok (.goto (-76), 3) := by decide +kernel
theorem dX6_casesOf_83 : decode cX6_casesOf 83 = .ok (.iload_n 2, 1) := by decide +kernel
theorem dX6_casesOf_84 : decode cX6_casesOf 84 = .ok (.ireturn, 1) := by decide +kernel
set_option maxRecDepth 20000 in
theorem ggX6_unlike_X6_cases : GoodIn wsX6_unlike wsX6_cases := goodIn_r _ [6, 7, 8, 9, 10, 5, 11, 12, 13, 14, 15, 16, 17, 18, 19, 20, 21, 22, 23, 24, 25, 26, 27, 28, 29] (by decide +kernel) (by decide +kernel)
set_option maxRecDepth 20000 in
theorem gX6_unlike_X6_cases : GoodIn wsX6_unlike (wsV RX6 72 RX6 yX6_cases wsX6_cases) := goodIn_app (goodIn_of _ (by decide +kernel)) ggX6_unlike_X6_cases
theorem dX6_unlike_0 : decode cX6_unlike 0 = .ok (.iconst 0, 1) := by decide +kernel
theorem dX6_unlike_1 : decode cX6_unlike 1 = .ok (.istore_n 1, 1) := by decide +kernel
theorem dX6_unlike_2 : decode cX6_unlike 2 = .ok (.iconst 0, 1) := by decide +kernel
theorem dX6_unlike_3 : decode cX6_unlike 3 = .ok (.istore_n 2, 1) := by decide +kernel
theorem dX6_unlike_4 : decode cX6_unlike 4 = .ok (.iload_n 2, 1) := by decide +kernel
theorem dX6_unlike_5 : decode cX6_unlike 5 = .ok (.aload_n 0, 1) := by decide +kernel
theorem dX6_unlike_6 : decode cX6_unlike 6 = .ok (.invokevirtual 72, 3) := by decide +kernel
theorem dX6_unlike_9 : decode cX6_unlike 9 = .ok (.if_icmp .ge 20, 3) := by decide +kernel
theorem dX6_unlike_12 : decode cX6_unlike 12 = .ok (.iload_n 1, 1) := by decide +kernel
theorem dX6_unlike_13 : decode cX6_unlike 13 = .ok (.iconst 1, 1) := by decide +kernel
theorem dX6_unlike_14 : decode cX6_unlike 14 = .ok (.aload_n 0, 1) := by decide +kernel
theorem dX6_unlike_15 : decode cX6_unlike 15 = .ok (.getfield 28, 3) := by decide +kernel
theorem dX6_unlike_18 : decode cX6_unlike 18 = .ok (.iload_n 2, 1) := by decide +kernel
theorem dX6_unlike_19 : decode cX6_unlike 19 = .ok (.iaload, 1) := by decide +kernel
theorem dX6_unlike_20 : decode cX6_unlike 20 = .ok (.ishl, 1) := by decide +kernel
theorem dX6_unlike_21 : decode cX6_unlike 21 = .ok (.ior, 1) := by decide +kernel
theorem dX6_unlike_22 : decode cX6_unlike 22 = .ok (.istore_n 1, 1) := by decide +kernel
theorem dX6_unlike_23 : decode cX6_unlike 23 = .ok (.iinc 2 1, 3) := by decide +kernel
theorem dX6_unlike_26 : decode cX6_unlike 26 = .ok (.goto (-22), 3) := by decide +kernel
theorem dX6_unlike_29 : decode cX6_unlike 29 = .ok (.iconst 0, 1) := by decide +kernel
theorem dX6_unlike_30 : decode cX6_unlike 30 = .ok (.istore_n 2, 1) := by decide +kernel
theorem dX6_unlike_31 : decode cX6_unlike 31 = .ok (.iconst 0, 1) := by decide +kernel
theorem dX6_unlike_32 : decode cX6_unlike 32 = .ok (.istore_n 3, 1) := by decide +kernel
theorem dX6_unlike_33 : decode cX6_unlike 33 = .ok (.iload_n 3, 1) := by decide +kernel
theorem dX6_unlike_34 : decode cX6_unlike 34 = .ok (.bipush 10, 2) := by decide +kernel
theorem dX6_unlike_36 : decode cX6_unlike 36 = .ok (.if_icmp .gt 17, 3) := by decide +kernel
theorem dX6_unlike_39 : decode cX6_unlike 39 = .ok (.iload_n 2, 1) := by decide +kernel
theorem dX6_unlike_40 : decode cX6_unlike 40 = .ok (.iload_n 1, 1) := by decide +kernel
theorem dX6_unlike_41 : decode cX6_unlike 41 = .ok (.iload_n 3, 1) := by decide +kernel
theorem dX6_unlike_42 : decode cX6_unlike 42 = .ok (.ishr, 1) := by decide +kernel
theorem dX6_unlike_43 : decode cX6_unlike 43 = .ok (.iconst 1, 1) := by decide +kernel
theorem dX6_unlike_44 : decode cX6_unlike 44 = .ok (.iand, 1) := by decide +kernel
theorem dX6_unlike_45 : decode cX6_unlike 45 = .ok (.iadd, 1) := by decide +kernel
theorem dX6_unlike_46 : decode cX6_unlike 46 = .ok (.istore_n 2, 1) := by decide +kernel
theorem dX6_unlike_47 : decode cX6_unlike 47 = .ok (.iinc 3 1, 3) := by decide +kernel
theorem dX6_unlike_50 : decode cX6_unlike 50 = .ok (.goto (-17), 3) := by decide +kernel
theorem dX6_unlike_53 : decode cX6_unlike 53 = .ok (.iload_n 2, 1) := by decide +kernel
theorem dX6_unlike_54 : decode cX6_unlike 54 = .ok (.ireturn, 1) := by decide +kernel
set_option maxRecDepth 20000 in
theorem ggX6_needed_X6_cases : GoodIn wsX6_needed wsX6_cases := goodIn_r _ [6, 1, 7, 8, 9, 5, 10, 16, 17, 18, 19, 20, 21, 22, 23, 24, 25, 26, 27, 28, 29, 30, 31, 32, 33] (by decide +kernel) (by decide +kernel)
set_option maxRecDepth 20000 in
theorem gX6_needed_X6_cases : GoodIn wsX6_needed (wsV RX6 72 RX6 yX6_cases wsX6_cases) := goodIn_app (goodIn_of _ (by decide +kernel)) ggX6_needed_X6_cases
set_option maxRecDepth 20000 in
theorem ggX6_needed_X6_ownOf : GoodIn wsX6_needed wsX6_ownOf := goodIn_r _ [14, 15, 16, 17, 18, 19, 20, 21, 22, 23, 24, 25, 26, 27, 28, 29, 30, 31, 32, 33] (by decide +kernel) (by decide +kernel)
set_option maxRecDepth 20000 in
theorem gX6_needed_X6_ownOf : GoodIn wsX6_needed (wsV RX6 136 RX6 yX6_ownOf wsX6_ownOf) := goodIn_app (goodIn_of _ (by decide +kernel)) ggX6_needed_X6_ownOf
theorem dX6_needed_0 : decode cX6_needed 0 = .ok (.iconst 0, 1) := by decide +kernel
theorem dX6_needed_1 : decode cX6_needed 1 = .ok (.istore_n 1, 1) := by decide +kernel
theorem dX6_needed_2 : decode cX6_needed 2 = .ok (.iconst 0, 1) := by decide +kernel
theorem dX6_needed_3 : decode cX6_needed 3 = .ok (.istore_n 2, 1) := by decide +kernel
theorem dX6_needed_4 : decode cX6_needed 4 = .ok (.iload_n 2, 1) := by decide +kernel
theorem dX6_needed_5 : decode cX6_needed 5 = .ok (.aload_n 0, 1) := by decide +kernel
theorem dX6_needed_6 : decode cX6_needed 6 = .ok (.getfield 7, 3) := by decide +kernel
theorem dX6_needed_9 : decode cX6_needed 9 = .ok (.iconst 1, 1) := by decide +kernel
theorem dX6_needed_10 : decode cX6_needed 10 = .ok (.iaload, 1) := by decide +kernel
theorem dX6_needed_11 : decode cX6_needed 11 = .ok (.if_icmp .ge 29, 3) := by decide +kernel
theorem dX6_needed_14 : decode cX6_needed 14 = .ok (.iload_n 1, 1) := by decide +kernel
theorem dX6_needed_15 : decode cX6_needed 15 = .ok (.aload_n 0, 1) := by decide +kernel
theorem dX6_needed_16 : decode cX6_needed 16 = .ok (.iload_n 2, 1) := by decide +kernel
theorem dX6_needed_17 : decode cX6_needed 17 = .ok (.aload_n 0, 1) := by decide +kernel
theorem dX6_needed_18 : decode cX6_needed 18 = .ok (.invokevirtual 72, 3) := by decide +kernel
theorem dX6_needed_21 : decode cX6_needed 21 = .ok (.invokevirtual 136, 3) := by decide +kernel
theorem dX6_needed_24 : decode cX6_needed 24 = .ok (.ifCond .le 7, 3) := by decide +kernel
theorem dX6_needed_27 : decode cX6_needed 27 = .ok (.iconst 1, 1) := by decide +kernel
theorem dX6_needed_28 : decode cX6_needed 28 = .ok (.goto 4, 3) := by decide +kernel
theorem dX6_needed_31 : decode cX6_needed 31 = .ok (.iconst 0, 1) := by decide +kernel
theorem dX6_needed_32 : decode cX6_needed 32 = .ok (.iadd, 1) := by decide +kernel
theorem dX6_needed_33 : decode cX6_needed 33 = .ok (.istore_n 1, 1) := by decide +kernel
theorem dX6_needed_34 : decode cX6_needed 34 = .ok (.iinc 2 1, 3) := by decide +kernel
theorem dX6_needed_37 : decode cX6_needed 37 = .ok (.goto (-33), 3) := by decide +kernel
theorem dX6_needed_40 : decode cX6_needed 40 = .ok (.iload_n 1, 1) := by decide +kernel
theorem dX6_needed_41 : decode cX6_needed 41 = .ok (.ireturn, 1) := by decide +kernel
set_option maxRecDepth 20000 in
theorem ggX6_wholeValue_X6_cases : GoodIn wsX6_wholeValue wsX6_cases := goodIn_r _ [9, 1, 10, 11, 12, 8, 13, 51, 52, 53, 54, 55, 56, 57, 58, 59, 60, 61, 62, 63, 64, 65, 66, 67, 68] (by decide +kernel) (by decide +kernel)
set_option maxRecDepth 20000 in
theorem gX6_wholeValue_X6_cases : GoodIn wsX6_wholeValue (wsV RX6 72 RX6 yX6_cases wsX6_cases) := goodIn_app (goodIn_of _ (by decide +kernel)) ggX6_wholeValue_X6_cases
set_option maxRecDepth 20000 in
theorem ggX6_wholeValue_X6_casesOf : GoodIn wsX6_wholeValue wsX6_casesOf := goodIn_r _ [17, 18, 5, 6, 7, 8, 9, 1, 10, 11, 12, 13, 19, 20, 21, 22, 23, 24, 25, 26, 27, 28, 29, 30, 31, 32, 33, 34, 35, 36, 37, 51, 52, 53, 54, 55, 56, 57, 58, 59, 60, 61, 62, 63, 64, 65, 66, 67, 68] (by decide +kernel) (by decide +kernel)
set_option maxRecDepth 20000 in
theorem gX6_wholeValue_X6_casesOf : GoodIn wsX6_wholeValue (wsV RX6 169 RX6 yX6_casesOf wsX6_casesOf) := goodIn_app (goodIn_of _ (by decide +kernel)) ggX6_wholeValue_X6_casesOf
set_option maxRecDepth 20000 in
theorem ggX6_wholeValue_X6_needed : GoodIn wsX6_wholeValue wsX6_needed := goodIn_r _ [41, 1, 5, 6, 7, 8, 9, 10, 11, 12, 13, 42, 43, 44, 45, 46, 51, 52, 53, 54, 55, 56, 57, 58, 59, 60, 61, 62, 63, 64, 65, 66, 67, 68] (by decide +kernel) (by decide +kernel)
set_option maxRecDepth 20000 in
theorem gX6_wholeValue_X6_needed : GoodIn wsX6_wholeValue (wsV RX6 172 RX6 yX6_needed wsX6_needed) := goodIn_app (goodIn_of _ (by decide +kernel)) ggX6_wholeValue_X6_needed
set_option maxRecDepth 20000 in
theorem ggX6_wholeValue_X6_unlike : GoodIn wsX6_wholeValue wsX6_unlike := goodIn_r _ [50, 23, 5, 6, 7, 8, 9, 1, 10, 11, 12, 13, 51, 52, 53, 54, 55, 56, 57, 58, 59, 60, 61, 62, 63, 64, 65, 66, 67, 68] (by decide +kernel) (by decide +kernel)
set_option maxRecDepth 20000 in
theorem gX6_wholeValue_X6_unlike : GoodIn wsX6_wholeValue (wsV RX6 175 RX6 yX6_unlike wsX6_unlike) := goodIn_app (goodIn_of _ (by decide +kernel)) ggX6_wholeValue_X6_unlike
theorem dX6_wholeValue_0 : decode cX6_wholeValue 0 = .ok (.iload_n 1, 1) := by decide +kernel
theorem dX6_wholeValue_1 : decode cX6_wholeValue 1 = .ok (.tableswitch 115 0 10 #[59, 66, 71, 78, 78, 78, 84, 89, 96, 103, 108], 59) := by decide +kernel
theorem dX6_wholeValue_60 : decode cX6_wholeValue 60 = .ok (.aload_n 0, 1) := by decide +kernel
theorem dX6_wholeValue_61 : decode cX6_wholeValue 61 = .ok (.getfield 7, 3) := by decide +kernel
theorem dX6_wholeValue_64 : decode cX6_wholeValue 64 = .ok (.iconst 0, 1) := by decide +kernel
theorem dX6_wholeValue_65 : decode cX6_wholeValue 65 = .ok (.iaload, 1) := by decide +kernel
theorem dX6_wholeValue_66 : decode cX6_wholeValue 66 = .ok (.ireturn, 1) := by decide +kernel
theorem dX6_wholeValue_67 : decode cX6_wholeValue 67 = .ok (.aload_n 0, 1) := by decide +kernel
theorem dX6_wholeValue_68 : decode cX6_wholeValue 68 = .ok (.invokevirtual 72, 3) := by decide +kernel
theorem dX6_wholeValue_71 : decode cX6_wholeValue 71 = .ok (.ireturn, 1) := by decide +kernel
theorem dX6_wholeValue_72 : decode cX6_wholeValue 72 = .ok (.aload_n 0, 1) := by decide +kernel
theorem dX6_wholeValue_73 : decode cX6_wholeValue 73 = .ok (.getfield 7, 3) := by decide +kernel
theorem dX6_wholeValue_76 : decode cX6_wholeValue 76 = .ok (.iconst 1, 1) := by decide +kernel
theorem dX6_wholeValue_77 : decode cX6_wholeValue 77 = .ok (.iaload, 1) := by decide +kernel
theorem dX6_wholeValue_78 : decode cX6_wholeValue 78 = .ok (.ireturn, 1) := by decide +kernel
theorem dX6_wholeValue_79 : decode cX6_wholeValue 79 = .ok (.aload_n 0, 1) := by decide +kernel
theorem dX6_wholeValue_80 : decode cX6_wholeValue 80 = .ok (.iload_n 1, 1) := by decide +kernel
theorem dX6_wholeValue_81 : decode cX6_wholeValue 81 = .ok (.invokevirtual 169, 3) := by decide +kernel
theorem dX6_wholeValue_84 : decode cX6_wholeValue 84 = .ok (.ireturn, 1) := by decide +kernel
theorem dX6_wholeValue_85 : decode cX6_wholeValue 85 = .ok (.aload_n 0, 1) := by decide +kernel
theorem dX6_wholeValue_86 : decode cX6_wholeValue 86 = .ok (.invokevirtual 172, 3) := by decide +kernel
theorem dX6_wholeValue_89 : decode cX6_wholeValue 89 = .ok (.ireturn, 1) := by decide +kernel
theorem dX6_wholeValue_90 : decode cX6_wholeValue 90 = .ok (.aload_n 0, 1) := by decide +kernel
theorem dX6_wholeValue_91 : decode cX6_wholeValue 91 = .ok (.getfield 34, 3) := by decide +kernel
theorem dX6_wholeValue_94 : decode cX6_wholeValue 94 = .ok (.iconst 0, 1) := by decide +kernel
theorem dX6_wholeValue_95 : decode cX6_wholeValue 95 = .ok (.iaload, 1) := by decide +kernel
theorem dX6_wholeValue_96 : decode cX6_wholeValue 96 = .ok (.ireturn, 1) := by decide +kernel
theorem dX6_wholeValue_97 : decode cX6_wholeValue 97 = .ok (.aload_n 0, 1) := by decide +kernel
theorem dX6_wholeValue_98 : decode cX6_wholeValue 98 = .ok (.getfield 37, 3) := by decide +kernel
theorem dX6_wholeValue_101 : decode cX6_wholeValue 101 = .ok (.iconst 0, 1) := by decide +kernel
theorem dX6_wholeValue_102 : decode cX6_wholeValue 102 = .ok (.iaload, 1) := by decide +kernel
theorem dX6_wholeValue_103 : decode cX6_wholeValue 103 = .ok (.ireturn, 1) := by decide +kernel
theorem dX6_wholeValue_104 : decode cX6_wholeValue 104 = .ok (.aload_n 0, 1) := by decide +kernel
theorem dX6_wholeValue_105 : decode cX6_wholeValue 105 = .ok (.invokevirtual 175, 3) := by decide +kernel
theorem dX6_wholeValue_108 : decode cX6_wholeValue 108 = .ok (.ireturn, 1) := by decide +kernel
theorem dX6_wholeValue_109 : decode cX6_wholeValue 109 = .ok (.aload_n 0, 1) := by decide +kernel
theorem dX6_wholeValue_110 : decode cX6_wholeValue 110 = .ok (.getfield 7, 3) := by decide +kernel
theorem dX6_wholeValue_113 : decode cX6_wholeValue 113 = .ok (.iconst 2, 1) := by decide +kernel
theorem dX6_wholeValue_114 : decode cX6_wholeValue 114 = .ok (.iaload, 1) := by decide +kernel
theorem dX6_wholeValue_115 : decode cX6_wholeValue 115 = .ok (.ireturn, 1) := by decide +kernel
theorem dX6_wholeValue_116 : decode cX6_wholeValue 116 = .ok (.aload_n 0, 1) := by decide +kernel
theorem dX6_wholeValue_117 : decode cX6_wholeValue 117 = .ok (.getfield 178, 3) := by decide +kernel
theorem dX6_wholeValue_120 : decode cX6_wholeValue 120 = .ok (.ireturn, 1) := by decide +kernel
set_option maxRecDepth 20000 in
theorem ggX6_whole_X6_in : GoodIn wsX6_whole wsX6_in := goodIn_r _ [4] (by decide +kernel) (by decide +kernel)
set_option maxRecDepth 20000 in
theorem gX6_whole_X6_in : GoodIn wsX6_whole (va_wsS RX6 54 yX6_in wsX6_in) := goodIn_app (goodIn_of _ (by decide +kernel)) ggX6_whole_X6_in
set_option maxRecDepth 20000 in
theorem ggX6_whole_X6_throwing : GoodIn wsX6_whole wsX6_throwing := goodIn_r _ [8, 9, 98, 99, 100, 101, 102, 103, 104, 105, 106, 107, 108, 109, 110, 111, 112, 113, 114, 115] (by decide +kernel) (by decide +kernel)
set_option maxRecDepth 20000 in
theorem gX6_whole_X6_throwing : GoodIn wsX6_whole (wsV RX6 107 RX6 yX6_throwing wsX6_throwing) := goodIn_app (goodIn_of _ (by decide +kernel)) ggX6_whole_X6_throwing
set_option maxRecDepth 20000 in
theorem ggX6_whole_X6_lays : GoodIn wsX6_whole wsX6_lays := goodIn_r _ [13, 14, 15, 16, 17, 18, 19, 20, 21, 3, 22, 23, 24, 25, 26, 27, 28, 29, 30, 31, 32, 33, 34, 35, 36, 37, 38, 39, 40, 98, 99, 100, 101, 102, 103, 104, 105, 106, 107, 108, 109, 110, 111, 112, 113, 114, 115] (by decide +kernel) (by decide +kernel)
set_option maxRecDepth 20000 in
theorem gX6_whole_X6_lays : GoodIn wsX6_whole (wsV RX6 133 RX6 yX6_lays wsX6_lays) := goodIn_app (goodIn_of _ (by decide +kernel)) ggX6_whole_X6_lays
set_option maxRecDepth 20000 in
theorem ggX6_whole_X6_laysPlans : GoodIn wsX6_whole wsX6_laysPlans := goodIn_r _ [44, 45, 17, 23, 24, 25, 3, 26, 46, 47, 48, 49, 50, 18, 51, 52, 53, 54, 55, 56, 57, 58, 59, 60, 61, 62, 63, 64, 65, 66, 67, 68, 69, 70, 71, 72, 98, 99, 100, 101, 102, 103, 104, 105, 106, 107, 108, 109, 110, 111, 112, 113, 114, 115] (by decide +kernel) (by decide +kernel)
set_option maxRecDepth 20000 in
theorem gX6_whole_X6_laysPlans : GoodIn wsX6_whole (wsV RX6 181 RX6 yX6_laysPlans wsX6_laysPlans) := goodIn_app (goodIn_of _ (by decide +kernel)) ggX6_whole_X6_laysPlans
set_option maxRecDepth 20000 in
theorem ggX6_whole_X6_wholeValue : GoodIn wsX6_whole wsX6_wholeValue := goodIn_r _ [76, 17, 51, 52, 77, 19, 20, 21, 3, 22, 23, 24, 25, 26, 78, 79, 80, 81, 16, 82, 83, 84, 85, 18, 27, 28, 29, 30, 31, 32, 33, 34, 35, 36, 37, 38, 39, 40, 86, 87, 88, 89, 90, 91, 92, 93, 14, 94, 95, 96, 97, 98, 99, 100, 101, 102, 103, 104, 105, 106, 107, 108, 109, 110, 111, 112, 113, 114, 115] (by decide +kernel) (by decide +kernel)
set_option maxRecDepth 20000 in
theorem gX6_whole_X6_wholeValue : GoodIn wsX6_whole (wsV RX6 184 RX6 yX6_wholeValue wsX6_wholeValue) := goodIn_app (goodIn_of _ (by decide +kernel)) ggX6_whole_X6_wholeValue
theorem dX6_whole_0 : decode cX6_whole 0 = .ok (.aload_n 0, 1) := by decide +kernel
theorem dX6_whole_1 : decode cX6_whole 1 = .ok (.iload_n 1, 1) := by decide +kernel
theorem dX6_whole_2 : decode cX6_whole 2 = .ok (.iconst 0, 1) := by decide +kernel
theorem dX6_whole_3 : decode cX6_whole 3 = .ok (.bipush 11, 2) := by decide +kernel
theorem dX6_whole_5 : decode cX6_whole 5 = .ok (.invokestatic 54, 3) := by decide +kernel
theorem dX6_whole_8 : decode cX6_whole 8 = .ok (.ifCond .ne 7, 3) := by decide +kernel
theorem dX6_whole_11 : decode cX6_whole 11 = .ok (.iconst 1, 1) := by decide +kernel
theorem dX6_whole_12 : decode cX6_whole 12 = .ok (.goto 4, 3) := by decide +kernel
theorem dX6_whole_15 : decode cX6_whole 15 = .ok (.iconst 0, 1) := by decide +kernel
theorem dX6_whole_16 : decode cX6_whole 16 = .ok (.iconst 0, 1) := by decide +kernel
theorem dX6_whole_17 : decode cX6_whole 17 = .ok (.invokevirtual 107, 3) := by decide +kernel
theorem dX6_whole_20 : decode cX6_whole 20 = .ok (.ifCond .eq 5, 3) := by decide +kernel
theorem dX6_whole_23 : decode cX6_whole 23 = .ok (.iconst 0, 1) := by decide +kernel
theorem dX6_whole_24 : decode cX6_whole 24 = .ok (.ireturn, 1) := by decide +kernel
theorem dX6_whole_25 : decode cX6_whole 25 = .ok (.aload_n 0, 1) := by decide +kernel
theorem dX6_whole_26 : decode cX6_whole 26 = .ok (.iconst (-1), 1) := by decide +kernel
theorem dX6_whole_27 : decode cX6_whole 27 = .ok (.invokevirtual 133, 3) := by decide +kernel
theorem dX6_whole_30 : decode cX6_whole 30 = .ok (.aload_n 0, 1) := by decide +kernel
theorem dX6_whole_31 : decode cX6_whole 31 = .ok (.invokevirtual 181, 3) := by decide +kernel
theorem dX6_whole_34 : decode cX6_whole 34 = .ok (.aload_n 0, 1) := by decide +kernel
theorem dX6_whole_35 : decode cX6_whole 35 = .ok (.iload_n 1, 1) := by decide +kernel
theorem dX6_whole_36 : decode cX6_whole 36 = .ok (.invokevirtual 184, 3) := by decide +kernel
theorem dX6_whole_39 : decode cX6_whole 39 = .ok (.ireturn, 1) := by decide +kernel
set_option maxRecDepth 20000 in
theorem ggX6_reason_X6_placeOf : GoodIn wsX6_reason wsX6_placeOf := goodIn_r _ [5, 6, 7, 8, 4, 9, 23, 24, 25, 26, 27, 28, 29, 30, 31, 32, 33, 34, 35, 36, 37, 38, 39, 40] (by decide +kernel) (by decide +kernel)
set_option maxRecDepth 20000 in
theorem gX6_reason_X6_placeOf : GoodIn wsX6_reason (wsV RX6 124 RX6 yX6_placeOf wsX6_placeOf) := goodIn_app (goodIn_of _ (by decide +kernel)) ggX6_reason_X6_placeOf
set_option maxRecDepth 20000 in
theorem ggX6_reason_X6_throwing : GoodIn wsX6_reason wsX6_throwing := goodIn_r _ [13, 14, 23, 24, 25, 26, 27, 28, 29, 30, 31, 32, 33, 34, 35, 36, 37, 38, 39, 40] (by decide +kernel) (by decide +kernel)
set_option maxRecDepth 20000 in
theorem gX6_reason_X6_throwing : GoodIn wsX6_reason (wsV RX6 107 RX6 yX6_throwing wsX6_throwing) := goodIn_app (goodIn_of _ (by decide +kernel)) ggX6_reason_X6_throwing
set_option maxRecDepth 20000 in
theorem ggX6_reason_X6_reasonOf : GoodIn wsX6_reason wsX6_reasonOf := goodIn_r _ [18, 6, 7, 8, 4, 9, 19, 20, 21, 22, 23, 24, 25, 26, 27, 28, 29, 30, 31, 32, 33, 34, 35, 36, 37, 38, 39, 40] (by decide +kernel) (by decide +kernel)
set_option maxRecDepth 20000 in
theorem gX6_reason_X6_reasonOf : GoodIn wsX6_reason (wsV RX6 101 RX6 yX6_reasonOf wsX6_reasonOf) := goodIn_app (goodIn_of _ (by decide +kernel)) ggX6_reason_X6_reasonOf
theorem dX6_reason_0 : decode cX6_reason 0 = .ok (.aload_n 0, 1) := by decide +kernel
theorem dX6_reason_1 : decode cX6_reason 1 = .ok (.iload_n 1, 1) := by decide +kernel
theorem dX6_reason_2 : decode cX6_reason 2 = .ok (.invokevirtual 124, 3) := by decide +kernel
theorem dX6_reason_5 : decode cX6_reason 5 = .ok (.istore_n 2, 1) := by decide +kernel
theorem dX6_reason_6 : decode cX6_reason 6 = .ok (.aload_n 0, 1) := by decide +kernel
theorem dX6_reason_7 : decode cX6_reason 7 = .ok (.iload_n 2, 1) := by decide +kernel
theorem dX6_reason_8 : decode cX6_reason 8 = .ok (.iconst (-1), 1) := by decide +kernel
theorem dX6_reason_9 : decode cX6_reason 9 = .ok (.if_icmp .ne 7, 3) := by decide +kernel
theorem dX6_reason_12 : decode cX6_reason 12 = .ok (.iconst 1, 1) := by decide +kernel
theorem dX6_reason_13 : decode cX6_reason 13 = .ok (.goto 4, 3) := by decide +kernel
theorem dX6_reason_16 : decode cX6_reason 16 = .ok (.iconst 0, 1) := by decide +kernel
theorem dX6_reason_17 : decode cX6_reason 17 = .ok (.iconst 0, 1) := by decide +kernel
theorem dX6_reason_18 : decode cX6_reason 18 = .ok (.invokevirtual 107, 3) := by decide +kernel
theorem dX6_reason_21 : decode cX6_reason 21 = .ok (.ifCond .eq 7, 3) := by decide +kernel
theorem dX6_reason_24 : decode cX6_reason 24 = .ok (.iconst 0, 1) := by decide +kernel
theorem dX6_reason_25 : decode cX6_reason 25 = .ok (.goto 8, 3) := by decide +kernel
theorem dX6_reason_28 : decode cX6_reason 28 = .ok (.aload_n 0, 1) := by decide +kernel
theorem dX6_reason_29 : decode cX6_reason 29 = .ok (.iload_n 2, 1) := by decide +kernel
theorem dX6_reason_30 : decode cX6_reason 30 = .ok (.invokevirtual 101, 3) := by decide +kernel
theorem dX6_reason_33 : decode cX6_reason 33 = .ok (.ireturn, 1) := by decide +kernel
set_option maxRecDepth 20000 in
theorem ggX6_isKnown_X6_answersOf : GoodIn wsX6_isKnown wsX6_answersOf := goodIn_r _ [6, 1, 7, 8, 9, 10, 11, 12, 13, 14, 15, 16, 17, 18, 19, 20, 21, 22, 23, 24] (by decide +kernel) (by decide +kernel)
set_option maxRecDepth 20000 in
theorem gX6_isKnown_X6_answersOf : GoodIn wsX6_isKnown (wsV RX6 58 RX6 yX6_answersOf wsX6_answersOf) := goodIn_app (goodIn_of _ (by decide +kernel)) ggX6_isKnown_X6_answersOf
theorem dX6_isKnown_0 : decode cX6_isKnown 0 = .ok (.iload_n 1, 1) := by decide +kernel
theorem dX6_isKnown_1 : decode cX6_isKnown 1 = .ok (.ifCond .lt 16, 3) := by decide +kernel
theorem dX6_isKnown_4 : decode cX6_isKnown 4 = .ok (.iload_n 1, 1) := by decide +kernel
theorem dX6_isKnown_5 : decode cX6_isKnown 5 = .ok (.iconst 4, 1) := by decide +kernel
theorem dX6_isKnown_6 : decode cX6_isKnown 6 = .ok (.aload_n 0, 1) := by decide +kernel
theorem dX6_isKnown_7 : decode cX6_isKnown 7 = .ok (.getfield 7, 3) := by decide +kernel
theorem dX6_isKnown_10 : decode cX6_isKnown 10 = .ok (.iconst 0, 1) := by decide +kernel
theorem dX6_isKnown_11 : decode cX6_isKnown 11 = .ok (.iaload, 1) := by decide +kernel
theorem dX6_isKnown_12 : decode cX6_isKnown 12 = .ok (.imul, 1) := by decide +kernel
theorem dX6_isKnown_13 : decode cX6_isKnown 13 = .ok (.ishr, 1) := by decide +kernel
theorem dX6_isKnown_14 : decode cX6_isKnown 14 = .ok (.ifCond .eq 5, 3) := by decide +kernel
theorem dX6_isKnown_17 : decode cX6_isKnown 17 = .ok (.iconst 0, 1) := by decide +kernel
theorem dX6_isKnown_18 : decode cX6_isKnown 18 = .ok (.ireturn, 1) := by decide +kernel
theorem dX6_isKnown_19 : decode cX6_isKnown 19 = .ok (.iconst 1, 1) := by decide +kernel
theorem dX6_isKnown_20 : decode cX6_isKnown 20 = .ok (.istore_n 2, 1) := by decide +kernel
theorem dX6_isKnown_21 : decode cX6_isKnown 21 = .ok (.iconst 0, 1) := by decide +kernel
theorem dX6_isKnown_22 : decode cX6_isKnown 22 = .ok (.istore_n 3, 1) := by decide +kernel
theorem dX6_isKnown_23 : decode cX6_isKnown 23 = .ok (.iload_n 3, 1) := by decide +kernel
theorem dX6_isKnown_24 : decode cX6_isKnown 24 = .ok (.aload_n 0, 1) := by decide +kernel
theorem dX6_isKnown_25 : decode cX6_isKnown 25 = .ok (.getfield 7, 3) := by decide +kernel
theorem dX6_isKnown_28 : decode cX6_isKnown 28 = .ok (.iconst 0, 1) := by decide +kernel
theorem dX6_isKnown_29 : decode cX6_isKnown 29 = .ok (.iaload, 1) := by decide +kernel
theorem dX6_isKnown_30 : decode cX6_isKnown 30 = .ok (.if_icmp .ge 35, 3) := by decide +kernel
theorem dX6_isKnown_33 : decode cX6_isKnown 33 = .ok (.iload_n 2, 1) := by decide +kernel
theorem dX6_isKnown_34 : decode cX6_isKnown 34 = .ok (.ifCond .eq 23, 3) := by decide +kernel
theorem dX6_isKnown_37 : decode cX6_isKnown 37 = .ok (.iload_n 1, 1) := by decide +kernel
theorem dX6_isKnown_38 : decode cX6_isKnown 38 = .ok (.iconst 4, 1) := by decide +kernel
theorem dX6_isKnown_39 : decode cX6_isKnown 39 = .ok (.iload_n 3, 1) := by decide +kernel
theorem dX6_isKnown_40 : decode cX6_isKnown 40 = .ok (.imul, 1) := by decide +kernel
theorem dX6_isKnown_41 : decode cX6_isKnown 41 = .ok (.ishr, 1) := by decide +kernel
theorem dX6_isKnown_42 : decode cX6_isKnown 42 = .ok (.bipush 15, 2) := by decide +kernel
theorem dX6_isKnown_44 : decode cX6_isKnown 44 = .ok (.iand, 1) := by decide +kernel
theorem dX6_isKnown_45 : decode cX6_isKnown 45 = .ok (.aload_n 0, 1) := by decide +kernel
theorem dX6_isKnown_46 : decode cX6_isKnown 46 = .ok (.iload_n 3, 1) := by decide +kernel
theorem dX6_isKnown_47 : decode cX6_isKnown 47 = .ok (.invokevirtual 58, 3) := by decide +kernel
theorem dX6_isKnown_50 : decode cX6_isKnown 50 = .ok (.if_icmp .gt 7, 3) := by decide +kernel
theorem dX6_isKnown_53 : decode cX6_isKnown 53 = .ok (.iconst 1, 1) := by decide +kernel
theorem dX6_isKnown_54 : decode cX6_isKnown 54 = .ok (.goto 4, 3) := by decide +kernel
theorem dX6_isKnown_57 : decode cX6_isKnown 57 = .ok (.iconst 0, 1) := by decide +kernel
theorem dX6_isKnown_58 : decode cX6_isKnown 58 = .ok (.istore_n 2, 1) := by decide +kernel
theorem dX6_isKnown_59 : decode cX6_isKnown 59 = .ok (.iinc 3 1, 3) := by decide +kernel
theorem dX6_isKnown_62 : decode cX6_isKnown 62 = .ok (.goto (-39), 3) := by decide +kernel
theorem dX6_isKnown_65 : decode cX6_isKnown 65 = .ok (.iload_n 2, 1) := by decide +kernel
theorem dX6_isKnown_66 : decode cX6_isKnown 66 = .ok (.ireturn, 1) := by decide +kernel
set_option maxRecDepth 20000 in
theorem ggX6_codeOf_X6_lays : GoodIn wsX6_codeOf wsX6_lays := goodIn_r _ [7, 8, 9, 10, 1, 11, 12, 13, 14, 6, 15, 16, 17, 18, 19, 20, 21, 22, 23, 24, 25, 26, 27, 28, 29, 30, 31, 32, 33, 65, 66, 67, 68, 69, 70, 71, 72, 73, 74, 75, 76, 77, 78, 79, 80, 81, 82] (by decide +kernel) (by decide +kernel)
set_option maxRecDepth 20000 in
theorem gX6_codeOf_X6_lays : GoodIn wsX6_codeOf (wsV RX6 133 RX6 yX6_lays wsX6_lays) := goodIn_app (goodIn_of _ (by decide +kernel)) ggX6_codeOf_X6_lays
set_option maxRecDepth 20000 in
theorem ggX6_codeOf_X6_laysPlans : GoodIn wsX6_codeOf wsX6_laysPlans := goodIn_r _ [37, 2, 1, 16, 17, 18, 6, 19, 38, 39, 40, 41, 42, 11, 43, 44, 45, 46, 47, 48, 49, 50, 51, 52, 53, 54, 55, 56, 57, 58, 59, 60, 61, 62, 63, 64, 65, 66, 67, 68, 69, 70, 71, 72, 73, 74, 75, 76, 77, 78, 79, 80, 81, 82] (by decide +kernel) (by decide +kernel)
set_option maxRecDepth 20000 in
theorem gX6_codeOf_X6_laysPlans : GoodIn wsX6_codeOf (wsV RX6 181 RX6 yX6_laysPlans wsX6_laysPlans) := goodIn_app (goodIn_of _ (by decide +kernel)) ggX6_codeOf_X6_laysPlans
theorem dX6_codeOf_0 : decode cX6_codeOf 0 = .ok (.aload_n 0, 1) := by decide +kernel
theorem dX6_codeOf_1 : decode cX6_codeOf 1 = .ok (.iconst (-1), 1) := by decide +kernel
theorem dX6_codeOf_2 : decode cX6_codeOf 2 = .ok (.invokevirtual 133, 3) := by decide +kernel
theorem dX6_codeOf_5 : decode cX6_codeOf 5 = .ok (.aload_n 0, 1) := by decide +kernel
theorem dX6_codeOf_6 : decode cX6_codeOf 6 = .ok (.invokevirtual 181, 3) := by decide +kernel
theorem dX6_codeOf_9 : decode cX6_codeOf 9 = .ok (.iconst 0, 1) := by decide +kernel
theorem dX6_codeOf_10 : decode cX6_codeOf 10 = .ok (.istore_n 2, 1) := by decide +kernel
theorem dX6_codeOf_11 : decode cX6_codeOf 11 = .ok (.iconst 0, 1) := by decide +kernel
theorem dX6_codeOf_12 : decode cX6_codeOf 12 = .ok (.istore_n 3, 1) := by decide +kernel
theorem dX6_codeOf_13 : decode cX6_codeOf 13 = .ok (.iload_n 3, 1) := by decide +kernel
theorem dX6_codeOf_14 : decode cX6_codeOf 14 = .ok (.aload_n 0, 1) := by decide +kernel
theorem dX6_codeOf_15 : decode cX6_codeOf 15 = .ok (.getfield 7, 3) := by decide +kernel
theorem dX6_codeOf_18 : decode cX6_codeOf 18 = .ok (.iconst 0, 1) := by decide +kernel
theorem dX6_codeOf_19 : decode cX6_codeOf 19 = .ok (.iaload, 1) := by decide +kernel
theorem dX6_codeOf_20 : decode cX6_codeOf 20 = .ok (.if_icmp .ge 27, 3) := by decide +kernel
theorem dX6_codeOf_23 : decode cX6_codeOf 23 = .ok (.iload_n 2, 1) := by decide +kernel
theorem dX6_codeOf_24 : decode cX6_codeOf 24 = .ok (.iload_n 1, 1) := by decide +kernel
theorem dX6_codeOf_25 : decode cX6_codeOf 25 = .ok (.iconst 4, 1) := by decide +kernel
theorem dX6_codeOf_26 : decode cX6_codeOf 26 = .ok (.iload_n 3, 1) := by decide +kernel
theorem dX6_codeOf_27 : decode cX6_codeOf 27 = .ok (.imul, 1) := by decide +kernel
theorem dX6_codeOf_28 : decode cX6_codeOf 28 = .ok (.ishr, 1) := by decide +kernel
theorem dX6_codeOf_29 : decode cX6_codeOf 29 = .ok (.bipush 15, 2) := by decide +kernel
theorem dX6_codeOf_31 : decode cX6_codeOf 31 = .ok (.iand, 1) := by decide +kernel
theorem dX6_codeOf_32 : decode cX6_codeOf 32 = .ok (.aload_n 0, 1) := by decide +kernel
theorem dX6_codeOf_33 : decode cX6_codeOf 33 = .ok (.getfield 40, 3) := by decide +kernel
theorem dX6_codeOf_36 : decode cX6_codeOf 36 = .ok (.iload_n 3, 1) := by decide +kernel
theorem dX6_codeOf_37 : decode cX6_codeOf 37 = .ok (.iaload, 1) := by decide +kernel
theorem dX6_codeOf_38 : decode cX6_codeOf 38 = .ok (.imul, 1) := by decide +kernel
theorem dX6_codeOf_39 : decode cX6_codeOf 39 = .ok (.iadd, 1) := by decide +kernel
theorem dX6_codeOf_40 : decode cX6_codeOf 40 = .ok (.istore_n 2, 1) := by decide +kernel
theorem dX6_codeOf_41 : decode cX6_codeOf 41 = .ok (.iinc 3 1, 3) := by decide +kernel
theorem dX6_codeOf_44 : decode cX6_codeOf 44 = .ok (.goto (-31), 3) := by decide +kernel
theorem dX6_codeOf_47 : decode cX6_codeOf 47 = .ok (.iload_n 2, 1) := by decide +kernel
theorem dX6_codeOf_48 : decode cX6_codeOf 48 = .ok (.ireturn, 1) := by decide +kernel
set_option maxRecDepth 20000 in
theorem ggX6_ask_X6_isKnown : GoodIn wsX6_ask wsX6_isKnown := goodIn_r _ [6, 7, 8, 9, 10, 5, 11, 78, 79, 80, 81, 82, 83, 84, 85, 86, 87, 88, 89, 90, 91, 92, 93, 94, 95] (by decide +kernel) (by decide +kernel)
set_option maxRecDepth 20000 in
theorem gX6_ask_X6_isKnown : GoodIn wsX6_ask (wsV RX6 187 RX6 yX6_isKnown wsX6_isKnown) := goodIn_app (goodIn_of _ (by decide +kernel)) ggX6_ask_X6_isKnown
set_option maxRecDepth 20000 in
theorem ggX6_ask_X6_throwing : GoodIn wsX6_ask wsX6_throwing := goodIn_r _ [15, 16, 78, 79, 80, 81, 82, 83, 84, 85, 86, 87, 88, 89, 90, 91, 92, 93, 94, 95] (by decide +kernel) (by decide +kernel)
set_option maxRecDepth 20000 in
theorem gX6_ask_X6_throwing : GoodIn wsX6_ask (wsV RX6 107 RX6 yX6_throwing wsX6_throwing) := goodIn_app (goodIn_of _ (by decide +kernel)) ggX6_ask_X6_throwing
set_option maxRecDepth 20000 in
theorem ggX6_ask_X6_codeOf : GoodIn wsX6_ask wsX6_codeOf := goodIn_r _ [20, 7, 21, 22, 23, 24, 5, 25, 26, 27, 28, 29, 30, 31, 32, 33, 8, 9, 10, 11, 34, 35, 36, 37, 38, 39, 40, 41, 42, 43, 44, 45, 46, 47, 48, 49, 50, 51, 52, 53, 54, 55, 56, 57, 1, 58, 59, 60, 61, 62, 63, 64, 65, 66, 67, 68, 69, 70, 71, 72, 73, 74, 75, 76, 77, 78, 79, 80, 81, 82, 83, 84, 85, 86, 87, 88, 89, 90, 91, 92, 93, 94, 95] (by decide +kernel) (by decide +kernel)
set_option maxRecDepth 20000 in
theorem gX6_ask_X6_codeOf : GoodIn wsX6_ask (wsV RX6 190 RX6 yX6_codeOf wsX6_codeOf) := goodIn_app (goodIn_of _ (by decide +kernel)) ggX6_ask_X6_codeOf
theorem dX6_ask_0 : decode cX6_ask 0 = .ok (.aload_n 0, 1) := by decide +kernel
theorem dX6_ask_1 : decode cX6_ask 1 = .ok (.aload_n 0, 1) := by decide +kernel
theorem dX6_ask_2 : decode cX6_ask 2 = .ok (.iload_n 1, 1) := by decide +kernel
theorem dX6_ask_3 : decode cX6_ask 3 = .ok (.invokevirtual 187, 3) := by decide +kernel
theorem dX6_ask_6 : decode cX6_ask 6 = .ok (.ifCond .ne 7, 3) := by decide +kernel
theorem dX6_ask_9 : decode cX6_ask 9 = .ok (.iconst 1, 1) := by decide +kernel
theorem dX6_ask_10 : decode cX6_ask 10 = .ok (.goto 4, 3) := by decide +kernel
theorem dX6_ask_13 : decode cX6_ask 13 = .ok (.iconst 0, 1) := by decide +kernel
theorem dX6_ask_14 : decode cX6_ask 14 = .ok (.iconst 0, 1) := by decide +kernel
theorem dX6_ask_15 : decode cX6_ask 15 = .ok (.invokevirtual 107, 3) := by decide +kernel
theorem dX6_ask_18 : decode cX6_ask 18 = .ok (.ifCond .eq 7, 3) := by decide +kernel
theorem dX6_ask_21 : decode cX6_ask 21 = .ok (.iconst 0, 1) := by decide +kernel
theorem dX6_ask_22 : decode cX6_ask 22 = .ok (.goto 13, 3) := by decide +kernel
theorem dX6_ask_25 : decode cX6_ask 25 = .ok (.aload_n 0, 1) := by decide +kernel
theorem dX6_ask_26 : decode cX6_ask 26 = .ok (.getfield 37, 3) := by decide +kernel
theorem dX6_ask_29 : decode cX6_ask 29 = .ok (.aload_n 0, 1) := by decide +kernel
theorem dX6_ask_30 : decode cX6_ask 30 = .ok (.iload_n 1, 1) := by decide +kernel
theorem dX6_ask_31 : decode cX6_ask 31 = .ok (.invokevirtual 190, 3) := by decide +kernel
theorem dX6_ask_34 : decode cX6_ask 34 = .ok (.iaload, 1) := by decide +kernel
theorem dX6_ask_35 : decode cX6_ask 35 = .ok (.ireturn, 1) := by decide +kernel
set_option maxRecDepth 20000 in
theorem ggX6_costFrom_X6_isKnown : GoodIn wsX6_costFrom wsX6_isKnown := goodIn_r _ [6, 7, 8, 9, 10, 5, 11, 78, 79, 80, 81, 82, 83, 84, 85, 86, 87, 88, 89, 90, 91, 92, 93, 94, 95] (by decide +kernel) (by decide +kernel)
set_option maxRecDepth 20000 in
theorem gX6_costFrom_X6_isKnown : GoodIn wsX6_costFrom (wsV RX6 187 RX6 yX6_isKnown wsX6_isKnown) := goodIn_app (goodIn_of _ (by decide +kernel)) ggX6_costFrom_X6_isKnown
set_option maxRecDepth 20000 in
theorem ggX6_costFrom_X6_throwing : GoodIn wsX6_costFrom wsX6_throwing := goodIn_r _ [15, 16, 78, 79, 80, 81, 82, 83, 84, 85, 86, 87, 88, 89, 90, 91, 92, 93, 94, 95] (by decide +kernel) (by decide +kernel)
set_option maxRecDepth 20000 in
theorem gX6_costFrom_X6_throwing : GoodIn wsX6_costFrom (wsV RX6 107 RX6 yX6_throwing wsX6_throwing) := goodIn_app (goodIn_of _ (by decide +kernel)) ggX6_costFrom_X6_throwing
set_option maxRecDepth 20000 in
theorem ggX6_costFrom_X6_codeOf : GoodIn wsX6_costFrom wsX6_codeOf := goodIn_r _ [20, 7, 21, 22, 23, 24, 5, 25, 26, 27, 28, 29, 30, 31, 32, 33, 8, 9, 10, 11, 34, 35, 36, 37, 38, 39, 40, 41, 42, 43, 44, 45, 46, 47, 48, 49, 50, 51, 52, 53, 54, 55, 56, 1, 57, 58, 59, 60, 61, 62, 63, 64, 65, 66, 67, 68, 69, 70, 71, 72, 73, 74, 75, 76, 77, 78, 79, 80, 81, 82, 83, 84, 85, 86, 87, 88, 89, 90, 91, 92, 93, 94, 95] (by decide +kernel) (by decide +kernel)
set_option maxRecDepth 20000 in
theorem gX6_costFrom_X6_codeOf : GoodIn wsX6_costFrom (wsV RX6 190 RX6 yX6_codeOf wsX6_codeOf) := goodIn_app (goodIn_of _ (by decide +kernel)) ggX6_costFrom_X6_codeOf
theorem dX6_costFrom_0 : decode cX6_costFrom 0 = .ok (.aload_n 0, 1) := by decide +kernel
theorem dX6_costFrom_1 : decode cX6_costFrom 1 = .ok (.aload_n 0, 1) := by decide +kernel
theorem dX6_costFrom_2 : decode cX6_costFrom 2 = .ok (.iload_n 1, 1) := by decide +kernel
theorem dX6_costFrom_3 : decode cX6_costFrom 3 = .ok (.invokevirtual 187, 3) := by decide +kernel
theorem dX6_costFrom_6 : decode cX6_costFrom 6 = .ok (.ifCond .ne 7, 3) := by decide +kernel
theorem dX6_costFrom_9 : decode cX6_costFrom 9 = .ok (.iconst 1, 1) := by decide +kernel
theorem dX6_costFrom_10 : decode cX6_costFrom 10 = .ok (.goto 4, 3) := by decide +kernel
theorem dX6_costFrom_13 : decode cX6_costFrom 13 = .ok (.iconst 0, 1) := by decide +kernel
theorem dX6_costFrom_14 : decode cX6_costFrom 14 = .ok (.iconst 0, 1) := by decide +kernel
theorem dX6_costFrom_15 : decode cX6_costFrom 15 = .ok (.invokevirtual 107, 3) := by decide +kernel
theorem dX6_costFrom_18 : decode cX6_costFrom 18 = .ok (.ifCond .eq 7, 3) := by decide +kernel
theorem dX6_costFrom_21 : decode cX6_costFrom 21 = .ok (.iconst 0, 1) := by decide +kernel
theorem dX6_costFrom_22 : decode cX6_costFrom 22 = .ok (.goto 13, 3) := by decide +kernel
theorem dX6_costFrom_25 : decode cX6_costFrom 25 = .ok (.aload_n 0, 1) := by decide +kernel
theorem dX6_costFrom_26 : decode cX6_costFrom 26 = .ok (.getfield 34, 3) := by decide +kernel
theorem dX6_costFrom_29 : decode cX6_costFrom 29 = .ok (.aload_n 0, 1) := by decide +kernel
theorem dX6_costFrom_30 : decode cX6_costFrom 30 = .ok (.iload_n 1, 1) := by decide +kernel
theorem dX6_costFrom_31 : decode cX6_costFrom 31 = .ok (.invokevirtual 190, 3) := by decide +kernel
theorem dX6_costFrom_34 : decode cX6_costFrom 34 = .ok (.iaload, 1) := by decide +kernel
theorem dX6_costFrom_35 : decode cX6_costFrom 35 = .ok (.ireturn, 1) := by decide +kernel
set_option maxRecDepth 20000 in
theorem ggX6_changedWithout_X6_placeOf : GoodIn wsX6_changedWithout wsX6_placeOf := goodIn_r _ [9, 2, 10, 11, 8, 12, 42, 43, 44, 45, 46, 47, 48, 49, 50, 51, 52, 53, 54, 55, 56, 57, 58, 59] (by decide +kernel) (by decide +kernel)
set_option maxRecDepth 20000 in
theorem gX6_changedWithout_X6_placeOf : GoodIn wsX6_changedWithout (wsV RX6 124 RX6 yX6_placeOf wsX6_placeOf) := goodIn_app (goodIn_of _ (by decide +kernel)) ggX6_changedWithout_X6_placeOf
set_option maxRecDepth 20000 in
theorem ggX6_changedWithout_X6_throwing : GoodIn wsX6_changedWithout wsX6_throwing := goodIn_r _ [16, 17, 42, 43, 44, 45, 46, 47, 48, 49, 50, 51, 52, 53, 54, 55, 56, 57, 58, 59] (by decide +kernel) (by decide +kernel)
set_option maxRecDepth 20000 in
theorem gX6_changedWithout_X6_throwing : GoodIn wsX6_changedWithout (wsV RX6 107 RX6 yX6_throwing wsX6_throwing) := goodIn_app (goodIn_of _ (by decide +kernel)) ggX6_changedWithout_X6_throwing
set_option maxRecDepth 20000 in
theorem ggX6_changedWithout_X6_lays : GoodIn wsX6_changedWithout wsX6_lays := goodIn_r _ [21, 3, 1, 22, 2, 4, 23, 24, 25, 8, 26, 27, 28, 29, 30, 31, 32, 33, 34, 35, 36, 37, 38, 10, 11, 12, 39, 40, 41, 42, 43, 44, 45, 46, 47, 48, 49, 50, 51, 52, 53, 54, 55, 56, 57, 58, 59] (by decide +kernel) (by decide +kernel)
set_option maxRecDepth 20000 in
theorem gX6_changedWithout_X6_lays : GoodIn wsX6_changedWithout (wsV RX6 133 RX6 yX6_lays wsX6_lays) := goodIn_app (goodIn_of _ (by decide +kernel)) ggX6_changedWithout_X6_lays
set_option maxRecDepth 20000 in
theorem ggX6_changedWithout_X6_cases : GoodIn wsX6_changedWithout wsX6_cases := goodIn_r _ [26, 2, 27, 28, 29, 8, 30, 42, 43, 44, 45, 46, 47, 48, 49, 50, 51, 52, 53, 54, 55, 56, 57, 58, 59] (by decide +kernel) (by decide +kernel)
set_option maxRecDepth 20000 in
theorem gX6_changedWithout_X6_cases : GoodIn wsX6_changedWithout (wsV RX6 72 RX6 yX6_cases wsX6_cases) := goodIn_app (goodIn_of _ (by decide +kernel)) ggX6_changedWithout_X6_cases
set_option maxRecDepth 20000 in
theorem ggX6_changedWithout_X6_r : GoodIn wsX6_changedWithout wsX6_r := goodIn_r _ [12] (by decide +kernel) (by decide +kernel)
set_option maxRecDepth 20000 in
theorem gX6_changedWithout_X6_r : GoodIn wsX6_changedWithout (va_wsS RX6 50 yX6_r wsX6_r) := goodIn_app (goodIn_of _ (by decide +kernel)) ggX6_changedWithout_X6_r
theorem dX6_changedWithout_0 : decode cX6_changedWithout 0 = .ok (.aload_n 0, 1) := by decide +kernel
theorem dX6_changedWithout_1 : decode cX6_changedWithout 1 = .ok (.iload_n 1, 1) := by decide +kernel
theorem dX6_changedWithout_2 : decode cX6_changedWithout 2 = .ok (.invokevirtual 124, 3) := by decide +kernel
theorem dX6_changedWithout_5 : decode cX6_changedWithout 5 = .ok (.istore_n 2, 1) := by decide +kernel
theorem dX6_changedWithout_6 : decode cX6_changedWithout 6 = .ok (.aload_n 0, 1) := by decide +kernel
theorem dX6_changedWithout_7 : decode cX6_changedWithout 7 = .ok (.iload_n 2, 1) := by decide +kernel
theorem dX6_changedWithout_8 : decode cX6_changedWithout 8 = .ok (.iconst (-1), 1) := by decide +kernel
theorem dX6_changedWithout_9 : decode cX6_changedWithout 9 = .ok (.if_icmp .ne 7, 3) := by decide +kernel
theorem dX6_changedWithout_12 : decode cX6_changedWithout 12 = .ok (.iconst 1, 1) := by decide +kernel
theorem dX6_changedWithout_13 : decode cX6_changedWithout 13 = .ok (.goto 4, 3) := by decide +kernel
theorem dX6_changedWithout_16 : decode cX6_changedWithout 16 = .ok (.iconst 0, 1) := by decide +kernel
theorem dX6_changedWithout_17 : decode cX6_changedWithout 17 = .ok (.iconst 0, 1) := by decide +kernel
theorem dX6_changedWithout_18 : decode cX6_changedWithout 18 = .ok (.invokevirtual 107, 3) := by decide +kernel
theorem dX6_changedWithout_21 : decode cX6_changedWithout 21 = .ok (.ifCond .eq 5, 3) := by decide +kernel
theorem dX6_changedWithout_24 : decode cX6_changedWithout 24 = .ok (.iconst 0, 1) := by decide +kernel
theorem dX6_changedWithout_25 : decode cX6_changedWithout 25 = .ok (.ireturn, 1) := by decide +kernel
theorem dX6_changedWithout_26 : decode cX6_changedWithout 26 = .ok (.aload_n 0, 1) := by decide +kernel
theorem dX6_changedWithout_27 : decode cX6_changedWithout 27 = .ok (.iconst (-1), 1) := by decide +kernel
theorem dX6_changedWithout_28 : decode cX6_changedWithout 28 = .ok (.invokevirtual 133, 3) := by decide +kernel
theorem dX6_changedWithout_31 : decode cX6_changedWithout 31 = .ok (.iconst 0, 1) := by decide +kernel
theorem dX6_changedWithout_32 : decode cX6_changedWithout 32 = .ok (.istore_n 3, 1) := by decide +kernel
theorem dX6_changedWithout_33 : decode cX6_changedWithout 33 = .ok (.iconst 0, 1) := by decide +kernel
theorem dX6_changedWithout_34 : decode cX6_changedWithout 34 = .ok (.istore 4, 2) := by decide +kernel
theorem dX6_changedWithout_36 : decode cX6_changedWithout 36 = .ok (.iload 4, 2) := by decide +kernel
theorem dX6_changedWithout_38 : decode cX6_changedWithout 38 = .ok (.aload_n 0, 1) := by decide +kernel
theorem dX6_changedWithout_39 : decode cX6_changedWithout 39 = .ok (.invokevirtual 72, 3) := by decide +kernel
theorem dX6_changedWithout_42 : decode cX6_changedWithout 42 = .ok (.if_icmp .ge 74, 3) := by decide +kernel
theorem dX6_changedWithout_45 : decode cX6_changedWithout 45 = .ok (.aload_n 0, 1) := by decide +kernel
theorem dX6_changedWithout_46 : decode cX6_changedWithout 46 = .ok (.getfield 25, 3) := by decide +kernel
theorem dX6_changedWithout_49 : decode cX6_changedWithout 49 = .ok (.iload 4, 2) := by decide +kernel
theorem dX6_changedWithout_51 : decode cX6_changedWithout 51 = .ok (.iaload, 1) := by decide +kernel
theorem dX6_changedWithout_52 : decode cX6_changedWithout 52 = .ok (.iconst (-1), 1) := by decide +kernel
theorem dX6_changedWithout_53 : decode cX6_changedWithout 53 = .ok (.if_icmp .ne 8, 3) := by decide +kernel
theorem dX6_changedWithout_56 : decode cX6_changedWithout 56 = .ok (.bipush 10, 2) := by decide +kernel
theorem dX6_changedWithout_58 : decode cX6_changedWithout 58 = .ok (.goto 19, 3) := by decide +kernel
theorem dX6_changedWithout_61 : decode cX6_changedWithout 61 = .ok (.aload_n 0, 1) := by decide +kernel
theorem dX6_changedWithout_62 : decode cX6_changedWithout 62 = .ok (.getfield 7, 3) := by decide +kernel
theorem dX6_changedWithout_65 : decode cX6_changedWithout 65 = .ok (.aload_n 0, 1) := by decide +kernel
theorem dX6_changedWithout_66 : decode cX6_changedWithout 66 = .ok (.getfield 25, 3) := by decide +kernel
theorem dX6_changedWithout_69 : decode cX6_changedWithout 69 = .ok (.iload 4, 2) := by decide +kernel
theorem dX6_changedWithout_71 : decode cX6_changedWithout 71 = .ok (.iaload, 1) := by decide +kernel
theorem dX6_changedWithout_72 : decode cX6_changedWithout 72 = .ok (.iconst 1, 1) := by decide +kernel
theorem dX6_changedWithout_73 : decode cX6_changedWithout 73 = .ok (.invokestatic 50, 3) := by decide +kernel
theorem dX6_changedWithout_76 : decode cX6_changedWithout 76 = .ok (.iaload, 1) := by decide +kernel
theorem dX6_changedWithout_77 : decode cX6_changedWithout 77 = .ok (.istore 5, 2) := by decide +kernel
theorem dX6_changedWithout_79 : decode cX6_changedWithout 79 = .ok (.iload_n 3, 1) := by decide +kernel
theorem dX6_changedWithout_80 : decode cX6_changedWithout 80 = .ok (.aload_n 0, 1) := by decide +kernel
theorem dX6_changedWithout_81 : decode cX6_changedWithout 81 = .ok (.getfield 19, 3) := by decide +kernel
theorem dX6_changedWithout_84 : decode cX6_changedWithout 84 = .ok (.iload 4, 2) := by decide +kernel
theorem dX6_changedWithout_86 : decode cX6_changedWithout 86 = .ok (.iaload, 1) := by decide +kernel
theorem dX6_changedWithout_87 : decode cX6_changedWithout 87 = .ok (.iload_n 2, 1) := by decide +kernel
theorem dX6_changedWithout_88 : decode cX6_changedWithout 88 = .ok (.if_icmp .ne 19, 3) := by decide +kernel
theorem dX6_changedWithout_91 : decode cX6_changedWithout 91 = .ok (.iload 5, 2) := by decide +kernel
theorem dX6_changedWithout_93 : decode cX6_changedWithout 93 = .ok (.aload_n 0, 1) := by decide +kernel
theorem dX6_changedWithout_94 : decode cX6_changedWithout 94 = .ok (.getfield 28, 3) := by decide +kernel
theorem dX6_changedWithout_97 : decode cX6_changedWithout 97 = .ok (.iload 4, 2) := by decide +kernel
theorem dX6_changedWithout_99 : decode cX6_changedWithout 99 = .ok (.iaload, 1) := by decide +kernel
theorem dX6_changedWithout_100 : decode cX6_changedWithout 100 = .ok (.if_icmp .eq 7, 3) := by decide +kernel
theorem dX6_changedWithout_103 : decode cX6_changedWithout 103 = .ok (.iconst 1, 1) := by decide +kernel
theorem dX6_changedWithout_104 : decode cX6_changedWithout 104 = .ok (.goto 4, 3) := by decide +kernel
theorem dX6_changedWithout_107 : decode cX6_changedWithout 107 = .ok (.iconst 0, 1) := by decide +kernel
theorem dX6_changedWithout_108 : decode cX6_changedWithout 108 = .ok (.iadd, 1) := by decide +kernel
theorem dX6_changedWithout_109 : decode cX6_changedWithout 109 = .ok (.istore_n 3, 1) := by decide +kernel
theorem dX6_changedWithout_110 : decode cX6_changedWithout 110 = .ok (.iinc 4 1, 3) := by decide +kernel
theorem dX6_changedWithout_113 : decode cX6_changedWithout 113 = .ok (.goto (-77), 3) := by decide +kernel
theorem dX6_changedWithout_116 : decode cX6_changedWithout 116 = .ok (.iload_n 3, 1) := by decide +kernel
theorem dX6_changedWithout_117 : decode cX6_changedWithout 117 = .ok (.ireturn, 1) := by decide +kernel
set_option maxRecDepth 20000 in
theorem ggX6_bestAction_X6_isCase : GoodIn wsX6_bestAction wsX6_isCase := goodIn_r _ [7, 8, 9, 10, 6, 11, 12, 13, 14, 15, 16, 17, 18, 19, 77, 78, 79, 80, 81, 82, 83, 84, 85, 86, 87, 88, 89, 90, 91, 92, 93, 94] (by decide +kernel) (by decide +kernel)
set_option maxRecDepth 20000 in
theorem gX6_bestAction_X6_isCase : GoodIn wsX6_bestAction (wsV RX6 163 RX6 yX6_isCase wsX6_isCase) := goodIn_app (goodIn_of _ (by decide +kernel)) ggX6_bestAction_X6_isCase
set_option maxRecDepth 20000 in
theorem ggX6_bestAction_X6_throwing : GoodIn wsX6_bestAction wsX6_throwing := goodIn_r _ [23, 24, 77, 78, 79, 80, 81, 82, 83, 84, 85, 86, 87, 88, 89, 90, 91, 92, 93, 94] (by decide +kernel) (by decide +kernel)
set_option maxRecDepth 20000 in
theorem gX6_bestAction_X6_throwing : GoodIn wsX6_bestAction (wsV RX6 107 RX6 yX6_throwing wsX6_throwing) := goodIn_app (goodIn_of _ (by decide +kernel)) ggX6_bestAction_X6_throwing
set_option maxRecDepth 20000 in
theorem ggX6_bestAction_X6_lays : GoodIn wsX6_bestAction wsX6_lays := goodIn_r _ [28, 29, 30, 31, 12, 1, 8, 9, 10, 6, 11, 13, 14, 15, 16, 32, 33, 34, 35, 36, 37, 38, 39, 40, 41, 42, 43, 44, 45, 77, 78, 79, 80, 81, 82, 83, 84, 85, 86, 87, 88, 89, 90, 91, 92, 93, 94] (by decide +kernel) (by decide +kernel)
set_option maxRecDepth 20000 in
theorem gX6_bestAction_X6_lays : GoodIn wsX6_bestAction (wsV RX6 133 RX6 yX6_lays wsX6_lays) := goodIn_app (goodIn_of _ (by decide +kernel)) ggX6_bestAction_X6_lays
set_option maxRecDepth 20000 in
theorem ggX6_bestAction_X6_laysPlans : GoodIn wsX6_bestAction wsX6_laysPlans := goodIn_r _ [49, 50, 12, 13, 14, 15, 6, 16, 51, 52, 53, 54, 55, 1, 2, 56, 57, 58, 59, 60, 61, 62, 63, 64, 65, 66, 67, 68, 69, 70, 71, 72, 73, 74, 75, 76, 77, 78, 79, 80, 81, 82, 83, 84, 85, 86, 87, 88, 89, 90, 91, 92, 93, 94] (by decide +kernel) (by decide +kernel)
set_option maxRecDepth 20000 in
theorem gX6_bestAction_X6_laysPlans : GoodIn wsX6_bestAction (wsV RX6 181 RX6 yX6_laysPlans wsX6_laysPlans) := goodIn_app (goodIn_of _ (by decide +kernel)) ggX6_bestAction_X6_laysPlans
theorem dX6_bestAction_0 : decode cX6_bestAction 0 = .ok (.aload_n 0, 1) := by decide +kernel
theorem dX6_bestAction_1 : decode cX6_bestAction 1 = .ok (.aload_n 0, 1) := by decide +kernel
theorem dX6_bestAction_2 : decode cX6_bestAction 2 = .ok (.iload_n 1, 1) := by decide +kernel
theorem dX6_bestAction_3 : decode cX6_bestAction 3 = .ok (.invokevirtual 163, 3) := by decide +kernel
theorem dX6_bestAction_6 : decode cX6_bestAction 6 = .ok (.ifCond .ne 7, 3) := by decide +kernel
theorem dX6_bestAction_9 : decode cX6_bestAction 9 = .ok (.iconst 1, 1) := by decide +kernel
theorem dX6_bestAction_10 : decode cX6_bestAction 10 = .ok (.goto 4, 3) := by decide +kernel
theorem dX6_bestAction_13 : decode cX6_bestAction 13 = .ok (.iconst 0, 1) := by decide +kernel
theorem dX6_bestAction_14 : decode cX6_bestAction 14 = .ok (.iconst 0, 1) := by decide +kernel
theorem dX6_bestAction_15 : decode cX6_bestAction 15 = .ok (.invokevirtual 107, 3) := by decide +kernel
theorem dX6_bestAction_18 : decode cX6_bestAction 18 = .ok (.ifCond .eq 5, 3) := by decide +kernel
theorem dX6_bestAction_21 : decode cX6_bestAction 21 = .ok (.iconst 0, 1) := by decide +kernel
theorem dX6_bestAction_22 : decode cX6_bestAction 22 = .ok (.ireturn, 1) := by decide +kernel
theorem dX6_bestAction_23 : decode cX6_bestAction 23 = .ok (.aload_n 0, 1) := by decide +kernel
theorem dX6_bestAction_24 : decode cX6_bestAction 24 = .ok (.iconst (-1), 1) := by decide +kernel
theorem dX6_bestAction_25 : decode cX6_bestAction 25 = .ok (.invokevirtual 133, 3) := by decide +kernel
theorem dX6_bestAction_28 : decode cX6_bestAction 28 = .ok (.aload_n 0, 1) := by decide +kernel
theorem dX6_bestAction_29 : decode cX6_bestAction 29 = .ok (.getfield 28, 3) := by decide +kernel
theorem dX6_bestAction_32 : decode cX6_bestAction 32 = .ok (.iload_n 1, 1) := by decide +kernel
theorem dX6_bestAction_33 : decode cX6_bestAction 33 = .ok (.iaload, 1) := by decide +kernel
theorem dX6_bestAction_34 : decode cX6_bestAction 34 = .ok (.bipush 10, 2) := by decide +kernel
theorem dX6_bestAction_36 : decode cX6_bestAction 36 = .ok (.if_icmp .eq 5, 3) := by decide +kernel
theorem dX6_bestAction_39 : decode cX6_bestAction 39 = .ok (.iconst (-1), 1) := by decide +kernel
theorem dX6_bestAction_40 : decode cX6_bestAction 40 = .ok (.ireturn, 1) := by decide +kernel
theorem dX6_bestAction_41 : decode cX6_bestAction 41 = .ok (.iconst (-1), 1) := by decide +kernel
theorem dX6_bestAction_42 : decode cX6_bestAction 42 = .ok (.istore_n 2, 1) := by decide +kernel
theorem dX6_bestAction_43 : decode cX6_bestAction 43 = .ok (.iconst 0, 1) := by decide +kernel
theorem dX6_bestAction_44 : decode cX6_bestAction 44 = .ok (.istore_n 3, 1) := by decide +kernel
theorem dX6_bestAction_45 : decode cX6_bestAction 45 = .ok (.iconst 0, 1) := by decide +kernel
theorem dX6_bestAction_46 : decode cX6_bestAction 46 = .ok (.istore 4, 2) := by decide +kernel
theorem dX6_bestAction_48 : decode cX6_bestAction 48 = .ok (.iload 4, 2) := by decide +kernel
theorem dX6_bestAction_50 : decode cX6_bestAction 50 = .ok (.bipush 10, 2) := by decide +kernel
theorem dX6_bestAction_52 : decode cX6_bestAction 52 = .ok (.if_icmp .ge 46, 3) := by decide +kernel
theorem dX6_bestAction_55 : decode cX6_bestAction 55 = .ok (.aload_n 0, 1) := by decide +kernel
theorem dX6_bestAction_56 : decode cX6_bestAction 56 = .ok (.getfield 28, 3) := by decide +kernel
theorem dX6_bestAction_59 : decode cX6_bestAction 59 = .ok (.iload_n 1, 1) := by decide +kernel
theorem dX6_bestAction_60 : decode cX6_bestAction 60 = .ok (.iload 4, 2) := by decide +kernel
theorem dX6_bestAction_62 : decode cX6_bestAction 62 = .ok (.iastore, 1) := by decide +kernel
theorem dX6_bestAction_63 : decode cX6_bestAction 63 = .ok (.aload_n 0, 1) := by decide +kernel
theorem dX6_bestAction_64 : decode cX6_bestAction 64 = .ok (.invokevirtual 181, 3) := by decide +kernel
theorem dX6_bestAction_67 : decode cX6_bestAction 67 = .ok (.iload_n 2, 1) := by decide +kernel
theorem dX6_bestAction_68 : decode cX6_bestAction 68 = .ok (.iconst (-1), 1) := by decide +kernel
theorem dX6_bestAction_69 : decode cX6_bestAction 69 = .ok (.if_icmp .eq 13, 3) := by decide +kernel
theorem dX6_bestAction_72 : decode cX6_bestAction 72 = .ok (.aload_n 0, 1) := by decide +kernel
theorem dX6_bestAction_73 : decode cX6_bestAction 73 = .ok (.getfield 34, 3) := by decide +kernel
theorem dX6_bestAction_76 : decode cX6_bestAction 76 = .ok (.iconst 0, 1) := by decide +kernel
theorem dX6_bestAction_77 : decode cX6_bestAction 77 = .ok (.iaload, 1) := by decide +kernel
theorem dX6_bestAction_78 : decode cX6_bestAction 78 = .ok (.iload_n 3, 1) := by decide +kernel
theorem dX6_bestAction_79 : decode cX6_bestAction 79 = .ok (.if_icmp .ge 13, 3) := by decide +kernel
theorem dX6_bestAction_82 : decode cX6_bestAction 82 = .ok (.iload 4, 2) := by decide +kernel
theorem dX6_bestAction_84 : decode cX6_bestAction 84 = .ok (.istore_n 2, 1) := by decide +kernel
theorem dX6_bestAction_85 : decode cX6_bestAction 85 = .ok (.aload_n 0, 1) := by decide +kernel
theorem dX6_bestAction_86 : decode cX6_bestAction 86 = .ok (.getfield 34, 3) := by decide +kernel
theorem dX6_bestAction_89 : decode cX6_bestAction 89 = .ok (.iconst 0, 1) := by decide +kernel
theorem dX6_bestAction_90 : decode cX6_bestAction 90 = .ok (.iaload, 1) := by decide +kernel
theorem dX6_bestAction_91 : decode cX6_bestAction 91 = .ok (.istore_n 3, 1) := by decide +kernel
theorem dX6_bestAction_92 : decode cX6_bestAction 92 = .ok (.iinc 4 1, 3) := by decide +kernel
theorem dX6_bestAction_95 : decode cX6_bestAction 95 = .ok (.goto (-47), 3) := by decide +kernel
theorem dX6_bestAction_98 : decode cX6_bestAction 98 = .ok (.iload_n 2, 1) := by decide +kernel
theorem dX6_bestAction_99 : decode cX6_bestAction 99 = .ok (.ireturn, 1) := by decide +kernel
set_option maxRecDepth 20000 in
theorem ggX6_type_X6_in : GoodIn wsX6_type wsX6_in := goodIn_r _ [6] (by decide +kernel) (by decide +kernel)
set_option maxRecDepth 20000 in
theorem gX6_type_X6_in : GoodIn wsX6_type (va_wsS RX6 54 yX6_in wsX6_in) := goodIn_app (goodIn_of _ (by decide +kernel)) ggX6_type_X6_in
set_option maxRecDepth 20000 in
theorem ggX6_type_X6_throwing : GoodIn wsX6_type wsX6_throwing := goodIn_r _ [10, 11, 12, 13, 14, 15, 16, 17, 18, 19, 20, 21, 22, 23, 24, 25, 26, 27, 28, 29] (by decide +kernel) (by decide +kernel)
set_option maxRecDepth 20000 in
theorem gX6_type_X6_throwing : GoodIn wsX6_type (wsV RX6 107 RX6 yX6_throwing wsX6_throwing) := goodIn_app (goodIn_of _ (by decide +kernel)) ggX6_type_X6_throwing
theorem dX6_type_0 : decode cX6_type 0 = .ok (.aload_n 0, 1) := by decide +kernel
theorem dX6_type_1 : decode cX6_type 1 = .ok (.iload_n 1, 1) := by decide +kernel
theorem dX6_type_2 : decode cX6_type 2 = .ok (.iconst 0, 1) := by decide +kernel
theorem dX6_type_3 : decode cX6_type 3 = .ok (.bipush 127, 2) := by decide +kernel
theorem dX6_type_5 : decode cX6_type 5 = .ok (.invokestatic 54, 3) := by decide +kernel
theorem dX6_type_8 : decode cX6_type 8 = .ok (.ifCond .ne 7, 3) := by decide +kernel
theorem dX6_type_11 : decode cX6_type 11 = .ok (.iconst 1, 1) := by decide +kernel
theorem dX6_type_12 : decode cX6_type 12 = .ok (.goto 4, 3) := by decide +kernel
theorem dX6_type_15 : decode cX6_type 15 = .ok (.iconst 0, 1) := by decide +kernel
theorem dX6_type_16 : decode cX6_type 16 = .ok (.aload_n 0, 1) := by decide +kernel
theorem dX6_type_17 : decode cX6_type 17 = .ok (.getfield 178, 3) := by decide +kernel
theorem dX6_type_20 : decode cX6_type 20 = .ok (.sipush 150, 3) := by decide +kernel
theorem dX6_type_23 : decode cX6_type 23 = .ok (.if_icmp .ne 7, 3) := by decide +kernel
theorem dX6_type_26 : decode cX6_type 26 = .ok (.iconst 1, 1) := by decide +kernel
theorem dX6_type_27 : decode cX6_type 27 = .ok (.goto 4, 3) := by decide +kernel
theorem dX6_type_30 : decode cX6_type 30 = .ok (.iconst 0, 1) := by decide +kernel
theorem dX6_type_31 : decode cX6_type 31 = .ok (.invokevirtual 107, 3) := by decide +kernel
theorem dX6_type_34 : decode cX6_type 34 = .ok (.ifCond .eq 5, 3) := by decide +kernel
theorem dX6_type_37 : decode cX6_type 37 = .ok (.iconst 0, 1) := by decide +kernel
theorem dX6_type_38 : decode cX6_type 38 = .ok (.ireturn, 1) := by decide +kernel
theorem dX6_type_39 : decode cX6_type 39 = .ok (.aload_n 0, 1) := by decide +kernel
theorem dX6_type_40 : decode cX6_type 40 = .ok (.getfield 16, 3) := by decide +kernel
theorem dX6_type_43 : decode cX6_type 43 = .ok (.aload_n 0, 1) := by decide +kernel
theorem dX6_type_44 : decode cX6_type 44 = .ok (.getfield 178, 3) := by decide +kernel
theorem dX6_type_47 : decode cX6_type 47 = .ok (.iload_n 1, 1) := by decide +kernel
theorem dX6_type_48 : decode cX6_type 48 = .ok (.iastore, 1) := by decide +kernel
theorem dX6_type_49 : decode cX6_type 49 = .ok (.aload_n 0, 1) := by decide +kernel
theorem dX6_type_50 : decode cX6_type 50 = .ok (.dup, 1) := by decide +kernel
theorem dX6_type_51 : decode cX6_type 51 = .ok (.getfield 178, 3) := by decide +kernel
theorem dX6_type_54 : decode cX6_type 54 = .ok (.iconst 1, 1) := by decide +kernel
theorem dX6_type_55 : decode cX6_type 55 = .ok (.iadd, 1) := by decide +kernel
theorem dX6_type_56 : decode cX6_type 56 = .ok (.putfield 178, 3) := by decide +kernel
theorem dX6_type_59 : decode cX6_type 59 = .ok (.aload_n 0, 1) := by decide +kernel
theorem dX6_type_60 : decode cX6_type 60 = .ok (.getfield 178, 3) := by decide +kernel
theorem dX6_type_63 : decode cX6_type 63 = .ok (.ireturn, 1) := by decide +kernel
theorem dX6_clearCommands_0 : decode cX6_clearCommands 0 = .ok (.aload_n 0, 1) := by decide +kernel
theorem dX6_clearCommands_1 : decode cX6_clearCommands 1 = .ok (.iconst 0, 1) := by decide +kernel
theorem dX6_clearCommands_2 : decode cX6_clearCommands 2 = .ok (.putfield 46, 3) := by decide +kernel
theorem dX6_clearCommands_5 : decode cX6_clearCommands 5 = .ok (.aload_n 0, 1) := by decide +kernel
theorem dX6_clearCommands_6 : decode cX6_clearCommands 6 = .ok (.getfield 178, 3) := by decide +kernel
theorem dX6_clearCommands_9 : decode cX6_clearCommands 9 = .ok (.istore_n 1, 1) := by decide +kernel
theorem dX6_clearCommands_10 : decode cX6_clearCommands 10 = .ok (.aload_n 0, 1) := by decide +kernel
theorem dX6_clearCommands_11 : decode cX6_clearCommands 11 = .ok (.iconst 0, 1) := by decide +kernel
theorem dX6_clearCommands_12 : decode cX6_clearCommands 12 = .ok (.putfield 178, 3) := by decide +kernel
theorem dX6_clearCommands_15 : decode cX6_clearCommands 15 = .ok (.iload_n 1, 1) := by decide +kernel
theorem dX6_clearCommands_16 : decode cX6_clearCommands 16 = .ok (.ireturn, 1) := by decide +kernel
theorem dX6_look_0 : decode cX6_look 0 = .ok (.aload_n 0, 1) := by decide +kernel
theorem dX6_look_1 : decode cX6_look 1 = .ok (.getfield 193, 3) := by decide +kernel
theorem dX6_look_4 : decode cX6_look 4 = .ok (.aload_n 0, 1) := by decide +kernel
theorem dX6_look_5 : decode cX6_look 5 = .ok (.getfield 178, 3) := by decide +kernel
theorem dX6_look_8 : decode cX6_look 8 = .ok (.if_icmp .ge 15, 3) := by decide +kernel
theorem dX6_look_11 : decode cX6_look 11 = .ok (.aload_n 0, 1) := by decide +kernel
theorem dX6_look_12 : decode cX6_look 12 = .ok (.getfield 16, 3) := by decide +kernel
theorem dX6_look_15 : decode cX6_look 15 = .ok (.aload_n 0, 1) := by decide +kernel
theorem dX6_look_16 : decode cX6_look 16 = .ok (.getfield 193, 3) := by decide +kernel
theorem dX6_look_19 : decode cX6_look 19 = .ok (.iaload, 1) := by decide +kernel
theorem dX6_look_20 : decode cX6_look 20 = .ok (.goto 4, 3) := by decide +kernel
theorem dX6_look_23 : decode cX6_look 23 = .ok (.iconst (-1), 1) := by decide +kernel
theorem dX6_look_24 : decode cX6_look 24 = .ok (.ireturn, 1) := by decide +kernel
theorem dX6_allows_0 : decode cX6_allows 0 = .ok (.aload_n 0, 1) := by decide +kernel
theorem dX6_allows_1 : decode cX6_allows 1 = .ok (.aload_n 0, 1) := by decide +kernel
theorem dX6_allows_2 : decode cX6_allows 2 = .ok (.getfield 196, 3) := by decide +kernel
theorem dX6_allows_5 : decode cX6_allows 5 = .ok (.iconst (-1), 1) := by decide +kernel
theorem dX6_allows_6 : decode cX6_allows 6 = .ok (.if_icmp .ne 11, 3) := by decide +kernel
theorem dX6_allows_9 : decode cX6_allows 9 = .ok (.iload_n 1, 1) := by decide +kernel
theorem dX6_allows_10 : decode cX6_allows 10 = .ok (.ifCond .ne 7, 3) := by decide +kernel
theorem dX6_allows_13 : decode cX6_allows 13 = .ok (.iload_n 2, 1) := by decide +kernel
theorem dX6_allows_14 : decode cX6_allows 14 = .ok (.goto 7, 3) := by decide +kernel
theorem dX6_allows_17 : decode cX6_allows 17 = .ok (.aload_n 0, 1) := by decide +kernel
theorem dX6_allows_18 : decode cX6_allows 18 = .ok (.getfield 196, 3) := by decide +kernel
theorem dX6_allows_21 : decode cX6_allows 21 = .ok (.putfield 196, 3) := by decide +kernel
theorem dX6_allows_24 : decode cX6_allows 24 = .ok (.return_, 1) := by decide +kernel
set_option maxRecDepth 20000 in
theorem ggX6_sign_X6_look : GoodIn wsX6_sign wsX6_look := goodIn_r _ [6, 1, 7, 8, 14, 15, 16, 17, 18, 19, 20, 21, 22, 23, 24, 25, 26, 27, 28, 29, 30, 31] (by decide +kernel) (by decide +kernel)
set_option maxRecDepth 20000 in
theorem gX6_sign_X6_look : GoodIn wsX6_sign (wsV RX6 199 RX6 yX6_look wsX6_look) := goodIn_app (goodIn_of _ (by decide +kernel)) ggX6_sign_X6_look
set_option maxRecDepth 20000 in
theorem ggX6_sign_X6_allows : GoodIn wsX6_sign wsX6_allows := goodIn_r _ [12, 13, 14, 15, 16, 17, 18, 19, 20, 21, 22, 23, 24, 25, 26, 27, 28, 29, 30, 31] (by decide +kernel) (by decide +kernel)
set_option maxRecDepth 20000 in
theorem gX6_sign_X6_allows : GoodIn wsX6_sign (wsV RX6 202 RX6 yX6_allows wsX6_allows) := goodIn_app (goodIn_of _ (by decide +kernel)) ggX6_sign_X6_allows
theorem dX6_sign_0 : decode cX6_sign 0 = .ok (.aload_n 0, 1) := by decide +kernel
theorem dX6_sign_1 : decode cX6_sign 1 = .ok (.aload_n 0, 1) := by decide +kernel
theorem dX6_sign_2 : decode cX6_sign 2 = .ok (.invokevirtual 199, 3) := by decide +kernel
theorem dX6_sign_5 : decode cX6_sign 5 = .ok (.iload_n 1, 1) := by decide +kernel
theorem dX6_sign_6 : decode cX6_sign 6 = .ok (.if_icmp .ne 7, 3) := by decide +kernel
theorem dX6_sign_9 : decode cX6_sign 9 = .ok (.iconst 1, 1) := by decide +kernel
theorem dX6_sign_10 : decode cX6_sign 10 = .ok (.goto 4, 3) := by decide +kernel
theorem dX6_sign_13 : decode cX6_sign 13 = .ok (.iconst 0, 1) := by decide +kernel
theorem dX6_sign_14 : decode cX6_sign 14 = .ok (.aload_n 0, 1) := by decide +kernel
theorem dX6_sign_15 : decode cX6_sign 15 = .ok (.getfield 193, 3) := by decide +kernel
theorem dX6_sign_18 : decode cX6_sign 18 = .ok (.invokevirtual 202, 3) := by decide +kernel
theorem dX6_sign_21 : decode cX6_sign 21 = .ok (.aload_n 0, 1) := by decide +kernel
theorem dX6_sign_22 : decode cX6_sign 22 = .ok (.dup, 1) := by decide +kernel
theorem dX6_sign_23 : decode cX6_sign 23 = .ok (.getfield 193, 3) := by decide +kernel
theorem dX6_sign_26 : decode cX6_sign 26 = .ok (.iconst 1, 1) := by decide +kernel
theorem dX6_sign_27 : decode cX6_sign 27 = .ok (.iadd, 1) := by decide +kernel
theorem dX6_sign_28 : decode cX6_sign 28 = .ok (.putfield 193, 3) := by decide +kernel
theorem dX6_sign_31 : decode cX6_sign 31 = .ok (.return_, 1) := by decide +kernel
set_option maxRecDepth 20000 in
theorem ggX6_isFigure_X6_look : GoodIn wsX6_isFigure wsX6_look := goodIn_r _ [5, 6, 7, 8, 12, 13, 14, 15, 16, 17, 18, 19, 20, 21, 22, 23, 24, 25, 26, 27, 28, 29] (by decide +kernel) (by decide +kernel)
set_option maxRecDepth 20000 in
theorem gX6_isFigure_X6_look : GoodIn wsX6_isFigure (wsV RX6 199 RX6 yX6_look wsX6_look) := goodIn_app (goodIn_of _ (by decide +kernel)) ggX6_isFigure_X6_look
set_option maxRecDepth 20000 in
theorem ggX6_isFigure_X6_in : GoodIn wsX6_isFigure wsX6_in := goodIn_r _ [11] (by decide +kernel) (by decide +kernel)
set_option maxRecDepth 20000 in
theorem gX6_isFigure_X6_in : GoodIn wsX6_isFigure (va_wsS RX6 54 yX6_in wsX6_in) := goodIn_app (goodIn_of _ (by decide +kernel)) ggX6_isFigure_X6_in
theorem dX6_isFigure_0 : decode cX6_isFigure 0 = .ok (.aload_n 0, 1) := by decide +kernel
theorem dX6_isFigure_1 : decode cX6_isFigure 1 = .ok (.invokevirtual 199, 3) := by decide +kernel
theorem dX6_isFigure_4 : decode cX6_isFigure 4 = .ok (.bipush 48, 2) := by decide +kernel
theorem dX6_isFigure_6 : decode cX6_isFigure 6 = .ok (.bipush 57, 2) := by decide +kernel
theorem dX6_isFigure_8 : decode cX6_isFigure 8 = .ok (.invokestatic 54, 3) := by decide +kernel
theorem dX6_isFigure_11 : decode cX6_isFigure 11 = .ok (.ireturn, 1) := by decide +kernel
set_option maxRecDepth 20000 in
theorem ggX6_word_X6_look : GoodIn wsX6_word wsX6_look := goodIn_r _ [6, 1, 7, 8, 12, 13, 14, 15, 16, 17, 18, 19, 20, 21, 22, 23, 24, 25, 26, 27, 28, 29] (by decide +kernel) (by decide +kernel)
set_option maxRecDepth 20000 in
theorem gX6_word_X6_look : GoodIn wsX6_word (wsV RX6 199 RX6 yX6_look wsX6_look) := goodIn_app (goodIn_of _ (by decide +kernel)) ggX6_word_X6_look
set_option maxRecDepth 20000 in
theorem ggX6_word_X6_in : GoodIn wsX6_word wsX6_in := goodIn_r _ [11] (by decide +kernel) (by decide +kernel)
set_option maxRecDepth 20000 in
theorem gX6_word_X6_in : GoodIn wsX6_word (va_wsS RX6 54 yX6_in wsX6_in) := goodIn_app (goodIn_of _ (by decide +kernel)) ggX6_word_X6_in
theorem dX6_word_0 : decode cX6_word 0 = .ok (.aload_n 0, 1) := by decide +kernel
theorem dX6_word_1 : decode cX6_word 1 = .ok (.getfield 193, 3) := by decide +kernel
theorem dX6_word_4 : decode cX6_word 4 = .ok (.istore_n 1, 1) := by decide +kernel
theorem dX6_word_5 : decode cX6_word 5 = .ok (.iconst 0, 1) := by decide +kernel
theorem dX6_word_6 : decode cX6_word 6 = .ok (.istore_n 2, 1) := by decide +kernel
theorem dX6_word_7 : decode cX6_word 7 = .ok (.aload_n 0, 1) := by decide +kernel
theorem dX6_word_8 : decode cX6_word 8 = .ok (.invokevirtual 199, 3) := by decide +kernel
theorem dX6_word_11 : decode cX6_word 11 = .ok (.bipush 97, 2) := by decide +kernel
theorem dX6_word_13 : decode cX6_word 13 = .ok (.bipush 122, 2) := by decide +kernel
theorem dX6_word_15 : decode cX6_word 15 = .ok (.invokestatic 54, 3) := by decide +kernel
theorem dX6_word_18 : decode cX6_word 18 = .ok (.ifCond .eq 43, 3) := by decide +kernel
theorem dX6_word_21 : decode cX6_word 21 = .ok (.aload_n 0, 1) := by decide +kernel
theorem dX6_word_22 : decode cX6_word 22 = .ok (.getfield 193, 3) := by decide +kernel
theorem dX6_word_25 : decode cX6_word 25 = .ok (.iload_n 1, 1) := by decide +kernel
theorem dX6_word_26 : decode cX6_word 26 = .ok (.isub, 1) := by decide +kernel
theorem dX6_word_27 : decode cX6_word 27 = .ok (.iconst 5, 1) := by decide +kernel
theorem dX6_word_28 : decode cX6_word 28 = .ok (.if_icmp .ge 18, 3) := by decide +kernel
theorem dX6_word_31 : decode cX6_word 31 = .ok (.bipush 32, 2) := by decide +kernel
theorem dX6_word_33 : decode cX6_word 33 = .ok (.iload_n 2, 1) := by decide +kernel
theorem dX6_word_34 : decode cX6_word 34 = .ok (.imul, 1) := by decide +kernel
theorem dX6_word_35 : decode cX6_word 35 = .ok (.aload_n 0, 1) := by decide +kernel
theorem dX6_word_36 : decode cX6_word 36 = .ok (.invokevirtual 199, 3) := by decide +kernel
theorem dX6_word_39 : decode cX6_word 39 = .ok (.iadd, 1) := by decide +kernel
theorem dX6_word_40 : decode cX6_word 40 = .ok (.bipush 96, 2) := by decide +kernel
theorem dX6_word_42 : decode cX6_word 42 = .ok (.isub, 1) := by decide +kernel
theorem dX6_word_43 : decode cX6_word 43 = .ok (.goto 4, 3) := by decide +kernel
theorem dX6_word_46 : decode cX6_word 46 = .ok (.iconst 0, 1) := by decide +kernel
theorem dX6_word_47 : decode cX6_word 47 = .ok (.istore_n 2, 1) := by decide +kernel
theorem dX6_word_48 : decode cX6_word 48 = .ok (.aload_n 0, 1) := by decide +kernel
theorem dX6_word_49 : decode cX6_word 49 = .ok (.dup, 1) := by decide +kernel
theorem dX6_word_50 : decode cX6_word 50 = .ok (.getfield 193, 3) := by decide +kernel
theorem dX6_word_53 : decode cX6_word 53 = .ok (.iconst 1, 1) := by decide +kernel
theorem dX6_word_54 : decode cX6_word 54 = .ok (.iadd, 1) := by decide +kernel
theorem dX6_word_55 : decode cX6_word 55 = .ok (.putfield 193, 3) := by decide +kernel
theorem dX6_word_58 : decode cX6_word 58 = .ok (.goto (-51), 3) := by decide +kernel
theorem dX6_word_61 : decode cX6_word 61 = .ok (.aload_n 0, 1) := by decide +kernel
theorem dX6_word_62 : decode cX6_word 62 = .ok (.getfield 193, 3) := by decide +kernel
theorem dX6_word_65 : decode cX6_word 65 = .ok (.iload_n 1, 1) := by decide +kernel
theorem dX6_word_66 : decode cX6_word 66 = .ok (.isub, 1) := by decide +kernel
theorem dX6_word_67 : decode cX6_word 67 = .ok (.bipush 6, 2) := by decide +kernel
theorem dX6_word_69 : decode cX6_word 69 = .ok (.if_icmp .ge 7, 3) := by decide +kernel
theorem dX6_word_72 : decode cX6_word 72 = .ok (.iload_n 2, 1) := by decide +kernel
theorem dX6_word_73 : decode cX6_word 73 = .ok (.goto 4, 3) := by decide +kernel
theorem dX6_word_76 : decode cX6_word 76 = .ok (.iconst 0, 1) := by decide +kernel
theorem dX6_word_77 : decode cX6_word 77 = .ok (.ireturn, 1) := by decide +kernel
set_option maxRecDepth 20000 in
theorem ggX6_rowNumber_X6_sign : GoodIn wsX6_rowNumber wsX6_sign := goodIn_r _ [6, 1, 7, 8, 9, 5, 10, 11, 12, 13, 14, 15, 16, 17, 25, 26, 27, 28, 29, 30, 31, 32, 33, 34, 35, 36, 37, 38, 39, 40, 41, 42] (by decide +kernel) (by decide +kernel)
set_option maxRecDepth 20000 in
theorem gX6_rowNumber_X6_sign : GoodIn wsX6_rowNumber (wsV RX6 206 RX6 yX6_sign wsX6_sign) := goodIn_app (goodIn_of _ (by decide +kernel)) ggX6_rowNumber_X6_sign
set_option maxRecDepth 20000 in
theorem ggX6_rowNumber_X6_isFigure : GoodIn wsX6_rowNumber wsX6_isFigure := goodIn_r _ [21, 7, 8, 9, 5, 10, 1, 11, 12, 22, 23, 24, 25, 26, 27, 28, 29, 30, 31, 32, 33, 34, 35, 36, 37, 38, 39, 40, 41, 42] (by decide +kernel) (by decide +kernel)
set_option maxRecDepth 20000 in
theorem gX6_rowNumber_X6_isFigure : GoodIn wsX6_rowNumber (wsV RX6 209 RX6 yX6_isFigure wsX6_isFigure) := goodIn_app (goodIn_of _ (by decide +kernel)) ggX6_rowNumber_X6_isFigure
set_option maxRecDepth 20000 in
theorem ggX6_rowNumber_X6_allows : GoodIn wsX6_rowNumber wsX6_allows := goodIn_r _ [16, 17, 25, 26, 27, 28, 29, 30, 31, 32, 33, 34, 35, 36, 37, 38, 39, 40, 41, 42] (by decide +kernel) (by decide +kernel)
set_option maxRecDepth 20000 in
theorem gX6_rowNumber_X6_allows : GoodIn wsX6_rowNumber (wsV RX6 202 RX6 yX6_allows wsX6_allows) := goodIn_app (goodIn_of _ (by decide +kernel)) ggX6_rowNumber_X6_allows
set_option maxRecDepth 20000 in
theorem ggX6_rowNumber_X6_look : GoodIn wsX6_rowNumber wsX6_look := goodIn_r _ [10, 1, 11, 12, 25, 26, 27, 28, 29, 30, 31, 32, 33, 34, 35, 36, 37, 38, 39, 40, 41, 42] (by decide +kernel) (by decide +kernel)
set_option maxRecDepth 20000 in
theorem gX6_rowNumber_X6_look : GoodIn wsX6_rowNumber (wsV RX6 199 RX6 yX6_look wsX6_look) := goodIn_app (goodIn_of _ (by decide +kernel)) ggX6_rowNumber_X6_look
theorem dX6_rowNumber_0 : decode cX6_rowNumber 0 = .ok (.aload_n 0, 1) := by decide +kernel
theorem dX6_rowNumber_1 : decode cX6_rowNumber 1 = .ok (.bipush 32, 2) := by decide +kernel
theorem dX6_rowNumber_3 : decode cX6_rowNumber 3 = .ok (.invokevirtual 206, 3) := by decide +kernel
theorem dX6_rowNumber_6 : decode cX6_rowNumber 6 = .ok (.aload_n 0, 1) := by decide +kernel
theorem dX6_rowNumber_7 : decode cX6_rowNumber 7 = .ok (.aload_n 0, 1) := by decide +kernel
theorem dX6_rowNumber_8 : decode cX6_rowNumber 8 = .ok (.invokevirtual 209, 3) := by decide +kernel
theorem dX6_rowNumber_11 : decode cX6_rowNumber 11 = .ok (.aload_n 0, 1) := by decide +kernel
theorem dX6_rowNumber_12 : decode cX6_rowNumber 12 = .ok (.getfield 193, 3) := by decide +kernel
theorem dX6_rowNumber_15 : decode cX6_rowNumber 15 = .ok (.invokevirtual 202, 3) := by decide +kernel
theorem dX6_rowNumber_18 : decode cX6_rowNumber 18 = .ok (.aload_n 0, 1) := by decide +kernel
theorem dX6_rowNumber_19 : decode cX6_rowNumber 19 = .ok (.invokevirtual 199, 3) := by decide +kernel
theorem dX6_rowNumber_22 : decode cX6_rowNumber 22 = .ok (.bipush 48, 2) := by decide +kernel
theorem dX6_rowNumber_24 : decode cX6_rowNumber 24 = .ok (.isub, 1) := by decide +kernel
theorem dX6_rowNumber_25 : decode cX6_rowNumber 25 = .ok (.istore_n 1, 1) := by decide +kernel
theorem dX6_rowNumber_26 : decode cX6_rowNumber 26 = .ok (.aload_n 0, 1) := by decide +kernel
theorem dX6_rowNumber_27 : decode cX6_rowNumber 27 = .ok (.dup, 1) := by decide +kernel
theorem dX6_rowNumber_28 : decode cX6_rowNumber 28 = .ok (.getfield 193, 3) := by decide +kernel
theorem dX6_rowNumber_31 : decode cX6_rowNumber 31 = .ok (.iconst 1, 1) := by decide +kernel
theorem dX6_rowNumber_32 : decode cX6_rowNumber 32 = .ok (.iadd, 1) := by decide +kernel
theorem dX6_rowNumber_33 : decode cX6_rowNumber 33 = .ok (.putfield 193, 3) := by decide +kernel
theorem dX6_rowNumber_36 : decode cX6_rowNumber 36 = .ok (.aload_n 0, 1) := by decide +kernel
theorem dX6_rowNumber_37 : decode cX6_rowNumber 37 = .ok (.invokevirtual 209, 3) := by decide +kernel
theorem dX6_rowNumber_40 : decode cX6_rowNumber 40 = .ok (.ifCond .eq 26, 3) := by decide +kernel
theorem dX6_rowNumber_43 : decode cX6_rowNumber 43 = .ok (.bipush 10, 2) := by decide +kernel
theorem dX6_rowNumber_45 : decode cX6_rowNumber 45 = .ok (.iload_n 1, 1) := by decide +kernel
theorem dX6_rowNumber_46 : decode cX6_rowNumber 46 = .ok (.imul, 1) := by decide +kernel
theorem dX6_rowNumber_47 : decode cX6_rowNumber 47 = .ok (.aload_n 0, 1) := by decide +kernel
theorem dX6_rowNumber_48 : decode cX6_rowNumber 48 = .ok (.invokevirtual 199, 3) := by decide +kernel
theorem dX6_rowNumber_51 : decode cX6_rowNumber 51 = .ok (.iadd, 1) := by decide +kernel
theorem dX6_rowNumber_52 : decode cX6_rowNumber 52 = .ok (.bipush 48, 2) := by decide +kernel
theorem dX6_rowNumber_54 : decode cX6_rowNumber 54 = .ok (.isub, 1) := by decide +kernel
theorem dX6_rowNumber_55 : decode cX6_rowNumber 55 = .ok (.istore_n 1, 1) := by decide +kernel
theorem dX6_rowNumber_56 : decode cX6_rowNumber 56 = .ok (.aload_n 0, 1) := by decide +kernel
theorem dX6_rowNumber_57 : decode cX6_rowNumber 57 = .ok (.dup, 1) := by decide +kernel
theorem dX6_rowNumber_58 : decode cX6_rowNumber 58 = .ok (.getfield 193, 3) := by decide +kernel
theorem dX6_rowNumber_61 : decode cX6_rowNumber 61 = .ok (.iconst 1, 1) := by decide +kernel
theorem dX6_rowNumber_62 : decode cX6_rowNumber 62 = .ok (.iadd, 1) := by decide +kernel
theorem dX6_rowNumber_63 : decode cX6_rowNumber 63 = .ok (.putfield 193, 3) := by decide +kernel
theorem dX6_rowNumber_66 : decode cX6_rowNumber 66 = .ok (.iload_n 1, 1) := by decide +kernel
theorem dX6_rowNumber_67 : decode cX6_rowNumber 67 = .ok (.ireturn, 1) := by decide +kernel
set_option maxRecDepth 20000 in
theorem ggX6_readsSet_X6_look : GoodIn wsX6_readsSet wsX6_look := goodIn_r _ [7, 1, 8, 9, 26, 27, 28, 29, 30, 31, 32, 33, 34, 35, 36, 37, 38, 39, 40, 41, 42, 43] (by decide +kernel) (by decide +kernel)
set_option maxRecDepth 20000 in
theorem gX6_readsSet_X6_look : GoodIn wsX6_readsSet (wsV RX6 199 RX6 yX6_look wsX6_look) := goodIn_app (goodIn_of _ (by decide +kernel)) ggX6_readsSet_X6_look
set_option maxRecDepth 20000 in
theorem ggX6_readsSet_X6_answersOf : GoodIn wsX6_readsSet wsX6_answersOf := goodIn_r _ [13, 14, 26, 27, 28, 29, 30, 31, 32, 33, 34, 35, 36, 37, 38, 39, 40, 41, 42, 43] (by decide +kernel) (by decide +kernel)
set_option maxRecDepth 20000 in
theorem gX6_readsSet_X6_answersOf : GoodIn wsX6_readsSet (wsV RX6 58 RX6 yX6_answersOf wsX6_answersOf) := goodIn_app (goodIn_of _ (by decide +kernel)) ggX6_readsSet_X6_answersOf
set_option maxRecDepth 20000 in
theorem ggX6_readsSet_X6_in : GoodIn wsX6_readsSet wsX6_in := goodIn_r _ [17] (by decide +kernel) (by decide +kernel)
set_option maxRecDepth 20000 in
theorem gX6_readsSet_X6_in : GoodIn wsX6_readsSet (va_wsS RX6 54 yX6_in wsX6_in) := goodIn_app (goodIn_of _ (by decide +kernel)) ggX6_readsSet_X6_in
set_option maxRecDepth 20000 in
theorem ggX6_readsSet_X6_allows : GoodIn wsX6_readsSet wsX6_allows := goodIn_r _ [21, 2, 26, 27, 28, 29, 30, 31, 32, 33, 34, 35, 36, 37, 38, 39, 40, 41, 42, 43] (by decide +kernel) (by decide +kernel)
set_option maxRecDepth 20000 in
theorem gX6_readsSet_X6_allows : GoodIn wsX6_readsSet (wsV RX6 202 RX6 yX6_allows wsX6_allows) := goodIn_app (goodIn_of _ (by decide +kernel)) ggX6_readsSet_X6_allows
set_option maxRecDepth 20000 in
theorem ggX6_readsSet_X6_isFigure : GoodIn wsX6_readsSet wsX6_isFigure := goodIn_r _ [25, 3, 4, 5, 6, 7, 1, 8, 9, 15, 16, 17, 26, 27, 28, 29, 30, 31, 32, 33, 34, 35, 36, 37, 38, 39, 40, 41, 42, 43] (by decide +kernel) (by decide +kernel)
set_option maxRecDepth 20000 in
theorem gX6_readsSet_X6_isFigure : GoodIn wsX6_readsSet (wsV RX6 209 RX6 yX6_isFigure wsX6_isFigure) := goodIn_app (goodIn_of _ (by decide +kernel)) ggX6_readsSet_X6_isFigure
theorem dX6_readsSet_0 : decode cX6_readsSet 0 = .ok (.aload_n 0, 1) := by decide +kernel
theorem dX6_readsSet_1 : decode cX6_readsSet 1 = .ok (.invokevirtual 199, 3) := by decide +kernel
theorem dX6_readsSet_4 : decode cX6_readsSet 4 = .ok (.bipush 45, 2) := by decide +kernel
theorem dX6_readsSet_6 : decode cX6_readsSet 6 = .ok (.if_icmp .ne 23, 3) := by decide +kernel
theorem dX6_readsSet_9 : decode cX6_readsSet 9 = .ok (.aload_n 0, 1) := by decide +kernel
theorem dX6_readsSet_10 : decode cX6_readsSet 10 = .ok (.dup, 1) := by decide +kernel
theorem dX6_readsSet_11 : decode cX6_readsSet 11 = .ok (.getfield 193, 3) := by decide +kernel
theorem dX6_readsSet_14 : decode cX6_readsSet 14 = .ok (.iconst 1, 1) := by decide +kernel
theorem dX6_readsSet_15 : decode cX6_readsSet 15 = .ok (.iadd, 1) := by decide +kernel
theorem dX6_readsSet_16 : decode cX6_readsSet 16 = .ok (.putfield 193, 3) := by decide +kernel
theorem dX6_readsSet_19 : decode cX6_readsSet 19 = .ok (.iconst 1, 1) := by decide +kernel
theorem dX6_readsSet_20 : decode cX6_readsSet 20 = .ok (.aload_n 0, 1) := by decide +kernel
theorem dX6_readsSet_21 : decode cX6_readsSet 21 = .ok (.iload_n 1, 1) := by decide +kernel
theorem dX6_readsSet_22 : decode cX6_readsSet 22 = .ok (.invokevirtual 58, 3) := by decide +kernel
theorem dX6_readsSet_25 : decode cX6_readsSet 25 = .ok (.ishl, 1) := by decide +kernel
theorem dX6_readsSet_26 : decode cX6_readsSet 26 = .ok (.iconst 1, 1) := by decide +kernel
theorem dX6_readsSet_27 : decode cX6_readsSet 27 = .ok (.isub, 1) := by decide +kernel
theorem dX6_readsSet_28 : decode cX6_readsSet 28 = .ok (.ireturn, 1) := by decide +kernel
theorem dX6_readsSet_29 : decode cX6_readsSet 29 = .ok (.iconst 0, 1) := by decide +kernel
theorem dX6_readsSet_30 : decode cX6_readsSet 30 = .ok (.istore_n 2, 1) := by decide +kernel
theorem dX6_readsSet_31 : decode cX6_readsSet 31 = .ok (.iconst 0, 1) := by decide +kernel
theorem dX6_readsSet_32 : decode cX6_readsSet 32 = .ok (.istore_n 3, 1) := by decide +kernel
theorem dX6_readsSet_33 : decode cX6_readsSet 33 = .ok (.aload_n 0, 1) := by decide +kernel
theorem dX6_readsSet_34 : decode cX6_readsSet 34 = .ok (.aload_n 0, 1) := by decide +kernel
theorem dX6_readsSet_35 : decode cX6_readsSet 35 = .ok (.invokevirtual 199, 3) := by decide +kernel
theorem dX6_readsSet_38 : decode cX6_readsSet 38 = .ok (.bipush 48, 2) := by decide +kernel
theorem dX6_readsSet_40 : decode cX6_readsSet 40 = .ok (.isub, 1) := by decide +kernel
theorem dX6_readsSet_41 : decode cX6_readsSet 41 = .ok (.iconst 0, 1) := by decide +kernel
theorem dX6_readsSet_42 : decode cX6_readsSet 42 = .ok (.aload_n 0, 1) := by decide +kernel
theorem dX6_readsSet_43 : decode cX6_readsSet 43 = .ok (.iload_n 1, 1) := by decide +kernel
theorem dX6_readsSet_44 : decode cX6_readsSet 44 = .ok (.invokevirtual 58, 3) := by decide +kernel
theorem dX6_readsSet_47 : decode cX6_readsSet 47 = .ok (.iconst 1, 1) := by decide +kernel
theorem dX6_readsSet_48 : decode cX6_readsSet 48 = .ok (.isub, 1) := by decide +kernel
theorem dX6_readsSet_49 : decode cX6_readsSet 49 = .ok (.invokestatic 54, 3) := by decide +kernel
theorem dX6_readsSet_52 : decode cX6_readsSet 52 = .ok (.aload_n 0, 1) := by decide +kernel
theorem dX6_readsSet_53 : decode cX6_readsSet 53 = .ok (.getfield 193, 3) := by decide +kernel
theorem dX6_readsSet_56 : decode cX6_readsSet 56 = .ok (.invokevirtual 202, 3) := by decide +kernel
theorem dX6_readsSet_59 : decode cX6_readsSet 59 = .ok (.aload_n 0, 1) := by decide +kernel
theorem dX6_readsSet_60 : decode cX6_readsSet 60 = .ok (.getfield 196, 3) := by decide +kernel
theorem dX6_readsSet_63 : decode cX6_readsSet 63 = .ok (.iconst (-1), 1) := by decide +kernel
theorem dX6_readsSet_64 : decode cX6_readsSet 64 = .ok (.if_icmp .ne 65, 3) := by decide +kernel
theorem dX6_readsSet_67 : decode cX6_readsSet 67 = .ok (.aload_n 0, 1) := by decide +kernel
theorem dX6_readsSet_68 : decode cX6_readsSet 68 = .ok (.invokevirtual 209, 3) := by decide +kernel
theorem dX6_readsSet_71 : decode cX6_readsSet 71 = .ok (.ifCond .eq 58, 3) := by decide +kernel
theorem dX6_readsSet_74 : decode cX6_readsSet 74 = .ok (.aload_n 0, 1) := by decide +kernel
theorem dX6_readsSet_75 : decode cX6_readsSet 75 = .ok (.invokevirtual 199, 3) := by decide +kernel
theorem dX6_readsSet_78 : decode cX6_readsSet 78 = .ok (.bipush 48, 2) := by decide +kernel
theorem dX6_readsSet_80 : decode cX6_readsSet 80 = .ok (.isub, 1) := by decide +kernel
theorem dX6_readsSet_81 : decode cX6_readsSet 81 = .ok (.istore 4, 2) := by decide +kernel
theorem dX6_readsSet_83 : decode cX6_readsSet 83 = .ok (.aload_n 0, 1) := by decide +kernel
theorem dX6_readsSet_84 : decode cX6_readsSet 84 = .ok (.iload 4, 2) := by decide +kernel
theorem dX6_readsSet_86 : decode cX6_readsSet 86 = .ok (.iload_n 3, 1) := by decide +kernel
theorem dX6_readsSet_87 : decode cX6_readsSet 87 = .ok (.aload_n 0, 1) := by decide +kernel
theorem dX6_readsSet_88 : decode cX6_readsSet 88 = .ok (.iload_n 1, 1) := by decide +kernel
theorem dX6_readsSet_89 : decode cX6_readsSet 89 = .ok (.invokevirtual 58, 3) := by decide +kernel
theorem dX6_readsSet_92 : decode cX6_readsSet 92 = .ok (.iconst 1, 1) := by decide +kernel
theorem dX6_readsSet_93 : decode cX6_readsSet 93 = .ok (.isub, 1) := by decide +kernel
theorem dX6_readsSet_94 : decode cX6_readsSet 94 = .ok (.invokestatic 54, 3) := by decide +kernel
theorem dX6_readsSet_97 : decode cX6_readsSet 97 = .ok (.aload_n 0, 1) := by decide +kernel
theorem dX6_readsSet_98 : decode cX6_readsSet 98 = .ok (.getfield 193, 3) := by decide +kernel
theorem dX6_readsSet_101 : decode cX6_readsSet 101 = .ok (.invokevirtual 202, 3) := by decide +kernel
theorem dX6_readsSet_104 : decode cX6_readsSet 104 = .ok (.iload_n 2, 1) := by decide +kernel
theorem dX6_readsSet_105 : decode cX6_readsSet 105 = .ok (.iconst 1, 1) := by decide +kernel
theorem dX6_readsSet_106 : decode cX6_readsSet 106 = .ok (.iload 4, 2) := by decide +kernel
theorem dX6_readsSet_108 : decode cX6_readsSet 108 = .ok (.ishl, 1) := by decide +kernel
theorem dX6_readsSet_109 : decode cX6_readsSet 109 = .ok (.ior, 1) := by decide +kernel
theorem dX6_readsSet_110 : decode cX6_readsSet 110 = .ok (.istore_n 2, 1) := by decide +kernel
theorem dX6_readsSet_111 : decode cX6_readsSet 111 = .ok (.iload 4, 2) := by decide +kernel
theorem dX6_readsSet_113 : decode cX6_readsSet 113 = .ok (.iconst 1, 1) := by decide +kernel
theorem dX6_readsSet_114 : decode cX6_readsSet 114 = .ok (.iadd, 1) := by decide +kernel
theorem dX6_readsSet_115 : decode cX6_readsSet 115 = .ok (.istore_n 3, 1) := by decide +kernel
theorem dX6_readsSet_116 : decode cX6_readsSet 116 = .ok (.aload_n 0, 1) := by decide +kernel
theorem dX6_readsSet_117 : decode cX6_readsSet 117 = .ok (.dup, 1) := by decide +kernel
theorem dX6_readsSet_118 : decode cX6_readsSet 118 = .ok (.getfield 193, 3) := by decide +kernel
theorem dX6_readsSet_121 : decode cX6_readsSet 121 = .ok (.iconst 1, 1) := by decide +kernel
theorem dX6_readsSet_122 : decode cX6_readsSet 122 = .ok (.iadd, 1) := by decide +kernel
theorem dX6_readsSet_123 : decode cX6_readsSet 123 = .ok (.putfield 193, 3) := by decide +kernel
theorem dX6_readsSet_126 : decode cX6_readsSet 126 = .ok (.goto (-67), 3) := by decide +kernel
theorem dX6_readsSet_129 : decode cX6_readsSet 129 = .ok (.iload_n 2, 1) := by decide +kernel
theorem dX6_readsSet_130 : decode cX6_readsSet 130 = .ok (.ireturn, 1) := by decide +kernel
set_option maxRecDepth 20000 in
theorem ggX6_sets_X6_sign : GoodIn wsX6_sets wsX6_sign := goodIn_r _ [7, 8, 9, 10, 11, 6, 12, 13, 14, 15, 16, 17, 18, 2, 34, 35, 36, 37, 38, 39, 40, 41, 42, 43, 44, 45, 46, 47, 48, 49, 50, 51] (by decide +kernel) (by decide +kernel)
set_option maxRecDepth 20000 in
theorem gX6_sets_X6_sign : GoodIn wsX6_sets (wsV RX6 206 RX6 yX6_sign wsX6_sign) := goodIn_app (goodIn_of _ (by decide +kernel)) ggX6_sets_X6_sign
set_option maxRecDepth 20000 in
theorem ggX6_sets_X6_readsSet : GoodIn wsX6_sets wsX6_readsSet := goodIn_r _ [22, 8, 2, 9, 10, 11, 6, 12, 13, 14, 23, 24, 25, 26, 1, 27, 28, 29, 15, 16, 17, 18, 30, 31, 32, 33, 34, 35, 36, 37, 38, 39, 40, 41, 42, 43, 44, 45, 46, 47, 48, 49, 50, 51] (by decide +kernel) (by decide +kernel)
set_option maxRecDepth 20000 in
theorem gX6_sets_X6_readsSet : GoodIn wsX6_sets (wsV RX6 213 RX6 yX6_readsSet wsX6_readsSet) := goodIn_app (goodIn_of _ (by decide +kernel)) ggX6_sets_X6_readsSet
theorem dX6_sets_0 : decode cX6_sets 0 = .ok (.aload_n 0, 1) := by decide +kernel
theorem dX6_sets_1 : decode cX6_sets 1 = .ok (.bipush 32, 2) := by decide +kernel
theorem dX6_sets_3 : decode cX6_sets 3 = .ok (.invokevirtual 206, 3) := by decide +kernel
theorem dX6_sets_6 : decode cX6_sets 6 = .ok (.iconst 0, 1) := by decide +kernel
theorem dX6_sets_7 : decode cX6_sets 7 = .ok (.istore_n 1, 1) := by decide +kernel
theorem dX6_sets_8 : decode cX6_sets 8 = .ok (.iconst 0, 1) := by decide +kernel
theorem dX6_sets_9 : decode cX6_sets 9 = .ok (.istore_n 2, 1) := by decide +kernel
theorem dX6_sets_10 : decode cX6_sets 10 = .ok (.iload_n 2, 1) := by decide +kernel
theorem dX6_sets_11 : decode cX6_sets 11 = .ok (.aload_n 0, 1) := by decide +kernel
theorem dX6_sets_12 : decode cX6_sets 12 = .ok (.getfield 7, 3) := by decide +kernel
theorem dX6_sets_15 : decode cX6_sets 15 = .ok (.iconst 0, 1) := by decide +kernel
theorem dX6_sets_16 : decode cX6_sets 16 = .ok (.iaload, 1) := by decide +kernel
theorem dX6_sets_17 : decode cX6_sets 17 = .ok (.if_icmp .ge 51, 3) := by decide +kernel
theorem dX6_sets_20 : decode cX6_sets 20 = .ok (.aload_n 0, 1) := by decide +kernel
theorem dX6_sets_21 : decode cX6_sets 21 = .ok (.getfield 196, 3) := by decide +kernel
theorem dX6_sets_24 : decode cX6_sets 24 = .ok (.iconst (-1), 1) := by decide +kernel
theorem dX6_sets_25 : decode cX6_sets 25 = .ok (.if_icmp .ne 43, 3) := by decide +kernel
theorem dX6_sets_28 : decode cX6_sets 28 = .ok (.iload_n 2, 1) := by decide +kernel
theorem dX6_sets_29 : decode cX6_sets 29 = .ok (.ifCond .le 9, 3) := by decide +kernel
theorem dX6_sets_32 : decode cX6_sets 32 = .ok (.aload_n 0, 1) := by decide +kernel
theorem dX6_sets_33 : decode cX6_sets 33 = .ok (.bipush 44, 2) := by decide +kernel
theorem dX6_sets_35 : decode cX6_sets 35 = .ok (.invokevirtual 206, 3) := by decide +kernel
theorem dX6_sets_38 : decode cX6_sets 38 = .ok (.iload_n 1, 1) := by decide +kernel
theorem dX6_sets_39 : decode cX6_sets 39 = .ok (.aload_n 0, 1) := by decide +kernel
theorem dX6_sets_40 : decode cX6_sets 40 = .ok (.getfield 196, 3) := by decide +kernel
theorem dX6_sets_43 : decode cX6_sets 43 = .ok (.iconst (-1), 1) := by decide +kernel
theorem dX6_sets_44 : decode cX6_sets 44 = .ok (.if_icmp .ne 15, 3) := by decide +kernel
theorem dX6_sets_47 : decode cX6_sets 47 = .ok (.aload_n 0, 1) := by decide +kernel
theorem dX6_sets_48 : decode cX6_sets 48 = .ok (.iload_n 2, 1) := by decide +kernel
theorem dX6_sets_49 : decode cX6_sets 49 = .ok (.invokevirtual 213, 3) := by decide +kernel
theorem dX6_sets_52 : decode cX6_sets 52 = .ok (.iconst 4, 1) := by decide +kernel
theorem dX6_sets_53 : decode cX6_sets 53 = .ok (.iload_n 2, 1) := by decide +kernel
theorem dX6_sets_54 : decode cX6_sets 54 = .ok (.imul, 1) := by decide +kernel
theorem dX6_sets_55 : decode cX6_sets 55 = .ok (.ishl, 1) := by decide +kernel
theorem dX6_sets_56 : decode cX6_sets 56 = .ok (.goto 4, 3) := by decide +kernel
theorem dX6_sets_59 : decode cX6_sets 59 = .ok (.iconst 0, 1) := by decide +kernel
theorem dX6_sets_60 : decode cX6_sets 60 = .ok (.ior, 1) := by decide +kernel
theorem dX6_sets_61 : decode cX6_sets 61 = .ok (.istore_n 1, 1) := by decide +kernel
theorem dX6_sets_62 : decode cX6_sets 62 = .ok (.iinc 2 1, 3) := by decide +kernel
theorem dX6_sets_65 : decode cX6_sets 65 = .ok (.goto (-55), 3) := by decide +kernel
theorem dX6_sets_68 : decode cX6_sets 68 = .ok (.iload_n 1, 1) := by decide +kernel
theorem dX6_sets_69 : decode cX6_sets 69 = .ok (.ireturn, 1) := by decide +kernel
set_option maxRecDepth 20000 in
theorem ggX6_action_X6_sign : GoodIn wsX6_action wsX6_sign := goodIn_r _ [6, 1, 7, 8, 9, 5, 10, 11, 12, 13, 14, 15, 16, 17, 25, 26, 27, 28, 29, 30, 31, 32, 33, 34, 35, 36, 37, 38, 39, 40, 41, 42] (by decide +kernel) (by decide +kernel)
set_option maxRecDepth 20000 in
theorem gX6_action_X6_sign : GoodIn wsX6_action (wsV RX6 206 RX6 yX6_sign wsX6_sign) := goodIn_app (goodIn_of _ (by decide +kernel)) ggX6_action_X6_sign
set_option maxRecDepth 20000 in
theorem ggX6_action_X6_isFigure : GoodIn wsX6_action wsX6_isFigure := goodIn_r _ [21, 7, 8, 9, 5, 10, 1, 11, 12, 22, 23, 24, 25, 26, 27, 28, 29, 30, 31, 32, 33, 34, 35, 36, 37, 38, 39, 40, 41, 42] (by decide +kernel) (by decide +kernel)
set_option maxRecDepth 20000 in
theorem gX6_action_X6_isFigure : GoodIn wsX6_action (wsV RX6 209 RX6 yX6_isFigure wsX6_isFigure) := goodIn_app (goodIn_of _ (by decide +kernel)) ggX6_action_X6_isFigure
set_option maxRecDepth 20000 in
theorem ggX6_action_X6_allows : GoodIn wsX6_action wsX6_allows := goodIn_r _ [16, 17, 25, 26, 27, 28, 29, 30, 31, 32, 33, 34, 35, 36, 37, 38, 39, 40, 41, 42] (by decide +kernel) (by decide +kernel)
set_option maxRecDepth 20000 in
theorem gX6_action_X6_allows : GoodIn wsX6_action (wsV RX6 202 RX6 yX6_allows wsX6_allows) := goodIn_app (goodIn_of _ (by decide +kernel)) ggX6_action_X6_allows
set_option maxRecDepth 20000 in
theorem ggX6_action_X6_look : GoodIn wsX6_action wsX6_look := goodIn_r _ [10, 1, 11, 12, 25, 26, 27, 28, 29, 30, 31, 32, 33, 34, 35, 36, 37, 38, 39, 40, 41, 42] (by decide +kernel) (by decide +kernel)
set_option maxRecDepth 20000 in
theorem gX6_action_X6_look : GoodIn wsX6_action (wsV RX6 199 RX6 yX6_look wsX6_look) := goodIn_app (goodIn_of _ (by decide +kernel)) ggX6_action_X6_look
theorem dX6_action_0 : decode cX6_action 0 = .ok (.aload_n 0, 1) := by decide +kernel
theorem dX6_action_1 : decode cX6_action 1 = .ok (.bipush 62, 2) := by decide +kernel
theorem dX6_action_3 : decode cX6_action 3 = .ok (.invokevirtual 206, 3) := by decide +kernel
theorem dX6_action_6 : decode cX6_action 6 = .ok (.aload_n 0, 1) := by decide +kernel
theorem dX6_action_7 : decode cX6_action 7 = .ok (.aload_n 0, 1) := by decide +kernel
theorem dX6_action_8 : decode cX6_action 8 = .ok (.invokevirtual 209, 3) := by decide +kernel
theorem dX6_action_11 : decode cX6_action 11 = .ok (.aload_n 0, 1) := by decide +kernel
theorem dX6_action_12 : decode cX6_action 12 = .ok (.getfield 193, 3) := by decide +kernel
theorem dX6_action_15 : decode cX6_action 15 = .ok (.invokevirtual 202, 3) := by decide +kernel
theorem dX6_action_18 : decode cX6_action 18 = .ok (.aload_n 0, 1) := by decide +kernel
theorem dX6_action_19 : decode cX6_action 19 = .ok (.invokevirtual 199, 3) := by decide +kernel
theorem dX6_action_22 : decode cX6_action 22 = .ok (.bipush 48, 2) := by decide +kernel
theorem dX6_action_24 : decode cX6_action 24 = .ok (.isub, 1) := by decide +kernel
theorem dX6_action_25 : decode cX6_action 25 = .ok (.istore_n 1, 1) := by decide +kernel
theorem dX6_action_26 : decode cX6_action 26 = .ok (.aload_n 0, 1) := by decide +kernel
theorem dX6_action_27 : decode cX6_action 27 = .ok (.dup, 1) := by decide +kernel
theorem dX6_action_28 : decode cX6_action 28 = .ok (.getfield 193, 3) := by decide +kernel
theorem dX6_action_31 : decode cX6_action 31 = .ok (.iconst 1, 1) := by decide +kernel
theorem dX6_action_32 : decode cX6_action 32 = .ok (.iadd, 1) := by decide +kernel
theorem dX6_action_33 : decode cX6_action 33 = .ok (.putfield 193, 3) := by decide +kernel
theorem dX6_action_36 : decode cX6_action 36 = .ok (.iload_n 1, 1) := by decide +kernel
theorem dX6_action_37 : decode cX6_action 37 = .ok (.ireturn, 1) := by decide +kernel
set_option maxRecDepth 20000 in
theorem ggX6_command_X6_word : GoodIn wsX6_command wsX6_word := goodIn_r _ [11, 1, 12, 13, 14, 10, 15, 16, 17, 18, 19, 20, 54, 55, 56, 57, 58, 59, 60, 61, 62, 63, 64, 65, 66, 67, 68, 69, 70, 71] (by decide +kernel) (by decide +kernel)
set_option maxRecDepth 20000 in
theorem gX6_command_X6_word : GoodIn wsX6_command (wsV RX6 216 RX6 yX6_word wsX6_word) := goodIn_app (goodIn_of _ (by decide +kernel)) ggX6_command_X6_word
set_option maxRecDepth 20000 in
theorem ggX6_command_X6_allows : GoodIn wsX6_command wsX6_allows := goodIn_r _ [24, 4, 54, 55, 56, 57, 58, 59, 60, 61, 62, 63, 64, 65, 66, 67, 68, 69, 70, 71] (by decide +kernel) (by decide +kernel)
set_option maxRecDepth 20000 in
theorem gX6_command_X6_allows : GoodIn wsX6_command (wsV RX6 202 RX6 yX6_allows wsX6_allows) := goodIn_app (goodIn_of _ (by decide +kernel)) ggX6_command_X6_allows
set_option maxRecDepth 20000 in
theorem ggX6_command_X6_sets : GoodIn wsX6_command wsX6_sets := goodIn_r _ [28, 29, 4, 30, 31, 32, 10, 33, 1, 12, 13, 14, 15, 16, 17, 21, 22, 23, 24, 34, 35, 36, 37, 38, 39, 40, 41, 18, 19, 20, 42, 43, 44, 45, 54, 55, 56, 57, 58, 59, 60, 61, 62, 63, 64, 65, 66, 67, 68, 69, 70, 71] (by decide +kernel) (by decide +kernel)
set_option maxRecDepth 20000 in
theorem gX6_command_X6_sets : GoodIn wsX6_command (wsV RX6 221 RX6 yX6_sets wsX6_sets) := goodIn_app (goodIn_of _ (by decide +kernel)) ggX6_command_X6_sets
set_option maxRecDepth 20000 in
theorem ggX6_command_X6_action : GoodIn wsX6_command wsX6_action := goodIn_r _ [49, 1, 30, 31, 32, 10, 33, 12, 13, 14, 15, 16, 17, 21, 22, 23, 24, 4, 42, 43, 44, 45, 18, 19, 20, 54, 55, 56, 57, 58, 59, 60, 61, 62, 63, 64, 65, 66, 67, 68, 69, 70, 71] (by decide +kernel) (by decide +kernel)
set_option maxRecDepth 20000 in
theorem gX6_command_X6_action : GoodIn wsX6_command (wsV RX6 224 RX6 yX6_action wsX6_action) := goodIn_app (goodIn_of _ (by decide +kernel)) ggX6_command_X6_action
set_option maxRecDepth 20000 in
theorem ggX6_command_X6_rowNumber : GoodIn wsX6_command wsX6_rowNumber := goodIn_r _ [53, 1, 30, 31, 32, 10, 33, 12, 13, 14, 15, 16, 17, 21, 22, 23, 24, 4, 42, 43, 44, 45, 18, 19, 20, 54, 55, 56, 57, 58, 59, 60, 61, 62, 63, 64, 65, 66, 67, 68, 69, 70, 71] (by decide +kernel) (by decide +kernel)
set_option maxRecDepth 20000 in
theorem gX6_command_X6_rowNumber : GoodIn wsX6_command (wsV RX6 227 RX6 yX6_rowNumber wsX6_rowNumber) := goodIn_app (goodIn_of _ (by decide +kernel)) ggX6_command_X6_rowNumber
set_option maxRecDepth 20000 in
theorem ggX6_command_X6_sign : GoodIn wsX6_command wsX6_sign := goodIn_r _ [33, 1, 12, 13, 14, 10, 15, 16, 17, 21, 22, 23, 24, 4, 54, 55, 56, 57, 58, 59, 60, 61, 62, 63, 64, 65, 66, 67, 68, 69, 70, 71] (by decide +kernel) (by decide +kernel)
set_option maxRecDepth 20000 in
theorem gX6_command_X6_sign : GoodIn wsX6_command (wsV RX6 206 RX6 yX6_sign wsX6_sign) := goodIn_app (goodIn_of _ (by decide +kernel)) ggX6_command_X6_sign
theorem dX6_command_0 : decode cX6_command 0 = .ok (.aload_n 0, 1) := by decide +kernel
theorem dX6_command_1 : decode cX6_command 1 = .ok (.getfield 193, 3) := by decide +kernel
theorem dX6_command_4 : decode cX6_command 4 = .ok (.istore_n 1, 1) := by decide +kernel
theorem dX6_command_5 : decode cX6_command 5 = .ok (.aload_n 0, 1) := by decide +kernel
theorem dX6_command_6 : decode cX6_command 6 = .ok (.invokevirtual 216, 3) := by decide +kernel
theorem dX6_command_9 : decode cX6_command 9 = .ok (.istore_n 2, 1) := by decide +kernel
theorem dX6_command_10 : decode cX6_command 10 = .ok (.iload_n 2, 1) := by decide +kernel
theorem dX6_command_11 : decode cX6_command 11 = .ok (.sipush 294, 3) := by decide +kernel
theorem dX6_command_14 : decode cX6_command 14 = .ok (.if_icmp .eq 22, 3) := by decide +kernel
theorem dX6_command_17 : decode cX6_command 17 = .ok (.iload_n 2, 1) := by decide +kernel
theorem dX6_command_18 : decode cX6_command 18 = .ok (.ldc 219, 2) := by decide +kernel
theorem dX6_command_20 : decode cX6_command 20 = .ok (.if_icmp .eq 16, 3) := by decide +kernel
theorem dX6_command_23 : decode cX6_command 23 = .ok (.iload_n 2, 1) := by decide +kernel
theorem dX6_command_24 : decode cX6_command 24 = .ok (.sipush 688, 3) := by decide +kernel
theorem dX6_command_27 : decode cX6_command 27 = .ok (.if_icmp .eq 9, 3) := by decide +kernel
theorem dX6_command_30 : decode cX6_command 30 = .ok (.iload_n 2, 1) := by decide +kernel
theorem dX6_command_31 : decode cX6_command 31 = .ok (.ldc 220, 2) := by decide +kernel
theorem dX6_command_33 : decode cX6_command 33 = .ok (.if_icmp .ne 7, 3) := by decide +kernel
theorem dX6_command_36 : decode cX6_command 36 = .ok (.iconst 1, 1) := by decide +kernel
theorem dX6_command_37 : decode cX6_command 37 = .ok (.goto 4, 3) := by decide +kernel
theorem dX6_command_40 : decode cX6_command 40 = .ok (.iconst 0, 1) := by decide +kernel
theorem dX6_command_41 : decode cX6_command 41 = .ok (.istore_n 3, 1) := by decide +kernel
theorem dX6_command_42 : decode cX6_command 42 = .ok (.aload_n 0, 1) := by decide +kernel
theorem dX6_command_43 : decode cX6_command 43 = .ok (.iload_n 3, 1) := by decide +kernel
theorem dX6_command_44 : decode cX6_command 44 = .ok (.iload_n 1, 1) := by decide +kernel
theorem dX6_command_45 : decode cX6_command 45 = .ok (.invokevirtual 202, 3) := by decide +kernel
theorem dX6_command_48 : decode cX6_command 48 = .ok (.iconst 0, 1) := by decide +kernel
theorem dX6_command_49 : decode cX6_command 49 = .ok (.istore 4, 2) := by decide +kernel
theorem dX6_command_51 : decode cX6_command 51 = .ok (.iconst 0, 1) := by decide +kernel
theorem dX6_command_52 : decode cX6_command 52 = .ok (.istore 5, 2) := by decide +kernel
theorem dX6_command_54 : decode cX6_command 54 = .ok (.aload_n 0, 1) := by decide +kernel
theorem dX6_command_55 : decode cX6_command 55 = .ok (.getfield 196, 3) := by decide +kernel
theorem dX6_command_58 : decode cX6_command 58 = .ok (.iconst (-1), 1) := by decide +kernel
theorem dX6_command_59 : decode cX6_command 59 = .ok (.if_icmp .ne 25, 3) := by decide +kernel
theorem dX6_command_62 : decode cX6_command 62 = .ok (.iload_n 2, 1) := by decide +kernel
theorem dX6_command_63 : decode cX6_command 63 = .ok (.sipush 294, 3) := by decide +kernel
theorem dX6_command_66 : decode cX6_command 66 = .ok (.if_icmp .ne 18, 3) := by decide +kernel
theorem dX6_command_69 : decode cX6_command 69 = .ok (.aload_n 0, 1) := by decide +kernel
theorem dX6_command_70 : decode cX6_command 70 = .ok (.invokevirtual 221, 3) := by decide +kernel
theorem dX6_command_73 : decode cX6_command 73 = .ok (.istore 4, 2) := by decide +kernel
theorem dX6_command_75 : decode cX6_command 75 = .ok (.aload_n 0, 1) := by decide +kernel
theorem dX6_command_76 : decode cX6_command 76 = .ok (.invokevirtual 224, 3) := by decide +kernel
theorem dX6_command_79 : decode cX6_command 79 = .ok (.istore 5, 2) := by decide +kernel
theorem dX6_command_81 : decode cX6_command 81 = .ok (.goto 23, 3) := by decide +kernel
theorem dX6_command_84 : decode cX6_command 84 = .ok (.aload_n 0, 1) := by decide +kernel
theorem dX6_command_85 : decode cX6_command 85 = .ok (.getfield 196, 3) := by decide +kernel
theorem dX6_command_88 : decode cX6_command 88 = .ok (.iconst (-1), 1) := by decide +kernel
theorem dX6_command_89 : decode cX6_command 89 = .ok (.if_icmp .ne 15, 3) := by decide +kernel
theorem dX6_command_92 : decode cX6_command 92 = .ok (.iload_n 2, 1) := by decide +kernel
theorem dX6_command_93 : decode cX6_command 93 = .ok (.ldc 220, 2) := by decide +kernel
theorem dX6_command_95 : decode cX6_command 95 = .ok (.if_icmp .eq 9, 3) := by decide +kernel
theorem dX6_command_98 : decode cX6_command 98 = .ok (.aload_n 0, 1) := by decide +kernel
theorem dX6_command_99 : decode cX6_command 99 = .ok (.invokevirtual 227, 3) := by decide +kernel
theorem dX6_command_102 : decode cX6_command 102 = .ok (.istore 4, 2) := by decide +kernel
theorem dX6_command_104 : decode cX6_command 104 = .ok (.aload_n 0, 1) := by decide +kernel
theorem dX6_command_105 : decode cX6_command 105 = .ok (.bipush 59, 2) := by decide +kernel
theorem dX6_command_107 : decode cX6_command 107 = .ok (.invokevirtual 206, 3) := by decide +kernel
theorem dX6_command_110 : decode cX6_command 110 = .ok (.aload_n 0, 1) := by decide +kernel
theorem dX6_command_111 : decode cX6_command 111 = .ok (.getfield 196, 3) := by decide +kernel
theorem dX6_command_114 : decode cX6_command 114 = .ok (.iconst (-1), 1) := by decide +kernel
theorem dX6_command_115 : decode cX6_command 115 = .ok (.if_icmp .ne 55, 3) := by decide +kernel
theorem dX6_command_118 : decode cX6_command 118 = .ok (.aload_n 0, 1) := by decide +kernel
theorem dX6_command_119 : decode cX6_command 119 = .ok (.getfield 43, 3) := by decide +kernel
theorem dX6_command_122 : decode cX6_command 122 = .ok (.iconst 3, 1) := by decide +kernel
theorem dX6_command_123 : decode cX6_command 123 = .ok (.aload_n 0, 1) := by decide +kernel
theorem dX6_command_124 : decode cX6_command 124 = .ok (.getfield 230, 3) := by decide +kernel
theorem dX6_command_127 : decode cX6_command 127 = .ok (.imul, 1) := by decide +kernel
theorem dX6_command_128 : decode cX6_command 128 = .ok (.iload_n 2, 1) := by decide +kernel
theorem dX6_command_129 : decode cX6_command 129 = .ok (.iastore, 1) := by decide +kernel
theorem dX6_command_130 : decode cX6_command 130 = .ok (.aload_n 0, 1) := by decide +kernel
theorem dX6_command_131 : decode cX6_command 131 = .ok (.getfield 43, 3) := by decide +kernel
theorem dX6_command_134 : decode cX6_command 134 = .ok (.iconst 3, 1) := by decide +kernel
theorem dX6_command_135 : decode cX6_command 135 = .ok (.aload_n 0, 1) := by decide +kernel
theorem dX6_command_136 : decode cX6_command 136 = .ok (.getfield 230, 3) := by decide +kernel
theorem dX6_command_139 : decode cX6_command 139 = .ok (.imul, 1) := by decide +kernel
theorem dX6_command_140 : decode cX6_command 140 = .ok (.iconst 1, 1) := by decide +kernel
theorem dX6_command_141 : decode cX6_command 141 = .ok (.iadd, 1) := by decide +kernel
theorem dX6_command_142 : decode cX6_command 142 = .ok (.iload 4, 2) := by decide +kernel
theorem dX6_command_144 : decode cX6_command 144 = .ok (.iastore, 1) := by decide +kernel
theorem dX6_command_145 : decode cX6_command 145 = .ok (.aload_n 0, 1) := by decide +kernel
theorem dX6_command_146 : decode cX6_command 146 = .ok (.getfield 43, 3) := by decide +kernel
theorem dX6_command_149 : decode cX6_command 149 = .ok (.iconst 3, 1) := by decide +kernel
theorem dX6_command_150 : decode cX6_command 150 = .ok (.aload_n 0, 1) := by decide +kernel
theorem dX6_command_151 : decode cX6_command 151 = .ok (.getfield 230, 3) := by decide +kernel
theorem dX6_command_154 : decode cX6_command 154 = .ok (.imul, 1) := by decide +kernel
theorem dX6_command_155 : decode cX6_command 155 = .ok (.iconst 2, 1) := by decide +kernel
theorem dX6_command_156 : decode cX6_command 156 = .ok (.iadd, 1) := by decide +kernel
theorem dX6_command_157 : decode cX6_command 157 = .ok (.iload 5, 2) := by decide +kernel
theorem dX6_command_159 : decode cX6_command 159 = .ok (.iastore, 1) := by decide +kernel
theorem dX6_command_160 : decode cX6_command 160 = .ok (.aload_n 0, 1) := by decide +kernel
theorem dX6_command_161 : decode cX6_command 161 = .ok (.dup, 1) := by decide +kernel
theorem dX6_command_162 : decode cX6_command 162 = .ok (.getfield 230, 3) := by decide +kernel
theorem dX6_command_165 : decode cX6_command 165 = .ok (.iconst 1, 1) := by decide +kernel
theorem dX6_command_166 : decode cX6_command 166 = .ok (.iadd, 1) := by decide +kernel
theorem dX6_command_167 : decode cX6_command 167 = .ok (.putfield 230, 3) := by decide +kernel
theorem dX6_command_170 : decode cX6_command 170 = .ok (.return_, 1) := by decide +kernel
set_option maxRecDepth 20000 in
theorem ggX6_skips_X6_look : GoodIn wsX6_skips wsX6_look := goodIn_r _ [6, 1, 7, 8, 9, 10, 11, 12, 13, 14, 15, 16, 17, 18, 19, 20, 21, 22, 23, 24, 25, 26] (by decide +kernel) (by decide +kernel)
set_option maxRecDepth 20000 in
theorem gX6_skips_X6_look : GoodIn wsX6_skips (wsV RX6 199 RX6 yX6_look wsX6_look) := goodIn_app (goodIn_of _ (by decide +kernel)) ggX6_skips_X6_look
theorem dX6_skips_0 : decode cX6_skips 0 = .ok (.aload_n 0, 1) := by decide +kernel
theorem dX6_skips_1 : decode cX6_skips 1 = .ok (.invokevirtual 199, 3) := by decide +kernel
theorem dX6_skips_4 : decode cX6_skips 4 = .ok (.bipush 32, 2) := by decide +kernel
theorem dX6_skips_6 : decode cX6_skips 6 = .ok (.if_icmp .ne 16, 3) := by decide +kernel
theorem dX6_skips_9 : decode cX6_skips 9 = .ok (.aload_n 0, 1) := by decide +kernel
theorem dX6_skips_10 : decode cX6_skips 10 = .ok (.dup, 1) := by decide +kernel
theorem dX6_skips_11 : decode cX6_skips 11 = .ok (.getfield 193, 3) := by decide +kernel
theorem dX6_skips_14 : decode cX6_skips 14 = .ok (.iconst 1, 1) := by decide +kernel
theorem dX6_skips_15 : decode cX6_skips 15 = .ok (.iadd, 1) := by decide +kernel
theorem dX6_skips_16 : decode cX6_skips 16 = .ok (.putfield 193, 3) := by decide +kernel
theorem dX6_skips_19 : decode cX6_skips 19 = .ok (.goto (-19), 3) := by decide +kernel
theorem dX6_skips_22 : decode cX6_skips 22 = .ok (.return_, 1) := by decide +kernel
set_option maxRecDepth 20000 in
theorem ggX6_reads_X6_skips : GoodIn wsX6_reads wsX6_skips := goodIn_r _ [9, 1, 10, 11, 12, 8, 13, 4, 14, 62, 63, 64, 65, 66, 67, 68, 69, 70, 71, 72, 73, 74, 75, 76, 77, 78, 79] (by decide +kernel) (by decide +kernel)
set_option maxRecDepth 20000 in
theorem gX6_reads_X6_skips : GoodIn wsX6_reads (wsV RX6 233 RX6 yX6_skips wsX6_skips) := goodIn_app (goodIn_of _ (by decide +kernel)) ggX6_reads_X6_skips
set_option maxRecDepth 20000 in
theorem ggX6_reads_X6_command : GoodIn wsX6_reads wsX6_command := goodIn_r _ [18, 1, 19, 20, 2, 21, 3, 22, 23, 24, 8, 25, 10, 11, 12, 13, 4, 14, 26, 27, 28, 29, 30, 31, 32, 33, 34, 35, 36, 37, 38, 39, 40, 41, 42, 43, 44, 45, 46, 47, 48, 49, 50, 51, 52, 53, 54, 55, 56, 57, 58, 59, 60, 61, 62, 63, 64, 65, 66, 67, 68, 69, 70, 71, 72, 73, 74, 75, 76, 77, 78, 79] (by decide +kernel) (by decide +kernel)
set_option maxRecDepth 20000 in
theorem gX6_reads_X6_command : GoodIn wsX6_reads (wsV RX6 236 RX6 yX6_command wsX6_command) := goodIn_app (goodIn_of _ (by decide +kernel)) ggX6_reads_X6_command
theorem dX6_reads_0 : decode cX6_reads 0 = .ok (.aload_n 0, 1) := by decide +kernel
theorem dX6_reads_1 : decode cX6_reads 1 = .ok (.iconst 0, 1) := by decide +kernel
theorem dX6_reads_2 : decode cX6_reads 2 = .ok (.putfield 193, 3) := by decide +kernel
theorem dX6_reads_5 : decode cX6_reads 5 = .ok (.aload_n 0, 1) := by decide +kernel
theorem dX6_reads_6 : decode cX6_reads 6 = .ok (.iconst (-1), 1) := by decide +kernel
theorem dX6_reads_7 : decode cX6_reads 7 = .ok (.putfield 196, 3) := by decide +kernel
theorem dX6_reads_10 : decode cX6_reads 10 = .ok (.aload_n 0, 1) := by decide +kernel
theorem dX6_reads_11 : decode cX6_reads 11 = .ok (.iconst 0, 1) := by decide +kernel
theorem dX6_reads_12 : decode cX6_reads 12 = .ok (.putfield 230, 3) := by decide +kernel
theorem dX6_reads_15 : decode cX6_reads 15 = .ok (.aload_n 0, 1) := by decide +kernel
theorem dX6_reads_16 : decode cX6_reads 16 = .ok (.invokevirtual 233, 3) := by decide +kernel
theorem dX6_reads_19 : decode cX6_reads 19 = .ok (.aload_n 0, 1) := by decide +kernel
theorem dX6_reads_20 : decode cX6_reads 20 = .ok (.getfield 196, 3) := by decide +kernel
theorem dX6_reads_23 : decode cX6_reads 23 = .ok (.iconst (-1), 1) := by decide +kernel
theorem dX6_reads_24 : decode cX6_reads 24 = .ok (.if_icmp .ne 25, 3) := by decide +kernel
theorem dX6_reads_27 : decode cX6_reads 27 = .ok (.aload_n 0, 1) := by decide +kernel
theorem dX6_reads_28 : decode cX6_reads 28 = .ok (.getfield 193, 3) := by decide +kernel
theorem dX6_reads_31 : decode cX6_reads 31 = .ok (.aload_n 0, 1) := by decide +kernel
theorem dX6_reads_32 : decode cX6_reads 32 = .ok (.getfield 178, 3) := by decide +kernel
theorem dX6_reads_35 : decode cX6_reads 35 = .ok (.if_icmp .ge 14, 3) := by decide +kernel
theorem dX6_reads_38 : decode cX6_reads 38 = .ok (.aload_n 0, 1) := by decide +kernel
theorem dX6_reads_39 : decode cX6_reads 39 = .ok (.invokevirtual 236, 3) := by decide +kernel
theorem dX6_reads_42 : decode cX6_reads 42 = .ok (.aload_n 0, 1) := by decide +kernel
theorem dX6_reads_43 : decode cX6_reads 43 = .ok (.invokevirtual 233, 3) := by decide +kernel
theorem dX6_reads_46 : decode cX6_reads 46 = .ok (.goto (-27), 3) := by decide +kernel
theorem dX6_reads_49 : decode cX6_reads 49 = .ok (.return_, 1) := by decide +kernel
set_option maxRecDepth 20000 in
theorem ggX6_does_X6_adds : GoodIn wsX6_does wsX6_adds := goodIn_r _ [7, 1, 8, 9, 6, 10, 39, 40, 41, 42, 43, 44, 45, 46, 47, 48, 49, 50, 51, 52, 53, 54, 55, 56] (by decide +kernel) (by decide +kernel)
set_option maxRecDepth 20000 in
theorem gX6_does_X6_adds : GoodIn wsX6_does (wsV RX6 121 RX6 yX6_adds wsX6_adds) := goodIn_app (goodIn_of _ (by decide +kernel)) ggX6_does_X6_adds
set_option maxRecDepth 20000 in
theorem ggX6_does_X6_mergesAll : GoodIn wsX6_does wsX6_mergesAll := goodIn_r _ [14, 1, 15, 16, 17, 6, 18, 8, 9, 10, 19, 20, 21, 22, 23, 24, 25, 26, 27, 28, 29, 30, 39, 40, 41, 42, 43, 44, 45, 46, 47, 48, 49, 50, 51, 52, 53, 54, 55, 56] (by decide +kernel) (by decide +kernel)
set_option maxRecDepth 20000 in
theorem gX6_does_X6_mergesAll : GoodIn wsX6_does (wsV RX6 130 RX6 yX6_mergesAll wsX6_mergesAll) := goodIn_app (goodIn_of _ (by decide +kernel)) ggX6_does_X6_mergesAll
set_option maxRecDepth 20000 in
theorem ggX6_does_X6_placeOf : GoodIn wsX6_does wsX6_placeOf := goodIn_r _ [34, 1, 8, 9, 6, 10, 39, 40, 41, 42, 43, 44, 45, 46, 47, 48, 49, 50, 51, 52, 53, 54, 55, 56] (by decide +kernel) (by decide +kernel)
set_option maxRecDepth 20000 in
theorem gX6_does_X6_placeOf : GoodIn wsX6_does (wsV RX6 124 RX6 yX6_placeOf wsX6_placeOf) := goodIn_app (goodIn_of _ (by decide +kernel)) ggX6_does_X6_placeOf
set_option maxRecDepth 20000 in
theorem ggX6_does_X6_ups : GoodIn wsX6_does wsX6_ups := goodIn_r _ [38, 1, 8, 9, 6, 10, 39, 40, 41, 42, 43, 44, 45, 46, 47, 48, 49, 50, 51, 52, 53, 54, 55, 56] (by decide +kernel) (by decide +kernel)
set_option maxRecDepth 20000 in
theorem gX6_does_X6_ups : GoodIn wsX6_does (wsV RX6 127 RX6 yX6_ups wsX6_ups) := goodIn_app (goodIn_of _ (by decide +kernel)) ggX6_does_X6_ups
set_option maxRecDepth 20000 in
theorem ggX6_does_X6_drops : GoodIn wsX6_does wsX6_drops := goodIn_r _ [30, 1, 8, 9, 6, 10, 39, 40, 41, 42, 43, 44, 45, 46, 47, 48, 49, 50, 51, 52, 53, 54, 55, 56] (by decide +kernel) (by decide +kernel)
set_option maxRecDepth 20000 in
theorem gX6_does_X6_drops : GoodIn wsX6_does (wsV RX6 98 RX6 yX6_drops wsX6_drops) := goodIn_app (goodIn_of _ (by decide +kernel)) ggX6_does_X6_drops
theorem dX6_does_0 : decode cX6_does 0 = .ok (.iload_n 1, 1) := by decide +kernel
theorem dX6_does_1 : decode cX6_does 1 = .ok (.sipush 294, 3) := by decide +kernel
theorem dX6_does_4 : decode cX6_does 4 = .ok (.if_icmp .ne 25, 3) := by decide +kernel
theorem dX6_does_7 : decode cX6_does 7 = .ok (.aload_n 0, 1) := by decide +kernel
theorem dX6_does_8 : decode cX6_does 8 = .ok (.getfield 7, 3) := by decide +kernel
theorem dX6_does_11 : decode cX6_does 11 = .ok (.iconst 1, 1) := by decide +kernel
theorem dX6_does_12 : decode cX6_does 12 = .ok (.iaload, 1) := by decide +kernel
theorem dX6_does_13 : decode cX6_does 13 = .ok (.bipush 20, 2) := by decide +kernel
theorem dX6_does_15 : decode cX6_does 15 = .ok (.if_icmp .ge 12, 3) := by decide +kernel
theorem dX6_does_18 : decode cX6_does 18 = .ok (.aload_n 0, 1) := by decide +kernel
theorem dX6_does_19 : decode cX6_does 19 = .ok (.iload_n 2, 1) := by decide +kernel
theorem dX6_does_20 : decode cX6_does 20 = .ok (.iload_n 3, 1) := by decide +kernel
theorem dX6_does_21 : decode cX6_does 21 = .ok (.invokevirtual 121, 3) := by decide +kernel
theorem dX6_does_24 : decode cX6_does 24 = .ok (.pop, 1) := by decide +kernel
theorem dX6_does_25 : decode cX6_does 25 = .ok (.iconst 1, 1) := by decide +kernel
theorem dX6_does_26 : decode cX6_does 26 = .ok (.ireturn, 1) := by decide +kernel
theorem dX6_does_27 : decode cX6_does 27 = .ok (.iconst 0, 1) := by decide +kernel
theorem dX6_does_28 : decode cX6_does 28 = .ok (.ireturn, 1) := by decide +kernel
theorem dX6_does_29 : decode cX6_does 29 = .ok (.iload_n 1, 1) := by decide +kernel
theorem dX6_does_30 : decode cX6_does 30 = .ok (.ldc 220, 2) := by decide +kernel
theorem dX6_does_32 : decode cX6_does 32 = .ok (.if_icmp .ne 10, 3) := by decide +kernel
theorem dX6_does_35 : decode cX6_does 35 = .ok (.aload_n 0, 1) := by decide +kernel
theorem dX6_does_36 : decode cX6_does 36 = .ok (.invokevirtual 130, 3) := by decide +kernel
theorem dX6_does_39 : decode cX6_does 39 = .ok (.pop, 1) := by decide +kernel
theorem dX6_does_40 : decode cX6_does 40 = .ok (.iconst 1, 1) := by decide +kernel
theorem dX6_does_41 : decode cX6_does 41 = .ok (.ireturn, 1) := by decide +kernel
theorem dX6_does_42 : decode cX6_does 42 = .ok (.aload_n 0, 1) := by decide +kernel
theorem dX6_does_43 : decode cX6_does 43 = .ok (.iload_n 2, 1) := by decide +kernel
theorem dX6_does_44 : decode cX6_does 44 = .ok (.invokevirtual 124, 3) := by decide +kernel
theorem dX6_does_47 : decode cX6_does 47 = .ok (.istore 4, 2) := by decide +kernel
theorem dX6_does_49 : decode cX6_does 49 = .ok (.iload 4, 2) := by decide +kernel
theorem dX6_does_51 : decode cX6_does 51 = .ok (.iconst (-1), 1) := by decide +kernel
theorem dX6_does_52 : decode cX6_does 52 = .ok (.if_icmp .eq 15, 3) := by decide +kernel
theorem dX6_does_55 : decode cX6_does 55 = .ok (.iload_n 1, 1) := by decide +kernel
theorem dX6_does_56 : decode cX6_does 56 = .ok (.sipush 688, 3) := by decide +kernel
theorem dX6_does_59 : decode cX6_does 59 = .ok (.if_icmp .ne 10, 3) := by decide +kernel
theorem dX6_does_62 : decode cX6_does 62 = .ok (.iload 4, 2) := by decide +kernel
theorem dX6_does_64 : decode cX6_does 64 = .ok (.ifCond .ne 5, 3) := by decide +kernel
theorem dX6_does_67 : decode cX6_does 67 = .ok (.iconst 0, 1) := by decide +kernel
theorem dX6_does_68 : decode cX6_does 68 = .ok (.ireturn, 1) := by decide +kernel
theorem dX6_does_69 : decode cX6_does 69 = .ok (.iload_n 1, 1) := by decide +kernel
theorem dX6_does_70 : decode cX6_does 70 = .ok (.sipush 688, 3) := by decide +kernel
theorem dX6_does_73 : decode cX6_does 73 = .ok (.if_icmp .ne 12, 3) := by decide +kernel
theorem dX6_does_76 : decode cX6_does 76 = .ok (.aload_n 0, 1) := by decide +kernel
theorem dX6_does_77 : decode cX6_does 77 = .ok (.iload 4, 2) := by decide +kernel
theorem dX6_does_79 : decode cX6_does 79 = .ok (.invokevirtual 127, 3) := by decide +kernel
theorem dX6_does_82 : decode cX6_does 82 = .ok (.goto 9, 3) := by decide +kernel
theorem dX6_does_85 : decode cX6_does 85 = .ok (.aload_n 0, 1) := by decide +kernel
theorem dX6_does_86 : decode cX6_does 86 = .ok (.iload 4, 2) := by decide +kernel
theorem dX6_does_88 : decode cX6_does 88 = .ok (.invokevirtual 98, 3) := by decide +kernel
theorem dX6_does_91 : decode cX6_does 91 = .ok (.iconst 1, 1) := by decide +kernel
theorem dX6_does_92 : decode cX6_does 92 = .ok (.ireturn, 1) := by decide +kernel
set_option maxRecDepth 20000 in
theorem ggX6_runCommands_X6_reads : GoodIn wsX6_runCommands wsX6_reads := goodIn_r _ [9, 10, 2, 3, 11, 12, 13, 14, 8, 15, 16, 17, 18, 19, 20, 21, 22, 23, 24, 25, 26, 4, 27, 28, 29, 30, 31, 32, 33, 34, 35, 36, 37, 38, 39, 40, 41, 42, 43, 44, 45, 46, 47, 48, 49, 50, 51, 52, 53, 54, 55, 56, 57, 58, 59, 60, 61, 62, 63, 64, 65, 66, 112, 113, 114, 115, 116, 117, 118, 119, 120, 121, 122, 123, 124, 125, 126, 127, 128, 129] (by decide +kernel) (by decide +kernel)
set_option maxRecDepth 20000 in
theorem gX6_runCommands_X6_reads : GoodIn wsX6_runCommands (wsV RX6 239 RX6 yX6_reads wsX6_reads) := goodIn_app (goodIn_of _ (by decide +kernel)) ggX6_runCommands_X6_reads
set_option maxRecDepth 20000 in
theorem ggX6_runCommands_X6_keeps : GoodIn wsX6_runCommands wsX6_keeps := goodIn_r _ [70, 71, 72, 42, 112, 113, 114, 115, 116, 117, 118, 119, 120, 121, 122, 123, 124, 125, 126, 127, 128, 129] (by decide +kernel) (by decide +kernel)
set_option maxRecDepth 20000 in
theorem gX6_runCommands_X6_keeps : GoodIn wsX6_runCommands (wsV RX6 111 RX6 yX6_keeps wsX6_keeps) := goodIn_app (goodIn_of _ (by decide +kernel)) ggX6_runCommands_X6_keeps
set_option maxRecDepth 20000 in
theorem ggX6_runCommands_X6_does : GoodIn wsX6_runCommands wsX6_does := goodIn_r _ [76, 42, 26, 77, 78, 79, 8, 80, 81, 82, 83, 84, 85, 86, 87, 88, 89, 90, 91, 92, 93, 94, 95, 96, 97, 98, 99, 100, 101, 102, 103, 104, 105, 106, 107, 108, 109, 110, 111, 112, 113, 114, 115, 116, 117, 118, 119, 120, 121, 122, 123, 124, 125, 126, 127, 128, 129] (by decide +kernel) (by decide +kernel)
set_option maxRecDepth 20000 in
theorem gX6_runCommands_X6_does : GoodIn wsX6_runCommands (wsV RX6 242 RX6 yX6_does wsX6_does) := goodIn_app (goodIn_of _ (by decide +kernel)) ggX6_runCommands_X6_does
theorem dX6_runCommands_0 : decode cX6_runCommands 0 = .ok (.aload_n 0, 1) := by decide +kernel
theorem dX6_runCommands_1 : decode cX6_runCommands 1 = .ok (.iconst 0, 1) := by decide +kernel
theorem dX6_runCommands_2 : decode cX6_runCommands 2 = .ok (.putfield 46, 3) := by decide +kernel
theorem dX6_runCommands_5 : decode cX6_runCommands 5 = .ok (.aload_n 0, 1) := by decide +kernel
theorem dX6_runCommands_6 : decode cX6_runCommands 6 = .ok (.invokevirtual 239, 3) := by decide +kernel
theorem dX6_runCommands_9 : decode cX6_runCommands 9 = .ok (.aload_n 0, 1) := by decide +kernel
theorem dX6_runCommands_10 : decode cX6_runCommands 10 = .ok (.getfield 196, 3) := by decide +kernel
theorem dX6_runCommands_13 : decode cX6_runCommands 13 = .ok (.iconst (-1), 1) := by decide +kernel
theorem dX6_runCommands_14 : decode cX6_runCommands 14 = .ok (.if_icmp .eq 11, 3) := by decide +kernel
theorem dX6_runCommands_17 : decode cX6_runCommands 17 = .ok (.bipush (-10), 2) := by decide +kernel
theorem dX6_runCommands_19 : decode cX6_runCommands 19 = .ok (.aload_n 0, 1) := by decide +kernel
theorem dX6_runCommands_20 : decode cX6_runCommands 20 = .ok (.getfield 196, 3) := by decide +kernel
theorem dX6_runCommands_23 : decode cX6_runCommands 23 = .ok (.isub, 1) := by decide +kernel
theorem dX6_runCommands_24 : decode cX6_runCommands 24 = .ok (.ireturn, 1) := by decide +kernel
theorem dX6_runCommands_25 : decode cX6_runCommands 25 = .ok (.aload_n 0, 1) := by decide +kernel
theorem dX6_runCommands_26 : decode cX6_runCommands 26 = .ok (.invokevirtual 111, 3) := by decide +kernel
theorem dX6_runCommands_29 : decode cX6_runCommands 29 = .ok (.iconst 0, 1) := by decide +kernel
theorem dX6_runCommands_30 : decode cX6_runCommands 30 = .ok (.istore_n 1, 1) := by decide +kernel
theorem dX6_runCommands_31 : decode cX6_runCommands 31 = .ok (.iload_n 1, 1) := by decide +kernel
theorem dX6_runCommands_32 : decode cX6_runCommands 32 = .ok (.aload_n 0, 1) := by decide +kernel
theorem dX6_runCommands_33 : decode cX6_runCommands 33 = .ok (.getfield 230, 3) := by decide +kernel
theorem dX6_runCommands_36 : decode cX6_runCommands 36 = .ok (.if_icmp .ge 44, 3) := by decide +kernel
theorem dX6_runCommands_39 : decode cX6_runCommands 39 = .ok (.aload_n 0, 1) := by decide +kernel
theorem dX6_runCommands_40 : decode cX6_runCommands 40 = .ok (.aload_n 0, 1) := by decide +kernel
theorem dX6_runCommands_41 : decode cX6_runCommands 41 = .ok (.getfield 43, 3) := by decide +kernel
theorem dX6_runCommands_44 : decode cX6_runCommands 44 = .ok (.iconst 3, 1) := by decide +kernel
theorem dX6_runCommands_45 : decode cX6_runCommands 45 = .ok (.iload_n 1, 1) := by decide +kernel
theorem dX6_runCommands_46 : decode cX6_runCommands 46 = .ok (.imul, 1) := by decide +kernel
theorem dX6_runCommands_47 : decode cX6_runCommands 47 = .ok (.iaload, 1) := by decide +kernel
theorem dX6_runCommands_48 : decode cX6_runCommands 48 = .ok (.aload_n 0, 1) := by decide +kernel
theorem dX6_runCommands_49 : decode cX6_runCommands 49 = .ok (.getfield 43, 3) := by decide +kernel
theorem dX6_runCommands_52 : decode cX6_runCommands 52 = .ok (.iconst 3, 1) := by decide +kernel
theorem dX6_runCommands_53 : decode cX6_runCommands 53 = .ok (.iload_n 1, 1) := by decide +kernel
theorem dX6_runCommands_54 : decode cX6_runCommands 54 = .ok (.imul, 1) := by decide +kernel
theorem dX6_runCommands_55 : decode cX6_runCommands 55 = .ok (.iconst 1, 1) := by decide +kernel
theorem dX6_runCommands_56 : decode cX6_runCommands 56 = .ok (.iadd, 1) := by decide +kernel
theorem dX6_runCommands_57 : decode cX6_runCommands 57 = .ok (.iaload, 1) := by decide +kernel
theorem dX6_runCommands_58 : decode cX6_runCommands 58 = .ok (.aload_n 0, 1) := by decide +kernel
theorem dX6_runCommands_59 : decode cX6_runCommands 59 = .ok (.getfield 43, 3) := by decide +kernel
theorem dX6_runCommands_62 : decode cX6_runCommands 62 = .ok (.iconst 3, 1) := by decide +kernel
theorem dX6_runCommands_63 : decode cX6_runCommands 63 = .ok (.iload_n 1, 1) := by decide +kernel
theorem dX6_runCommands_64 : decode cX6_runCommands 64 = .ok (.imul, 1) := by decide +kernel
theorem dX6_runCommands_65 : decode cX6_runCommands 65 = .ok (.iconst 2, 1) := by decide +kernel
theorem dX6_runCommands_66 : decode cX6_runCommands 66 = .ok (.iadd, 1) := by decide +kernel
theorem dX6_runCommands_67 : decode cX6_runCommands 67 = .ok (.iaload, 1) := by decide +kernel
theorem dX6_runCommands_68 : decode cX6_runCommands 68 = .ok (.invokevirtual 242, 3) := by decide +kernel
theorem dX6_runCommands_71 : decode cX6_runCommands 71 = .ok (.ifCond .eq 9, 3) := by decide +kernel
theorem dX6_runCommands_74 : decode cX6_runCommands 74 = .ok (.iinc 1 1, 3) := by decide +kernel
theorem dX6_runCommands_77 : decode cX6_runCommands 77 = .ok (.goto (-46), 3) := by decide +kernel
theorem dX6_runCommands_80 : decode cX6_runCommands 80 = .ok (.iload_n 1, 1) := by decide +kernel
theorem dX6_runCommands_81 : decode cX6_runCommands 81 = .ok (.ireturn, 1) := by decide +kernel
set_option maxRecDepth 20000 in
theorem ggX6_undo_X6_throwing : GoodIn wsX6_undo wsX6_throwing := goodIn_r _ [8, 9, 10, 11, 12, 13, 14, 15, 16, 17, 18, 19, 20, 21, 22, 23, 24, 25, 26, 27] (by decide +kernel) (by decide +kernel)
set_option maxRecDepth 20000 in
theorem gX6_undo_X6_throwing : GoodIn wsX6_undo (wsV RX6 107 RX6 yX6_throwing wsX6_throwing) := goodIn_app (goodIn_of _ (by decide +kernel)) ggX6_undo_X6_throwing
theorem dX6_undo_0 : decode cX6_undo 0 = .ok (.aload_n 0, 1) := by decide +kernel
theorem dX6_undo_1 : decode cX6_undo 1 = .ok (.aload_n 0, 1) := by decide +kernel
theorem dX6_undo_2 : decode cX6_undo 2 = .ok (.getfield 62, 3) := by decide +kernel
theorem dX6_undo_5 : decode cX6_undo 5 = .ok (.ifCond .ne 7, 3) := by decide +kernel
theorem dX6_undo_8 : decode cX6_undo 8 = .ok (.iconst 1, 1) := by decide +kernel
theorem dX6_undo_9 : decode cX6_undo 9 = .ok (.goto 4, 3) := by decide +kernel
theorem dX6_undo_12 : decode cX6_undo 12 = .ok (.iconst 0, 1) := by decide +kernel
theorem dX6_undo_13 : decode cX6_undo 13 = .ok (.iconst 0, 1) := by decide +kernel
theorem dX6_undo_14 : decode cX6_undo 14 = .ok (.invokevirtual 107, 3) := by decide +kernel
theorem dX6_undo_17 : decode cX6_undo 17 = .ok (.ifCond .eq 5, 3) := by decide +kernel
theorem dX6_undo_20 : decode cX6_undo 20 = .ok (.iconst 0, 1) := by decide +kernel
theorem dX6_undo_21 : decode cX6_undo 21 = .ok (.ireturn, 1) := by decide +kernel
theorem dX6_undo_22 : decode cX6_undo 22 = .ok (.aload_n 0, 1) := by decide +kernel
theorem dX6_undo_23 : decode cX6_undo 23 = .ok (.dup, 1) := by decide +kernel
theorem dX6_undo_24 : decode cX6_undo 24 = .ok (.getfield 62, 3) := by decide +kernel
theorem dX6_undo_27 : decode cX6_undo 27 = .ok (.iconst 1, 1) := by decide +kernel
theorem dX6_undo_28 : decode cX6_undo 28 = .ok (.isub, 1) := by decide +kernel
theorem dX6_undo_29 : decode cX6_undo 29 = .ok (.putfield 62, 3) := by decide +kernel
theorem dX6_undo_32 : decode cX6_undo 32 = .ok (.iconst 0, 1) := by decide +kernel
theorem dX6_undo_33 : decode cX6_undo 33 = .ok (.istore_n 1, 1) := by decide +kernel
theorem dX6_undo_34 : decode cX6_undo 34 = .ok (.iload_n 1, 1) := by decide +kernel
theorem dX6_undo_35 : decode cX6_undo 35 = .ok (.bipush 73, 2) := by decide +kernel
theorem dX6_undo_37 : decode cX6_undo 37 = .ok (.if_icmp .ge 29, 3) := by decide +kernel
theorem dX6_undo_40 : decode cX6_undo 40 = .ok (.aload_n 0, 1) := by decide +kernel
theorem dX6_undo_41 : decode cX6_undo 41 = .ok (.getfield 7, 3) := by decide +kernel
theorem dX6_undo_44 : decode cX6_undo 44 = .ok (.iload_n 1, 1) := by decide +kernel
theorem dX6_undo_45 : decode cX6_undo 45 = .ok (.aload_n 0, 1) := by decide +kernel
theorem dX6_undo_46 : decode cX6_undo 46 = .ok (.getfield 13, 3) := by decide +kernel
theorem dX6_undo_49 : decode cX6_undo 49 = .ok (.bipush 73, 2) := by decide +kernel
theorem dX6_undo_51 : decode cX6_undo 51 = .ok (.aload_n 0, 1) := by decide +kernel
theorem dX6_undo_52 : decode cX6_undo 52 = .ok (.getfield 62, 3) := by decide +kernel
theorem dX6_undo_55 : decode cX6_undo 55 = .ok (.imul, 1) := by decide +kernel
theorem dX6_undo_56 : decode cX6_undo 56 = .ok (.iload_n 1, 1) := by decide +kernel
theorem dX6_undo_57 : decode cX6_undo 57 = .ok (.iadd, 1) := by decide +kernel
theorem dX6_undo_58 : decode cX6_undo 58 = .ok (.iaload, 1) := by decide +kernel
theorem dX6_undo_59 : decode cX6_undo 59 = .ok (.iastore, 1) := by decide +kernel
theorem dX6_undo_60 : decode cX6_undo 60 = .ok (.iinc 1 1, 3) := by decide +kernel
theorem dX6_undo_63 : decode cX6_undo 63 = .ok (.goto (-29), 3) := by decide +kernel
theorem dX6_undo_66 : decode cX6_undo 66 = .ok (.aload_n 0, 1) := by decide +kernel
theorem dX6_undo_67 : decode cX6_undo 67 = .ok (.getfield 62, 3) := by decide +kernel
theorem dX6_undo_70 : decode cX6_undo 70 = .ok (.ireturn, 1) := by decide +kernel
set_option maxRecDepth 20000 in
theorem ggX6_digest_X6_lays : GoodIn wsX6_digest wsX6_lays := goodIn_r _ [10, 11, 12, 13, 5, 14, 15, 16, 17, 9, 18, 19, 20, 21, 22, 23, 24, 25, 26, 27, 28, 29, 30, 31, 32, 33, 34, 35, 36, 125, 126, 127, 128, 129, 130, 131, 132, 133, 134, 135, 136, 137, 138, 139, 140, 141, 142] (by decide +kernel) (by decide +kernel)
set_option maxRecDepth 20000 in
theorem gX6_digest_X6_lays : GoodIn wsX6_digest (wsV RX6 133 RX6 yX6_lays wsX6_lays) := goodIn_app (goodIn_of _ (by decide +kernel)) ggX6_digest_X6_lays
set_option maxRecDepth 20000 in
theorem ggX6_digest_X6_laysPlans : GoodIn wsX6_digest wsX6_laysPlans := goodIn_r _ [40, 41, 5, 19, 20, 21, 9, 22, 42, 43, 44, 45, 46, 14, 47, 48, 49, 50, 51, 52, 53, 54, 55, 56, 57, 58, 59, 60, 61, 62, 63, 64, 65, 66, 67, 68, 125, 126, 127, 128, 129, 130, 131, 132, 133, 134, 135, 136, 137, 138, 139, 140, 141, 142] (by decide +kernel) (by decide +kernel)
set_option maxRecDepth 20000 in
theorem gX6_digest_X6_laysPlans : GoodIn wsX6_digest (wsV RX6 181 RX6 yX6_laysPlans wsX6_laysPlans) := goodIn_app (goodIn_of _ (by decide +kernel)) ggX6_digest_X6_laysPlans
set_option maxRecDepth 20000 in
theorem ggX6_digest_X6_wholeValue : GoodIn wsX6_digest wsX6_wholeValue := goodIn_r _ [72, 5, 47, 48, 73, 15, 16, 17, 9, 18, 19, 20, 21, 22, 74, 75, 76, 77, 13, 78, 79, 80, 81, 14, 23, 24, 25, 26, 27, 28, 29, 30, 31, 32, 33, 34, 35, 36, 82, 83, 84, 85, 86, 87, 88, 89, 11, 90, 91, 92, 93, 125, 126, 127, 128, 129, 130, 131, 132, 133, 134, 135, 136, 137, 138, 139, 140, 141, 142] (by decide +kernel) (by decide +kernel)
set_option maxRecDepth 20000 in
theorem gX6_digest_X6_wholeValue : GoodIn wsX6_digest (wsV RX6 184 RX6 yX6_wholeValue wsX6_wholeValue) := goodIn_app (goodIn_of _ (by decide +kernel)) ggX6_digest_X6_wholeValue
set_option maxRecDepth 20000 in
theorem ggX6_digest_X6_conditionOf : GoodIn wsX6_digest wsX6_conditionOf := goodIn_r _ [97, 5, 19, 20, 21, 9, 22, 98, 99, 100, 101, 14, 15, 16, 17, 18, 102, 103, 104, 105, 125, 126, 127, 128, 129, 130, 131, 132, 133, 134, 135, 136, 137, 138, 139, 140, 141, 142] (by decide +kernel) (by decide +kernel)
set_option maxRecDepth 20000 in
theorem gX6_digest_X6_conditionOf : GoodIn wsX6_digest (wsV RX6 145 RX6 yX6_conditionOf wsX6_conditionOf) := goodIn_app (goodIn_of _ (by decide +kernel)) ggX6_digest_X6_conditionOf
set_option maxRecDepth 20000 in
theorem ggX6_digest_X6_r : GoodIn wsX6_digest wsX6_r := goodIn_r _ [33] (by decide +kernel) (by decide +kernel)
set_option maxRecDepth 20000 in
theorem gX6_digest_X6_r : GoodIn wsX6_digest (va_wsS RX6 50 yX6_r wsX6_r) := goodIn_app (goodIn_of _ (by decide +kernel)) ggX6_digest_X6_r
set_option maxRecDepth 20000 in
theorem ggX6_digest_X6_rowOf : GoodIn wsX6_digest wsX6_rowOf := goodIn_r _ [109, 5, 31, 32, 9, 33, 110, 111, 112, 113, 27, 28, 29, 30, 114, 115, 116, 15, 16, 17, 18, 19, 20, 21, 22, 86, 87, 88, 89, 11, 125, 126, 127, 128, 129, 130, 131, 132, 133, 134, 135, 136, 137, 138, 139, 140, 141, 142] (by decide +kernel) (by decide +kernel)
set_option maxRecDepth 20000 in
theorem gX6_digest_X6_rowOf : GoodIn wsX6_digest (wsV RX6 154 RX6 yX6_rowOf wsX6_rowOf) := goodIn_app (goodIn_of _ (by decide +kernel)) ggX6_digest_X6_rowOf
set_option maxRecDepth 20000 in
theorem ggX6_digest_X6_cases : GoodIn wsX6_digest wsX6_cases := goodIn_r _ [18, 5, 19, 20, 21, 9, 22, 125, 126, 127, 128, 129, 130, 131, 132, 133, 134, 135, 136, 137, 138, 139, 140, 141, 142] (by decide +kernel) (by decide +kernel)
set_option maxRecDepth 20000 in
theorem gX6_digest_X6_cases : GoodIn wsX6_digest (wsV RX6 72 RX6 yX6_cases wsX6_cases) := goodIn_app (goodIn_of _ (by decide +kernel)) ggX6_digest_X6_cases
set_option maxRecDepth 20000 in
theorem ggX6_digest_X6_valueOf : GoodIn wsX6_digest wsX6_valueOf := goodIn_r _ [120, 11, 14, 13, 12, 121, 122, 123, 9, 124, 5, 31, 32, 33, 78, 79, 80, 81, 23, 24, 25, 26, 27, 28, 29, 30, 19, 20, 21, 22, 34, 35, 36, 125, 126, 127, 128, 129, 130, 131, 132, 133, 134, 135, 136, 137, 138, 139, 140, 141, 142] (by decide +kernel) (by decide +kernel)
set_option maxRecDepth 20000 in
theorem gX6_digest_X6_valueOf : GoodIn wsX6_digest (wsV RX6 166 RX6 yX6_valueOf wsX6_valueOf) := goodIn_app (goodIn_of _ (by decide +kernel)) ggX6_digest_X6_valueOf
theorem dX6_digest_0 : decode cX6_digest 0 = .ok (.aload_n 0, 1) := by decide +kernel
theorem dX6_digest_1 : decode cX6_digest 1 = .ok (.iconst 0, 1) := by decide +kernel
theorem dX6_digest_2 : decode cX6_digest 2 = .ok (.putfield 46, 3) := by decide +kernel
theorem dX6_digest_5 : decode cX6_digest 5 = .ok (.aload_n 0, 1) := by decide +kernel
theorem dX6_digest_6 : decode cX6_digest 6 = .ok (.iconst (-1), 1) := by decide +kernel
theorem dX6_digest_7 : decode cX6_digest 7 = .ok (.invokevirtual 133, 3) := by decide +kernel
theorem dX6_digest_10 : decode cX6_digest 10 = .ok (.aload_n 0, 1) := by decide +kernel
theorem dX6_digest_11 : decode cX6_digest 11 = .ok (.invokevirtual 181, 3) := by decide +kernel
theorem dX6_digest_14 : decode cX6_digest 14 = .ok (.ldc2_w 245, 3) := by decide +kernel
theorem dX6_digest_17 : decode cX6_digest 17 = .ok (.aload_n 0, 1) := by decide +kernel
theorem dX6_digest_18 : decode cX6_digest 18 = .ok (.getfield 62, 3) := by decide +kernel
theorem dX6_digest_21 : decode cX6_digest 21 = .ok (.i2l, 1) := by decide +kernel
theorem dX6_digest_22 : decode cX6_digest 22 = .ok (.ladd, 1) := by decide +kernel
theorem dX6_digest_23 : decode cX6_digest 23 = .ok (.lstore_n 1, 1) := by decide +kernel
theorem dX6_digest_24 : decode cX6_digest 24 = .ok (.iconst 0, 1) := by decide +kernel
theorem dX6_digest_25 : decode cX6_digest 25 = .ok (.istore_n 3, 1) := by decide +kernel
theorem dX6_digest_26 : decode cX6_digest 26 = .ok (.iload_n 3, 1) := by decide +kernel
theorem dX6_digest_27 : decode cX6_digest 27 = .ok (.bipush 12, 2) := by decide +kernel
theorem dX6_digest_29 : decode cX6_digest 29 = .ok (.if_icmp .ge 22, 3) := by decide +kernel
theorem dX6_digest_32 : decode cX6_digest 32 = .ok (.ldc2_w 247, 3) := by decide +kernel
theorem dX6_digest_35 : decode cX6_digest 35 = .ok (.lload_n 1, 1) := by decide +kernel
theorem dX6_digest_36 : decode cX6_digest 36 = .ok (.lmul, 1) := by decide +kernel
theorem dX6_digest_37 : decode cX6_digest 37 = .ok (.aload_n 0, 1) := by decide +kernel
theorem dX6_digest_38 : decode cX6_digest 38 = .ok (.iload_n 3, 1) := by decide +kernel
theorem dX6_digest_39 : decode cX6_digest 39 = .ok (.invokevirtual 184, 3) := by decide +kernel
theorem dX6_digest_42 : decode cX6_digest 42 = .ok (.i2l, 1) := by decide +kernel
theorem dX6_digest_43 : decode cX6_digest 43 = .ok (.ladd, 1) := by decide +kernel
theorem dX6_digest_44 : decode cX6_digest 44 = .ok (.lstore_n 1, 1) := by decide +kernel
theorem dX6_digest_45 : decode cX6_digest 45 = .ok (.iinc 3 1, 3) := by decide +kernel
theorem dX6_digest_48 : decode cX6_digest 48 = .ok (.goto (-22), 3) := by decide +kernel
theorem dX6_digest_51 : decode cX6_digest 51 = .ok (.iconst 0, 1) := by decide +kernel
theorem dX6_digest_52 : decode cX6_digest 52 = .ok (.istore_n 3, 1) := by decide +kernel
theorem dX6_digest_53 : decode cX6_digest 53 = .ok (.iload_n 3, 1) := by decide +kernel
theorem dX6_digest_54 : decode cX6_digest 54 = .ok (.iconst 3, 1) := by decide +kernel
theorem dX6_digest_55 : decode cX6_digest 55 = .ok (.aload_n 0, 1) := by decide +kernel
theorem dX6_digest_56 : decode cX6_digest 56 = .ok (.getfield 7, 3) := by decide +kernel
theorem dX6_digest_59 : decode cX6_digest 59 = .ok (.iconst 0, 1) := by decide +kernel
theorem dX6_digest_60 : decode cX6_digest 60 = .ok (.iaload, 1) := by decide +kernel
theorem dX6_digest_61 : decode cX6_digest 61 = .ok (.imul, 1) := by decide +kernel
theorem dX6_digest_62 : decode cX6_digest 62 = .ok (.if_icmp .ge 27, 3) := by decide +kernel
theorem dX6_digest_65 : decode cX6_digest 65 = .ok (.ldc2_w 247, 3) := by decide +kernel
theorem dX6_digest_68 : decode cX6_digest 68 = .ok (.lload_n 1, 1) := by decide +kernel
theorem dX6_digest_69 : decode cX6_digest 69 = .ok (.lmul, 1) := by decide +kernel
theorem dX6_digest_70 : decode cX6_digest 70 = .ok (.aload_n 0, 1) := by decide +kernel
theorem dX6_digest_71 : decode cX6_digest 71 = .ok (.iload_n 3, 1) := by decide +kernel
theorem dX6_digest_72 : decode cX6_digest 72 = .ok (.iconst 3, 1) := by decide +kernel
theorem dX6_digest_73 : decode cX6_digest 73 = .ok (.idiv, 1) := by decide +kernel
theorem dX6_digest_74 : decode cX6_digest 74 = .ok (.iload_n 3, 1) := by decide +kernel
theorem dX6_digest_75 : decode cX6_digest 75 = .ok (.iconst 3, 1) := by decide +kernel
theorem dX6_digest_76 : decode cX6_digest 76 = .ok (.irem, 1) := by decide +kernel
theorem dX6_digest_77 : decode cX6_digest 77 = .ok (.invokevirtual 145, 3) := by decide +kernel
theorem dX6_digest_80 : decode cX6_digest 80 = .ok (.i2l, 1) := by decide +kernel
theorem dX6_digest_81 : decode cX6_digest 81 = .ok (.ladd, 1) := by decide +kernel
theorem dX6_digest_82 : decode cX6_digest 82 = .ok (.lstore_n 1, 1) := by decide +kernel
theorem dX6_digest_83 : decode cX6_digest 83 = .ok (.iinc 3 1, 3) := by decide +kernel
theorem dX6_digest_86 : decode cX6_digest 86 = .ok (.goto (-33), 3) := by decide +kernel
theorem dX6_digest_89 : decode cX6_digest 89 = .ok (.iconst 0, 1) := by decide +kernel
theorem dX6_digest_90 : decode cX6_digest 90 = .ok (.istore_n 3, 1) := by decide +kernel
theorem dX6_digest_91 : decode cX6_digest 91 = .ok (.iload_n 3, 1) := by decide +kernel
theorem dX6_digest_92 : decode cX6_digest 92 = .ok (.aload_n 0, 1) := by decide +kernel
theorem dX6_digest_93 : decode cX6_digest 93 = .ok (.getfield 7, 3) := by decide +kernel
theorem dX6_digest_96 : decode cX6_digest 96 = .ok (.iconst 1, 1) := by decide +kernel
theorem dX6_digest_97 : decode cX6_digest 97 = .ok (.iaload, 1) := by decide +kernel
theorem dX6_digest_98 : decode cX6_digest 98 = .ok (.if_icmp .ge 58, 3) := by decide +kernel
theorem dX6_digest_101 : decode cX6_digest 101 = .ok (.ldc2_w 247, 3) := by decide +kernel
theorem dX6_digest_104 : decode cX6_digest 104 = .ok (.lload_n 1, 1) := by decide +kernel
theorem dX6_digest_105 : decode cX6_digest 105 = .ok (.lmul, 1) := by decide +kernel
theorem dX6_digest_106 : decode cX6_digest 106 = .ok (.aload_n 0, 1) := by decide +kernel
theorem dX6_digest_107 : decode cX6_digest 107 = .ok (.getfield 7, 3) := by decide +kernel
theorem dX6_digest_110 : decode cX6_digest 110 = .ok (.iload_n 3, 1) := by decide +kernel
theorem dX6_digest_111 : decode cX6_digest 111 = .ok (.iconst 0, 1) := by decide +kernel
theorem dX6_digest_112 : decode cX6_digest 112 = .ok (.invokestatic 50, 3) := by decide +kernel
theorem dX6_digest_115 : decode cX6_digest 115 = .ok (.iaload, 1) := by decide +kernel
theorem dX6_digest_116 : decode cX6_digest 116 = .ok (.i2l, 1) := by decide +kernel
theorem dX6_digest_117 : decode cX6_digest 117 = .ok (.ladd, 1) := by decide +kernel
theorem dX6_digest_118 : decode cX6_digest 118 = .ok (.lstore_n 1, 1) := by decide +kernel
theorem dX6_digest_119 : decode cX6_digest 119 = .ok (.iconst 0, 1) := by decide +kernel
theorem dX6_digest_120 : decode cX6_digest 120 = .ok (.istore 4, 2) := by decide +kernel
theorem dX6_digest_122 : decode cX6_digest 122 = .ok (.iload 4, 2) := by decide +kernel
theorem dX6_digest_124 : decode cX6_digest 124 = .ok (.bipush 6, 2) := by decide +kernel
theorem dX6_digest_126 : decode cX6_digest 126 = .ok (.if_icmp .ge 24, 3) := by decide +kernel
theorem dX6_digest_129 : decode cX6_digest 129 = .ok (.ldc2_w 247, 3) := by decide +kernel
theorem dX6_digest_132 : decode cX6_digest 132 = .ok (.lload_n 1, 1) := by decide +kernel
theorem dX6_digest_133 : decode cX6_digest 133 = .ok (.lmul, 1) := by decide +kernel
theorem dX6_digest_134 : decode cX6_digest 134 = .ok (.aload_n 0, 1) := by decide +kernel
theorem dX6_digest_135 : decode cX6_digest 135 = .ok (.iload_n 3, 1) := by decide +kernel
theorem dX6_digest_136 : decode cX6_digest 136 = .ok (.iload 4, 2) := by decide +kernel
theorem dX6_digest_138 : decode cX6_digest 138 = .ok (.invokevirtual 154, 3) := by decide +kernel
theorem dX6_digest_141 : decode cX6_digest 141 = .ok (.i2l, 1) := by decide +kernel
theorem dX6_digest_142 : decode cX6_digest 142 = .ok (.ladd, 1) := by decide +kernel
theorem dX6_digest_143 : decode cX6_digest 143 = .ok (.lstore_n 1, 1) := by decide +kernel
theorem dX6_digest_144 : decode cX6_digest 144 = .ok (.iinc 4 1, 3) := by decide +kernel
theorem dX6_digest_147 : decode cX6_digest 147 = .ok (.goto (-25), 3) := by decide +kernel
theorem dX6_digest_150 : decode cX6_digest 150 = .ok (.iinc 3 1, 3) := by decide +kernel
theorem dX6_digest_153 : decode cX6_digest 153 = .ok (.goto (-62), 3) := by decide +kernel
theorem dX6_digest_156 : decode cX6_digest 156 = .ok (.iconst 0, 1) := by decide +kernel
theorem dX6_digest_157 : decode cX6_digest 157 = .ok (.istore_n 3, 1) := by decide +kernel
theorem dX6_digest_158 : decode cX6_digest 158 = .ok (.iload_n 3, 1) := by decide +kernel
theorem dX6_digest_159 : decode cX6_digest 159 = .ok (.aload_n 0, 1) := by decide +kernel
theorem dX6_digest_160 : decode cX6_digest 160 = .ok (.invokevirtual 72, 3) := by decide +kernel
theorem dX6_digest_163 : decode cX6_digest 163 = .ok (.if_icmp .ge 39, 3) := by decide +kernel
theorem dX6_digest_166 : decode cX6_digest 166 = .ok (.iconst 1, 1) := by decide +kernel
theorem dX6_digest_167 : decode cX6_digest 167 = .ok (.istore 4, 2) := by decide +kernel
theorem dX6_digest_169 : decode cX6_digest 169 = .ok (.iload 4, 2) := by decide +kernel
theorem dX6_digest_171 : decode cX6_digest 171 = .ok (.iconst 4, 1) := by decide +kernel
theorem dX6_digest_172 : decode cX6_digest 172 = .ok (.if_icmp .ge 24, 3) := by decide +kernel
theorem dX6_digest_175 : decode cX6_digest 175 = .ok (.ldc2_w 247, 3) := by decide +kernel
theorem dX6_digest_178 : decode cX6_digest 178 = .ok (.lload_n 1, 1) := by decide +kernel
theorem dX6_digest_179 : decode cX6_digest 179 = .ok (.lmul, 1) := by decide +kernel
theorem dX6_digest_180 : decode cX6_digest 180 = .ok (.aload_n 0, 1) := by decide +kernel
theorem dX6_digest_181 : decode cX6_digest 181 = .ok (.iload_n 3, 1) := by decide +kernel
theorem dX6_digest_182 : decode cX6_digest 182 = .ok (.iload 4, 2) := by decide +kernel
theorem dX6_digest_184 : decode cX6_digest 184 = .ok (.invokevirtual 166, 3) := by decide +kernel
theorem dX6_digest_187 : decode cX6_digest 187 = .ok (.i2l, 1) := by decide +kernel
theorem dX6_digest_188 : decode cX6_digest 188 = .ok (.ladd, 1) := by decide +kernel
theorem dX6_digest_189 : decode cX6_digest 189 = .ok (.lstore_n 1, 1) := by decide +kernel
theorem dX6_digest_190 : decode cX6_digest 190 = .ok (.iinc 4 1, 3) := by decide +kernel
theorem dX6_digest_193 : decode cX6_digest 193 = .ok (.goto (-24), 3) := by decide +kernel
theorem dX6_digest_196 : decode cX6_digest 196 = .ok (.iinc 3 1, 3) := by decide +kernel
theorem dX6_digest_199 : decode cX6_digest 199 = .ok (.goto (-41), 3) := by decide +kernel
theorem dX6_digest_202 : decode cX6_digest 202 = .ok (.lload_n 1, 1) := by decide +kernel
theorem dX6_digest_203 : decode cX6_digest 203 = .ok (.lreturn, 1) := by decide +kernel
