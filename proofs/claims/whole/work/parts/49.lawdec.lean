set_option maxRecDepth 20000 in
theorem ggL_law_X5_init : GoodIn wsL_law wsX5_init := goodIn_r _ [9, 10, 11, 12, 13, 14, 15, 16, 17, 18, 19, 20, 21, 22, 23, 24, 25, 26, 27, 28, 29, 30, 31, 32, 33, 34, 35, 36, 37, 38, 39, 40, 41, 42, 43, 44, 45, 46, 47, 48, 49, 50, 51, 52, 53, 54, 55, 56, 57, 58, 59, 60, 61, 62, 63, 64, 65, 66, 67, 68, 69, 70, 71, 72, 73, 74, 75, 76, 77, 78, 79, 1070, 1071, 1072, 1073, 1074, 1075, 1076, 1077, 1045, 1046, 1047, 1048, 1049, 1050, 1051, 1078, 1079, 1080, 1081, 1082, 1083, 1084, 1085, 1086, 1087, 1088, 1089, 1090, 1091, 1092, 1093, 1094, 1095, 1096, 1097, 1098, 1099, 1100, 1101, 1102, 1103, 1104, 1105] (by decide +kernel) (by decide +kernel)
set_option maxRecDepth 20000 in
theorem gL_law_X5_init : GoodIn wsL_law (wsX5_init) := ggL_law_X5_init
set_option maxRecDepth 20000 in
theorem ggL_law_X6_init : GoodIn wsL_law wsX6_init := goodIn_r _ [82, 83, 11, 12, 38, 84, 85, 86, 87, 88, 89, 90, 91, 92, 93, 94, 95, 1052, 1053, 1054, 1055, 1056, 1057, 1058, 1059, 1060, 1061, 1062, 1063, 1064, 1065, 1066, 1067, 1068, 1069] (by decide +kernel) (by decide +kernel)
set_option maxRecDepth 20000 in
theorem gL_law_X6_init : GoodIn wsL_law (wsX6_init) := ggL_law_X6_init
set_option maxRecDepth 20000 in
theorem ggL_law_L_addCondition : GoodIn wsL_law wsL_addCondition := goodIn_ca (goodIn_ca (goodIn_r _ [99, 100, 101, 102, 103, 104, 2, 105, 106, 107, 108, 109, 16, 110, 111, 112, 113, 114, 115, 116, 117, 28, 33, 34, 118, 119, 120, 27, 121, 122, 72, 123, 124, 125, 126, 127, 128, 129, 15, 130, 131, 132, 133, 39, 134, 135, 136, 137, 40, 41, 42, 43, 138, 139, 140, 141, 142, 143, 144, 145, 1045, 1046, 1047, 1048, 1049, 1050, 1051, 1070, 1071, 1072, 1073, 1074, 1075, 1076, 1077, 1096, 1097] (by decide +kernel) (by decide +kernel)) (goodIn_sub (fun _ h => List.mem_append_left _ (List.mem_append_left _ (List.mem_append_right _ h))) (by decide +kernel))) (goodIn_sub (fun _ h => List.mem_append_left _ (List.mem_append_right _ h)) (by decide +kernel))
set_option maxRecDepth 20000 in
theorem gL_law_L_addCondition : GoodIn wsL_law (va_wsS RL 92 yL_addCondition wsL_addCondition) := goodIn_app (goodIn_of _ (by decide +kernel)) ggL_law_L_addCondition
set_option maxRecDepth 20000 in
theorem ggL_law_X6_addCondition : GoodIn wsL_law wsX6_addCondition := goodIn_r _ [149, 84, 150, 151, 5, 152, 153, 154, 155, 156, 157, 158, 159, 160, 161, 162, 85, 163, 164, 165, 1052, 1053, 1054, 1055, 1056, 1057, 1058, 1059, 1060, 1061, 1062, 1063, 1064, 1065, 1066, 1067, 1068, 1069] (by decide +kernel) (by decide +kernel)
set_option maxRecDepth 20000 in
theorem gL_law_X6_addCondition : GoodIn wsL_law (wsV RL 97 RX6 yX6_addCondition wsX6_addCondition) := goodIn_app (goodIn_of _ (by decide +kernel)) ggL_law_X6_addCondition
set_option maxRecDepth 20000 in
theorem ggL_law_X6_thrown : GoodIn wsL_law wsX6_thrown := goodIn_r _ [169, 157, 1052, 1053, 1054, 1055, 1056, 1057, 1058, 1059, 1060, 1061, 1062, 1063, 1064, 1065, 1066, 1067, 1068, 1069] (by decide +kernel) (by decide +kernel)
set_option maxRecDepth 20000 in
theorem gL_law_X6_thrown : GoodIn wsL_law (wsV RL 98 RX6 yX6_thrown wsX6_thrown) := goodIn_app (goodIn_of _ (by decide +kernel)) ggL_law_X6_thrown
set_option maxRecDepth 20000 in
theorem ggL_law_L_setCost : GoodIn wsL_law wsL_setCost := goodIn_ca (goodIn_ca (goodIn_r _ [172, 173, 100, 174, 175, 176, 2, 177, 178, 179, 106, 107, 16, 180, 181, 182, 183, 184, 110, 111, 112, 113, 114, 115, 116, 117, 28, 33, 34, 118, 119, 120, 27, 121, 122, 72, 123, 124, 125, 126, 127, 128, 129, 15, 130, 131, 132, 133, 39, 134, 135, 136, 137, 40, 41, 42, 43, 1045, 1046, 1047, 1048, 1049, 1050, 1051, 1070, 1071, 1072, 1073, 1074, 1075, 1076, 1077, 1096, 1097] (by decide +kernel) (by decide +kernel)) (goodIn_sub (fun _ h => List.mem_append_right _ h) (by decide +kernel))) (goodIn_sub (fun _ h => List.mem_append_left _ (List.mem_append_left _ (List.mem_append_right _ h))) (by decide +kernel))
set_option maxRecDepth 20000 in
theorem gL_law_L_setCost : GoodIn wsL_law (va_wsS RL 101 yL_setCost wsL_setCost) := goodIn_app (goodIn_of _ (by decide +kernel)) ggL_law_L_setCost
set_option maxRecDepth 20000 in
theorem ggL_law_X6_setCost : GoodIn wsL_law wsX6_setCost := goodIn_r _ [188, 84, 189, 190, 191, 5, 192, 150, 151, 152, 153, 154, 155, 156, 157, 158, 159, 160, 161, 162, 85, 1052, 1053, 1054, 1055, 1056, 1057, 1058, 1059, 1060, 1061, 1062, 1063, 1064, 1065, 1066, 1067, 1068, 1069] (by decide +kernel) (by decide +kernel)
set_option maxRecDepth 20000 in
theorem gL_law_X6_setCost : GoodIn wsL_law (wsV RL 103 RX6 yX6_setCost wsX6_setCost) := goodIn_app (goodIn_of _ (by decide +kernel)) ggL_law_X6_setCost
set_option maxRecDepth 20000 in
theorem ggL_law_L_addRow : GoodIn wsL_law wsL_addRow := goodIn_ca (goodIn_ca (goodIn_r _ [195, 100, 101, 196, 197, 198, 2, 199, 106, 107, 108, 109, 16, 200, 201, 202, 203, 204, 205, 206, 15, 207, 131, 208, 209, 210, 211, 142, 143, 144, 145, 39, 114, 115, 116, 117, 28, 33, 34, 118, 119, 120, 27, 121, 122, 72, 123, 124, 125, 126, 127, 128, 129, 130, 132, 133, 134, 135, 136, 137, 40, 41, 42, 43, 212, 213, 214, 215, 1045, 1046, 1047, 1048, 1049, 1050, 1051, 1070, 1071, 1072, 1073, 1074, 1075, 1076, 1077, 1096, 1097] (by decide +kernel) (by decide +kernel)) (goodIn_sub (fun _ h => List.mem_append_left _ (List.mem_append_left _ (List.mem_append_right _ h))) (by decide +kernel))) (goodIn_sub (fun _ h => List.mem_append_left _ (List.mem_append_right _ h)) (by decide +kernel))
set_option maxRecDepth 20000 in
theorem gL_law_L_addRow : GoodIn wsL_law (va_wsS RL 104 yL_addRow wsL_addRow) := goodIn_app (goodIn_of _ (by decide +kernel)) ggL_law_L_addRow
set_option maxRecDepth 20000 in
theorem ggL_law_X6_addRow : GoodIn wsL_law wsX6_addRow := goodIn_r _ [219, 84, 150, 151, 5, 152, 220, 221, 222, 223, 224, 225, 226, 227, 153, 154, 155, 156, 157, 158, 159, 160, 161, 162, 85, 228, 229, 230, 231, 163, 164, 165, 1052, 1053, 1054, 1055, 1056, 1057, 1058, 1059, 1060, 1061, 1062, 1063, 1064, 1065, 1066, 1067, 1068, 1069] (by decide +kernel) (by decide +kernel)
set_option maxRecDepth 20000 in
theorem gL_law_X6_addRow : GoodIn wsL_law (wsV RL 106 RX6 yX6_addRow wsX6_addRow) := goodIn_app (goodIn_of _ (by decide +kernel)) ggL_law_X6_addRow
set_option maxRecDepth 20000 in
theorem ggL_law_L_setAnswers : GoodIn wsL_law wsL_setAnswers := goodIn_ca (goodIn_ca (goodIn_r _ [234, 173, 100, 235, 236, 237, 2, 238, 178, 179, 106, 107, 16, 239, 240, 241, 15, 242, 133, 41, 181, 182, 183, 184, 110, 243, 209, 210, 211, 142, 143, 144, 145, 39, 114, 115, 116, 117, 28, 33, 34, 118, 119, 120, 27, 121, 122, 72, 123, 124, 125, 126, 127, 128, 129, 130, 131, 132, 134, 135, 136, 137, 40, 42, 43, 244, 245, 246, 247, 248, 249, 250, 251, 1045, 1046, 1047, 1048, 1049, 1050, 1051, 1070, 1071, 1072, 1073, 1074, 1075, 1076, 1077, 1096, 1097] (by decide +kernel) (by decide +kernel)) (goodIn_sub (fun _ h => List.mem_append_right _ h) (by decide +kernel))) (goodIn_sub (fun _ h => List.mem_append_left _ (List.mem_append_left _ (List.mem_append_right _ h))) (by decide +kernel))
set_option maxRecDepth 20000 in
theorem gL_law_L_setAnswers : GoodIn wsL_law (va_wsS RL 107 yL_setAnswers wsL_setAnswers) := goodIn_app (goodIn_of _ (by decide +kernel)) ggL_law_L_setAnswers
set_option maxRecDepth 20000 in
theorem ggL_law_X6_setAnswers : GoodIn wsL_law wsX6_setAnswers := goodIn_r _ [255, 84, 256, 257, 258, 5, 259, 163, 164, 165, 189, 190, 191, 192, 150, 151, 152, 224, 225, 226, 227, 153, 154, 155, 156, 157, 158, 159, 160, 161, 162, 85, 260, 261, 262, 263, 1052, 1053, 1054, 1055, 1056, 1057, 1058, 1059, 1060, 1061, 1062, 1063, 1064, 1065, 1066, 1067, 1068, 1069] (by decide +kernel) (by decide +kernel)
set_option maxRecDepth 20000 in
theorem gL_law_X6_setAnswers : GoodIn wsL_law (wsV RL 110 RX6 yX6_setAnswers wsX6_setAnswers) := goodIn_app (goodIn_of _ (by decide +kernel)) ggL_law_X6_setAnswers
set_option maxRecDepth 20000 in
theorem ggL_law_L_setAction : GoodIn wsL_law wsL_setAction := goodIn_ca (goodIn_ca (goodIn_r _ [266, 173, 100, 267, 268, 269, 2, 270, 178, 179, 106, 107, 16, 271, 239, 240, 241, 15, 242, 133, 41, 201, 202, 203, 114, 115, 116, 117, 28, 33, 34, 118, 119, 120, 27, 121, 122, 72, 123, 124, 125, 126, 127, 128, 129, 130, 131, 132, 39, 134, 135, 136, 137, 40, 42, 43, 1045, 1046, 1047, 1048, 1049, 1050, 1051, 1070, 1071, 1072, 1073, 1074, 1075, 1076, 1077, 1096, 1097] (by decide +kernel) (by decide +kernel)) (goodIn_sub (fun _ h => List.mem_append_right _ h) (by decide +kernel))) (goodIn_sub (fun _ h => List.mem_append_left _ (List.mem_append_left _ (List.mem_append_right _ h))) (by decide +kernel))
set_option maxRecDepth 20000 in
theorem gL_law_L_setAction : GoodIn wsL_law (va_wsS RL 111 yL_setAction wsL_setAction) := goodIn_app (goodIn_of _ (by decide +kernel)) ggL_law_L_setAction
set_option maxRecDepth 20000 in
theorem ggL_law_X6_setAction : GoodIn wsL_law wsX6_setAction := goodIn_r _ [275, 84, 256, 257, 258, 5, 259, 163, 164, 165, 150, 151, 152, 153, 154, 155, 156, 157, 158, 159, 160, 161, 162, 85, 1052, 1053, 1054, 1055, 1056, 1057, 1058, 1059, 1060, 1061, 1062, 1063, 1064, 1065, 1066, 1067, 1068, 1069] (by decide +kernel) (by decide +kernel)
set_option maxRecDepth 20000 in
theorem gL_law_X6_setAction : GoodIn wsL_law (wsV RL 113 RX6 yX6_setAction wsX6_setAction) := goodIn_app (goodIn_of _ (by decide +kernel)) ggL_law_X6_setAction
set_option maxRecDepth 20000 in
theorem ggL_law_L_dropRow : GoodIn wsL_law wsL_dropRow := goodIn_ca (goodIn_r _ [278, 173, 279, 280, 281, 2, 282, 178, 179, 16, 239, 240, 241, 15, 242, 133, 41, 114, 115, 116, 117, 28, 33, 34, 118, 119, 120, 27, 121, 122, 72, 123, 124, 125, 126, 127, 128, 129, 130, 131, 132, 39, 134, 135, 136, 137, 40, 42, 43, 283, 284, 285, 286, 287, 288, 289, 290, 1045, 1046, 1047, 1048, 1049, 1050, 1051, 1070, 1071, 1072, 1073, 1074, 1075, 1076, 1077, 1096, 1097] (by decide +kernel) (by decide +kernel)) (goodIn_sub (fun _ h => List.mem_append_right _ h) (by decide +kernel))
set_option maxRecDepth 20000 in
theorem gL_law_L_dropRow : GoodIn wsL_law (va_wsS RL 114 yL_dropRow wsL_dropRow) := goodIn_app (goodIn_of _ (by decide +kernel)) ggL_law_L_dropRow
set_option maxRecDepth 20000 in
theorem ggL_law_X6_dropRow : GoodIn wsL_law wsX6_dropRow := goodIn_r _ [294, 256, 257, 258, 5, 259, 84, 163, 164, 165, 153, 154, 155, 156, 157, 158, 159, 160, 161, 162, 85, 295, 296, 297, 298, 1052, 1053, 1054, 1055, 1056, 1057, 1058, 1059, 1060, 1061, 1062, 1063, 1064, 1065, 1066, 1067, 1068, 1069] (by decide +kernel) (by decide +kernel)
set_option maxRecDepth 20000 in
theorem gL_law_X6_dropRow : GoodIn wsL_law (wsV RL 117 RX6 yX6_dropRow wsX6_dropRow) := goodIn_app (goodIn_of _ (by decide +kernel)) ggL_law_X6_dropRow
set_option maxRecDepth 20000 in
theorem ggL_law_L_moveUp : GoodIn wsL_law wsL_moveUp := goodIn_ca (goodIn_ca (goodIn_r _ [301, 173, 101, 302, 303, 304, 2, 305, 178, 179, 108, 109, 16, 239, 240, 241, 15, 242, 133, 41, 114, 115, 116, 117, 28, 33, 34, 118, 119, 120, 27, 121, 122, 72, 123, 124, 125, 126, 127, 128, 129, 130, 131, 132, 39, 134, 135, 136, 137, 40, 42, 43, 306, 307, 308, 309, 287, 288, 289, 290, 1045, 1046, 1047, 1048, 1049, 1050, 1051, 1070, 1071, 1072, 1073, 1074, 1075, 1076, 1077, 1096, 1097] (by decide +kernel) (by decide +kernel)) (goodIn_sub (fun _ h => List.mem_append_right _ h) (by decide +kernel))) (goodIn_sub (fun _ h => List.mem_append_left _ (List.mem_append_right _ h)) (by decide +kernel))
set_option maxRecDepth 20000 in
theorem gL_law_L_moveUp : GoodIn wsL_law (va_wsS RL 118 yL_moveUp wsL_moveUp) := goodIn_app (goodIn_of _ (by decide +kernel)) ggL_law_L_moveUp
set_option maxRecDepth 20000 in
theorem ggL_law_X6_moveUp : GoodIn wsL_law wsX6_moveUp := goodIn_r _ [313, 256, 257, 258, 5, 259, 84, 163, 164, 165, 153, 154, 155, 156, 157, 158, 159, 160, 161, 162, 85, 314, 315, 316, 317, 1052, 1053, 1054, 1055, 1056, 1057, 1058, 1059, 1060, 1061, 1062, 1063, 1064, 1065, 1066, 1067, 1068, 1069] (by decide +kernel) (by decide +kernel)
set_option maxRecDepth 20000 in
theorem gL_law_X6_moveUp : GoodIn wsL_law (wsV RL 120 RX6 yX6_moveUp wsX6_moveUp) := goodIn_app (goodIn_of _ (by decide +kernel)) ggL_law_X6_moveUp
set_option maxRecDepth 20000 in
theorem ggL_law_L_merge : GoodIn wsL_law wsL_merge := goodIn_ca (goodIn_ca (goodIn_r _ [320, 173, 101, 321, 322, 323, 2, 324, 178, 179, 108, 109, 16, 239, 240, 241, 15, 242, 133, 41, 325, 326, 327, 328, 43, 131, 248, 249, 250, 251, 42, 114, 115, 116, 117, 28, 33, 34, 118, 119, 120, 27, 121, 122, 72, 123, 124, 125, 126, 127, 128, 129, 130, 132, 39, 134, 135, 136, 137, 40, 329, 330, 331, 332, 333, 284, 285, 286, 287, 288, 289, 290, 1045, 1046, 1047, 1048, 1049, 1050, 1051, 1070, 1071, 1072, 1073, 1074, 1075, 1076, 1077, 1096, 1097] (by decide +kernel) (by decide +kernel)) (goodIn_sub (fun _ h => List.mem_append_right _ h) (by decide +kernel))) (goodIn_sub (fun _ h => List.mem_append_left _ (List.mem_append_right _ h)) (by decide +kernel))
set_option maxRecDepth 20000 in
theorem gL_law_L_merge : GoodIn wsL_law (va_wsS RL 121 yL_merge wsL_merge) := goodIn_app (goodIn_of _ (by decide +kernel)) ggL_law_L_merge
set_option maxRecDepth 20000 in
theorem ggL_law_X6_merge : GoodIn wsL_law wsX6_merge := goodIn_r _ [337, 84, 256, 257, 258, 5, 259, 163, 164, 165, 338, 339, 340, 341, 260, 261, 262, 263, 153, 154, 155, 156, 157, 158, 159, 160, 161, 162, 85, 342, 343, 344, 345, 295, 296, 297, 298, 1052, 1053, 1054, 1055, 1056, 1057, 1058, 1059, 1060, 1061, 1062, 1063, 1064, 1065, 1066, 1067, 1068, 1069] (by decide +kernel) (by decide +kernel)
set_option maxRecDepth 20000 in
theorem gL_law_X6_merge : GoodIn wsL_law (wsV RL 123 RX6 yX6_merge wsX6_merge) := goodIn_app (goodIn_of _ (by decide +kernel)) ggL_law_X6_merge
set_option maxRecDepth 20000 in
theorem ggL_law_X5_mergeAll : GoodIn wsL_law wsX5_mergeAll := goodIn_r _ [349, 16, 114, 115, 116, 2, 117, 28, 33, 34, 118, 119, 120, 27, 121, 122, 72, 123, 124, 125, 126, 127, 128, 129, 15, 130, 131, 132, 133, 39, 134, 135, 136, 137, 40, 41, 42, 43, 350, 351, 352, 353, 354, 355, 356, 357, 358, 326, 327, 328, 248, 249, 250, 251, 359, 330, 331, 332, 333, 284, 285, 286, 287, 288, 289, 290, 1045, 1046, 1047, 1048, 1049, 1050, 1051, 1096, 1097, 1070, 1071, 1072, 1073, 1074, 1075, 1076, 1077] (by decide +kernel) (by decide +kernel)
set_option maxRecDepth 20000 in
theorem gL_law_X5_mergeAll : GoodIn wsL_law (wsV RL 124 RX5 yX5_mergeAll wsX5_mergeAll) := goodIn_app (goodIn_of _ (by decide +kernel)) ggL_law_X5_mergeAll
set_option maxRecDepth 20000 in
theorem ggL_law_X6_mergeAll : GoodIn wsL_law wsX6_mergeAll := goodIn_r _ [363, 157, 158, 159, 160, 5, 161, 162, 85, 84, 364, 365, 366, 367, 338, 339, 340, 341, 163, 164, 165, 260, 261, 262, 263, 342, 343, 344, 345, 295, 296, 297, 298, 1052, 1053, 1054, 1055, 1056, 1057, 1058, 1059, 1060, 1061, 1062, 1063, 1064, 1065, 1066, 1067, 1068, 1069] (by decide +kernel) (by decide +kernel)
set_option maxRecDepth 20000 in
theorem gL_law_X6_mergeAll : GoodIn wsL_law (wsV RL 127 RX6 yX6_mergeAll wsX6_mergeAll) := goodIn_app (goodIn_of _ (by decide +kernel)) ggL_law_X6_mergeAll
set_option maxRecDepth 20000 in
theorem ggL_law_X5_prune : GoodIn wsL_law wsX5_prune := goodIn_r _ [371, 16, 200, 20, 372, 373, 374, 375, 2, 376, 33, 377, 378, 379, 19, 380, 381, 382, 383, 56, 384, 385, 386, 387, 388, 49, 57, 389, 48, 390, 391, 392, 393, 394, 50, 51, 53, 55, 395, 396, 397, 52, 398, 399, 400, 401, 114, 115, 116, 117, 28, 34, 118, 119, 120, 27, 121, 122, 72, 123, 124, 125, 126, 127, 128, 129, 15, 130, 131, 132, 133, 39, 134, 135, 136, 137, 40, 41, 42, 43, 283, 284, 285, 286, 287, 288, 289, 290, 1045, 1046, 1047, 1048, 1049, 1050, 1051, 1070, 1071, 1072, 1073, 1074, 1075, 1076, 1077, 1078, 1079, 1080, 1081, 1082, 1083, 1084, 1085, 1086, 1087, 1088, 1089, 1090, 1096, 1097] (by decide +kernel) (by decide +kernel)
set_option maxRecDepth 20000 in
theorem gL_law_X5_prune : GoodIn wsL_law (wsV RL 128 RX5 yX5_prune wsX5_prune) := goodIn_app (goodIn_of _ (by decide +kernel)) ggL_law_X5_prune
set_option maxRecDepth 20000 in
theorem ggL_law_X6_prune : GoodIn wsL_law wsX6_prune := goodIn_r _ [405, 157, 84, 158, 159, 160, 5, 161, 162, 85, 406, 407, 408, 409, 87, 89, 88, 90, 410, 411, 412, 413, 224, 225, 226, 227, 414, 415, 416, 417, 260, 261, 262, 263, 163, 164, 165, 418, 419, 420, 421, 422, 423, 424, 295, 296, 297, 298, 1052, 1053, 1054, 1055, 1056, 1057, 1058, 1059, 1060, 1061, 1062, 1063, 1064, 1065, 1066, 1067, 1068, 1069] (by decide +kernel) (by decide +kernel)
set_option maxRecDepth 20000 in
theorem gL_law_X6_prune : GoodIn wsL_law (wsV RL 131 RX6 yX6_prune wsX6_prune) := goodIn_app (goodIn_of _ (by decide +kernel)) ggL_law_X6_prune
set_option maxRecDepth 20000 in
theorem ggL_law_L_condition : GoodIn wsL_law wsL_condition := goodIn_ca (goodIn_ca (goodIn_r _ [427, 173, 100, 428, 429, 430, 2, 431, 178, 179, 106, 107, 181, 182, 183, 184, 16, 110, 432, 433, 434, 435, 436, 180, 20, 373, 374, 375, 376, 33, 377, 378, 379, 19, 380, 381, 382, 383, 56, 384, 385, 386, 387, 388, 49, 57, 389, 48, 390, 391, 392, 393, 394, 50, 51, 53, 55, 395, 396, 397, 52, 398, 399, 400, 401, 437, 438, 439, 440, 1045, 1046, 1047, 1048, 1049, 1050, 1051, 1070, 1071, 1072, 1073, 1074, 1075, 1076, 1077, 1078, 1079, 1080, 1081, 1082, 1083, 1084, 1085, 1086, 1087, 1088, 1089, 1090] (by decide +kernel) (by decide +kernel)) (goodIn_sub (fun _ h => List.mem_append_right _ h) (by decide +kernel))) (goodIn_sub (fun _ h => List.mem_append_left _ (List.mem_append_left _ (List.mem_append_right _ h))) (by decide +kernel))
set_option maxRecDepth 20000 in
theorem gL_law_L_condition : GoodIn wsL_law (va_wsS RL 132 yL_condition wsL_condition) := goodIn_app (goodIn_of _ (by decide +kernel)) ggL_law_L_condition
set_option maxRecDepth 20000 in
theorem ggL_law_X6_condition : GoodIn wsL_law wsX6_condition := goodIn_r _ [444, 189, 190, 191, 5, 192, 84, 150, 151, 152, 153, 154, 155, 156, 157, 406, 407, 408, 409, 87, 89, 88, 90, 410, 411, 412, 413, 224, 225, 226, 227, 414, 415, 416, 417, 260, 261, 262, 263, 163, 164, 165, 418, 419, 420, 445, 446, 447, 448, 449, 450, 451, 452, 453, 454, 455, 456, 1052, 1053, 1054, 1055, 1056, 1057, 1058, 1059, 1060, 1061, 1062, 1063, 1064, 1065, 1066, 1067, 1068, 1069] (by decide +kernel) (by decide +kernel)
set_option maxRecDepth 20000 in
theorem gL_law_X6_condition : GoodIn wsL_law (wsV RL 134 RX6 yX6_condition wsX6_condition) := goodIn_app (goodIn_of _ (by decide +kernel)) ggL_law_X6_condition
set_option maxRecDepth 20000 in
theorem ggL_law_L_row : GoodIn wsL_law wsL_row := goodIn_ca (goodIn_ca (goodIn_r _ [459, 173, 100, 460, 461, 462, 2, 463, 178, 179, 106, 107, 16, 239, 240, 241, 15, 242, 133, 41, 464, 465, 466, 467, 271, 20, 372, 468, 469, 470, 471, 472, 131, 248, 249, 250, 251, 42, 473, 474, 475, 476, 477, 478, 479, 373, 374, 375, 376, 33, 377, 378, 379, 19, 380, 381, 382, 383, 56, 384, 385, 386, 387, 388, 49, 57, 389, 48, 390, 391, 392, 393, 394, 50, 51, 53, 55, 395, 396, 397, 52, 398, 399, 400, 401, 1045, 1046, 1047, 1048, 1049, 1050, 1051, 1070, 1071, 1072, 1073, 1074, 1075, 1076, 1077, 1078, 1079, 1080, 1081, 1082, 1083, 1084, 1085, 1086, 1087, 1088, 1089, 1090] (by decide +kernel) (by decide +kernel)) (goodIn_sub (fun _ h => List.mem_append_right _ h) (by decide +kernel))) (goodIn_sub (fun _ h => List.mem_append_left _ (List.mem_append_left _ (List.mem_append_right _ h))) (by decide +kernel))
set_option maxRecDepth 20000 in
theorem gL_law_L_row : GoodIn wsL_law (va_wsS RL 135 yL_row wsL_row) := goodIn_app (goodIn_of _ (by decide +kernel)) ggL_law_L_row
set_option maxRecDepth 20000 in
theorem ggL_law_X6_row : GoodIn wsL_law wsX6_row := goodIn_r _ [483, 256, 257, 258, 5, 259, 84, 163, 164, 165, 150, 151, 152, 153, 154, 155, 156, 157, 406, 407, 408, 409, 87, 89, 88, 90, 410, 411, 412, 413, 224, 225, 226, 227, 414, 415, 416, 417, 260, 261, 262, 263, 418, 419, 420, 484, 485, 486, 487, 488, 489, 490, 491, 492, 493, 494, 421, 422, 423, 424, 1052, 1053, 1054, 1055, 1056, 1057, 1058, 1059, 1060, 1061, 1062, 1063, 1064, 1065, 1066, 1067, 1068, 1069] (by decide +kernel) (by decide +kernel)
set_option maxRecDepth 20000 in
theorem gL_law_X6_row : GoodIn wsL_law (wsV RL 137 RX6 yX6_row wsX6_row) := goodIn_app (goodIn_of _ (by decide +kernel)) ggL_law_X6_row
set_option maxRecDepth 20000 in
theorem ggL_law_L_answers : GoodIn wsL_law wsL_answers := goodIn_ca (goodIn_r _ [497, 173, 498, 499, 500, 2, 501, 178, 179, 16, 239, 240, 241, 15, 242, 133, 41, 181, 182, 183, 184, 110, 502, 249, 250, 251, 42, 1045, 1046, 1047, 1048, 1049, 1050, 1051, 1070, 1071, 1072, 1073, 1074, 1075, 1076, 1077] (by decide +kernel) (by decide +kernel)) (goodIn_sub (fun _ h => List.mem_append_right _ h) (by decide +kernel))
set_option maxRecDepth 20000 in
theorem gL_law_L_answers : GoodIn wsL_law (va_wsS RL 138 yL_answers wsL_answers) := goodIn_app (goodIn_of _ (by decide +kernel)) ggL_law_L_answers
set_option maxRecDepth 20000 in
theorem ggL_law_X6_answers : GoodIn wsL_law wsX6_answers := goodIn_r _ [506, 256, 257, 258, 5, 259, 84, 163, 164, 165, 189, 190, 191, 192, 150, 151, 152, 153, 154, 155, 156, 157, 260, 261, 262, 263, 1052, 1053, 1054, 1055, 1056, 1057, 1058, 1059, 1060, 1061, 1062, 1063, 1064, 1065, 1066, 1067, 1068, 1069] (by decide +kernel) (by decide +kernel)
set_option maxRecDepth 20000 in
theorem gL_law_X6_answers : GoodIn wsL_law (wsV RL 140 RX6 yX6_answers wsX6_answers) := goodIn_app (goodIn_of _ (by decide +kernel)) ggL_law_X6_answers
set_option maxRecDepth 20000 in
theorem ggL_law_L_rowAt : GoodIn wsL_law wsL_rowAt := goodIn_ca (goodIn_r _ [509, 100, 510, 511, 512, 2, 513, 106, 107, 16, 200, 514, 1045, 1046, 1047, 1048, 1049, 1050, 1051, 1070, 1071, 1072, 1073, 1074, 1075, 1076, 1077] (by decide +kernel) (by decide +kernel)) (goodIn_sub (fun _ h => List.mem_append_left _ (List.mem_append_left _ (List.mem_append_right _ h))) (by decide +kernel))
set_option maxRecDepth 20000 in
theorem gL_law_L_rowAt : GoodIn wsL_law (va_wsS RL 141 yL_rowAt wsL_rowAt) := goodIn_app (goodIn_of _ (by decide +kernel)) ggL_law_L_rowAt
set_option maxRecDepth 20000 in
theorem ggL_law_X6_rowAt : GoodIn wsL_law wsX6_rowAt := goodIn_r _ [518, 84, 153, 154, 155, 5, 156, 157, 163, 164, 165, 1052, 1053, 1054, 1055, 1056, 1057, 1058, 1059, 1060, 1061, 1062, 1063, 1064, 1065, 1066, 1067, 1068, 1069] (by decide +kernel) (by decide +kernel)
set_option maxRecDepth 20000 in
theorem gL_law_X6_rowAt : GoodIn wsL_law (wsV RL 143 RX6 yX6_rowAt wsX6_rowAt) := goodIn_app (goodIn_of _ (by decide +kernel)) ggL_law_X6_rowAt
set_option maxRecDepth 20000 in
theorem ggL_law_L_caseOf : GoodIn wsL_law wsL_caseOf := goodIn_ca (goodIn_ca (goodIn_r _ [521, 173, 100, 522, 523, 524, 2, 525, 178, 179, 106, 107, 373, 374, 375, 376, 33, 20, 377, 378, 379, 19, 380, 381, 382, 383, 56, 384, 385, 386, 387, 388, 49, 57, 389, 48, 390, 391, 392, 393, 394, 50, 51, 53, 55, 395, 396, 397, 52, 398, 399, 400, 401, 526, 527, 528, 529, 530, 531, 532, 533, 534, 535, 536, 537, 538, 539, 540, 541, 542, 543, 16, 200, 514, 1045, 1046, 1047, 1048, 1049, 1050, 1051, 1078, 1079, 1080, 1081, 1082, 1083, 1084, 1085, 1086, 1087, 1088, 1089, 1090, 1070, 1071, 1072, 1073, 1074, 1075, 1076, 1077] (by decide +kernel) (by decide +kernel)) (goodIn_sub (fun _ h => List.mem_append_right _ h) (by decide +kernel))) (goodIn_sub (fun _ h => List.mem_append_left _ (List.mem_append_left _ (List.mem_append_right _ h))) (by decide +kernel))
set_option maxRecDepth 20000 in
theorem gL_law_L_caseOf : GoodIn wsL_law (va_wsS RL 144 yL_caseOf wsL_caseOf) := goodIn_app (goodIn_of _ (by decide +kernel)) ggL_law_L_caseOf
set_option maxRecDepth 20000 in
theorem ggL_law_X6_caseOf : GoodIn wsL_law wsX6_caseOf := goodIn_r _ [547, 548, 549, 550, 5, 551, 410, 411, 412, 413, 84, 224, 225, 226, 227, 150, 151, 152, 153, 154, 155, 156, 157, 406, 407, 408, 409, 87, 89, 88, 90, 414, 415, 416, 417, 260, 261, 262, 263, 163, 164, 165, 418, 419, 420, 552, 553, 554, 555, 556, 557, 558, 559, 560, 561, 562, 563, 1052, 1053, 1054, 1055, 1056, 1057, 1058, 1059, 1060, 1061, 1062, 1063, 1064, 1065, 1066, 1067, 1068, 1069] (by decide +kernel) (by decide +kernel)
set_option maxRecDepth 20000 in
theorem gL_law_X6_caseOf : GoodIn wsL_law (wsV RL 146 RX6 yX6_caseOf wsX6_caseOf) := goodIn_app (goodIn_of _ (by decide +kernel)) ggL_law_X6_caseOf
set_option maxRecDepth 20000 in
theorem ggL_law_L_answerOf : GoodIn wsL_law wsL_answerOf := goodIn_ca (goodIn_r _ [566, 173, 567, 568, 569, 2, 570, 178, 179, 20, 373, 374, 375, 376, 33, 377, 378, 379, 19, 380, 381, 382, 383, 56, 384, 385, 386, 387, 388, 49, 57, 389, 48, 390, 391, 392, 393, 394, 50, 51, 53, 55, 395, 396, 397, 52, 398, 399, 400, 401, 526, 527, 528, 529, 530, 181, 182, 183, 184, 16, 110, 571, 572, 573, 574, 1045, 1046, 1047, 1048, 1049, 1050, 1051, 1078, 1079, 1080, 1081, 1082, 1083, 1084, 1085, 1086, 1087, 1088, 1089, 1090, 1070, 1071, 1072, 1073, 1074, 1075, 1076, 1077] (by decide +kernel) (by decide +kernel)) (goodIn_sub (fun _ h => List.mem_append_right _ h) (by decide +kernel))
set_option maxRecDepth 20000 in
theorem gL_law_L_answerOf : GoodIn wsL_law (va_wsS RL 147 yL_answerOf wsL_answerOf) := goodIn_app (goodIn_of _ (by decide +kernel)) ggL_law_L_answerOf
set_option maxRecDepth 20000 in
theorem ggL_law_X6_answerOf : GoodIn wsL_law wsX6_answerOf := goodIn_r _ [578, 548, 549, 550, 5, 551, 410, 411, 412, 413, 84, 224, 225, 226, 227, 150, 151, 152, 189, 190, 191, 192, 153, 154, 155, 156, 157, 453, 454, 455, 456, 1052, 1053, 1054, 1055, 1056, 1057, 1058, 1059, 1060, 1061, 1062, 1063, 1064, 1065, 1066, 1067, 1068, 1069] (by decide +kernel) (by decide +kernel)
set_option maxRecDepth 20000 in
theorem gL_law_X6_answerOf : GoodIn wsL_law (wsV RL 149 RX6 yX6_answerOf wsX6_answerOf) := goodIn_app (goodIn_of _ (by decide +kernel)) ggL_law_X6_answerOf
set_option maxRecDepth 20000 in
theorem ggL_law_L_hole : GoodIn wsL_law wsL_hole := goodIn_ca (goodIn_r _ [581, 100, 582, 583, 584, 2, 585, 106, 107, 20, 373, 374, 375, 376, 33, 377, 378, 379, 19, 380, 381, 382, 383, 56, 384, 385, 386, 387, 388, 49, 57, 389, 48, 390, 391, 392, 393, 394, 50, 51, 53, 55, 395, 396, 397, 52, 398, 399, 400, 401, 586, 587, 588, 589, 1045, 1046, 1047, 1048, 1049, 1050, 1051, 1078, 1079, 1080, 1081, 1082, 1083, 1084, 1085, 1086, 1087, 1088, 1089, 1090, 1070, 1071, 1072, 1073, 1074, 1075, 1076, 1077] (by decide +kernel) (by decide +kernel)) (goodIn_sub (fun _ h => List.mem_append_left _ (List.mem_append_left _ (List.mem_append_right _ h))) (by decide +kernel))
set_option maxRecDepth 20000 in
theorem gL_law_L_hole : GoodIn wsL_law (va_wsS RL 150 yL_hole wsL_hole) := goodIn_app (goodIn_of _ (by decide +kernel)) ggL_law_L_hole
set_option maxRecDepth 20000 in
theorem ggL_law_X6_hole : GoodIn wsL_law wsX6_hole := goodIn_r _ [593, 90, 153, 154, 155, 5, 156, 157, 406, 407, 408, 409, 87, 89, 88, 84, 410, 411, 412, 413, 224, 225, 226, 227, 414, 415, 416, 417, 260, 261, 262, 263, 163, 164, 165, 418, 419, 420, 1052, 1053, 1054, 1055, 1056, 1057, 1058, 1059, 1060, 1061, 1062, 1063, 1064, 1065, 1066, 1067, 1068, 1069] (by decide +kernel) (by decide +kernel)
set_option maxRecDepth 20000 in
theorem gL_law_X6_hole : GoodIn wsL_law (wsV RL 152 RX6 yX6_hole wsX6_hole) := goodIn_app (goodIn_of _ (by decide +kernel)) ggL_law_X6_hole
set_option maxRecDepth 20000 in
theorem ggL_law_L_whole : GoodIn wsL_law wsL_whole := goodIn_ca (goodIn_r _ [596, 100, 597, 598, 599, 2, 600, 106, 107, 601, 602, 603, 604, 16, 110, 20, 530, 200, 605, 606, 607, 24, 608, 609, 32, 610, 373, 374, 375, 376, 33, 377, 378, 379, 19, 380, 381, 382, 383, 56, 384, 385, 386, 387, 388, 49, 57, 389, 48, 390, 391, 392, 393, 394, 50, 51, 53, 55, 395, 396, 397, 52, 398, 399, 400, 401, 611, 612, 613, 614, 615, 616, 617, 618, 34, 619, 620, 621, 23, 622, 623, 65, 624, 625, 626, 627, 628, 629, 64, 630, 631, 632, 633, 62, 66, 634, 63, 635, 636, 637, 638, 639, 640, 641, 642, 643, 644, 645, 646, 647, 648, 649, 650, 651, 652, 653, 654, 655, 656, 657, 658, 659, 660, 661, 662, 663, 664, 665, 474, 475, 476, 477, 478, 479, 1045, 1046, 1047, 1048, 1049, 1050, 1051, 1070, 1071, 1072, 1073, 1074, 1075, 1076, 1077, 1078, 1079, 1080, 1081, 1082, 1083, 1084, 1085, 1086, 1087, 1088, 1089, 1090, 1091, 1092, 1093, 1094, 1095, 1098, 1099, 1100, 1101, 1102, 1103, 1104, 1105] (by decide +kernel) (by decide +kernel)) (goodIn_sub (fun _ h => List.mem_append_left _ (List.mem_append_left _ (List.mem_append_right _ h))) (by decide +kernel))
set_option maxRecDepth 20000 in
theorem gL_law_L_whole : GoodIn wsL_law (va_wsS RL 153 yL_whole wsL_whole) := goodIn_app (goodIn_of _ (by decide +kernel)) ggL_law_L_whole
set_option maxRecDepth 20000 in
theorem ggL_law_X6_whole : GoodIn wsL_law wsX6_whole := goodIn_r _ [669, 150, 151, 5, 152, 153, 154, 155, 156, 157, 406, 407, 408, 409, 87, 89, 88, 84, 90, 410, 411, 412, 413, 224, 225, 226, 227, 414, 415, 416, 417, 260, 261, 262, 263, 163, 164, 165, 418, 419, 420, 670, 671, 672, 673, 94, 674, 675, 676, 677, 91, 92, 93, 678, 679, 680, 681, 682, 683, 684, 685, 686, 687, 688, 689, 690, 691, 692, 693, 694, 695, 696, 697, 698, 699, 700, 701, 702, 703, 704, 705, 706, 560, 561, 562, 563, 707, 708, 709, 710, 421, 422, 423, 424, 711, 712, 713, 714, 1052, 1053, 1054, 1055, 1056, 1057, 1058, 1059, 1060, 1061, 1062, 1063, 1064, 1065, 1066, 1067, 1068, 1069] (by decide +kernel) (by decide +kernel)
set_option maxRecDepth 20000 in
theorem gL_law_X6_whole : GoodIn wsL_law (wsV RL 155 RX6 yX6_whole wsX6_whole) := goodIn_app (goodIn_of _ (by decide +kernel)) ggL_law_X6_whole
set_option maxRecDepth 20000 in
theorem ggL_law_L_reason : GoodIn wsL_law wsL_reason := goodIn_ca (goodIn_r _ [717, 173, 718, 719, 720, 2, 721, 178, 179, 16, 239, 240, 241, 15, 242, 133, 41, 325, 326, 327, 328, 43, 131, 248, 249, 250, 251, 42, 1045, 1046, 1047, 1048, 1049, 1050, 1051, 1070, 1071, 1072, 1073, 1074, 1075, 1076, 1077] (by decide +kernel) (by decide +kernel)) (goodIn_sub (fun _ h => List.mem_append_right _ h) (by decide +kernel))
set_option maxRecDepth 20000 in
theorem gL_law_L_reason : GoodIn wsL_law (va_wsS RL 156 yL_reason wsL_reason) := goodIn_app (goodIn_of _ (by decide +kernel)) ggL_law_L_reason
set_option maxRecDepth 20000 in
theorem ggL_law_X6_reason : GoodIn wsL_law wsX6_reason := goodIn_r _ [725, 256, 257, 258, 5, 259, 84, 163, 164, 165, 153, 154, 155, 156, 157, 338, 339, 340, 341, 260, 261, 262, 263, 1052, 1053, 1054, 1055, 1056, 1057, 1058, 1059, 1060, 1061, 1062, 1063, 1064, 1065, 1066, 1067, 1068, 1069] (by decide +kernel) (by decide +kernel)
set_option maxRecDepth 20000 in
theorem gL_law_X6_reason : GoodIn wsL_law (wsV RL 158 RX6 yX6_reason wsX6_reason) := goodIn_app (goodIn_of _ (by decide +kernel)) ggL_law_X6_reason
set_option maxRecDepth 20000 in
theorem ggL_law_L_ask : GoodIn wsL_law wsL_ask := goodIn_ca (goodIn_r _ [728, 100, 729, 730, 731, 2, 732, 106, 107, 24, 733, 734, 735, 23, 736, 65, 624, 629, 623, 615, 616, 617, 618, 34, 373, 374, 375, 376, 33, 20, 377, 378, 379, 19, 380, 381, 382, 383, 56, 384, 385, 386, 387, 388, 49, 57, 389, 48, 390, 391, 392, 393, 394, 50, 51, 53, 55, 395, 396, 397, 52, 398, 399, 400, 401, 619, 620, 621, 622, 625, 626, 627, 628, 64, 630, 631, 632, 633, 62, 66, 634, 63, 635, 636, 637, 638, 639, 640, 641, 642, 643, 644, 645, 646, 647, 648, 649, 650, 651, 652, 653, 654, 655, 656, 657, 658, 659, 660, 1045, 1046, 1047, 1048, 1049, 1050, 1051, 1091, 1092, 1093, 1094, 1095, 1070, 1071, 1072, 1073, 1074, 1075, 1076, 1077, 1078, 1079, 1080, 1081, 1082, 1083, 1084, 1085, 1086, 1087, 1088, 1089, 1090] (by decide +kernel) (by decide +kernel)) (goodIn_sub (fun _ h => List.mem_append_left _ (List.mem_append_left _ (List.mem_append_right _ h))) (by decide +kernel))
set_option maxRecDepth 20000 in
theorem gL_law_L_ask : GoodIn wsL_law (va_wsS RL 159 yL_ask wsL_ask) := goodIn_app (goodIn_of _ (by decide +kernel)) ggL_law_L_ask
set_option maxRecDepth 20000 in
theorem ggL_law_X6_ask : GoodIn wsL_law wsX6_ask := goodIn_r _ [740, 93, 741, 742, 743, 5, 744, 84, 224, 225, 226, 227, 153, 154, 155, 156, 157, 745, 746, 747, 748, 94, 406, 407, 408, 409, 87, 89, 88, 90, 410, 411, 412, 413, 414, 415, 416, 417, 260, 261, 262, 263, 163, 164, 165, 418, 419, 420, 670, 671, 672, 673, 674, 675, 676, 677, 91, 92, 678, 679, 680, 681, 682, 683, 684, 685, 686, 687, 688, 689, 690, 691, 692, 693, 694, 695, 696, 697, 1052, 1053, 1054, 1055, 1056, 1057, 1058, 1059, 1060, 1061, 1062, 1063, 1064, 1065, 1066, 1067, 1068, 1069] (by decide +kernel) (by decide +kernel)
set_option maxRecDepth 20000 in
theorem gL_law_X6_ask : GoodIn wsL_law (wsV RL 161 RX6 yX6_ask wsX6_ask) := goodIn_app (goodIn_of _ (by decide +kernel)) ggL_law_X6_ask
set_option maxRecDepth 20000 in
theorem ggL_law_L_costFrom : GoodIn wsL_law wsL_costFrom := goodIn_ca (goodIn_r _ [751, 100, 752, 753, 754, 2, 755, 106, 107, 24, 608, 733, 734, 735, 23, 736, 65, 624, 629, 623, 615, 616, 617, 618, 34, 373, 374, 375, 376, 33, 20, 377, 378, 379, 19, 380, 381, 382, 383, 56, 384, 385, 386, 387, 388, 49, 57, 389, 48, 390, 391, 392, 393, 394, 50, 51, 53, 55, 395, 396, 397, 52, 398, 399, 400, 401, 619, 620, 621, 622, 625, 626, 627, 628, 64, 630, 631, 632, 633, 62, 66, 634, 63, 635, 636, 637, 638, 639, 640, 641, 642, 643, 644, 645, 646, 647, 648, 649, 650, 651, 652, 653, 654, 655, 656, 1045, 1046, 1047, 1048, 1049, 1050, 1051, 1091, 1092, 1093, 1094, 1095, 1070, 1071, 1072, 1073, 1074, 1075, 1076, 1077, 1078, 1079, 1080, 1081, 1082, 1083, 1084, 1085, 1086, 1087, 1088, 1089, 1090] (by decide +kernel) (by decide +kernel)) (goodIn_sub (fun _ h => List.mem_append_left _ (List.mem_append_left _ (List.mem_append_right _ h))) (by decide +kernel))
set_option maxRecDepth 20000 in
theorem gL_law_L_costFrom : GoodIn wsL_law (va_wsS RL 162 yL_costFrom wsL_costFrom) := goodIn_app (goodIn_of _ (by decide +kernel)) ggL_law_L_costFrom
set_option maxRecDepth 20000 in
theorem ggL_law_X6_costFrom : GoodIn wsL_law wsX6_costFrom := goodIn_r _ [759, 92, 741, 742, 743, 5, 744, 84, 224, 225, 226, 227, 153, 154, 155, 156, 157, 745, 746, 747, 748, 94, 406, 407, 408, 409, 87, 89, 88, 90, 410, 411, 412, 413, 414, 415, 416, 417, 260, 261, 262, 263, 163, 164, 165, 418, 419, 420, 670, 671, 672, 673, 674, 675, 676, 677, 91, 93, 678, 679, 680, 681, 682, 683, 684, 685, 686, 687, 688, 689, 690, 691, 692, 693, 694, 695, 696, 697, 1052, 1053, 1054, 1055, 1056, 1057, 1058, 1059, 1060, 1061, 1062, 1063, 1064, 1065, 1066, 1067, 1068, 1069] (by decide +kernel) (by decide +kernel)
set_option maxRecDepth 20000 in
theorem gL_law_X6_costFrom : GoodIn wsL_law (wsV RL 164 RX6 yX6_costFrom wsX6_costFrom) := goodIn_app (goodIn_of _ (by decide +kernel)) ggL_law_X6_costFrom
set_option maxRecDepth 20000 in
theorem ggL_law_L_changedWithout : GoodIn wsL_law wsL_changedWithout := goodIn_ca (goodIn_r _ [762, 173, 763, 764, 765, 2, 766, 178, 179, 16, 20, 239, 240, 241, 15, 242, 133, 41, 373, 374, 375, 376, 33, 377, 378, 379, 19, 380, 381, 382, 383, 56, 384, 385, 386, 387, 388, 49, 57, 389, 48, 390, 391, 392, 393, 394, 50, 51, 53, 55, 395, 396, 397, 52, 398, 399, 400, 401, 767, 768, 769, 770, 1045, 1046, 1047, 1048, 1049, 1050, 1051, 1070, 1071, 1072, 1073, 1074, 1075, 1076, 1077, 1078, 1079, 1080, 1081, 1082, 1083, 1084, 1085, 1086, 1087, 1088, 1089, 1090] (by decide +kernel) (by decide +kernel)) (goodIn_sub (fun _ h => List.mem_append_right _ h) (by decide +kernel))
set_option maxRecDepth 20000 in
theorem gL_law_L_changedWithout : GoodIn wsL_law (va_wsS RL 165 yL_changedWithout wsL_changedWithout) := goodIn_app (goodIn_of _ (by decide +kernel)) ggL_law_L_changedWithout
set_option maxRecDepth 20000 in
theorem ggL_law_X6_changedWithout : GoodIn wsL_law wsX6_changedWithout := goodIn_r _ [774, 89, 84, 87, 90, 256, 257, 258, 5, 259, 163, 164, 165, 153, 154, 155, 156, 157, 406, 407, 408, 409, 88, 410, 411, 412, 413, 224, 225, 226, 227, 414, 415, 416, 417, 260, 261, 262, 263, 418, 419, 420, 1052, 1053, 1054, 1055, 1056, 1057, 1058, 1059, 1060, 1061, 1062, 1063, 1064, 1065, 1066, 1067, 1068, 1069] (by decide +kernel) (by decide +kernel)
set_option maxRecDepth 20000 in
theorem gL_law_X6_changedWithout : GoodIn wsL_law (wsV RL 167 RX6 yX6_changedWithout wsX6_changedWithout) := goodIn_app (goodIn_of _ (by decide +kernel)) ggL_law_X6_changedWithout
set_option maxRecDepth 20000 in
theorem ggL_law_L_bestAction : GoodIn wsL_law wsL_bestAction := goodIn_ca (goodIn_r _ [777, 173, 778, 779, 780, 2, 781, 178, 179, 20, 537, 24, 373, 374, 375, 376, 33, 377, 378, 379, 19, 380, 381, 382, 383, 56, 384, 385, 386, 387, 388, 49, 57, 389, 48, 390, 391, 392, 393, 394, 50, 51, 53, 55, 395, 396, 397, 52, 398, 399, 400, 401, 526, 527, 528, 529, 530, 615, 616, 617, 618, 34, 619, 620, 621, 23, 622, 623, 65, 624, 625, 626, 627, 628, 629, 64, 630, 631, 632, 633, 62, 66, 634, 63, 635, 636, 637, 638, 639, 640, 641, 642, 643, 644, 645, 646, 647, 648, 649, 650, 651, 652, 653, 654, 655, 656, 782, 783, 784, 785, 786, 787, 788, 789, 790, 791, 792, 793, 794, 572, 573, 574, 1045, 1046, 1047, 1048, 1049, 1050, 1051, 1078, 1079, 1080, 1081, 1082, 1083, 1084, 1085, 1086, 1087, 1088, 1089, 1090, 1070, 1071, 1072, 1073, 1074, 1075, 1076, 1077, 1091, 1092, 1093, 1094, 1095] (by decide +kernel) (by decide +kernel)) (goodIn_sub (fun _ h => List.mem_append_right _ h) (by decide +kernel))
set_option maxRecDepth 20000 in
theorem gL_law_L_bestAction : GoodIn wsL_law (va_wsS RL 168 yL_bestAction wsL_bestAction) := goodIn_app (goodIn_of _ (by decide +kernel)) ggL_law_L_bestAction
set_option maxRecDepth 20000 in
theorem ggL_law_X6_bestAction : GoodIn wsL_law wsX6_bestAction := goodIn_r _ [798, 90, 92, 548, 549, 550, 5, 551, 410, 411, 412, 413, 84, 224, 225, 226, 227, 150, 151, 152, 153, 154, 155, 156, 157, 406, 407, 408, 409, 87, 89, 88, 414, 415, 416, 417, 260, 261, 262, 263, 163, 164, 165, 418, 419, 420, 670, 671, 672, 673, 94, 674, 675, 676, 677, 91, 93, 678, 679, 680, 681, 682, 683, 684, 685, 686, 687, 688, 689, 690, 691, 692, 693, 694, 695, 696, 697, 1052, 1053, 1054, 1055, 1056, 1057, 1058, 1059, 1060, 1061, 1062, 1063, 1064, 1065, 1066, 1067, 1068, 1069] (by decide +kernel) (by decide +kernel)
set_option maxRecDepth 20000 in
theorem gL_law_X6_bestAction : GoodIn wsL_law (wsV RL 170 RX6 yX6_bestAction wsX6_bestAction) := goodIn_app (goodIn_of _ (by decide +kernel)) ggL_law_X6_bestAction
set_option maxRecDepth 20000 in
theorem ggL_law_L_type : GoodIn wsL_law wsL_type := goodIn_ca (goodIn_ca (goodIn_r _ [801, 100, 101, 802, 803, 804, 2, 805, 106, 107, 108, 109, 32, 610, 806, 807, 808, 31, 809, 78, 810, 1045, 1046, 1047, 1048, 1049, 1050, 1051, 1098, 1099, 1100, 1101, 1102, 1103, 1104, 1105] (by decide +kernel) (by decide +kernel)) (goodIn_sub (fun _ h => List.mem_append_left _ (List.mem_append_left _ (List.mem_append_right _ h))) (by decide +kernel))) (goodIn_sub (fun _ h => List.mem_append_left _ (List.mem_append_right _ h)) (by decide +kernel))
set_option maxRecDepth 20000 in
theorem gL_law_L_type : GoodIn wsL_law (va_wsS RL 171 yL_type wsL_type) := goodIn_app (goodIn_of _ (by decide +kernel)) ggL_law_L_type
set_option maxRecDepth 20000 in
theorem ggL_law_X6_type : GoodIn wsL_law wsX6_type := goodIn_r _ [814, 702, 86, 150, 151, 5, 152, 153, 154, 155, 156, 157, 1052, 1053, 1054, 1055, 1056, 1057, 1058, 1059, 1060, 1061, 1062, 1063, 1064, 1065, 1066, 1067, 1068, 1069] (by decide +kernel) (by decide +kernel)
set_option maxRecDepth 20000 in
theorem gL_law_X6_type : GoodIn wsL_law (wsV RL 173 RX6 yX6_type wsX6_type) := goodIn_app (goodIn_of _ (by decide +kernel)) ggL_law_X6_type
set_option maxRecDepth 20000 in
theorem ggL_law_X5_clearCommands : GoodIn wsL_law wsX5_clearCommands := goodIn_r _ [818, 32, 610, 1045, 1046, 1047, 1048, 1049, 1050, 1051, 1098, 1099, 1100, 1101, 1102, 1103, 1104, 1105] (by decide +kernel) (by decide +kernel)
set_option maxRecDepth 20000 in
theorem gL_law_X5_clearCommands : GoodIn wsL_law (wsV RL 174 RX5 yX5_clearCommands wsX5_clearCommands) := goodIn_app (goodIn_of _ (by decide +kernel)) ggL_law_X5_clearCommands
set_option maxRecDepth 20000 in
theorem ggL_law_X6_clearCommands : GoodIn wsL_law wsX6_clearCommands := goodIn_r _ [822, 157, 702, 1052, 1053, 1054, 1055, 1056, 1057, 1058, 1059, 1060, 1061, 1062, 1063, 1064, 1065, 1066, 1067, 1068, 1069] (by decide +kernel) (by decide +kernel)
set_option maxRecDepth 20000 in
theorem gL_law_X6_clearCommands : GoodIn wsL_law (wsV RL 177 RX6 yX6_clearCommands wsX6_clearCommands) := goodIn_app (goodIn_of _ (by decide +kernel)) ggL_law_X6_clearCommands
set_option maxRecDepth 20000 in
theorem ggL_law_X5_runCommands : GoodIn wsL_law wsX5_runCommands := goodIn_r _ [826, 32, 827, 828, 829, 31, 830, 831, 832, 833, 834, 835, 836, 837, 838, 839, 840, 841, 842, 843, 810, 78, 844, 845, 846, 847, 848, 849, 850, 851, 852, 853, 854, 855, 856, 857, 858, 859, 860, 861, 862, 863, 864, 865, 866, 867, 868, 869, 870, 871, 872, 873, 874, 875, 876, 877, 878, 879, 880, 881, 882, 883, 884, 885, 886, 887, 888, 889, 890, 891, 892, 893, 894, 895, 896, 897, 898, 899, 900, 901, 902, 903, 904, 905, 906, 907, 908, 909, 910, 911, 912, 913, 914, 915, 916, 917, 918, 919, 920, 921, 922, 79, 923, 924, 925, 926, 927, 928, 929, 143, 144, 15, 145, 39, 930, 931, 932, 933, 934, 935, 936, 937, 938, 939, 940, 941, 942, 943, 114, 115, 116, 2, 117, 28, 16, 33, 34, 118, 119, 120, 27, 121, 122, 72, 123, 124, 125, 126, 127, 128, 129, 130, 131, 132, 133, 134, 135, 136, 137, 40, 41, 42, 43, 944, 945, 946, 947, 948, 949, 950, 951, 200, 952, 953, 954, 350, 351, 352, 353, 354, 355, 356, 357, 358, 326, 327, 328, 248, 249, 250, 251, 359, 330, 331, 332, 333, 284, 285, 286, 287, 288, 289, 290, 212, 213, 214, 215, 239, 240, 241, 242, 283, 306, 307, 308, 309, 955, 1045, 1046, 1047, 1048, 1049, 1050, 1051, 1098, 1099, 1100, 1101, 1102, 1103, 1104, 1105, 1070, 1071, 1072, 1073, 1074, 1075, 1076, 1077, 1096, 1097] (by decide +kernel) (by decide +kernel)
set_option maxRecDepth 20000 in
theorem gL_law_X5_runCommands : GoodIn wsL_law (wsV RL 178 RX5 yX5_runCommands wsX5_runCommands) := goodIn_app (goodIn_of _ (by decide +kernel)) ggL_law_X5_runCommands
set_option maxRecDepth 20000 in
theorem ggL_law_X6_runCommands : GoodIn wsL_law wsX6_runCommands := goodIn_r _ [959, 157, 960, 961, 95, 962, 963, 964, 5, 965, 966, 702, 967, 968, 969, 970, 971, 972, 973, 974, 86, 975, 976, 977, 978, 979, 980, 981, 982, 983, 984, 150, 151, 152, 985, 986, 987, 988, 989, 990, 991, 992, 84, 993, 994, 995, 996, 997, 998, 999, 1000, 224, 225, 226, 227, 1001, 1002, 1003, 1004, 1005, 1006, 1007, 1008, 1009, 1010, 1011, 1012, 158, 159, 160, 161, 162, 85, 1013, 1014, 1015, 1016, 228, 229, 230, 231, 163, 164, 165, 364, 365, 366, 367, 338, 339, 340, 341, 260, 261, 262, 263, 342, 343, 344, 345, 295, 296, 297, 298, 256, 257, 258, 259, 314, 315, 316, 317, 1052, 1053, 1054, 1055, 1056, 1057, 1058, 1059, 1060, 1061, 1062, 1063, 1064, 1065, 1066, 1067, 1068, 1069] (by decide +kernel) (by decide +kernel)
set_option maxRecDepth 20000 in
theorem gL_law_X6_runCommands : GoodIn wsL_law (wsV RL 181 RX6 yX6_runCommands wsX6_runCommands) := goodIn_app (goodIn_of _ (by decide +kernel)) ggL_law_X6_runCommands
set_option maxRecDepth 20000 in
theorem ggL_law_L_undo : GoodIn wsL_law wsL_undo := goodIn_ca (goodIn_r _ [1019, 101, 1020, 1021, 1022, 2, 1023, 108, 109, 28, 1024, 16, 33, 34, 1025, 1026, 1027, 27, 1028, 122, 72, 127, 128, 129, 15, 130, 131, 132, 133, 39, 134, 135, 136, 137, 40, 41, 42, 43, 1045, 1046, 1047, 1048, 1049, 1050, 1051, 1096, 1097, 1070, 1071, 1072, 1073, 1074, 1075, 1076, 1077] (by decide +kernel) (by decide +kernel)) (goodIn_sub (fun _ h => List.mem_append_left _ (List.mem_append_right _ h)) (by decide +kernel))
set_option maxRecDepth 20000 in
theorem gL_law_L_undo : GoodIn wsL_law (va_wsS RL 182 yL_undo wsL_undo) := goodIn_app (goodIn_of _ (by decide +kernel)) ggL_law_L_undo
set_option maxRecDepth 20000 in
theorem ggL_law_X6_undo : GoodIn wsL_law wsX6_undo := goodIn_r _ [1032, 162, 84, 85, 153, 154, 155, 5, 156, 157, 1052, 1053, 1054, 1055, 1056, 1057, 1058, 1059, 1060, 1061, 1062, 1063, 1064, 1065, 1066, 1067, 1068, 1069] (by decide +kernel) (by decide +kernel)
set_option maxRecDepth 20000 in
theorem gL_law_X6_undo : GoodIn wsL_law (wsV RL 185 RX6 yX6_undo wsX6_undo) := goodIn_app (goodIn_of _ (by decide +kernel)) ggL_law_X6_undo
set_option maxRecDepth 20000 in
theorem ggL_law_X5_digest : GoodIn wsL_law wsX5_digest := goodIn_r _ [1036, 1037, 28, 1024, 1038, 16, 110, 200, 514, 20, 530, 373, 374, 375, 2, 376, 33, 377, 378, 379, 19, 380, 381, 382, 383, 56, 384, 385, 386, 387, 388, 49, 57, 389, 48, 390, 391, 392, 393, 394, 50, 51, 53, 55, 395, 396, 397, 52, 398, 399, 400, 401, 601, 602, 603, 604, 605, 606, 607, 24, 608, 609, 32, 610, 611, 612, 613, 614, 615, 616, 617, 618, 34, 619, 620, 621, 23, 622, 623, 65, 624, 625, 626, 627, 628, 629, 64, 630, 631, 632, 633, 62, 66, 634, 63, 635, 636, 637, 638, 639, 640, 641, 642, 643, 644, 645, 646, 647, 648, 649, 650, 651, 652, 653, 654, 655, 656, 657, 658, 659, 660, 661, 662, 663, 664, 665, 474, 475, 476, 477, 478, 479, 432, 433, 434, 435, 436, 180, 437, 438, 439, 440, 464, 465, 466, 467, 271, 372, 468, 469, 470, 471, 15, 472, 131, 248, 249, 250, 251, 42, 473, 531, 532, 533, 534, 535, 536, 537, 538, 539, 540, 541, 542, 543, 1045, 1046, 1047, 1048, 1049, 1050, 1051, 1096, 1097, 1070, 1071, 1072, 1073, 1074, 1075, 1076, 1077, 1078, 1079, 1080, 1081, 1082, 1083, 1084, 1085, 1086, 1087, 1088, 1089, 1090, 1091, 1092, 1093, 1094, 1095, 1098, 1099, 1100, 1101, 1102, 1103, 1104, 1105] (by decide +kernel) (by decide +kernel)
set_option maxRecDepth 20000 in
theorem gL_law_X5_digest : GoodIn wsL_law (wsV RL 186 RX5 yX5_digest wsX5_digest) := goodIn_app (goodIn_of _ (by decide +kernel)) ggL_law_X5_digest
set_option maxRecDepth 20000 in
theorem ggL_law_X6_digest : GoodIn wsL_law wsX6_digest := goodIn_r _ [1042, 157, 1043, 162, 1044, 84, 406, 407, 408, 5, 409, 87, 89, 88, 90, 410, 411, 412, 413, 224, 225, 226, 227, 414, 415, 416, 417, 260, 261, 262, 263, 163, 164, 165, 418, 419, 420, 670, 671, 672, 673, 94, 674, 675, 676, 677, 91, 92, 93, 678, 679, 680, 681, 682, 683, 684, 685, 686, 687, 688, 689, 690, 691, 692, 693, 694, 695, 696, 697, 698, 699, 700, 701, 702, 703, 704, 705, 706, 560, 561, 562, 563, 707, 708, 709, 710, 421, 422, 423, 424, 711, 712, 713, 714, 445, 446, 447, 448, 449, 450, 451, 452, 453, 454, 455, 456, 484, 485, 486, 487, 488, 489, 490, 491, 492, 493, 494, 552, 553, 554, 555, 556, 557, 558, 559, 1052, 1053, 1054, 1055, 1056, 1057, 1058, 1059, 1060, 1061, 1062, 1063, 1064, 1065, 1066, 1067, 1068, 1069] (by decide +kernel) (by decide +kernel)
set_option maxRecDepth 20000 in
theorem gL_law_X6_digest : GoodIn wsL_law (wsV RL 190 RX6 yX6_digest wsX6_digest) := goodIn_app (goodIn_of _ (by decide +kernel)) ggL_law_X6_digest
theorem dL_law_0 : decode cL_law 0 = .ok (.new 8, 3) := by decide +kernel
theorem dL_law_3 : decode cL_law 3 = .ok (.dup, 1) := by decide +kernel
theorem dL_law_4 : decode cL_law 4 = .ok (.invokespecial 88, 3) := by decide +kernel
theorem dL_law_7 : decode cL_law 7 = .ok (.astore_n 1, 1) := by decide +kernel
theorem dL_law_8 : decode cL_law 8 = .ok (.new 89, 3) := by decide +kernel
theorem dL_law_11 : decode cL_law 11 = .ok (.dup, 1) := by decide +kernel
theorem dL_law_12 : decode cL_law 12 = .ok (.invokespecial 91, 3) := by decide +kernel
theorem dL_law_15 : decode cL_law 15 = .ok (.astore_n 2, 1) := by decide +kernel
theorem dL_law_16 : decode cL_law 16 = .ok (.iconst 1, 1) := by decide +kernel
theorem dL_law_17 : decode cL_law 17 = .ok (.newarray .long, 2) := by decide +kernel
theorem dL_law_19 : decode cL_law 19 = .ok (.astore_n 3, 1) := by decide +kernel
theorem dL_law_20 : decode cL_law 20 = .ok (.iconst 0, 1) := by decide +kernel
theorem dL_law_21 : decode cL_law 21 = .ok (.istore 4, 2) := by decide +kernel
theorem dL_law_23 : decode cL_law 23 = .ok (.iload 4, 2) := by decide +kernel
theorem dL_law_25 : decode cL_law 25 = .ok (.aload_n 0, 1) := by decide +kernel
theorem dL_law_26 : decode cL_law 26 = .ok (.arraylength, 1) := by decide +kernel
theorem dL_law_27 : decode cL_law 27 = .ok (.iconst 4, 1) := by decide +kernel
theorem dL_law_28 : decode cL_law 28 = .ok (.isub, 1) := by decide +kernel
theorem dL_law_29 : decode cL_law 29 = .ok (.if_icmp .gt 1615, 3) := by decide +kernel
theorem dL_law_32 : decode cL_law 32 = .ok (.aload_n 0, 1) := by decide +kernel
theorem dL_law_33 : decode cL_law 33 = .ok (.iload 4, 2) := by decide +kernel
theorem dL_law_35 : decode cL_law 35 = .ok (.iaload, 1) := by decide +kernel
theorem dL_law_36 : decode cL_law 36 = .ok (.bipush 31, 2) := by decide +kernel
theorem dL_law_38 : decode cL_law 38 = .ok (.iand, 1) := by decide +kernel
theorem dL_law_39 : decode cL_law 39 = .ok (.tableswitch 1599 0 27 #[125, 193, 261, 329, 409, 477, 533, 589, 645, 658, 671, 739, 807, 875, 931, 999, 1067, 1123, 1179, 1235, 1291, 1347, 1403, 1459, 1515, 1528, 1541, 1585], 125) := by decide +kernel
theorem dL_law_164 : decode cL_law 164 = .ok (.aload_n 1, 1) := by decide +kernel
theorem dL_law_165 : decode cL_law 165 = .ok (.aload_n 0, 1) := by decide +kernel
theorem dL_law_166 : decode cL_law 166 = .ok (.iload 4, 2) := by decide +kernel
theorem dL_law_168 : decode cL_law 168 = .ok (.iconst 1, 1) := by decide +kernel
theorem dL_law_169 : decode cL_law 169 = .ok (.iadd, 1) := by decide +kernel
theorem dL_law_170 : decode cL_law 170 = .ok (.iaload, 1) := by decide +kernel
theorem dL_law_171 : decode cL_law 171 = .ok (.aload_n 0, 1) := by decide +kernel
theorem dL_law_172 : decode cL_law 172 = .ok (.iload 4, 2) := by decide +kernel
theorem dL_law_174 : decode cL_law 174 = .ok (.iconst 2, 1) := by decide +kernel
theorem dL_law_175 : decode cL_law 175 = .ok (.iadd, 1) := by decide +kernel
theorem dL_law_176 : decode cL_law 176 = .ok (.iaload, 1) := by decide +kernel
theorem dL_law_177 : decode cL_law 177 = .ok (.aload_n 3, 1) := by decide +kernel
theorem dL_law_178 : decode cL_law 178 = .ok (.invokestatic 92, 3) := by decide +kernel
theorem dL_law_181 : decode cL_law 181 = .ok (.istore 5, 2) := by decide +kernel
theorem dL_law_183 : decode cL_law 183 = .ok (.aload_n 2, 1) := by decide +kernel
theorem dL_law_184 : decode cL_law 184 = .ok (.aload_n 0, 1) := by decide +kernel
theorem dL_law_185 : decode cL_law 185 = .ok (.iload 4, 2) := by decide +kernel
theorem dL_law_187 : decode cL_law 187 = .ok (.iconst 1, 1) := by decide +kernel
theorem dL_law_188 : decode cL_law 188 = .ok (.iadd, 1) := by decide +kernel
theorem dL_law_189 : decode cL_law 189 = .ok (.iaload, 1) := by decide +kernel
theorem dL_law_190 : decode cL_law 190 = .ok (.aload_n 0, 1) := by decide +kernel
theorem dL_law_191 : decode cL_law 191 = .ok (.iload 4, 2) := by decide +kernel
theorem dL_law_193 : decode cL_law 193 = .ok (.iconst 2, 1) := by decide +kernel
theorem dL_law_194 : decode cL_law 194 = .ok (.iadd, 1) := by decide +kernel
theorem dL_law_195 : decode cL_law 195 = .ok (.iaload, 1) := by decide +kernel
theorem dL_law_196 : decode cL_law 196 = .ok (.invokevirtual 97, 3) := by decide +kernel
theorem dL_law_199 : decode cL_law 199 = .ok (.istore 6, 2) := by decide +kernel
theorem dL_law_201 : decode cL_law 201 = .ok (.aload_n 2, 1) := by decide +kernel
theorem dL_law_202 : decode cL_law 202 = .ok (.invokevirtual 98, 3) := by decide +kernel
theorem dL_law_205 : decode cL_law 205 = .ok (.iload 5, 2) := by decide +kernel
theorem dL_law_207 : decode cL_law 207 = .ok (.if_icmp .eq 5, 3) := by decide +kernel
theorem dL_law_210 : decode cL_law 210 = .ok (.iconst 0, 1) := by decide +kernel
theorem dL_law_211 : decode cL_law 211 = .ok (.ireturn, 1) := by decide +kernel
theorem dL_law_212 : decode cL_law 212 = .ok (.iload 5, 2) := by decide +kernel
theorem dL_law_214 : decode cL_law 214 = .ok (.ifCond .ne 15, 3) := by decide +kernel
theorem dL_law_217 : decode cL_law 217 = .ok (.aload_n 3, 1) := by decide +kernel
theorem dL_law_218 : decode cL_law 218 = .ok (.iconst 0, 1) := by decide +kernel
theorem dL_law_219 : decode cL_law 219 = .ok (.laload, 1) := by decide +kernel
theorem dL_law_220 : decode cL_law 220 = .ok (.iload 6, 2) := by decide +kernel
theorem dL_law_222 : decode cL_law 222 = .ok (.i2l, 1) := by decide +kernel
theorem dL_law_223 : decode cL_law 223 = .ok (.lcmp, 1) := by decide +kernel
theorem dL_law_224 : decode cL_law 224 = .ok (.ifCond .eq 5, 3) := by decide +kernel
theorem dL_law_227 : decode cL_law 227 = .ok (.iconst 0, 1) := by decide +kernel
theorem dL_law_228 : decode cL_law 228 = .ok (.ireturn, 1) := by decide +kernel
theorem dL_law_229 : decode cL_law 229 = .ok (.goto 1409, 3) := by decide +kernel
theorem dL_law_232 : decode cL_law 232 = .ok (.aload_n 1, 1) := by decide +kernel
theorem dL_law_233 : decode cL_law 233 = .ok (.aload_n 0, 1) := by decide +kernel
theorem dL_law_234 : decode cL_law 234 = .ok (.iload 4, 2) := by decide +kernel
theorem dL_law_236 : decode cL_law 236 = .ok (.iconst 1, 1) := by decide +kernel
theorem dL_law_237 : decode cL_law 237 = .ok (.iadd, 1) := by decide +kernel
theorem dL_law_238 : decode cL_law 238 = .ok (.iaload, 1) := by decide +kernel
theorem dL_law_239 : decode cL_law 239 = .ok (.aload_n 0, 1) := by decide +kernel
theorem dL_law_240 : decode cL_law 240 = .ok (.iload 4, 2) := by decide +kernel
theorem dL_law_242 : decode cL_law 242 = .ok (.iconst 2, 1) := by decide +kernel
theorem dL_law_243 : decode cL_law 243 = .ok (.iadd, 1) := by decide +kernel
theorem dL_law_244 : decode cL_law 244 = .ok (.iaload, 1) := by decide +kernel
theorem dL_law_245 : decode cL_law 245 = .ok (.aload_n 3, 1) := by decide +kernel
theorem dL_law_246 : decode cL_law 246 = .ok (.invokestatic 101, 3) := by decide +kernel
theorem dL_law_249 : decode cL_law 249 = .ok (.istore 5, 2) := by decide +kernel
theorem dL_law_251 : decode cL_law 251 = .ok (.aload_n 2, 1) := by decide +kernel
theorem dL_law_252 : decode cL_law 252 = .ok (.aload_n 0, 1) := by decide +kernel
theorem dL_law_253 : decode cL_law 253 = .ok (.iload 4, 2) := by decide +kernel
theorem dL_law_255 : decode cL_law 255 = .ok (.iconst 1, 1) := by decide +kernel
theorem dL_law_256 : decode cL_law 256 = .ok (.iadd, 1) := by decide +kernel
theorem dL_law_257 : decode cL_law 257 = .ok (.iaload, 1) := by decide +kernel
theorem dL_law_258 : decode cL_law 258 = .ok (.aload_n 0, 1) := by decide +kernel
theorem dL_law_259 : decode cL_law 259 = .ok (.iload 4, 2) := by decide +kernel
theorem dL_law_261 : decode cL_law 261 = .ok (.iconst 2, 1) := by decide +kernel
theorem dL_law_262 : decode cL_law 262 = .ok (.iadd, 1) := by decide +kernel
theorem dL_law_263 : decode cL_law 263 = .ok (.iaload, 1) := by decide +kernel
theorem dL_law_264 : decode cL_law 264 = .ok (.invokevirtual 103, 3) := by decide +kernel
theorem dL_law_267 : decode cL_law 267 = .ok (.istore 6, 2) := by decide +kernel
theorem dL_law_269 : decode cL_law 269 = .ok (.aload_n 2, 1) := by decide +kernel
theorem dL_law_270 : decode cL_law 270 = .ok (.invokevirtual 98, 3) := by decide +kernel
theorem dL_law_273 : decode cL_law 273 = .ok (.iload 5, 2) := by decide +kernel
theorem dL_law_275 : decode cL_law 275 = .ok (.if_icmp .eq 5, 3) := by decide +kernel
theorem dL_law_278 : decode cL_law 278 = .ok (.iconst 0, 1) := by decide +kernel
theorem dL_law_279 : decode cL_law 279 = .ok (.ireturn, 1) := by decide +kernel
theorem dL_law_280 : decode cL_law 280 = .ok (.iload 5, 2) := by decide +kernel
theorem dL_law_282 : decode cL_law 282 = .ok (.ifCond .ne 15, 3) := by decide +kernel
theorem dL_law_285 : decode cL_law 285 = .ok (.aload_n 3, 1) := by decide +kernel
theorem dL_law_286 : decode cL_law 286 = .ok (.iconst 0, 1) := by decide +kernel
theorem dL_law_287 : decode cL_law 287 = .ok (.laload, 1) := by decide +kernel
theorem dL_law_288 : decode cL_law 288 = .ok (.iload 6, 2) := by decide +kernel
theorem dL_law_290 : decode cL_law 290 = .ok (.i2l, 1) := by decide +kernel
theorem dL_law_291 : decode cL_law 291 = .ok (.lcmp, 1) := by decide +kernel
theorem dL_law_292 : decode cL_law 292 = .ok (.ifCond .eq 5, 3) := by decide +kernel
theorem dL_law_295 : decode cL_law 295 = .ok (.iconst 0, 1) := by decide +kernel
theorem dL_law_296 : decode cL_law 296 = .ok (.ireturn, 1) := by decide +kernel
theorem dL_law_297 : decode cL_law 297 = .ok (.goto 1341, 3) := by decide +kernel
theorem dL_law_300 : decode cL_law 300 = .ok (.aload_n 1, 1) := by decide +kernel
theorem dL_law_301 : decode cL_law 301 = .ok (.aload_n 0, 1) := by decide +kernel
theorem dL_law_302 : decode cL_law 302 = .ok (.iload 4, 2) := by decide +kernel
theorem dL_law_304 : decode cL_law 304 = .ok (.iconst 1, 1) := by decide +kernel
theorem dL_law_305 : decode cL_law 305 = .ok (.iadd, 1) := by decide +kernel
theorem dL_law_306 : decode cL_law 306 = .ok (.iaload, 1) := by decide +kernel
theorem dL_law_307 : decode cL_law 307 = .ok (.aload_n 0, 1) := by decide +kernel
theorem dL_law_308 : decode cL_law 308 = .ok (.iload 4, 2) := by decide +kernel
theorem dL_law_310 : decode cL_law 310 = .ok (.iconst 2, 1) := by decide +kernel
theorem dL_law_311 : decode cL_law 311 = .ok (.iadd, 1) := by decide +kernel
theorem dL_law_312 : decode cL_law 312 = .ok (.iaload, 1) := by decide +kernel
theorem dL_law_313 : decode cL_law 313 = .ok (.aload_n 3, 1) := by decide +kernel
theorem dL_law_314 : decode cL_law 314 = .ok (.invokestatic 104, 3) := by decide +kernel
theorem dL_law_317 : decode cL_law 317 = .ok (.istore 5, 2) := by decide +kernel
theorem dL_law_319 : decode cL_law 319 = .ok (.aload_n 2, 1) := by decide +kernel
theorem dL_law_320 : decode cL_law 320 = .ok (.aload_n 0, 1) := by decide +kernel
theorem dL_law_321 : decode cL_law 321 = .ok (.iload 4, 2) := by decide +kernel
theorem dL_law_323 : decode cL_law 323 = .ok (.iconst 1, 1) := by decide +kernel
theorem dL_law_324 : decode cL_law 324 = .ok (.iadd, 1) := by decide +kernel
theorem dL_law_325 : decode cL_law 325 = .ok (.iaload, 1) := by decide +kernel
theorem dL_law_326 : decode cL_law 326 = .ok (.aload_n 0, 1) := by decide +kernel
theorem dL_law_327 : decode cL_law 327 = .ok (.iload 4, 2) := by decide +kernel
theorem dL_law_329 : decode cL_law 329 = .ok (.iconst 2, 1) := by decide +kernel
theorem dL_law_330 : decode cL_law 330 = .ok (.iadd, 1) := by decide +kernel
theorem dL_law_331 : decode cL_law 331 = .ok (.iaload, 1) := by decide +kernel
theorem dL_law_332 : decode cL_law 332 = .ok (.invokevirtual 106, 3) := by decide +kernel
theorem dL_law_335 : decode cL_law 335 = .ok (.istore 6, 2) := by decide +kernel
