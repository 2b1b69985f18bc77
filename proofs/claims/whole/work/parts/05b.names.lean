theorem dL_valueInOrder_2 : decode cL_valueInOrder 2 = .ok (.aload_n 0, 1) := by decide +kernel
theorem dL_valueInOrder_3 : decode cL_valueInOrder 3 = .ok (.iload_n 1, 1) := by decide +kernel
theorem dL_valueInOrder_4 : decode cL_valueInOrder 4 = .ok (.invokevirtual 95, 3) := by decide +kernel
theorem dL_valueInOrder_7 : decode cL_valueInOrder 7 = .ok (.i2l, 1) := by decide +kernel
theorem dL_valueInOrder_8 : decode cL_valueInOrder 8 = .ok (.lastore, 1) := by decide +kernel
theorem dL_valueInOrder_9 : decode cL_valueInOrder 9 = .ok (.goto 9, 3) := by decide +kernel
theorem dL_valueInOrder_12 : decode cL_valueInOrder 12 = .ok (.astore_n 3, 1) := by decide +kernel
theorem dL_valueInOrder_13 : decode cL_valueInOrder 13 = .ok (.iconst 1, 1) := by decide +kernel
theorem dL_valueInOrder_14 : decode cL_valueInOrder 14 = .ok (.ireturn, 1) := by decide +kernel
theorem dL_valueInOrder_15 : decode cL_valueInOrder 15 = .ok (.astore_n 3, 1) := by decide +kernel
theorem dL_valueInOrder_16 : decode cL_valueInOrder 16 = .ok (.iconst 2, 1) := by decide +kernel
theorem dL_valueInOrder_17 : decode cL_valueInOrder 17 = .ok (.ireturn, 1) := by decide +kernel
theorem dL_valueInOrder_18 : decode cL_valueInOrder 18 = .ok (.iconst 0, 1) := by decide +kernel
theorem dL_valueInOrder_19 : decode cL_valueInOrder 19 = .ok (.ireturn, 1) := by decide +kernel
set_option maxRecDepth 20000 in
theorem ggL_logAt_X6_logAt : GoodIn wsL_logAt wsX6_logAt := goodIn_ca (goodIn_r _ [6, 7, 8, 9, 10, 11, 12, 13, 14, 15, 16, 17, 18, 19, 20, 21, 22, 23, 24, 25, 26, 27, 28, 29, 30, 31, 32, 33, 34, 35, 36, 37, 38, 39, 40, 41, 42, 43, 44, 45, 46, 47, 48, 49, 50, 51, 52, 53, 54, 55, 56, 57, 58, 59] (by decide +kernel) (by decide +kernel)) (goodIn_sub (fun _ h => List.mem_cons_of_mem _ (List.mem_append_right _ h)) (by decide +kernel))
set_option maxRecDepth 20000 in
theorem gL_logAt_X6_logAt : GoodIn wsL_logAt (wsV RL 98 RX6 yX6_logAt wsX6_logAt) := goodIn_app (goodIn_of _ (by decide +kernel)) ggL_logAt_X6_logAt
theorem dL_logAt_0 : decode cL_logAt 0 = .ok (.aload_n 2, 1) := by decide +kernel
theorem dL_logAt_1 : decode cL_logAt 1 = .ok (.iconst 0, 1) := by decide +kernel
theorem dL_logAt_2 : decode cL_logAt 2 = .ok (.aload_n 0, 1) := by decide +kernel
theorem dL_logAt_3 : decode cL_logAt 3 = .ok (.iload_n 1, 1) := by decide +kernel
theorem dL_logAt_4 : decode cL_logAt 4 = .ok (.invokevirtual 98, 3) := by decide +kernel
theorem dL_logAt_7 : decode cL_logAt 7 = .ok (.i2l, 1) := by decide +kernel
theorem dL_logAt_8 : decode cL_logAt 8 = .ok (.lastore, 1) := by decide +kernel
theorem dL_logAt_9 : decode cL_logAt 9 = .ok (.goto 6, 3) := by decide +kernel
theorem dL_logAt_12 : decode cL_logAt 12 = .ok (.astore_n 3, 1) := by decide +kernel
theorem dL_logAt_13 : decode cL_logAt 13 = .ok (.iconst 1, 1) := by decide +kernel
theorem dL_logAt_14 : decode cL_logAt 14 = .ok (.ireturn, 1) := by decide +kernel
theorem dL_logAt_15 : decode cL_logAt 15 = .ok (.iconst 0, 1) := by decide +kernel
theorem dL_logAt_16 : decode cL_logAt 16 = .ok (.ireturn, 1) := by decide +kernel
set_option maxRecDepth 20000 in
theorem ggL_forget_X6_forget : GoodIn wsL_forget wsX6_forget := goodIn_ca (goodIn_r _ [6, 7, 8, 9, 10, 11, 5, 12, 13, 14, 15, 16, 17, 18, 19, 20, 21, 22, 23, 24, 25, 26, 27, 28, 29, 30, 31, 32, 33, 34, 35, 36, 37, 38, 39, 40, 41, 42, 43, 44, 45, 46, 47, 48, 49, 50, 51, 52, 53, 54, 55, 56, 57, 58, 59, 60, 61, 62, 63, 64, 65, 66, 67, 68, 69, 70, 71, 72, 73, 74, 75, 76, 77, 78, 79, 80, 81, 82, 83, 84, 85, 86, 87, 88, 89] (by decide +kernel) (by decide +kernel)) (goodIn_sub (fun _ h => List.mem_cons_of_mem _ (List.mem_append_right _ h)) (by decide +kernel))
set_option maxRecDepth 20000 in
theorem gL_forget_X6_forget : GoodIn wsL_forget (wsV RL 101 RX6 yX6_forget wsX6_forget) := goodIn_app (goodIn_of _ (by decide +kernel)) ggL_forget_X6_forget
theorem dL_forget_0 : decode cL_forget 0 = .ok (.aload_n 2, 1) := by decide +kernel
theorem dL_forget_1 : decode cL_forget 1 = .ok (.iconst 0, 1) := by decide +kernel
theorem dL_forget_2 : decode cL_forget 2 = .ok (.aload_n 0, 1) := by decide +kernel
theorem dL_forget_3 : decode cL_forget 3 = .ok (.iload_n 1, 1) := by decide +kernel
theorem dL_forget_4 : decode cL_forget 4 = .ok (.invokevirtual 101, 3) := by decide +kernel
theorem dL_forget_7 : decode cL_forget 7 = .ok (.i2l, 1) := by decide +kernel
theorem dL_forget_8 : decode cL_forget 8 = .ok (.lastore, 1) := by decide +kernel
theorem dL_forget_9 : decode cL_forget 9 = .ok (.goto 6, 3) := by decide +kernel
theorem dL_forget_12 : decode cL_forget 12 = .ok (.astore_n 3, 1) := by decide +kernel
theorem dL_forget_13 : decode cL_forget 13 = .ok (.iconst 1, 1) := by decide +kernel
theorem dL_forget_14 : decode cL_forget 14 = .ok (.ireturn, 1) := by decide +kernel
theorem dL_forget_15 : decode cL_forget 15 = .ok (.iconst 0, 1) := by decide +kernel
theorem dL_forget_16 : decode cL_forget 16 = .ok (.ireturn, 1) := by decide +kernel
set_option maxRecDepth 20000 in
theorem ggL_law_X6_init : GoodIn wsL_law wsX6_init := goodIn_r _ [9, 10, 11, 12, 13, 14, 15, 16, 17, 18, 19, 20, 21, 22, 23, 24, 25, 26, 27, 28, 29, 30, 31, 32, 33, 34, 35, 36, 37, 38, 39, 40, 41, 42, 43, 44, 45, 46, 47, 48, 49, 50, 51, 52, 53, 54, 55, 56, 57, 58, 59, 60, 61, 62, 63, 64, 65, 1118, 1119, 1120, 1078, 1079, 1080, 1081, 1082, 1083, 1084, 1085, 1121, 1122, 1123, 1124, 1125, 1126, 1127, 1128, 1129, 1130, 1131] (by decide +kernel) (by decide +kernel)
set_option maxRecDepth 20000 in
theorem gL_law_X6_init : GoodIn wsL_law (wsX6_init) := ggL_law_X6_init
set_option maxRecDepth 20000 in
theorem ggL_law_X7_init : GoodIn wsL_law wsX7_init := goodIn_r _ [68, 69, 11, 12, 53, 70, 71, 72, 73, 74, 75, 76, 77, 78, 79, 80, 81, 82, 83, 84, 85, 86, 87, 88, 89, 90, 91, 92, 93, 94, 1086, 1087, 1088, 1089, 1090, 1091, 1092, 1093, 1094, 1095, 1096, 1097, 1098, 1099, 1100, 1101, 1102, 1103, 1104, 1105, 1106, 1107, 1108, 1109, 1110, 1111, 1112, 1113, 1114, 1115, 1116, 1117] (by decide +kernel) (by decide +kernel)
set_option maxRecDepth 20000 in
theorem gL_law_X7_init : GoodIn wsL_law (wsX7_init) := ggL_law_X7_init
set_option maxRecDepth 20000 in
theorem ggL_law_L_addCell : GoodIn wsL_law wsL_addCell := goodIn_ca (goodIn_r _ [98, 99, 100, 101, 102, 2, 103, 104, 105, 16, 106, 107, 108, 17, 109, 110, 111, 15, 112, 113, 114, 115, 116, 117, 11, 12, 118, 14, 119, 120, 53, 121, 122, 123, 34, 35, 36, 37, 38, 39, 40, 41, 42, 43, 44, 45, 46, 47, 124, 125, 126, 127, 128, 129, 130, 131, 132, 133, 134, 135, 136, 137, 138, 139, 140, 141, 142, 143, 144, 145, 146, 147, 148, 149, 150, 151, 152, 153, 154, 155, 156, 157, 158, 159, 160, 161, 162, 163, 164, 165, 166, 167, 168, 169, 170, 171, 172, 173, 174, 175, 1078, 1079, 1080, 1081, 1082, 1083, 1084, 1085, 1132, 1133, 1134, 1135, 1118, 1119, 1120] (by decide +kernel) (by decide +kernel)) (goodIn_sub (fun _ h => List.mem_append_left _ (List.mem_append_left _ (List.mem_append_right _ h))) (by decide +kernel))
set_option maxRecDepth 20000 in
theorem gL_law_L_addCell : GoodIn wsL_law (va_wsS RL 108 yL_addCell wsL_addCell) := goodIn_app (goodIn_of _ (by decide +kernel)) ggL_law_L_addCell
set_option maxRecDepth 20000 in
theorem ggL_law_X7_addCell : GoodIn wsL_law wsX7_addCell := goodIn_r _ [179, 180, 70, 181, 182, 183, 5, 184, 185, 1086, 1087, 1088, 1089, 1090, 1091, 1092, 1093, 1094, 1095, 1096, 1097, 1098, 1099, 1100, 1101, 1102, 1103, 1104, 1105, 1106, 1107, 1108, 1109, 1110, 1111, 1112, 1113, 1114, 1115, 1116, 1117] (by decide +kernel) (by decide +kernel)
set_option maxRecDepth 20000 in
theorem gL_law_X7_addCell : GoodIn wsL_law (wsV RL 113 RX7 yX7_addCell wsX7_addCell) := goodIn_app (goodIn_of _ (by decide +kernel)) ggL_law_X7_addCell
set_option maxRecDepth 20000 in
theorem ggL_law_X7_thrown : GoodIn wsL_law wsX7_thrown := goodIn_r _ [189, 185, 1086, 1087, 1088, 1089, 1090, 1091, 1092, 1093, 1094, 1095, 1096, 1097, 1098, 1099, 1100, 1101, 1102, 1103, 1104, 1105, 1106, 1107, 1108, 1109, 1110, 1111, 1112, 1113, 1114, 1115, 1116, 1117] (by decide +kernel) (by decide +kernel)
set_option maxRecDepth 20000 in
theorem gL_law_X7_thrown : GoodIn wsL_law (wsV RL 114 RX7 yX7_thrown wsX7_thrown) := goodIn_app (goodIn_of _ (by decide +kernel)) ggL_law_X7_thrown
set_option maxRecDepth 20000 in
theorem ggL_law_L_write : GoodIn wsL_law wsL_write := goodIn_ca (goodIn_ca (goodIn_ca (goodIn_r _ [192, 193, 194, 99, 195, 196, 197, 2, 198, 199, 200, 104, 105, 201, 202, 203, 204, 18, 205, 206, 207, 208, 209, 210, 211, 212, 213, 214, 16, 215, 109, 110, 111, 15, 112, 113, 216, 217, 218, 219, 220, 221, 222, 223, 224, 225, 226, 227, 228, 229, 230, 231, 37, 232, 233, 234, 235, 236, 237, 238, 239, 240, 241, 242, 243, 244, 245, 246, 108, 247, 248, 249, 250, 251, 121, 252, 253, 254, 255, 11, 12, 256, 257, 258, 259, 124, 125, 126, 127, 128, 129, 130, 131, 132, 133, 134, 135, 136, 137, 138, 139, 140, 141, 36, 142, 143, 144, 145, 146, 147, 148, 149, 150, 151, 152, 153, 154, 155, 156, 157, 158, 159, 160, 161, 162, 163, 164, 165, 166, 167, 168, 169, 170, 171, 172, 173, 174, 175, 1132, 1133, 1134, 1135, 1136, 1137, 1138, 1139, 1078, 1079, 1080, 1081, 1082, 1083, 1084, 1085, 1118, 1119, 1120] (by decide +kernel) (by decide +kernel)) (goodIn_sub (fun _ h => List.mem_append_left _ (List.mem_append_right _ h)) (by decide +kernel))) (goodIn_sub (fun _ h => List.mem_append_left _ (List.mem_append_left _ (List.mem_append_right _ h))) (by decide +kernel))) (goodIn_sub (fun _ h => List.mem_append_right _ h) (by decide +kernel))
set_option maxRecDepth 20000 in
theorem gL_law_L_write : GoodIn wsL_law (va_wsS RL 117 yL_write wsL_write) := goodIn_app (goodIn_of _ (by decide +kernel)) ggL_law_L_write
set_option maxRecDepth 20000 in
theorem ggL_law_X7_write : GoodIn wsL_law wsX7_write := goodIn_r _ [263, 71, 72, 73, 74, 75, 76, 264, 265, 266, 5, 267, 268, 269, 270, 271, 272, 273, 274, 180, 275, 276, 277, 278, 279, 280, 281, 282, 283, 284, 78, 181, 182, 183, 184, 185, 1086, 1087, 1088, 1089, 1090, 1091, 1092, 1093, 1094, 1095, 1096, 1097, 1098, 1099, 1100, 1101, 1102, 1103, 1104, 1105, 1106, 1107, 1108, 1109, 1110, 1111, 1112, 1113, 1114, 1115, 1116, 1117] (by decide +kernel) (by decide +kernel)
set_option maxRecDepth 20000 in
theorem gL_law_X7_write : GoodIn wsL_law (wsV RL 120 RX7 yX7_write wsX7_write) := goodIn_app (goodIn_of _ (by decide +kernel)) ggL_law_X7_write
set_option maxRecDepth 20000 in
theorem ggL_law_L_clear : GoodIn wsL_law wsL_clear := goodIn_ca (goodIn_ca (goodIn_r _ [287, 193, 99, 288, 289, 290, 2, 291, 201, 18, 205, 206, 207, 208, 209, 210, 211, 212, 213, 214, 16, 215, 109, 110, 111, 15, 112, 113, 216, 217, 218, 219, 220, 221, 222, 223, 224, 225, 226, 227, 228, 229, 230, 231, 37, 241, 242, 243, 104, 105, 244, 245, 246, 108, 247, 248, 249, 250, 251, 121, 292, 293, 294, 295, 128, 129, 1132, 1133, 1134, 1135, 1078, 1079, 1080, 1081, 1082, 1083, 1084, 1085, 1118, 1119, 1120] (by decide +kernel) (by decide +kernel)) (goodIn_sub (fun _ h => List.mem_append_right _ h) (by decide +kernel))) (goodIn_sub (fun _ h => List.mem_append_left _ (List.mem_append_left _ (List.mem_append_right _ h))) (by decide +kernel))
set_option maxRecDepth 20000 in
theorem gL_law_L_clear : GoodIn wsL_law (va_wsS RL 121 yL_clear wsL_clear) := goodIn_app (goodIn_of _ (by decide +kernel)) ggL_law_L_clear
set_option maxRecDepth 20000 in
theorem ggL_law_X7_clear : GoodIn wsL_law wsX7_clear := goodIn_r _ [299, 71, 76, 264, 265, 266, 5, 267, 268, 269, 270, 271, 272, 273, 274, 180, 281, 282, 283, 284, 78, 181, 182, 183, 184, 185, 1086, 1087, 1088, 1089, 1090, 1091, 1092, 1093, 1094, 1095, 1096, 1097, 1098, 1099, 1100, 1101, 1102, 1103, 1104, 1105, 1106, 1107, 1108, 1109, 1110, 1111, 1112, 1113, 1114, 1115, 1116, 1117] (by decide +kernel) (by decide +kernel)
set_option maxRecDepth 20000 in
theorem gL_law_X7_clear : GoodIn wsL_law (wsV RL 124 RX7 yX7_clear wsX7_clear) := goodIn_app (goodIn_of _ (by decide +kernel)) ggL_law_X7_clear
set_option maxRecDepth 20000 in
theorem ggL_law_L_move : GoodIn wsL_law wsL_move := goodIn_ca (goodIn_r _ [302, 193, 303, 304, 305, 2, 306, 17, 211, 212, 213, 214, 209, 210, 16, 215, 109, 110, 111, 15, 112, 113, 216, 217, 218, 219, 220, 221, 222, 223, 224, 225, 226, 227, 228, 229, 230, 231, 37, 307, 308, 309, 310, 311, 312, 313, 314, 315, 316, 317, 318, 319, 320, 321, 322, 128, 129, 323, 173, 174, 175, 324, 325, 326, 327, 328, 329, 330, 331, 134, 135, 136, 137, 138, 139, 140, 141, 36, 142, 143, 144, 145, 146, 147, 148, 149, 150, 151, 152, 153, 154, 155, 156, 157, 158, 159, 160, 161, 162, 163, 164, 165, 166, 167, 168, 169, 170, 171, 172, 1078, 1079, 1080, 1081, 1082, 1083, 1084, 1085, 1118, 1119, 1120] (by decide +kernel) (by decide +kernel)) (goodIn_sub (fun _ h => List.mem_append_right _ h) (by decide +kernel))
set_option maxRecDepth 20000 in
theorem gL_law_L_move : GoodIn wsL_law (va_wsS RL 125 yL_move wsL_move) := goodIn_app (goodIn_of _ (by decide +kernel)) ggL_law_L_move
set_option maxRecDepth 20000 in
theorem ggL_law_X7_move : GoodIn wsL_law wsX7_move := goodIn_r _ [335, 180, 70, 271, 272, 273, 5, 274, 268, 269, 270, 181, 182, 183, 184, 185, 1086, 1087, 1088, 1089, 1090, 1091, 1092, 1093, 1094, 1095, 1096, 1097, 1098, 1099, 1100, 1101, 1102, 1103, 1104, 1105, 1106, 1107, 1108, 1109, 1110, 1111, 1112, 1113, 1114, 1115, 1116, 1117] (by decide +kernel) (by decide +kernel)
set_option maxRecDepth 20000 in
theorem gL_law_X7_move : GoodIn wsL_law (wsV RL 127 RX7 yX7_move wsX7_move) := goodIn_app (goodIn_of _ (by decide +kernel)) ggL_law_X7_move
set_option maxRecDepth 20000 in
theorem ggL_law_X6_cellCount : GoodIn wsL_law wsX6_cellCount := goodIn_r _ [339, 16, 109, 110, 111, 15, 112, 113, 1078, 1079, 1080, 1081, 1082, 1083, 1084, 1085, 1118, 1119, 1120] (by decide +kernel) (by decide +kernel)
set_option maxRecDepth 20000 in
theorem gL_law_X6_cellCount : GoodIn wsL_law (wsV RL 128 RX6 yX6_cellCount wsX6_cellCount) := goodIn_app (goodIn_of _ (by decide +kernel)) ggL_law_X6_cellCount
set_option maxRecDepth 20000 in
theorem ggL_law_X7_cellCount : GoodIn wsL_law wsX7_cellCount := goodIn_r _ [343, 180, 344, 345, 346, 5, 347, 185, 1086, 1087, 1088, 1089, 1090, 1091, 1092, 1093, 1094, 1095, 1096, 1097, 1098, 1099, 1100, 1101, 1102, 1103, 1104, 1105, 1106, 1107, 1108, 1109, 1110, 1111, 1112, 1113, 1114, 1115, 1116, 1117] (by decide +kernel) (by decide +kernel)
set_option maxRecDepth 20000 in
theorem gL_law_X7_cellCount : GoodIn wsL_law (wsV RL 131 RX7 yX7_cellCount wsX7_cellCount) := goodIn_app (goodIn_of _ (by decide +kernel)) ggL_law_X7_cellCount
set_option maxRecDepth 20000 in
theorem ggL_law_L_cellAt : GoodIn wsL_law wsL_cellAt := goodIn_ca (goodIn_r _ [350, 193, 351, 352, 353, 2, 354, 17, 215, 355, 307, 308, 309, 310, 209, 210, 109, 110, 111, 15, 112, 113, 216, 217, 218, 219, 220, 221, 222, 223, 224, 225, 226, 227, 228, 229, 230, 231, 37, 1078, 1079, 1080, 1081, 1082, 1083, 1084, 1085, 1132, 1133, 1134, 1135, 1118, 1119, 1120] (by decide +kernel) (by decide +kernel)) (goodIn_sub (fun _ h => List.mem_append_right _ h) (by decide +kernel))
set_option maxRecDepth 20000 in
theorem gL_law_L_cellAt : GoodIn wsL_law (va_wsS RL 132 yL_cellAt wsL_cellAt) := goodIn_app (goodIn_of _ (by decide +kernel)) ggL_law_L_cellAt
set_option maxRecDepth 20000 in
theorem ggL_law_X7_cellAt : GoodIn wsL_law wsX7_cellAt := goodIn_r _ [359, 180, 70, 268, 269, 5, 270, 181, 182, 183, 184, 185, 1086, 1087, 1088, 1089, 1090, 1091, 1092, 1093, 1094, 1095, 1096, 1097, 1098, 1099, 1100, 1101, 1102, 1103, 1104, 1105, 1106, 1107, 1108, 1109, 1110, 1111, 1112, 1113, 1114, 1115, 1116, 1117] (by decide +kernel) (by decide +kernel)
set_option maxRecDepth 20000 in
theorem gL_law_X7_cellAt : GoodIn wsL_law (wsV RL 135 RX7 yX7_cellAt wsX7_cellAt) := goodIn_app (goodIn_of _ (by decide +kernel)) ggL_law_X7_cellAt
set_option maxRecDepth 20000 in
theorem ggL_law_L_source : GoodIn wsL_law wsL_source := goodIn_ca (goodIn_r _ [362, 193, 363, 364, 365, 2, 366, 211, 212, 213, 214, 209, 210, 16, 215, 109, 110, 111, 15, 112, 113, 216, 217, 218, 219, 220, 221, 222, 223, 224, 225, 226, 227, 228, 229, 230, 231, 37, 367, 368, 369, 108, 370, 371, 372, 373, 119, 374, 375, 376, 377, 378, 379, 380, 381, 382, 11, 12, 383, 384, 385, 386, 387, 388, 389, 390, 391, 392, 393, 394, 395, 396, 397, 398, 399, 204, 400, 256, 258, 259, 401, 402, 403, 404, 405, 406, 407, 408, 409, 410, 411, 412, 413, 414, 415, 416, 417, 418, 419, 420, 421, 422, 423, 424, 425, 148, 149, 150, 151, 143, 144, 145, 152, 153, 154, 155, 426, 427, 158, 428, 429, 430, 431, 432, 433, 434, 169, 170, 171, 172, 173, 174, 175, 435, 436, 437, 438, 439, 440, 441, 442, 443, 444, 445, 446, 447, 448, 449, 450, 451, 452, 453, 454, 455, 456, 457, 458, 459, 460, 461, 462, 463, 464, 465, 466, 467, 468, 469, 470, 471, 472, 473, 474, 475, 476, 477, 478, 479, 480, 481, 482, 483, 484, 485, 486, 487, 236, 237, 488, 489, 490, 491, 492, 493, 494, 495, 496, 497, 498, 499, 500, 501, 502, 503, 504, 505, 506, 507, 508, 509, 510, 511, 512, 513, 514, 515, 516, 517, 518, 519, 520, 521, 522, 523, 524, 525, 257, 526, 527, 528, 529, 530, 531, 532, 533, 1078, 1079, 1080, 1081, 1082, 1083, 1084, 1085, 1118, 1119, 1120, 1140, 1141, 1142, 1143, 1132, 1133, 1134, 1135, 1136, 1137, 1138, 1139] (by decide +kernel) (by decide +kernel)) (goodIn_sub (fun _ h => List.mem_append_right _ h) (by decide +kernel))
set_option maxRecDepth 20000 in
theorem gL_law_L_source : GoodIn wsL_law (va_wsS RL 136 yL_source wsL_source) := goodIn_app (goodIn_of _ (by decide +kernel)) ggL_law_L_source
set_option maxRecDepth 20000 in
theorem ggL_law_X7_source : GoodIn wsL_law wsX7_source := goodIn_r _ [537, 271, 272, 273, 5, 274, 180, 268, 269, 270, 181, 182, 183, 184, 185, 538, 539, 540, 541, 71, 542, 543, 544, 545, 74, 75, 546, 547, 548, 275, 276, 277, 1086, 1087, 1088, 1089, 1090, 1091, 1092, 1093, 1094, 1095, 1096, 1097, 1098, 1099, 1100, 1101, 1102, 1103, 1104, 1105, 1106, 1107, 1108, 1109, 1110, 1111, 1112, 1113, 1114, 1115, 1116, 1117] (by decide +kernel) (by decide +kernel)
set_option maxRecDepth 20000 in
theorem gL_law_X7_source : GoodIn wsL_law (wsV RL 138 RX7 yX7_source wsX7_source) := goodIn_app (goodIn_of _ (by decide +kernel)) ggL_law_X7_source
set_option maxRecDepth 20000 in
theorem ggL_law_L_sourceChar : GoodIn wsL_law wsL_sourceChar := goodIn_ca (goodIn_r _ [551, 193, 552, 553, 554, 2, 555, 209, 210, 211, 212, 213, 214, 16, 215, 109, 110, 111, 15, 112, 113, 216, 217, 218, 219, 220, 221, 222, 223, 224, 225, 226, 227, 228, 229, 230, 231, 37, 367, 368, 369, 108, 370, 371, 372, 373, 119, 374, 375, 376, 377, 378, 379, 380, 381, 382, 11, 12, 383, 384, 385, 386, 387, 388, 389, 390, 391, 392, 393, 394, 395, 396, 397, 398, 399, 204, 400, 256, 258, 259, 401, 402, 403, 404, 405, 406, 407, 408, 409, 410, 411, 412, 413, 414, 415, 416, 417, 418, 419, 420, 421, 422, 423, 424, 425, 148, 149, 150, 151, 143, 144, 145, 152, 153, 154, 155, 426, 427, 158, 428, 429, 430, 431, 432, 433, 434, 169, 170, 171, 172, 173, 174, 175, 435, 436, 437, 438, 439, 440, 441, 442, 443, 444, 445, 446, 447, 448, 449, 450, 451, 452, 453, 454, 455, 456, 457, 458, 459, 460, 461, 462, 463, 464, 465, 466, 467, 468, 469, 470, 471, 472, 473, 474, 475, 476, 477, 478, 479, 480, 481, 482, 483, 484, 485, 486, 487, 236, 237, 488, 489, 490, 491, 492, 493, 494, 495, 496, 497, 498, 499, 500, 501, 502, 503, 504, 505, 506, 507, 508, 509, 510, 511, 512, 513, 514, 515, 516, 517, 518, 519, 520, 521, 522, 523, 524, 525, 257, 526, 527, 528, 529, 530, 531, 532, 533, 556, 557, 558, 559, 560, 561, 562, 563, 564, 565, 566, 567, 568, 1078, 1079, 1080, 1081, 1082, 1083, 1084, 1085, 1118, 1119, 1120, 1140, 1141, 1142, 1143, 1132, 1133, 1134, 1135, 1136, 1137, 1138, 1139] (by decide +kernel) (by decide +kernel)) (goodIn_sub (fun _ h => List.mem_append_right _ h) (by decide +kernel))
set_option maxRecDepth 20000 in
theorem gL_law_L_sourceChar : GoodIn wsL_law (va_wsS RL 139 yL_sourceChar wsL_sourceChar) := goodIn_app (goodIn_of _ (by decide +kernel)) ggL_law_L_sourceChar
set_option maxRecDepth 20000 in
theorem ggL_law_X7_sourceChar : GoodIn wsL_law wsX7_sourceChar := goodIn_r _ [572, 271, 272, 273, 5, 274, 180, 268, 269, 270, 538, 539, 540, 541, 71, 542, 543, 544, 545, 74, 75, 546, 547, 548, 275, 276, 277, 181, 182, 183, 184, 185, 573, 574, 575, 576, 72, 73, 577, 578, 579, 580, 581, 582, 1086, 1087, 1088, 1089, 1090, 1091, 1092, 1093, 1094, 1095, 1096, 1097, 1098, 1099, 1100, 1101, 1102, 1103, 1104, 1105, 1106, 1107, 1108, 1109, 1110, 1111, 1112, 1113, 1114, 1115, 1116, 1117] (by decide +kernel) (by decide +kernel)
set_option maxRecDepth 20000 in
theorem gL_law_X7_sourceChar : GoodIn wsL_law (wsV RL 141 RX7 yX7_sourceChar wsX7_sourceChar) := goodIn_app (goodIn_of _ (by decide +kernel)) ggL_law_X7_sourceChar
set_option maxRecDepth 20000 in
theorem ggL_law_L_grant : GoodIn wsL_law wsL_grant := goodIn_ca (goodIn_ca (goodIn_r _ [585, 193, 194, 586, 587, 588, 2, 589, 209, 210, 199, 200, 206, 207, 208, 211, 212, 213, 214, 16, 215, 109, 110, 111, 15, 112, 113, 216, 217, 218, 219, 220, 221, 222, 223, 224, 225, 226, 227, 228, 229, 230, 231, 37, 590, 249, 250, 108, 251, 121, 591, 592, 593, 594, 1078, 1079, 1080, 1081, 1082, 1083, 1084, 1085, 1118, 1119, 1120, 1132, 1133, 1134, 1135] (by decide +kernel) (by decide +kernel)) (goodIn_sub (fun _ h => List.mem_append_right _ h) (by decide +kernel))) (goodIn_sub (fun _ h => List.mem_append_left _ (List.mem_append_right _ h)) (by decide +kernel))
set_option maxRecDepth 20000 in
theorem gL_law_L_grant : GoodIn wsL_law (va_wsS RL 142 yL_grant wsL_grant) := goodIn_app (goodIn_of _ (by decide +kernel)) ggL_law_L_grant
set_option maxRecDepth 20000 in
theorem ggL_law_X7_grant : GoodIn wsL_law wsX7_grant := goodIn_r _ [598, 78, 268, 269, 5, 270, 271, 272, 273, 274, 180, 181, 182, 183, 184, 185, 1086, 1087, 1088, 1089, 1090, 1091, 1092, 1093, 1094, 1095, 1096, 1097, 1098, 1099, 1100, 1101, 1102, 1103, 1104, 1105, 1106, 1107, 1108, 1109, 1110, 1111, 1112, 1113, 1114, 1115, 1116, 1117] (by decide +kernel) (by decide +kernel)
set_option maxRecDepth 20000 in
theorem gL_law_X7_grant : GoodIn wsL_law (wsV RL 145 RX7 yX7_grant wsX7_grant) := goodIn_app (goodIn_of _ (by decide +kernel)) ggL_law_X7_grant
set_option maxRecDepth 20000 in
theorem ggL_law_L_right : GoodIn wsL_law wsL_right := goodIn_ca (goodIn_r _ [601, 193, 602, 603, 604, 2, 605, 206, 207, 208, 209, 210, 211, 212, 213, 214, 16, 215, 109, 110, 111, 15, 112, 113, 216, 217, 218, 219, 220, 221, 222, 223, 224, 225, 226, 227, 228, 229, 230, 231, 37, 590, 249, 250, 108, 251, 121, 1078, 1079, 1080, 1081, 1082, 1083, 1084, 1085, 1118, 1119, 1120, 1132, 1133, 1134, 1135] (by decide +kernel) (by decide +kernel)) (goodIn_sub (fun _ h => List.mem_append_right _ h) (by decide +kernel))
set_option maxRecDepth 20000 in
theorem gL_law_L_right : GoodIn wsL_law (va_wsS RL 146 yL_right wsL_right) := goodIn_app (goodIn_of _ (by decide +kernel)) ggL_law_L_right
set_option maxRecDepth 20000 in
theorem ggL_law_X7_right : GoodIn wsL_law wsX7_right := goodIn_r _ [609, 265, 266, 5, 267, 268, 269, 270, 271, 272, 273, 274, 180, 181, 182, 183, 184, 185, 281, 282, 283, 284, 78, 1086, 1087, 1088, 1089, 1090, 1091, 1092, 1093, 1094, 1095, 1096, 1097, 1098, 1099, 1100, 1101, 1102, 1103, 1104, 1105, 1106, 1107, 1108, 1109, 1110, 1111, 1112, 1113, 1114, 1115, 1116, 1117] (by decide +kernel) (by decide +kernel)
set_option maxRecDepth 20000 in
theorem gL_law_X7_right : GoodIn wsL_law (wsV RL 148 RX7 yX7_right wsX7_right) := goodIn_app (goodIn_of _ (by decide +kernel)) ggL_law_X7_right
set_option maxRecDepth 20000 in
theorem ggL_law_L_run : GoodIn wsL_law wsL_run := goodIn_ca (goodIn_ca (goodIn_r _ [612, 193, 99, 613, 614, 615, 2, 616, 104, 105, 18, 206, 207, 208, 209, 210, 211, 212, 213, 214, 16, 215, 109, 110, 111, 15, 112, 113, 216, 217, 218, 219, 220, 221, 222, 223, 224, 225, 226, 227, 228, 229, 230, 231, 37, 241, 242, 243, 244, 245, 246, 108, 247, 248, 249, 250, 251, 121, 617, 618, 619, 620, 32, 201, 24, 621, 622, 623, 624, 19, 355, 625, 626, 627, 628, 31, 629, 630, 631, 632, 64, 633, 634, 635, 636, 637, 638, 639, 65, 640, 641, 642, 27, 643, 644, 645, 646, 647, 58, 236, 237, 648, 649, 650, 651, 59, 652, 653, 654, 655, 656, 657, 658, 659, 660, 661, 662, 663, 664, 665, 666, 667, 668, 669, 670, 671, 672, 673, 674, 675, 676, 677, 678, 679, 680, 681, 204, 682, 257, 683, 684, 685, 686, 687, 688, 11, 12, 53, 689, 690, 691, 692, 693, 694, 695, 696, 697, 698, 699, 700, 701, 702, 124, 125, 126, 127, 128, 129, 130, 131, 132, 133, 134, 135, 136, 137, 138, 139, 140, 141, 36, 142, 143, 144, 145, 146, 147, 148, 149, 150, 151, 152, 153, 154, 155, 156, 157, 158, 159, 160, 161, 162, 163, 164, 165, 166, 167, 168, 169, 170, 171, 172, 173, 174, 175, 703, 704, 705, 23, 706, 54, 1078, 1079, 1080, 1081, 1082, 1083, 1084, 1085, 1118, 1119, 1120, 1132, 1133, 1134, 1135, 1121, 1122, 1144, 1145, 1146, 1147, 1148, 1149, 1150, 1125, 1126, 1127, 1128, 1129, 1130, 1131, 1123, 1124, 1136, 1137, 1138, 1139] (by decide +kernel) (by decide +kernel)) (goodIn_sub (fun _ h => List.mem_append_left _ (List.mem_append_left _ (List.mem_append_right _ h))) (by decide +kernel))) (goodIn_sub (fun _ h => List.mem_append_right _ h) (by decide +kernel))
set_option maxRecDepth 20000 in
theorem gL_law_L_run : GoodIn wsL_law (va_wsS RL 149 yL_run wsL_run) := goodIn_app (goodIn_of _ (by decide +kernel)) ggL_law_L_run
set_option maxRecDepth 20000 in
theorem ggL_law_X7_run : GoodIn wsL_law wsX7_run := goodIn_r _ [710, 264, 265, 266, 5, 267, 268, 269, 270, 271, 272, 273, 274, 180, 281, 282, 283, 284, 78, 181, 182, 183, 184, 185, 711, 712, 713, 714, 82, 83, 84, 715, 87, 71, 85, 716, 89, 80, 81, 717, 79, 93, 77, 718, 719, 720, 721, 722, 723, 724, 725, 726, 727, 728, 729, 730, 74, 75, 73, 731, 732, 72, 733, 734, 735, 736, 275, 276, 277, 737, 738, 739, 740, 741, 742, 743, 1086, 1087, 1088, 1089, 1090, 1091, 1092, 1093, 1094, 1095, 1096, 1097, 1098, 1099, 1100, 1101, 1102, 1103, 1104, 1105, 1106, 1107, 1108, 1109, 1110, 1111, 1112, 1113, 1114, 1115, 1116, 1117] (by decide +kernel) (by decide +kernel)
set_option maxRecDepth 20000 in
theorem gL_law_X7_run : GoodIn wsL_law (wsV RL 151 RX7 yX7_run wsX7_run) := goodIn_app (goodIn_of _ (by decide +kernel)) ggL_law_X7_run
set_option maxRecDepth 20000 in
theorem ggL_law_L_refresh : GoodIn wsL_law wsL_refresh := goodIn_ca (goodIn_ca (goodIn_r _ [746, 193, 99, 747, 748, 749, 2, 750, 104, 105, 18, 17, 215, 206, 207, 208, 209, 210, 109, 110, 111, 15, 112, 113, 216, 217, 218, 219, 220, 221, 222, 223, 224, 225, 226, 227, 228, 229, 230, 231, 37, 244, 245, 246, 108, 247, 248, 249, 250, 251, 121, 751, 752, 753, 754, 24, 355, 755, 756, 757, 23, 758, 54, 759, 760, 761, 762, 763, 764, 765, 766, 767, 768, 769, 770, 771, 772, 773, 205, 621, 774, 775, 776, 624, 777, 698, 236, 237, 778, 649, 650, 27, 651, 59, 779, 780, 781, 782, 689, 783, 784, 785, 786, 787, 788, 789, 790, 617, 618, 619, 620, 32, 201, 622, 623, 19, 625, 626, 627, 628, 31, 629, 630, 631, 632, 64, 633, 634, 635, 636, 637, 638, 639, 65, 640, 641, 642, 643, 644, 645, 646, 647, 58, 648, 652, 653, 654, 655, 656, 657, 658, 659, 660, 661, 662, 663, 664, 665, 666, 667, 668, 669, 670, 671, 672, 673, 674, 675, 676, 677, 678, 679, 680, 681, 204, 682, 257, 683, 684, 685, 686, 687, 688, 11, 12, 53, 690, 691, 692, 693, 694, 695, 696, 697, 699, 700, 701, 702, 124, 125, 126, 127, 128, 129, 130, 131, 132, 133, 134, 135, 136, 137, 138, 139, 140, 141, 36, 142, 143, 144, 145, 146, 147, 148, 149, 150, 151, 152, 153, 154, 155, 156, 157, 158, 159, 160, 161, 162, 163, 164, 165, 166, 167, 168, 169, 170, 171, 172, 173, 174, 175, 703, 704, 705, 706, 1078, 1079, 1080, 1081, 1082, 1083, 1084, 1085, 1118, 1119, 1120, 1132, 1133, 1134, 1135, 1121, 1122, 1144, 1145, 1146, 1147, 1148, 1149, 1150, 1123, 1124, 1125, 1126, 1127, 1128, 1129, 1130, 1131, 1136, 1137, 1138, 1139] (by decide +kernel) (by decide +kernel)) (goodIn_sub (fun _ h => List.mem_append_left _ (List.mem_append_left _ (List.mem_append_right _ h))) (by decide +kernel))) (goodIn_sub (fun _ h => List.mem_append_right _ h) (by decide +kernel))
set_option maxRecDepth 20000 in
theorem gL_law_L_refresh : GoodIn wsL_law (va_wsS RL 152 yL_refresh wsL_refresh) := goodIn_app (goodIn_of _ (by decide +kernel)) ggL_law_L_refresh
set_option maxRecDepth 20000 in
theorem ggL_law_X7_refresh : GoodIn wsL_law wsX7_refresh := goodIn_r _ [794, 264, 180, 70, 77, 94, 265, 266, 5, 267, 268, 269, 270, 181, 182, 183, 184, 185, 795, 796, 797, 798, 799, 800, 801, 802, 76, 84, 89, 80, 737, 738, 739, 803, 804, 805, 806, 82, 281, 282, 283, 284, 78, 711, 712, 713, 714, 83, 715, 87, 71, 85, 716, 81, 717, 79, 93, 718, 719, 720, 721, 722, 723, 724, 725, 726, 727, 728, 729, 730, 74, 75, 73, 731, 732, 72, 733, 734, 735, 736, 275, 276, 277, 740, 741, 742, 743, 1086, 1087, 1088, 1089, 1090, 1091, 1092, 1093, 1094, 1095, 1096, 1097, 1098, 1099, 1100, 1101, 1102, 1103, 1104, 1105, 1106, 1107, 1108, 1109, 1110, 1111, 1112, 1113, 1114, 1115, 1116, 1117] (by decide +kernel) (by decide +kernel)
set_option maxRecDepth 20000 in
theorem gL_law_X7_refresh : GoodIn wsL_law (wsV RL 154 RX7 yX7_refresh wsX7_refresh) := goodIn_app (goodIn_of _ (by decide +kernel)) ggL_law_X7_refresh
set_option maxRecDepth 20000 in
theorem ggL_law_L_isSet : GoodIn wsL_law wsL_isSet := goodIn_ca (goodIn_r _ [809, 193, 810, 811, 812, 2, 813, 24, 621, 232, 233, 234, 209, 210, 235, 236, 237, 814, 671, 672, 27, 673, 59, 1078, 1079, 1080, 1081, 1082, 1083, 1084, 1085, 1121, 1122, 1123, 1124] (by decide +kernel) (by decide +kernel)) (goodIn_sub (fun _ h => List.mem_append_right _ h) (by decide +kernel))
set_option maxRecDepth 20000 in
theorem gL_law_L_isSet : GoodIn wsL_law (va_wsS RL 155 yL_isSet wsL_isSet) := goodIn_app (goodIn_of _ (by decide +kernel)) ggL_law_L_isSet
set_option maxRecDepth 20000 in
theorem ggL_law_X7_isSet : GoodIn wsL_law wsX7_isSet := goodIn_r _ [818, 80, 275, 276, 5, 277, 268, 269, 270, 181, 182, 183, 184, 185, 1086, 1087, 1088, 1089, 1090, 1091, 1092, 1093, 1094, 1095, 1096, 1097, 1098, 1099, 1100, 1101, 1102, 1103, 1104, 1105, 1106, 1107, 1108, 1109, 1110, 1111, 1112, 1113, 1114, 1115, 1116, 1117] (by decide +kernel) (by decide +kernel)
set_option maxRecDepth 20000 in
theorem gL_law_X7_isSet : GoodIn wsL_law (wsV RL 157 RX7 yX7_isSet wsX7_isSet) := goodIn_app (goodIn_of _ (by decide +kernel)) ggL_law_X7_isSet
set_option maxRecDepth 20000 in
theorem ggL_law_L_value : GoodIn wsL_law wsL_value := goodIn_ca (goodIn_ca (goodIn_r _ [821, 193, 99, 822, 823, 824, 2, 825, 24, 621, 232, 233, 234, 209, 210, 235, 236, 237, 826, 827, 828, 104, 105, 814, 671, 672, 27, 673, 59, 829, 645, 646, 647, 58, 1078, 1079, 1080, 1081, 1082, 1083, 1084, 1085, 1121, 1122, 1123, 1124] (by decide +kernel) (by decide +kernel)) (goodIn_sub (fun _ h => List.mem_append_right _ h) (by decide +kernel))) (goodIn_sub (fun _ h => List.mem_append_left _ (List.mem_append_left _ (List.mem_append_right _ h))) (by decide +kernel))
set_option maxRecDepth 20000 in
theorem gL_law_L_value : GoodIn wsL_law (va_wsS RL 158 yL_value wsL_value) := goodIn_app (goodIn_of _ (by decide +kernel)) ggL_law_L_value
set_option maxRecDepth 20000 in
theorem ggL_law_X7_value : GoodIn wsL_law wsX7_value := goodIn_r _ [833, 80, 79, 275, 276, 5, 277, 268, 269, 270, 181, 182, 183, 184, 185, 1086, 1087, 1088, 1089, 1090, 1091, 1092, 1093, 1094, 1095, 1096, 1097, 1098, 1099, 1100, 1101, 1102, 1103, 1104, 1105, 1106, 1107, 1108, 1109, 1110, 1111, 1112, 1113, 1114, 1115, 1116, 1117] (by decide +kernel) (by decide +kernel)
set_option maxRecDepth 20000 in
theorem gL_law_X7_value : GoodIn wsL_law (wsV RL 160 RX7 yX7_value wsX7_value) := goodIn_app (goodIn_of _ (by decide +kernel)) ggL_law_X7_value
set_option maxRecDepth 20000 in
theorem ggL_law_L_stamp : GoodIn wsL_law wsL_stamp := goodIn_ca (goodIn_r _ [836, 193, 837, 838, 839, 2, 840, 24, 621, 232, 233, 234, 209, 210, 235, 236, 237, 778, 649, 650, 27, 651, 59, 1078, 1079, 1080, 1081, 1082, 1083, 1084, 1085, 1121, 1122, 1123, 1124] (by decide +kernel) (by decide +kernel)) (goodIn_sub (fun _ h => List.mem_append_right _ h) (by decide +kernel))
set_option maxRecDepth 20000 in
theorem gL_law_L_stamp : GoodIn wsL_law (va_wsS RL 161 yL_stamp wsL_stamp) := goodIn_app (goodIn_of _ (by decide +kernel)) ggL_law_L_stamp
set_option maxRecDepth 20000 in
theorem ggL_law_X7_stamp : GoodIn wsL_law wsX7_stamp := goodIn_r _ [844, 80, 275, 276, 5, 277, 268, 269, 270, 181, 182, 183, 184, 185, 1086, 1087, 1088, 1089, 1090, 1091, 1092, 1093, 1094, 1095, 1096, 1097, 1098, 1099, 1100, 1101, 1102, 1103, 1104, 1105, 1106, 1107, 1108, 1109, 1110, 1111, 1112, 1113, 1114, 1115, 1116, 1117] (by decide +kernel) (by decide +kernel)
set_option maxRecDepth 20000 in
theorem gL_law_X7_stamp : GoodIn wsL_law (wsV RL 163 RX7 yX7_stamp wsX7_stamp) := goodIn_app (goodIn_of _ (by decide +kernel)) ggL_law_X7_stamp
set_option maxRecDepth 20000 in
theorem ggL_law_L_lastRun : GoodIn wsL_law wsL_lastRun := goodIn_ca (goodIn_r _ [847, 193, 848, 849, 850, 2, 851, 24, 355, 211, 212, 213, 214, 209, 210, 16, 215, 109, 110, 111, 15, 112, 113, 216, 217, 218, 219, 220, 221, 222, 223, 224, 225, 226, 227, 228, 229, 230, 231, 37, 755, 756, 757, 23, 758, 54, 1078, 1079, 1080, 1081, 1082, 1083, 1084, 1085, 1132, 1133, 1134, 1135, 1118, 1119, 1120, 1121, 1122] (by decide +kernel) (by decide +kernel)) (goodIn_sub (fun _ h => List.mem_append_right _ h) (by decide +kernel))
