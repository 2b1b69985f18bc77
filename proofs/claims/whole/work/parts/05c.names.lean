set_option maxRecDepth 20000 in
theorem gL_law_L_lastRun : GoodIn wsL_law (va_wsS RL 164 yL_lastRun wsL_lastRun) := goodIn_app (goodIn_of _ (by decide +kernel)) ggL_law_L_lastRun
set_option maxRecDepth 20000 in
theorem ggL_law_X7_lastRun : GoodIn wsL_law wsX7_lastRun := goodIn_r _ [855, 77, 271, 272, 273, 5, 274, 180, 268, 269, 270, 181, 182, 183, 184, 185, 1086, 1087, 1088, 1089, 1090, 1091, 1092, 1093, 1094, 1095, 1096, 1097, 1098, 1099, 1100, 1101, 1102, 1103, 1104, 1105, 1106, 1107, 1108, 1109, 1110, 1111, 1112, 1113, 1114, 1115, 1116, 1117] (by decide +kernel) (by decide +kernel)
set_option maxRecDepth 20000 in
theorem gL_law_X7_lastRun : GoodIn wsL_law (wsV RL 166 RX7 yX7_lastRun wsX7_lastRun) := goodIn_app (goodIn_of _ (by decide +kernel)) ggL_law_X7_lastRun
set_option maxRecDepth 20000 in
theorem ggL_law_L_hasResult : GoodIn wsL_law wsL_hasResult := goodIn_ca (goodIn_r _ [858, 193, 859, 860, 861, 2, 862, 863, 211, 212, 213, 214, 209, 210, 16, 215, 109, 110, 111, 15, 112, 113, 216, 217, 218, 219, 220, 221, 222, 223, 224, 225, 226, 227, 228, 229, 230, 231, 37, 864, 865, 866, 867, 24, 355, 755, 756, 757, 23, 758, 54, 787, 788, 789, 790, 18, 763, 1144, 1145, 1146, 1147, 1148, 1149, 1150, 1078, 1079, 1080, 1081, 1082, 1083, 1084, 1085, 1118, 1119, 1120, 1132, 1133, 1134, 1135, 1121, 1122] (by decide +kernel) (by decide +kernel)) (goodIn_sub (fun _ h => List.mem_append_right _ h) (by decide +kernel))
set_option maxRecDepth 20000 in
theorem gL_law_L_hasResult : GoodIn wsL_law (va_wsS RL 167 yL_hasResult wsL_hasResult) := goodIn_app (goodIn_of _ (by decide +kernel)) ggL_law_L_hasResult
set_option maxRecDepth 20000 in
theorem ggL_law_X7_hasResult : GoodIn wsL_law wsX7_hasResult := goodIn_r _ [871, 87, 77, 271, 272, 273, 5, 274, 180, 268, 269, 270, 181, 182, 183, 184, 185, 1086, 1087, 1088, 1089, 1090, 1091, 1092, 1093, 1094, 1095, 1096, 1097, 1098, 1099, 1100, 1101, 1102, 1103, 1104, 1105, 1106, 1107, 1108, 1109, 1110, 1111, 1112, 1113, 1114, 1115, 1116, 1117] (by decide +kernel) (by decide +kernel)
set_option maxRecDepth 20000 in
theorem gL_law_X7_hasResult : GoodIn wsL_law (wsV RL 169 RX7 yX7_hasResult wsX7_hasResult) := goodIn_app (goodIn_of _ (by decide +kernel)) ggL_law_X7_hasResult
set_option maxRecDepth 20000 in
theorem ggL_law_L_result : GoodIn wsL_law wsL_result := goodIn_ca (goodIn_ca (goodIn_r _ [874, 193, 99, 875, 876, 877, 2, 878, 104, 105, 863, 879, 206, 207, 208, 209, 210, 211, 212, 213, 214, 16, 215, 109, 110, 111, 15, 112, 113, 216, 217, 218, 219, 220, 221, 222, 223, 224, 225, 226, 227, 228, 229, 230, 231, 37, 241, 242, 243, 244, 245, 246, 108, 247, 248, 249, 250, 251, 121, 864, 865, 866, 867, 24, 355, 755, 756, 757, 23, 758, 54, 787, 788, 789, 790, 18, 763, 1144, 1145, 1146, 1147, 1148, 1149, 1150, 1078, 1079, 1080, 1081, 1082, 1083, 1084, 1085, 1118, 1119, 1120, 1132, 1133, 1134, 1135, 1121, 1122] (by decide +kernel) (by decide +kernel)) (goodIn_sub (fun _ h => List.mem_append_left _ (List.mem_append_left _ (List.mem_append_right _ h))) (by decide +kernel))) (goodIn_sub (fun _ h => List.mem_append_right _ h) (by decide +kernel))
set_option maxRecDepth 20000 in
theorem gL_law_L_result : GoodIn wsL_law (va_wsS RL 170 yL_result wsL_result) := goodIn_app (goodIn_of _ (by decide +kernel)) ggL_law_L_result
set_option maxRecDepth 20000 in
theorem ggL_law_X7_result : GoodIn wsL_law wsX7_result := goodIn_r _ [883, 87, 77, 85, 265, 266, 5, 267, 268, 269, 270, 271, 272, 273, 274, 180, 281, 282, 283, 284, 78, 181, 182, 183, 184, 185, 1086, 1087, 1088, 1089, 1090, 1091, 1092, 1093, 1094, 1095, 1096, 1097, 1098, 1099, 1100, 1101, 1102, 1103, 1104, 1105, 1106, 1107, 1108, 1109, 1110, 1111, 1112, 1113, 1114, 1115, 1116, 1117] (by decide +kernel) (by decide +kernel)
set_option maxRecDepth 20000 in
theorem gL_law_X7_result : GoodIn wsL_law (wsV RL 172 RX7 yX7_result wsX7_result) := goodIn_app (goodIn_of _ (by decide +kernel)) ggL_law_X7_result
set_option maxRecDepth 20000 in
theorem ggL_law_L_seen : GoodIn wsL_law wsL_seen := goodIn_ca (goodIn_r _ [886, 193, 887, 888, 889, 2, 890, 891, 211, 212, 213, 214, 209, 210, 16, 215, 109, 110, 111, 15, 112, 113, 216, 217, 218, 219, 220, 221, 222, 223, 224, 225, 226, 227, 228, 229, 230, 231, 37, 864, 865, 866, 867, 24, 355, 755, 756, 757, 23, 758, 54, 787, 788, 789, 790, 18, 763, 1144, 1145, 1146, 1147, 1148, 1149, 1150, 1078, 1079, 1080, 1081, 1082, 1083, 1084, 1085, 1118, 1119, 1120, 1132, 1133, 1134, 1135, 1121, 1122] (by decide +kernel) (by decide +kernel)) (goodIn_sub (fun _ h => List.mem_append_right _ h) (by decide +kernel))
set_option maxRecDepth 20000 in
theorem gL_law_L_seen : GoodIn wsL_law (va_wsS RL 173 yL_seen wsL_seen) := goodIn_app (goodIn_of _ (by decide +kernel)) ggL_law_L_seen
set_option maxRecDepth 20000 in
theorem ggL_law_X7_seen : GoodIn wsL_law wsX7_seen := goodIn_r _ [895, 84, 77, 271, 272, 273, 5, 274, 180, 268, 269, 270, 181, 182, 183, 184, 185, 1086, 1087, 1088, 1089, 1090, 1091, 1092, 1093, 1094, 1095, 1096, 1097, 1098, 1099, 1100, 1101, 1102, 1103, 1104, 1105, 1106, 1107, 1108, 1109, 1110, 1111, 1112, 1113, 1114, 1115, 1116, 1117] (by decide +kernel) (by decide +kernel)
set_option maxRecDepth 20000 in
theorem gL_law_X7_seen : GoodIn wsL_law (wsV RL 175 RX7 yX7_seen wsX7_seen) := goodIn_app (goodIn_of _ (by decide +kernel)) ggL_law_X7_seen
set_option maxRecDepth 20000 in
theorem ggL_law_L_timesSeen : GoodIn wsL_law wsL_timesSeen := goodIn_ca (goodIn_r _ [898, 193, 899, 900, 901, 2, 902, 18, 763, 232, 233, 234, 209, 210, 235, 236, 237, 109, 110, 111, 15, 112, 113, 216, 217, 218, 219, 220, 221, 222, 223, 224, 225, 226, 227, 228, 229, 230, 231, 37, 774, 775, 776, 624, 777, 698, 1078, 1079, 1080, 1081, 1082, 1083, 1084, 1085, 1118, 1119, 1120, 1144, 1145, 1146, 1147, 1148, 1149, 1150] (by decide +kernel) (by decide +kernel)) (goodIn_sub (fun _ h => List.mem_append_right _ h) (by decide +kernel))
set_option maxRecDepth 20000 in
theorem gL_law_L_timesSeen : GoodIn wsL_law (va_wsS RL 176 yL_timesSeen wsL_timesSeen) := goodIn_app (goodIn_of _ (by decide +kernel)) ggL_law_L_timesSeen
set_option maxRecDepth 20000 in
theorem ggL_law_X7_timesSeen : GoodIn wsL_law wsX7_timesSeen := goodIn_r _ [906, 81, 275, 276, 5, 277, 268, 269, 270, 181, 182, 183, 184, 185, 1086, 1087, 1088, 1089, 1090, 1091, 1092, 1093, 1094, 1095, 1096, 1097, 1098, 1099, 1100, 1101, 1102, 1103, 1104, 1105, 1106, 1107, 1108, 1109, 1110, 1111, 1112, 1113, 1114, 1115, 1116, 1117] (by decide +kernel) (by decide +kernel)
set_option maxRecDepth 20000 in
theorem gL_law_X7_timesSeen : GoodIn wsL_law (wsV RL 178 RX7 yX7_timesSeen wsX7_timesSeen) := goodIn_app (goodIn_of _ (by decide +kernel)) ggL_law_X7_timesSeen
set_option maxRecDepth 20000 in
theorem ggL_law_L_why : GoodIn wsL_law wsL_why := goodIn_ca (goodIn_r _ [909, 193, 910, 911, 912, 2, 913, 211, 212, 213, 214, 209, 210, 16, 215, 109, 110, 111, 15, 112, 113, 216, 217, 218, 219, 220, 221, 222, 223, 224, 225, 226, 227, 228, 229, 230, 231, 37, 864, 865, 866, 867, 24, 355, 755, 756, 757, 23, 758, 54, 787, 788, 789, 790, 18, 763, 759, 760, 761, 762, 764, 765, 766, 767, 768, 769, 770, 771, 772, 773, 205, 621, 774, 775, 776, 624, 777, 698, 236, 237, 778, 649, 650, 27, 651, 59, 779, 780, 781, 782, 689, 783, 784, 785, 786, 1078, 1079, 1080, 1081, 1082, 1083, 1084, 1085, 1118, 1119, 1120, 1132, 1133, 1134, 1135, 1121, 1122, 1144, 1145, 1146, 1147, 1148, 1149, 1150, 1123, 1124] (by decide +kernel) (by decide +kernel)) (goodIn_sub (fun _ h => List.mem_append_right _ h) (by decide +kernel))
set_option maxRecDepth 20000 in
theorem gL_law_L_why : GoodIn wsL_law (va_wsS RL 179 yL_why wsL_why) := goodIn_app (goodIn_of _ (by decide +kernel)) ggL_law_L_why
set_option maxRecDepth 20000 in
theorem ggL_law_X7_why : GoodIn wsL_law wsX7_why := goodIn_r _ [917, 94, 795, 796, 797, 5, 798, 180, 77, 799, 800, 801, 802, 76, 84, 89, 80, 737, 738, 739, 803, 804, 805, 806, 82, 271, 272, 273, 274, 268, 269, 270, 181, 182, 183, 184, 185, 1086, 1087, 1088, 1089, 1090, 1091, 1092, 1093, 1094, 1095, 1096, 1097, 1098, 1099, 1100, 1101, 1102, 1103, 1104, 1105, 1106, 1107, 1108, 1109, 1110, 1111, 1112, 1113, 1114, 1115, 1116, 1117] (by decide +kernel) (by decide +kernel)
set_option maxRecDepth 20000 in
theorem gL_law_X7_why : GoodIn wsL_law (wsV RL 181 RX7 yX7_why wsX7_why) := goodIn_app (goodIn_of _ (by decide +kernel)) ggL_law_X7_why
set_option maxRecDepth 20000 in
theorem ggL_law_X6_stale : GoodIn wsL_law wsX6_stale := goodIn_r _ [921, 759, 760, 761, 2, 762, 18, 763, 764, 355, 109, 110, 111, 15, 112, 113, 216, 217, 218, 219, 220, 221, 222, 223, 224, 225, 226, 227, 228, 229, 230, 231, 37, 765, 766, 767, 768, 24, 769, 755, 756, 757, 23, 758, 54, 770, 771, 772, 773, 205, 621, 774, 775, 776, 624, 777, 698, 236, 237, 778, 649, 650, 27, 651, 59, 779, 780, 781, 782, 689, 783, 784, 785, 786, 787, 788, 789, 790, 1078, 1079, 1080, 1081, 1082, 1083, 1084, 1085, 1144, 1145, 1146, 1147, 1148, 1149, 1150, 1132, 1133, 1134, 1135, 1118, 1119, 1120, 1121, 1122, 1123, 1124] (by decide +kernel) (by decide +kernel)
set_option maxRecDepth 20000 in
theorem gL_law_X6_stale : GoodIn wsL_law (wsV RL 182 RX6 yX6_stale wsX6_stale) := goodIn_app (goodIn_of _ (by decide +kernel)) ggL_law_X6_stale
set_option maxRecDepth 20000 in
theorem ggL_law_X7_stale : GoodIn wsL_law wsX7_stale := goodIn_r _ [925, 926, 927, 928, 5, 929, 180, 94, 795, 796, 797, 798, 77, 799, 800, 801, 802, 76, 84, 89, 80, 737, 738, 739, 803, 804, 805, 806, 82, 344, 345, 346, 347, 185, 1086, 1087, 1088, 1089, 1090, 1091, 1092, 1093, 1094, 1095, 1096, 1097, 1098, 1099, 1100, 1101, 1102, 1103, 1104, 1105, 1106, 1107, 1108, 1109, 1110, 1111, 1112, 1113, 1114, 1115, 1116, 1117] (by decide +kernel) (by decide +kernel)
set_option maxRecDepth 20000 in
theorem gL_law_X7_stale : GoodIn wsL_law (wsV RL 185 RX7 yX7_stale wsX7_stale) := goodIn_app (goodIn_of _ (by decide +kernel)) ggL_law_X7_stale
set_option maxRecDepth 20000 in
theorem ggL_law_L_wouldBeStale : GoodIn wsL_law wsL_wouldBeStale := goodIn_ca (goodIn_r _ [932, 193, 933, 934, 935, 2, 936, 232, 233, 234, 209, 210, 235, 236, 237, 759, 760, 761, 762, 18, 763, 764, 355, 109, 110, 111, 15, 112, 113, 216, 217, 218, 219, 220, 221, 222, 223, 224, 225, 226, 227, 228, 229, 230, 231, 37, 765, 766, 767, 768, 24, 769, 755, 756, 757, 23, 758, 54, 770, 771, 772, 773, 205, 621, 774, 775, 776, 624, 777, 698, 778, 649, 650, 27, 651, 59, 779, 780, 781, 782, 689, 783, 784, 785, 786, 787, 788, 789, 790, 1078, 1079, 1080, 1081, 1082, 1083, 1084, 1085, 1144, 1145, 1146, 1147, 1148, 1149, 1150, 1132, 1133, 1134, 1135, 1118, 1119, 1120, 1121, 1122, 1123, 1124] (by decide +kernel) (by decide +kernel)) (goodIn_sub (fun _ h => List.mem_append_right _ h) (by decide +kernel))
set_option maxRecDepth 20000 in
theorem gL_law_L_wouldBeStale : GoodIn wsL_law (va_wsS RL 186 yL_wouldBeStale wsL_wouldBeStale) := goodIn_app (goodIn_of _ (by decide +kernel)) ggL_law_L_wouldBeStale
set_option maxRecDepth 20000 in
theorem ggL_law_X7_wouldBeStale : GoodIn wsL_law wsX7_wouldBeStale := goodIn_r _ [940, 80, 275, 276, 5, 277, 268, 269, 270, 181, 182, 183, 184, 185, 926, 927, 928, 929, 180, 94, 795, 796, 797, 798, 77, 799, 800, 801, 802, 76, 84, 89, 737, 738, 739, 803, 804, 805, 806, 82, 1086, 1087, 1088, 1089, 1090, 1091, 1092, 1093, 1094, 1095, 1096, 1097, 1098, 1099, 1100, 1101, 1102, 1103, 1104, 1105, 1106, 1107, 1108, 1109, 1110, 1111, 1112, 1113, 1114, 1115, 1116, 1117] (by decide +kernel) (by decide +kernel)
set_option maxRecDepth 20000 in
theorem gL_law_X7_wouldBeStale : GoodIn wsL_law (wsV RL 188 RX7 yX7_wouldBeStale wsX7_wouldBeStale) := goodIn_app (goodIn_of _ (by decide +kernel)) ggL_law_X7_wouldBeStale
set_option maxRecDepth 20000 in
theorem ggL_law_L_keep : GoodIn wsL_law wsL_keep := goodIn_ca (goodIn_r _ [943, 99, 944, 945, 946, 2, 947, 104, 105, 20, 21, 22, 23, 24, 109, 110, 111, 15, 112, 113, 48, 49, 50, 11, 12, 51, 26, 27, 52, 53, 54, 55, 56, 57, 58, 59, 948, 949, 950, 951, 952, 641, 642, 643, 644, 645, 646, 647, 236, 237, 648, 649, 650, 651, 652, 653, 654, 655, 953, 756, 757, 758, 954, 704, 705, 706, 124, 125, 126, 127, 128, 129, 37, 130, 131, 132, 133, 134, 135, 136, 137, 138, 139, 140, 141, 36, 142, 143, 144, 145, 146, 147, 148, 149, 150, 151, 152, 153, 154, 155, 156, 157, 158, 159, 160, 161, 162, 163, 164, 165, 166, 167, 168, 169, 170, 171, 172, 173, 174, 175, 1078, 1079, 1080, 1081, 1082, 1083, 1084, 1085, 1121, 1122, 1118, 1119, 1120, 1123, 1124] (by decide +kernel) (by decide +kernel)) (goodIn_sub (fun _ h => List.mem_append_left _ (List.mem_append_left _ (List.mem_append_right _ h))) (by decide +kernel))
set_option maxRecDepth 20000 in
theorem gL_law_L_keep : GoodIn wsL_law (va_wsS RL 189 yL_keep wsL_keep) := goodIn_app (goodIn_of _ (by decide +kernel)) ggL_law_L_keep
set_option maxRecDepth 20000 in
theorem ggL_law_X7_keep : GoodIn wsL_law wsX7_keep := goodIn_r _ [958, 959, 90, 79, 91, 80, 92, 77, 181, 182, 183, 5, 184, 185, 1086, 1087, 1088, 1089, 1090, 1091, 1092, 1093, 1094, 1095, 1096, 1097, 1098, 1099, 1100, 1101, 1102, 1103, 1104, 1105, 1106, 1107, 1108, 1109, 1110, 1111, 1112, 1113, 1114, 1115, 1116, 1117] (by decide +kernel) (by decide +kernel)
set_option maxRecDepth 20000 in
theorem gL_law_X7_keep : GoodIn wsL_law (wsV RL 191 RX7 yX7_keep wsX7_keep) := goodIn_app (goodIn_of _ (by decide +kernel)) ggL_law_X7_keep
set_option maxRecDepth 20000 in
theorem ggL_law_L_restore : GoodIn wsL_law wsL_restore := goodIn_ca (goodIn_r _ [962, 193, 963, 964, 965, 2, 966, 209, 210, 20, 24, 967, 621, 109, 110, 111, 15, 112, 113, 216, 217, 218, 219, 220, 221, 222, 223, 224, 225, 226, 227, 228, 229, 230, 231, 37, 948, 949, 950, 23, 951, 52, 952, 641, 642, 27, 643, 644, 645, 646, 647, 58, 236, 237, 648, 649, 650, 651, 59, 652, 653, 654, 655, 953, 756, 757, 758, 54, 954, 704, 705, 706, 968, 969, 970, 971, 972, 671, 672, 673, 1078, 1079, 1080, 1081, 1082, 1083, 1084, 1085, 1121, 1122, 1118, 1119, 1120, 1123, 1124] (by decide +kernel) (by decide +kernel)) (goodIn_sub (fun _ h => List.mem_append_right _ h) (by decide +kernel))
set_option maxRecDepth 20000 in
theorem gL_law_L_restore : GoodIn wsL_law (va_wsS RL 192 yL_restore wsL_restore) := goodIn_app (goodIn_of _ (by decide +kernel)) ggL_law_L_restore
set_option maxRecDepth 20000 in
theorem ggL_law_X7_restore : GoodIn wsL_law wsX7_restore := goodIn_r _ [976, 959, 79, 90, 80, 91, 77, 92, 268, 269, 5, 270, 181, 182, 183, 184, 185, 977, 978, 979, 980, 1086, 1087, 1088, 1089, 1090, 1091, 1092, 1093, 1094, 1095, 1096, 1097, 1098, 1099, 1100, 1101, 1102, 1103, 1104, 1105, 1106, 1107, 1108, 1109, 1110, 1111, 1112, 1113, 1114, 1115, 1116, 1117] (by decide +kernel) (by decide +kernel)
set_option maxRecDepth 20000 in
theorem gL_law_X7_restore : GoodIn wsL_law (wsV RL 194 RX7 yX7_restore wsX7_restore) := goodIn_app (goodIn_of _ (by decide +kernel)) ggL_law_X7_restore
set_option maxRecDepth 20000 in
theorem ggL_law_X6_end : GoodIn wsL_law wsX6_end := goodIn_r _ [984, 24, 621, 968, 969, 970, 27, 971, 972, 671, 672, 673, 59, 236, 2, 237, 985, 986, 987, 988, 652, 653, 654, 655, 58, 1078, 1079, 1080, 1081, 1082, 1083, 1084, 1085, 1121, 1122, 1123, 1124] (by decide +kernel) (by decide +kernel)
set_option maxRecDepth 20000 in
theorem gL_law_X6_end : GoodIn wsL_law (wsV RL 195 RX6 yX6_end wsX6_end) := goodIn_app (goodIn_of _ (by decide +kernel)) ggL_law_X6_end
set_option maxRecDepth 20000 in
theorem ggL_law_X7_end : GoodIn wsL_law wsX7_end := goodIn_r _ [992, 80, 977, 978, 979, 5, 980, 344, 345, 346, 347, 185, 1086, 1087, 1088, 1089, 1090, 1091, 1092, 1093, 1094, 1095, 1096, 1097, 1098, 1099, 1100, 1101, 1102, 1103, 1104, 1105, 1106, 1107, 1108, 1109, 1110, 1111, 1112, 1113, 1114, 1115, 1116, 1117] (by decide +kernel) (by decide +kernel)
set_option maxRecDepth 20000 in
theorem gL_law_X7_end : GoodIn wsL_law (wsV RL 198 RX7 yX7_end wsX7_end) := goodIn_app (goodIn_of _ (by decide +kernel)) ggL_law_X7_end
set_option maxRecDepth 20000 in
theorem ggL_law_L_isSetInOrder : GoodIn wsL_law wsL_isSetInOrder := goodIn_ca (goodIn_r _ [995, 193, 996, 997, 998, 2, 999, 28, 232, 233, 234, 209, 210, 235, 236, 237, 1000, 1001, 1002, 1003, 17, 32, 215, 201, 985, 986, 987, 27, 988, 652, 653, 654, 655, 58, 59, 109, 110, 111, 15, 112, 113, 216, 217, 218, 219, 220, 221, 222, 223, 224, 225, 226, 227, 228, 229, 230, 231, 37, 626, 627, 628, 31, 629, 630, 631, 632, 64, 633, 634, 635, 636, 637, 638, 639, 65, 640, 641, 642, 643, 644, 645, 646, 647, 648, 649, 650, 651, 656, 657, 658, 659, 660, 661, 662, 663, 664, 665, 666, 667, 668, 669, 670, 671, 672, 673, 674, 675, 676, 677, 678, 679, 680, 681, 204, 682, 257, 683, 684, 814, 1078, 1079, 1080, 1081, 1082, 1083, 1084, 1085, 1132, 1133, 1134, 1135, 1123, 1124, 1118, 1119, 1120, 1125, 1126, 1127, 1128, 1129, 1130, 1131, 1136, 1137, 1138, 1139] (by decide +kernel) (by decide +kernel)) (goodIn_sub (fun _ h => List.mem_append_right _ h) (by decide +kernel))
set_option maxRecDepth 20000 in
theorem gL_law_L_isSetInOrder : GoodIn wsL_law (va_wsS RL 199 yL_isSetInOrder wsL_isSetInOrder) := goodIn_app (goodIn_of _ (by decide +kernel)) ggL_law_L_isSetInOrder
set_option maxRecDepth 20000 in
theorem ggL_law_X7_isSetInOrder : GoodIn wsL_law wsX7_isSetInOrder := goodIn_r _ [1007, 722, 1008, 1009, 1010, 5, 1011, 180, 70, 717, 1012, 1013, 1014, 1015, 89, 93, 723, 724, 725, 726, 715, 71, 727, 728, 729, 730, 74, 75, 73, 731, 732, 72, 716, 733, 734, 735, 736, 275, 276, 277, 268, 269, 270, 737, 738, 739, 740, 741, 742, 743, 181, 182, 183, 184, 185, 1086, 1087, 1088, 1089, 1090, 1091, 1092, 1093, 1094, 1095, 1096, 1097, 1098, 1099, 1100, 1101, 1102, 1103, 1104, 1105, 1106, 1107, 1108, 1109, 1110, 1111, 1112, 1113, 1114, 1115, 1116, 1117] (by decide +kernel) (by decide +kernel)
set_option maxRecDepth 20000 in
theorem gL_law_X7_isSetInOrder : GoodIn wsL_law (wsV RL 201 RX7 yX7_isSetInOrder wsX7_isSetInOrder) := goodIn_app (goodIn_of _ (by decide +kernel)) ggL_law_X7_isSetInOrder
set_option maxRecDepth 20000 in
theorem ggL_law_L_valueInOrder : GoodIn wsL_law wsL_valueInOrder := goodIn_ca (goodIn_ca (goodIn_r _ [1018, 193, 99, 1019, 1020, 1021, 2, 1022, 28, 232, 233, 234, 209, 210, 235, 236, 237, 1000, 1001, 1002, 1003, 17, 32, 215, 201, 985, 986, 987, 27, 988, 652, 653, 654, 655, 58, 59, 109, 110, 111, 15, 112, 113, 216, 217, 218, 219, 220, 221, 222, 223, 224, 225, 226, 227, 228, 229, 230, 231, 37, 626, 627, 628, 31, 629, 630, 631, 632, 64, 633, 634, 635, 636, 637, 638, 639, 65, 640, 641, 642, 643, 644, 645, 646, 647, 648, 649, 650, 651, 656, 657, 658, 659, 660, 661, 662, 663, 664, 665, 666, 667, 668, 669, 670, 671, 672, 673, 674, 675, 676, 677, 678, 679, 680, 681, 204, 682, 257, 683, 684, 826, 827, 828, 104, 105, 814, 829, 1078, 1079, 1080, 1081, 1082, 1083, 1084, 1085, 1132, 1133, 1134, 1135, 1123, 1124, 1118, 1119, 1120, 1125, 1126, 1127, 1128, 1129, 1130, 1131, 1136, 1137, 1138, 1139] (by decide +kernel) (by decide +kernel)) (goodIn_sub (fun _ h => List.mem_append_right _ h) (by decide +kernel))) (goodIn_sub (fun _ h => List.mem_append_left _ (List.mem_append_left _ (List.mem_append_right _ h))) (by decide +kernel))
set_option maxRecDepth 20000 in
theorem gL_law_L_valueInOrder : GoodIn wsL_law (va_wsS RL 202 yL_valueInOrder wsL_valueInOrder) := goodIn_app (goodIn_of _ (by decide +kernel)) ggL_law_L_valueInOrder
set_option maxRecDepth 20000 in
theorem ggL_law_X7_valueInOrder : GoodIn wsL_law wsX7_valueInOrder := goodIn_r _ [1026, 722, 93, 1008, 1009, 1010, 5, 1011, 180, 70, 717, 1012, 1013, 1014, 1015, 89, 723, 724, 725, 726, 715, 71, 727, 728, 729, 730, 74, 75, 73, 731, 732, 72, 716, 733, 734, 735, 736, 275, 276, 277, 268, 269, 270, 737, 738, 739, 740, 741, 742, 743, 181, 182, 183, 184, 185, 1086, 1087, 1088, 1089, 1090, 1091, 1092, 1093, 1094, 1095, 1096, 1097, 1098, 1099, 1100, 1101, 1102, 1103, 1104, 1105, 1106, 1107, 1108, 1109, 1110, 1111, 1112, 1113, 1114, 1115, 1116, 1117] (by decide +kernel) (by decide +kernel)
set_option maxRecDepth 20000 in
theorem gL_law_X7_valueInOrder : GoodIn wsL_law (wsV RL 204 RX7 yX7_valueInOrder wsX7_valueInOrder) := goodIn_app (goodIn_of _ (by decide +kernel)) ggL_law_X7_valueInOrder
set_option maxRecDepth 20000 in
theorem ggL_law_X6_unlikeInOrder : GoodIn wsL_law wsX6_unlikeInOrder := goodIn_r _ [1030, 24, 621, 28, 1000, 1001, 1002, 2, 1003, 17, 32, 215, 201, 985, 986, 987, 27, 988, 652, 653, 654, 655, 58, 59, 236, 237, 109, 110, 111, 15, 112, 113, 216, 217, 218, 219, 220, 221, 222, 223, 224, 225, 226, 227, 228, 229, 230, 231, 37, 626, 627, 628, 31, 629, 630, 631, 632, 64, 633, 634, 635, 636, 637, 638, 639, 65, 640, 641, 642, 643, 644, 645, 646, 647, 648, 649, 650, 651, 656, 657, 658, 659, 660, 661, 662, 663, 664, 665, 666, 667, 668, 669, 670, 671, 672, 673, 674, 675, 676, 677, 678, 679, 680, 681, 204, 682, 257, 683, 684, 814, 829, 1078, 1079, 1080, 1081, 1082, 1083, 1084, 1085, 1121, 1122, 1132, 1133, 1134, 1135, 1123, 1124, 1118, 1119, 1120, 1125, 1126, 1127, 1128, 1129, 1130, 1131, 1136, 1137, 1138, 1139] (by decide +kernel) (by decide +kernel)
set_option maxRecDepth 20000 in
theorem gL_law_X6_unlikeInOrder : GoodIn wsL_law (wsV RL 205 RX6 yX6_unlikeInOrder wsX6_unlikeInOrder) := goodIn_app (goodIn_of _ (by decide +kernel)) ggL_law_X6_unlikeInOrder
set_option maxRecDepth 20000 in
theorem ggL_law_X7_unlikeInOrder : GoodIn wsL_law wsX7_unlikeInOrder := goodIn_r _ [1034, 722, 80, 93, 79, 1008, 1009, 1010, 5, 1011, 180, 70, 717, 1012, 1013, 1014, 1015, 89, 723, 724, 725, 726, 715, 71, 727, 728, 729, 730, 74, 75, 73, 731, 732, 72, 716, 733, 734, 735, 736, 275, 276, 277, 268, 269, 270, 737, 738, 739, 740, 741, 742, 743, 344, 345, 346, 347, 185, 1086, 1087, 1088, 1089, 1090, 1091, 1092, 1093, 1094, 1095, 1096, 1097, 1098, 1099, 1100, 1101, 1102, 1103, 1104, 1105, 1106, 1107, 1108, 1109, 1110, 1111, 1112, 1113, 1114, 1115, 1116, 1117] (by decide +kernel) (by decide +kernel)
set_option maxRecDepth 20000 in
theorem gL_law_X7_unlikeInOrder : GoodIn wsL_law (wsV RL 208 RX7 yX7_unlikeInOrder wsX7_unlikeInOrder) := goodIn_app (goodIn_of _ (by decide +kernel)) ggL_law_X7_unlikeInOrder
set_option maxRecDepth 20000 in
theorem ggL_law_X6_runs : GoodIn wsL_law wsX6_runs := goodIn_r _ [1038, 18, 109, 110, 111, 15, 112, 113, 1078, 1079, 1080, 1081, 1082, 1083, 1084, 1085, 1118, 1119, 1120] (by decide +kernel) (by decide +kernel)
set_option maxRecDepth 20000 in
theorem gL_law_X6_runs : GoodIn wsL_law (wsV RL 209 RX6 yX6_runs wsX6_runs) := goodIn_app (goodIn_of _ (by decide +kernel)) ggL_law_X6_runs
set_option maxRecDepth 20000 in
theorem ggL_law_X7_runs_ : GoodIn wsL_law wsX7_runs_ := goodIn_r _ [1042, 264, 344, 345, 346, 5, 347, 185, 1086, 1087, 1088, 1089, 1090, 1091, 1092, 1093, 1094, 1095, 1096, 1097, 1098, 1099, 1100, 1101, 1102, 1103, 1104, 1105, 1106, 1107, 1108, 1109, 1110, 1111, 1112, 1113, 1114, 1115, 1116, 1117] (by decide +kernel) (by decide +kernel)
set_option maxRecDepth 20000 in
theorem gL_law_X7_runs_ : GoodIn wsL_law (wsV RL 212 RX7 yX7_runs_ wsX7_runs_) := goodIn_app (goodIn_of _ (by decide +kernel)) ggL_law_X7_runs_
set_option maxRecDepth 20000 in
theorem ggL_law_X6_logged : GoodIn wsL_law wsX6_logged := goodIn_r _ [1046, 19, 109, 110, 111, 15, 112, 113, 1078, 1079, 1080, 1081, 1082, 1083, 1084, 1085, 1118, 1119, 1120] (by decide +kernel) (by decide +kernel)
set_option maxRecDepth 20000 in
theorem gL_law_X6_logged : GoodIn wsL_law (wsV RL 213 RX6 yX6_logged wsX6_logged) := goodIn_app (goodIn_of _ (by decide +kernel)) ggL_law_X6_logged
set_option maxRecDepth 20000 in
theorem ggL_law_X7_logged : GoodIn wsL_law wsX7_logged := goodIn_r _ [1050, 1051, 1052, 1053, 5, 1054, 264, 88, 344, 345, 346, 347, 185, 1086, 1087, 1088, 1089, 1090, 1091, 1092, 1093, 1094, 1095, 1096, 1097, 1098, 1099, 1100, 1101, 1102, 1103, 1104, 1105, 1106, 1107, 1108, 1109, 1110, 1111, 1112, 1113, 1114, 1115, 1116, 1117] (by decide +kernel) (by decide +kernel)
set_option maxRecDepth 20000 in
theorem gL_law_X7_logged : GoodIn wsL_law (wsV RL 216 RX7 yX7_logged wsX7_logged) := goodIn_app (goodIn_of _ (by decide +kernel)) ggL_law_X7_logged
set_option maxRecDepth 20000 in
theorem ggL_law_L_logAt : GoodIn wsL_law wsL_logAt := goodIn_ca (goodIn_r _ [1057, 193, 1058, 1059, 1060, 2, 1061, 209, 210, 19, 763, 769, 764, 355, 1062, 109, 110, 111, 15, 112, 113, 216, 217, 218, 219, 220, 221, 222, 223, 224, 225, 226, 227, 228, 229, 230, 231, 37, 1078, 1079, 1080, 1081, 1082, 1083, 1084, 1085, 1144, 1145, 1146, 1147, 1148, 1149, 1150, 1132, 1133, 1134, 1135, 1118, 1119, 1120] (by decide +kernel) (by decide +kernel)) (goodIn_sub (fun _ h => List.mem_append_right _ h) (by decide +kernel))
set_option maxRecDepth 20000 in
theorem gL_law_L_logAt : GoodIn wsL_law (va_wsS RL 217 yL_logAt wsL_logAt) := goodIn_app (goodIn_of _ (by decide +kernel)) ggL_law_L_logAt
set_option maxRecDepth 20000 in
theorem ggL_law_X7_logAt : GoodIn wsL_law wsX7_logAt := goodIn_r _ [1066, 88, 82, 83, 1051, 1052, 1053, 5, 1054, 264, 268, 269, 270, 181, 182, 183, 184, 185, 1086, 1087, 1088, 1089, 1090, 1091, 1092, 1093, 1094, 1095, 1096, 1097, 1098, 1099, 1100, 1101, 1102, 1103, 1104, 1105, 1106, 1107, 1108, 1109, 1110, 1111, 1112, 1113, 1114, 1115, 1116, 1117] (by decide +kernel) (by decide +kernel)
set_option maxRecDepth 20000 in
theorem gL_law_X7_logAt : GoodIn wsL_law (wsV RL 219 RX7 yX7_logAt wsX7_logAt) := goodIn_app (goodIn_of _ (by decide +kernel)) ggL_law_X7_logAt
set_option maxRecDepth 20000 in
theorem ggL_law_L_forget : GoodIn wsL_law wsL_forget := goodIn_ca (goodIn_r _ [1069, 193, 1070, 1071, 1072, 2, 1073, 19, 763, 1062, 206, 207, 208, 209, 210, 109, 110, 111, 15, 112, 113, 216, 217, 218, 219, 220, 221, 222, 223, 224, 225, 226, 227, 228, 229, 230, 231, 37, 765, 766, 767, 768, 24, 764, 355, 769, 755, 756, 757, 23, 758, 54, 315, 316, 317, 318, 319, 320, 321, 322, 128, 129, 323, 173, 174, 175, 1078, 1079, 1080, 1081, 1082, 1083, 1084, 1085, 1144, 1145, 1146, 1147, 1148, 1149, 1150, 1118, 1119, 1120, 1132, 1133, 1134, 1135, 1121, 1122] (by decide +kernel) (by decide +kernel)) (goodIn_sub (fun _ h => List.mem_append_right _ h) (by decide +kernel))
set_option maxRecDepth 20000 in
theorem gL_law_L_forget : GoodIn wsL_law (va_wsS RL 220 yL_forget wsL_forget) := goodIn_app (goodIn_of _ (by decide +kernel)) ggL_law_L_forget
set_option maxRecDepth 20000 in
theorem ggL_law_X7_forget : GoodIn wsL_law wsX7_forget := goodIn_r _ [1077, 264, 88, 83, 77, 82, 265, 266, 5, 267, 268, 269, 270, 181, 182, 183, 184, 185, 1086, 1087, 1088, 1089, 1090, 1091, 1092, 1093, 1094, 1095, 1096, 1097, 1098, 1099, 1100, 1101, 1102, 1103, 1104, 1105, 1106, 1107, 1108, 1109, 1110, 1111, 1112, 1113, 1114, 1115, 1116, 1117] (by decide +kernel) (by decide +kernel)
set_option maxRecDepth 20000 in
theorem gL_law_X7_forget : GoodIn wsL_law (wsV RL 222 RX7 yX7_forget wsX7_forget) := goodIn_app (goodIn_of _ (by decide +kernel)) ggL_law_X7_forget
theorem dL_law_0 : decode cL_law 0 = .ok (.new 8, 3) := by decide +kernel
theorem dL_law_3 : decode cL_law 3 = .ok (.dup, 1) := by decide +kernel
theorem dL_law_4 : decode cL_law 4 = .ok (.invokespecial 104, 3) := by decide +kernel
theorem dL_law_7 : decode cL_law 7 = .ok (.astore_n 1, 1) := by decide +kernel
theorem dL_law_8 : decode cL_law 8 = .ok (.new 105, 3) := by decide +kernel
theorem dL_law_11 : decode cL_law 11 = .ok (.dup, 1) := by decide +kernel
theorem dL_law_12 : decode cL_law 12 = .ok (.invokespecial 107, 3) := by decide +kernel
theorem dL_law_15 : decode cL_law 15 = .ok (.astore_n 2, 1) := by decide +kernel
theorem dL_law_16 : decode cL_law 16 = .ok (.iconst 1, 1) := by decide +kernel
theorem dL_law_17 : decode cL_law 17 = .ok (.newarray .long, 2) := by decide +kernel
theorem dL_law_19 : decode cL_law 19 = .ok (.astore_n 3, 1) := by decide +kernel
theorem dL_law_20 : decode cL_law 20 = .ok (.iconst 0, 1) := by decide +kernel
theorem dL_law_21 : decode cL_law 21 = .ok (.istore 4, 2) := by decide +kernel
theorem dL_law_23 : decode cL_law 23 = .ok (.iload 4, 2) := by decide +kernel
theorem dL_law_25 : decode cL_law 25 = .ok (.aload_n 0, 1) := by decide +kernel
theorem dL_law_26 : decode cL_law 26 = .ok (.arraylength, 1) := by decide +kernel
theorem dL_law_27 : decode cL_law 27 = .ok (.bipush 7, 2) := by decide +kernel
theorem dL_law_29 : decode cL_law 29 = .ok (.isub, 1) := by decide +kernel
theorem dL_law_30 : decode cL_law 30 = .ok (.if_icmp .gt 1916, 3) := by decide +kernel
theorem dL_law_33 : decode cL_law 33 = .ok (.aload_n 0, 1) := by decide +kernel
theorem dL_law_34 : decode cL_law 34 = .ok (.iload 4, 2) := by decide +kernel
theorem dL_law_36 : decode cL_law 36 = .ok (.iaload, 1) := by decide +kernel
theorem dL_law_37 : decode cL_law 37 = .ok (.bipush 63, 2) := by decide +kernel
theorem dL_law_39 : decode cL_law 39 = .ok (.iand, 1) := by decide +kernel
theorem dL_law_40 : decode cL_law 40 = .ok (.tableswitch 1900 0 32 #[148, 192, 310, 378, 446, 459, 515, 571, 639, 719, 787, 862, 918, 981, 1037, 1093, 1149, 1212, 1280, 1336, 1392, 1448, 1461, 1517, 1561, 1617, 1630, 1693, 1749, 1762, 1775, 1788, 1844], 148) := by decide +kernel
theorem dL_law_188 : decode cL_law 188 = .ok (.aload_n 1, 1) := by decide +kernel
theorem dL_law_189 : decode cL_law 189 = .ok (.aload_n 3, 1) := by decide +kernel
theorem dL_law_190 : decode cL_law 190 = .ok (.invokestatic 108, 3) := by decide +kernel
theorem dL_law_193 : decode cL_law 193 = .ok (.istore 5, 2) := by decide +kernel
theorem dL_law_195 : decode cL_law 195 = .ok (.aload_n 2, 1) := by decide +kernel
theorem dL_law_196 : decode cL_law 196 = .ok (.invokevirtual 113, 3) := by decide +kernel
theorem dL_law_199 : decode cL_law 199 = .ok (.istore 6, 2) := by decide +kernel
theorem dL_law_201 : decode cL_law 201 = .ok (.aload_n 2, 1) := by decide +kernel
theorem dL_law_202 : decode cL_law 202 = .ok (.invokevirtual 114, 3) := by decide +kernel
theorem dL_law_205 : decode cL_law 205 = .ok (.iload 5, 2) := by decide +kernel
theorem dL_law_207 : decode cL_law 207 = .ok (.if_icmp .eq 5, 3) := by decide +kernel
theorem dL_law_210 : decode cL_law 210 = .ok (.iconst 0, 1) := by decide +kernel
theorem dL_law_211 : decode cL_law 211 = .ok (.ireturn, 1) := by decide +kernel
theorem dL_law_212 : decode cL_law 212 = .ok (.iload 5, 2) := by decide +kernel
theorem dL_law_214 : decode cL_law 214 = .ok (.ifCond .ne 15, 3) := by decide +kernel
theorem dL_law_217 : decode cL_law 217 = .ok (.aload_n 3, 1) := by decide +kernel
theorem dL_law_218 : decode cL_law 218 = .ok (.iconst 0, 1) := by decide +kernel
