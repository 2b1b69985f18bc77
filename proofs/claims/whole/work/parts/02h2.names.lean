theorem dL_cellAt_12 : decode cL_cellAt 12 = .ok (.astore_n 3, 1) := by decide +kernel
theorem dL_cellAt_13 : decode cL_cellAt 13 = .ok (.iconst 1, 1) := by decide +kernel
theorem dL_cellAt_14 : decode cL_cellAt 14 = .ok (.ireturn, 1) := by decide +kernel
theorem dL_cellAt_15 : decode cL_cellAt 15 = .ok (.iconst 0, 1) := by decide +kernel
theorem dL_cellAt_16 : decode cL_cellAt 16 = .ok (.ireturn, 1) := by decide +kernel
set_option maxRecDepth 20000 in
theorem ggL_source_X6_source : GoodIn wsL_source wsX6_source := goodIn_ca (goodIn_r _ [6, 7, 8, 9, 5, 10, 11, 12, 13, 14, 15, 16, 17, 18, 19, 20, 21, 22, 23, 24, 25, 26, 27, 28, 29, 30, 31, 32, 33, 34, 35, 36, 37, 38, 39, 40, 41, 42, 43, 44, 45, 46, 47, 48, 49, 50, 51, 52, 53, 54, 55, 56, 57, 58, 59, 60, 61, 62, 63, 64, 65, 66, 67, 68, 69, 70, 71, 72, 73, 74, 75, 76, 77, 78, 79, 80, 81, 82, 83, 84, 85, 86, 87, 88, 89, 90, 91, 92, 93, 94, 95, 96, 97, 98, 99, 100, 101, 102, 103, 104, 105, 106, 107, 108, 109, 110, 111, 112, 113, 114, 115, 116, 117, 118, 119, 120, 121, 122, 123, 124, 125, 126, 127, 128, 129, 130, 131, 132, 133, 134, 135, 136, 137, 138, 139, 140, 141, 142, 143, 144, 145, 146, 147, 148, 149, 150, 151, 152, 153, 154, 155, 156, 157, 158, 159, 160, 161, 162, 163, 164, 165, 166, 167, 168, 169, 170, 171, 172, 173, 174, 175, 176, 177, 178, 179, 180, 181, 182, 183, 184, 185, 186, 187, 188, 189, 190, 191, 192, 193, 194, 195, 196, 197, 198, 199, 200, 201, 202, 203, 204, 205, 206, 207, 208, 209, 210, 211, 212, 213, 214, 215, 216, 217, 218, 219, 220, 221, 222, 223, 224, 225, 226, 227, 228, 229, 230, 231, 232, 233, 234, 235, 236, 237, 238, 239, 240, 241, 242, 243, 244, 245, 246, 247, 248, 249, 250, 251, 252, 253, 254, 255, 256, 257] (by decide +kernel) (by decide +kernel)) (goodIn_sub (fun _ h => List.mem_cons_of_mem _ (List.mem_append_right _ h)) (by decide +kernel))
set_option maxRecDepth 20000 in
theorem gL_source_X6_source : GoodIn wsL_source (wsV RL 34 RX6 yX6_source wsX6_source) := goodIn_app (goodIn_of _ (by decide +kernel)) ggL_source_X6_source
theorem dL_source_0 : decode cL_source 0 = .ok (.aload_n 2, 1) := by decide +kernel
theorem dL_source_1 : decode cL_source 1 = .ok (.iconst 0, 1) := by decide +kernel
theorem dL_source_2 : decode cL_source 2 = .ok (.aload_n 0, 1) := by decide +kernel
theorem dL_source_3 : decode cL_source 3 = .ok (.iload_n 1, 1) := by decide +kernel
theorem dL_source_4 : decode cL_source 4 = .ok (.invokevirtual 34, 3) := by decide +kernel
theorem dL_source_7 : decode cL_source 7 = .ok (.i2l, 1) := by decide +kernel
theorem dL_source_8 : decode cL_source 8 = .ok (.lastore, 1) := by decide +kernel
theorem dL_source_9 : decode cL_source 9 = .ok (.goto 6, 3) := by decide +kernel
theorem dL_source_12 : decode cL_source 12 = .ok (.astore_n 3, 1) := by decide +kernel
theorem dL_source_13 : decode cL_source 13 = .ok (.iconst 1, 1) := by decide +kernel
theorem dL_source_14 : decode cL_source 14 = .ok (.ireturn, 1) := by decide +kernel
theorem dL_source_15 : decode cL_source 15 = .ok (.iconst 0, 1) := by decide +kernel
theorem dL_source_16 : decode cL_source 16 = .ok (.ireturn, 1) := by decide +kernel
set_option maxRecDepth 20000 in
theorem ggL_sourceChar_X6_sourceChar : GoodIn wsL_sourceChar wsX6_sourceChar := goodIn_ca (goodIn_r _ [6, 7, 8, 9, 10, 11, 5, 12, 13, 14, 15, 16, 17, 18, 19, 20, 21, 22, 23, 24, 25, 26, 27, 28, 29, 30, 31, 32, 33, 34, 35, 36, 37, 38, 39, 40, 41, 42, 43, 44, 45, 46, 47, 48, 49, 50, 51, 52, 53, 54, 55, 56, 57, 58, 59, 60, 61, 62, 63, 64, 65, 66, 67, 68, 69, 70, 71, 72, 73, 74, 75, 76, 77, 78, 79, 80, 81, 82, 83, 84, 85, 86, 87, 88, 89, 90, 91, 92, 93, 94, 95, 96, 97, 98, 99, 100, 101, 102, 103, 104, 105, 106, 107, 108, 109, 110, 111, 112, 113, 114, 115, 116, 117, 118, 119, 120, 121, 122, 123, 124, 125, 126, 127, 128, 129, 130, 131, 132, 133, 134, 135, 136, 137, 138, 139, 140, 141, 142, 143, 144, 145, 146, 147, 148, 149, 150, 151, 152, 153, 154, 155, 156, 157, 158, 159, 160, 161, 162, 163, 164, 165, 166, 167, 168, 169, 170, 171, 172, 173, 174, 175, 176, 177, 178, 179, 180, 181, 182, 183, 184, 185, 186, 187, 188, 189, 190, 191, 192, 193, 194, 195, 196, 197, 198, 199, 200, 201, 202, 203, 204, 205, 206, 207, 208, 209, 210, 211, 212, 213, 214, 215, 216, 217, 218, 219, 220, 221, 222, 223, 224, 225, 226, 227, 228, 229, 230, 231, 232, 233, 234, 235, 236, 237, 238, 239, 240, 241, 242, 243, 244, 245, 246, 247, 248, 249, 250, 251, 252, 253, 254, 255, 256, 257, 258, 259, 260, 261, 262, 263, 264, 265, 266, 267, 268, 269, 270] (by decide +kernel) (by decide +kernel)) (goodIn_sub (fun _ h => List.mem_cons_of_mem _ (List.mem_append_right _ h)) (by decide +kernel))
set_option maxRecDepth 20000 in
theorem gL_sourceChar_X6_sourceChar : GoodIn wsL_sourceChar (wsV RL 37 RX6 yX6_sourceChar wsX6_sourceChar) := goodIn_app (goodIn_of _ (by decide +kernel)) ggL_sourceChar_X6_sourceChar
theorem dL_sourceChar_0 : decode cL_sourceChar 0 = .ok (.aload_n 3, 1) := by decide +kernel
theorem dL_sourceChar_1 : decode cL_sourceChar 1 = .ok (.iconst 0, 1) := by decide +kernel
theorem dL_sourceChar_2 : decode cL_sourceChar 2 = .ok (.aload_n 0, 1) := by decide +kernel
theorem dL_sourceChar_3 : decode cL_sourceChar 3 = .ok (.iload_n 1, 1) := by decide +kernel
theorem dL_sourceChar_4 : decode cL_sourceChar 4 = .ok (.iload_n 2, 1) := by decide +kernel
theorem dL_sourceChar_5 : decode cL_sourceChar 5 = .ok (.invokevirtual 37, 3) := by decide +kernel
theorem dL_sourceChar_8 : decode cL_sourceChar 8 = .ok (.i2l, 1) := by decide +kernel
theorem dL_sourceChar_9 : decode cL_sourceChar 9 = .ok (.lastore, 1) := by decide +kernel
theorem dL_sourceChar_10 : decode cL_sourceChar 10 = .ok (.goto 7, 3) := by decide +kernel
theorem dL_sourceChar_13 : decode cL_sourceChar 13 = .ok (.astore 4, 2) := by decide +kernel
theorem dL_sourceChar_15 : decode cL_sourceChar 15 = .ok (.iconst 1, 1) := by decide +kernel
theorem dL_sourceChar_16 : decode cL_sourceChar 16 = .ok (.ireturn, 1) := by decide +kernel
theorem dL_sourceChar_17 : decode cL_sourceChar 17 = .ok (.iconst 0, 1) := by decide +kernel
theorem dL_sourceChar_18 : decode cL_sourceChar 18 = .ok (.ireturn, 1) := by decide +kernel
set_option maxRecDepth 20000 in
theorem ggL_grant_X6_grant : GoodIn wsL_grant wsX6_grant := goodIn_ca (goodIn_ca (goodIn_r _ [7, 8, 9, 10, 11, 12, 13, 6, 14, 15, 16, 17, 18, 19, 20, 21, 22, 23, 24, 25, 26, 27, 28, 29, 30, 31, 32, 33, 34, 35, 36, 37, 38, 39, 40, 41, 42, 43, 44, 45, 46, 47, 48, 49, 50, 51, 52, 53, 54, 55, 56, 57, 58, 59, 60, 61, 62, 63, 64, 65, 66, 67, 68] (by decide +kernel) (by decide +kernel)) (goodIn_sub (fun _ h => List.mem_cons_of_mem _ (List.mem_append_left _ (List.mem_append_right _ h))) (by decide +kernel))) (goodIn_sub (fun _ h => List.mem_cons_of_mem _ (List.mem_append_right _ h)) (by decide +kernel))
set_option maxRecDepth 20000 in
theorem gL_grant_X6_grant : GoodIn wsL_grant (wsV RL 41 RX6 yX6_grant wsX6_grant) := goodIn_app (goodIn_of _ (by decide +kernel)) ggL_grant_X6_grant
theorem dL_grant_0 : decode cL_grant 0 = .ok (.aload 4, 2) := by decide +kernel
theorem dL_grant_2 : decode cL_grant 2 = .ok (.iconst 0, 1) := by decide +kernel
theorem dL_grant_3 : decode cL_grant 3 = .ok (.aload_n 0, 1) := by decide +kernel
theorem dL_grant_4 : decode cL_grant 4 = .ok (.iload_n 1, 1) := by decide +kernel
theorem dL_grant_5 : decode cL_grant 5 = .ok (.iload_n 2, 1) := by decide +kernel
theorem dL_grant_6 : decode cL_grant 6 = .ok (.iload_n 3, 1) := by decide +kernel
theorem dL_grant_7 : decode cL_grant 7 = .ok (.invokevirtual 41, 3) := by decide +kernel
theorem dL_grant_10 : decode cL_grant 10 = .ok (.i2l, 1) := by decide +kernel
theorem dL_grant_11 : decode cL_grant 11 = .ok (.lastore, 1) := by decide +kernel
theorem dL_grant_12 : decode cL_grant 12 = .ok (.goto 11, 3) := by decide +kernel
theorem dL_grant_15 : decode cL_grant 15 = .ok (.astore 5, 2) := by decide +kernel
theorem dL_grant_17 : decode cL_grant 17 = .ok (.iconst 1, 1) := by decide +kernel
theorem dL_grant_18 : decode cL_grant 18 = .ok (.ireturn, 1) := by decide +kernel
theorem dL_grant_19 : decode cL_grant 19 = .ok (.astore 5, 2) := by decide +kernel
theorem dL_grant_21 : decode cL_grant 21 = .ok (.iconst 2, 1) := by decide +kernel
theorem dL_grant_22 : decode cL_grant 22 = .ok (.ireturn, 1) := by decide +kernel
theorem dL_grant_23 : decode cL_grant 23 = .ok (.iconst 0, 1) := by decide +kernel
theorem dL_grant_24 : decode cL_grant 24 = .ok (.ireturn, 1) := by decide +kernel
set_option maxRecDepth 20000 in
theorem ggL_right_X6_right : GoodIn wsL_right wsX6_right := goodIn_ca (goodIn_r _ [6, 7, 8, 5, 9, 10, 11, 12, 13, 14, 15, 16, 17, 18, 19, 20, 21, 22, 23, 24, 25, 26, 27, 28, 29, 30, 31, 32, 33, 34, 35, 36, 37, 38, 39, 40, 41, 42, 43, 44, 45, 46, 47, 48, 49, 50, 51, 52, 53, 54, 55, 56, 57, 58, 59, 60, 61] (by decide +kernel) (by decide +kernel)) (goodIn_sub (fun _ h => List.mem_cons_of_mem _ (List.mem_append_right _ h)) (by decide +kernel))
set_option maxRecDepth 20000 in
theorem gL_right_X6_right : GoodIn wsL_right (wsV RL 45 RX6 yX6_right wsX6_right) := goodIn_app (goodIn_of _ (by decide +kernel)) ggL_right_X6_right
theorem dL_right_0 : decode cL_right 0 = .ok (.aload_n 3, 1) := by decide +kernel
theorem dL_right_1 : decode cL_right 1 = .ok (.iconst 0, 1) := by decide +kernel
theorem dL_right_2 : decode cL_right 2 = .ok (.aload_n 0, 1) := by decide +kernel
theorem dL_right_3 : decode cL_right 3 = .ok (.iload_n 1, 1) := by decide +kernel
theorem dL_right_4 : decode cL_right 4 = .ok (.iload_n 2, 1) := by decide +kernel
theorem dL_right_5 : decode cL_right 5 = .ok (.invokevirtual 45, 3) := by decide +kernel
theorem dL_right_8 : decode cL_right 8 = .ok (.i2l, 1) := by decide +kernel
theorem dL_right_9 : decode cL_right 9 = .ok (.lastore, 1) := by decide +kernel
theorem dL_right_10 : decode cL_right 10 = .ok (.goto 7, 3) := by decide +kernel
theorem dL_right_13 : decode cL_right 13 = .ok (.astore 4, 2) := by decide +kernel
theorem dL_right_15 : decode cL_right 15 = .ok (.iconst 1, 1) := by decide +kernel
theorem dL_right_16 : decode cL_right 16 = .ok (.ireturn, 1) := by decide +kernel
theorem dL_right_17 : decode cL_right 17 = .ok (.iconst 0, 1) := by decide +kernel
theorem dL_right_18 : decode cL_right 18 = .ok (.ireturn, 1) := by decide +kernel
set_option maxRecDepth 20000 in
theorem ggL_run_X6_run : GoodIn wsL_run wsX6_run := goodIn_ca (goodIn_ca (goodIn_r _ [7, 8, 9, 10, 11, 12, 6, 13, 14, 15, 16, 17, 18, 19, 20, 21, 22, 23, 24, 25, 26, 27, 28, 29, 30, 31, 32, 33, 34, 35, 36, 37, 38, 39, 40, 41, 42, 43, 44, 45, 46, 47, 48, 49, 50, 51, 52, 53, 54, 55, 56, 57, 58, 59, 60, 61, 62, 63, 64, 65, 66, 67, 68, 69, 70, 71, 72, 73, 74, 75, 76, 77, 78, 79, 80, 81, 82, 83, 84, 85, 86, 87, 88, 89, 90, 91, 92, 93, 94, 95, 96, 97, 98, 99, 100, 101, 102, 103, 104, 105, 106, 107, 108, 109, 110, 111, 112, 113, 114, 115, 116, 117, 118, 119, 120, 121, 122, 123, 124, 125, 126, 127, 128, 129, 130, 131, 132, 133, 134, 135, 136, 137, 138, 139, 140, 141, 142, 143, 144, 145, 146, 147, 148, 149, 150, 151, 152, 153, 154, 155, 156, 157, 158, 159, 160, 161, 162, 163, 164, 165, 166, 167, 168, 169, 170, 171, 172, 173, 174, 175, 176, 177, 178, 179, 180, 181, 182, 183, 184, 185, 186, 187, 188, 189, 190, 191, 192, 193, 194, 195, 196, 197, 198, 199, 200, 201, 202, 203, 204, 205, 206, 207, 208, 209, 210, 211, 212, 213, 214, 215, 216, 217, 218, 219, 220, 221, 222, 223, 224, 225, 226, 227, 228, 229, 230, 231, 232, 233, 234, 235, 236, 237, 238, 239, 240, 241, 242, 243, 244, 245, 246, 247, 248, 249, 250, 251, 252, 253, 254, 255, 256, 257] (by decide +kernel) (by decide +kernel)) (goodIn_sub (fun _ h => List.mem_cons_of_mem _ (List.mem_append_left _ (List.mem_append_right _ h))) (by decide +kernel))) (goodIn_sub (fun _ h => List.mem_cons_of_mem _ (List.mem_append_right _ h)) (by decide +kernel))
set_option maxRecDepth 20000 in
theorem gL_run_X6_run : GoodIn wsL_run (wsV RL 48 RX6 yX6_run wsX6_run) := goodIn_app (goodIn_of _ (by decide +kernel)) ggL_run_X6_run
theorem dL_run_0 : decode cL_run 0 = .ok (.aload_n 3, 1) := by decide +kernel
theorem dL_run_1 : decode cL_run 1 = .ok (.iconst 0, 1) := by decide +kernel
theorem dL_run_2 : decode cL_run 2 = .ok (.aload_n 0, 1) := by decide +kernel
theorem dL_run_3 : decode cL_run 3 = .ok (.iload_n 1, 1) := by decide +kernel
theorem dL_run_4 : decode cL_run 4 = .ok (.iload_n 2, 1) := by decide +kernel
theorem dL_run_5 : decode cL_run 5 = .ok (.invokevirtual 48, 3) := by decide +kernel
theorem dL_run_8 : decode cL_run 8 = .ok (.ifCond .eq 7, 3) := by decide +kernel
theorem dL_run_11 : decode cL_run 11 = .ok (.lconst 1, 1) := by decide +kernel
theorem dL_run_12 : decode cL_run 12 = .ok (.goto 4, 3) := by decide +kernel
theorem dL_run_15 : decode cL_run 15 = .ok (.lconst 0, 1) := by decide +kernel
theorem dL_run_16 : decode cL_run 16 = .ok (.lastore, 1) := by decide +kernel
theorem dL_run_17 : decode cL_run 17 = .ok (.goto 11, 3) := by decide +kernel
theorem dL_run_20 : decode cL_run 20 = .ok (.astore 4, 2) := by decide +kernel
theorem dL_run_22 : decode cL_run 22 = .ok (.iconst 1, 1) := by decide +kernel
theorem dL_run_23 : decode cL_run 23 = .ok (.ireturn, 1) := by decide +kernel
theorem dL_run_24 : decode cL_run 24 = .ok (.astore 4, 2) := by decide +kernel
theorem dL_run_26 : decode cL_run 26 = .ok (.iconst 2, 1) := by decide +kernel
theorem dL_run_27 : decode cL_run 27 = .ok (.ireturn, 1) := by decide +kernel
theorem dL_run_28 : decode cL_run 28 = .ok (.iconst 0, 1) := by decide +kernel
theorem dL_run_29 : decode cL_run 29 = .ok (.ireturn, 1) := by decide +kernel
set_option maxRecDepth 20000 in
theorem ggL_refresh_X6_refresh : GoodIn wsL_refresh wsX6_refresh := goodIn_ca (goodIn_ca (goodIn_r _ [7, 8, 9, 10, 11, 12, 13, 14, 6, 15, 16, 17, 18, 19, 20, 21, 22, 23, 24, 25, 26, 27, 28, 29, 30, 31, 32, 33, 34, 35, 36, 37, 38, 39, 40, 41, 42, 43, 44, 45, 46, 47, 48, 49, 50, 51, 52, 53, 54, 55, 56, 57, 58, 59, 60, 61, 62, 63, 64, 65, 66, 67, 68, 69, 70, 71, 72, 73, 74, 75, 76, 77, 78, 79, 80, 81, 82, 83, 84, 85, 86, 87, 88, 89, 90, 91, 92, 93, 94, 95, 96, 97, 98, 99, 100, 101, 102, 103, 104, 105, 106, 107, 108, 109, 110, 111, 112, 113, 114, 115, 116, 117, 118, 119, 120, 121, 122, 123, 124, 125, 126, 127, 128, 129, 130, 131, 132, 133, 134, 135, 136, 137, 138, 139, 140, 141, 142, 143, 144, 145, 146, 147, 148, 149, 150, 151, 152, 153, 154, 155, 156, 157, 158, 159, 160, 161, 162, 163, 164, 165, 166, 167, 168, 169, 170, 171, 172, 173, 174, 175, 176, 177, 178, 179, 180, 181, 182, 183, 184, 185, 186, 187, 188, 189, 190, 191, 192, 193, 194, 195, 196, 197, 198, 199, 200, 201, 202, 203, 204, 205, 206, 207, 208, 209, 210, 211, 212, 213, 214, 215, 216, 217, 218, 219, 220, 221, 222, 223, 224, 225, 226, 227, 228, 229, 230, 231, 232, 233, 234, 235, 236, 237, 238, 239, 240, 241, 242, 243, 244, 245, 246, 247, 248, 249, 250, 251, 252, 253, 254, 255, 256, 257, 258, 259, 260, 261, 262, 263, 264, 265, 266, 267, 268, 269, 270, 271, 272, 273, 274, 275, 276, 277, 278, 279, 280, 281, 282, 283, 284, 285, 286, 287, 288, 289, 290, 291] (by decide +kernel) (by decide +kernel)) (goodIn_sub (fun _ h => List.mem_cons_of_mem _ (List.mem_append_left _ (List.mem_append_right _ h))) (by decide +kernel))) (goodIn_sub (fun _ h => List.mem_cons_of_mem _ (List.mem_append_right _ h)) (by decide +kernel))
set_option maxRecDepth 20000 in
theorem gL_refresh_X6_refresh : GoodIn wsL_refresh (wsV RL 52 RX6 yX6_refresh wsX6_refresh) := goodIn_app (goodIn_of _ (by decide +kernel)) ggL_refresh_X6_refresh
theorem dL_refresh_0 : decode cL_refresh 0 = .ok (.aload_n 2, 1) := by decide +kernel
theorem dL_refresh_1 : decode cL_refresh 1 = .ok (.iconst 0, 1) := by decide +kernel
theorem dL_refresh_2 : decode cL_refresh 2 = .ok (.aload_n 0, 1) := by decide +kernel
theorem dL_refresh_3 : decode cL_refresh 3 = .ok (.iload_n 1, 1) := by decide +kernel
theorem dL_refresh_4 : decode cL_refresh 4 = .ok (.invokevirtual 52, 3) := by decide +kernel
theorem dL_refresh_7 : decode cL_refresh 7 = .ok (.i2l, 1) := by decide +kernel
theorem dL_refresh_8 : decode cL_refresh 8 = .ok (.lastore, 1) := by decide +kernel
theorem dL_refresh_9 : decode cL_refresh 9 = .ok (.goto 9, 3) := by decide +kernel
theorem dL_refresh_12 : decode cL_refresh 12 = .ok (.astore_n 3, 1) := by decide +kernel
theorem dL_refresh_13 : decode cL_refresh 13 = .ok (.iconst 1, 1) := by decide +kernel
theorem dL_refresh_14 : decode cL_refresh 14 = .ok (.ireturn, 1) := by decide +kernel
theorem dL_refresh_15 : decode cL_refresh 15 = .ok (.astore_n 3, 1) := by decide +kernel
theorem dL_refresh_16 : decode cL_refresh 16 = .ok (.iconst 2, 1) := by decide +kernel
theorem dL_refresh_17 : decode cL_refresh 17 = .ok (.ireturn, 1) := by decide +kernel
theorem dL_refresh_18 : decode cL_refresh 18 = .ok (.iconst 0, 1) := by decide +kernel
theorem dL_refresh_19 : decode cL_refresh 19 = .ok (.ireturn, 1) := by decide +kernel
set_option maxRecDepth 20000 in
theorem ggL_isSet_X6_isSet : GoodIn wsL_isSet wsX6_isSet := goodIn_ca (goodIn_r _ [6, 7, 8, 9, 10, 5, 11, 12, 13, 14, 15, 16, 17, 18, 19, 20, 21, 22, 23, 24, 25, 26, 27, 28, 29, 30, 31, 32, 33, 34] (by decide +kernel) (by decide +kernel)) (goodIn_sub (fun _ h => List.mem_cons_of_mem _ (List.mem_append_right _ h)) (by decide +kernel))
set_option maxRecDepth 20000 in
theorem gL_isSet_X6_isSet : GoodIn wsL_isSet (wsV RL 55 RX6 yX6_isSet wsX6_isSet) := goodIn_app (goodIn_of _ (by decide +kernel)) ggL_isSet_X6_isSet
theorem dL_isSet_0 : decode cL_isSet 0 = .ok (.aload_n 2, 1) := by decide +kernel
theorem dL_isSet_1 : decode cL_isSet 1 = .ok (.iconst 0, 1) := by decide +kernel
theorem dL_isSet_2 : decode cL_isSet 2 = .ok (.aload_n 0, 1) := by decide +kernel
theorem dL_isSet_3 : decode cL_isSet 3 = .ok (.iload_n 1, 1) := by decide +kernel
theorem dL_isSet_4 : decode cL_isSet 4 = .ok (.invokevirtual 55, 3) := by decide +kernel
theorem dL_isSet_7 : decode cL_isSet 7 = .ok (.ifCond .eq 7, 3) := by decide +kernel
theorem dL_isSet_10 : decode cL_isSet 10 = .ok (.lconst 1, 1) := by decide +kernel
theorem dL_isSet_11 : decode cL_isSet 11 = .ok (.goto 4, 3) := by decide +kernel
theorem dL_isSet_14 : decode cL_isSet 14 = .ok (.lconst 0, 1) := by decide +kernel
theorem dL_isSet_15 : decode cL_isSet 15 = .ok (.lastore, 1) := by decide +kernel
theorem dL_isSet_16 : decode cL_isSet 16 = .ok (.goto 6, 3) := by decide +kernel
theorem dL_isSet_19 : decode cL_isSet 19 = .ok (.astore_n 3, 1) := by decide +kernel
theorem dL_isSet_20 : decode cL_isSet 20 = .ok (.iconst 1, 1) := by decide +kernel
theorem dL_isSet_21 : decode cL_isSet 21 = .ok (.ireturn, 1) := by decide +kernel
theorem dL_isSet_22 : decode cL_isSet 22 = .ok (.iconst 0, 1) := by decide +kernel
theorem dL_isSet_23 : decode cL_isSet 23 = .ok (.ireturn, 1) := by decide +kernel
set_option maxRecDepth 20000 in
theorem ggL_value_X6_value : GoodIn wsL_value wsX6_value := goodIn_ca (goodIn_ca (goodIn_r _ [7, 8, 9, 10, 11, 6, 12, 13, 14, 15, 16, 17, 18, 19, 20, 21, 22, 23, 24, 25, 26, 27, 28, 29, 30, 31, 32, 33, 34, 35, 36, 37, 38, 39, 40, 41, 42, 43, 44, 45] (by decide +kernel) (by decide +kernel)) (goodIn_sub (fun _ h => List.mem_cons_of_mem _ (List.mem_append_left _ (List.mem_append_right _ h))) (by decide +kernel))) (goodIn_sub (fun _ h => List.mem_cons_of_mem _ (List.mem_append_right _ h)) (by decide +kernel))
set_option maxRecDepth 20000 in
theorem gL_value_X6_value : GoodIn wsL_value (wsV RL 59 RX6 yX6_value wsX6_value) := goodIn_app (goodIn_of _ (by decide +kernel)) ggL_value_X6_value
theorem dL_value_0 : decode cL_value 0 = .ok (.aload_n 2, 1) := by decide +kernel
theorem dL_value_1 : decode cL_value 1 = .ok (.iconst 0, 1) := by decide +kernel
theorem dL_value_2 : decode cL_value 2 = .ok (.aload_n 0, 1) := by decide +kernel
theorem dL_value_3 : decode cL_value 3 = .ok (.iload_n 1, 1) := by decide +kernel
theorem dL_value_4 : decode cL_value 4 = .ok (.invokevirtual 59, 3) := by decide +kernel
theorem dL_value_7 : decode cL_value 7 = .ok (.i2l, 1) := by decide +kernel
theorem dL_value_8 : decode cL_value 8 = .ok (.lastore, 1) := by decide +kernel
theorem dL_value_9 : decode cL_value 9 = .ok (.goto 9, 3) := by decide +kernel
theorem dL_value_12 : decode cL_value 12 = .ok (.astore_n 3, 1) := by decide +kernel
theorem dL_value_13 : decode cL_value 13 = .ok (.iconst 1, 1) := by decide +kernel
theorem dL_value_14 : decode cL_value 14 = .ok (.ireturn, 1) := by decide +kernel
theorem dL_value_15 : decode cL_value 15 = .ok (.astore_n 3, 1) := by decide +kernel
theorem dL_value_16 : decode cL_value 16 = .ok (.iconst 2, 1) := by decide +kernel
theorem dL_value_17 : decode cL_value 17 = .ok (.ireturn, 1) := by decide +kernel
theorem dL_value_18 : decode cL_value 18 = .ok (.iconst 0, 1) := by decide +kernel
theorem dL_value_19 : decode cL_value 19 = .ok (.ireturn, 1) := by decide +kernel
set_option maxRecDepth 20000 in
theorem ggL_stamp_X6_stamp : GoodIn wsL_stamp wsX6_stamp := goodIn_ca (goodIn_r _ [6, 7, 8, 9, 10, 5, 11, 12, 13, 14, 15, 16, 17, 18, 19, 20, 21, 22, 23, 24, 25, 26, 27, 28, 29, 30, 31, 32, 33, 34] (by decide +kernel) (by decide +kernel)) (goodIn_sub (fun _ h => List.mem_cons_of_mem _ (List.mem_append_right _ h)) (by decide +kernel))
set_option maxRecDepth 20000 in
theorem gL_stamp_X6_stamp : GoodIn wsL_stamp (wsV RL 62 RX6 yX6_stamp wsX6_stamp) := goodIn_app (goodIn_of _ (by decide +kernel)) ggL_stamp_X6_stamp
theorem dL_stamp_0 : decode cL_stamp 0 = .ok (.aload_n 2, 1) := by decide +kernel
theorem dL_stamp_1 : decode cL_stamp 1 = .ok (.iconst 0, 1) := by decide +kernel
theorem dL_stamp_2 : decode cL_stamp 2 = .ok (.aload_n 0, 1) := by decide +kernel
theorem dL_stamp_3 : decode cL_stamp 3 = .ok (.iload_n 1, 1) := by decide +kernel
theorem dL_stamp_4 : decode cL_stamp 4 = .ok (.invokevirtual 62, 3) := by decide +kernel
theorem dL_stamp_7 : decode cL_stamp 7 = .ok (.i2l, 1) := by decide +kernel
theorem dL_stamp_8 : decode cL_stamp 8 = .ok (.lastore, 1) := by decide +kernel
theorem dL_stamp_9 : decode cL_stamp 9 = .ok (.goto 6, 3) := by decide +kernel
theorem dL_stamp_12 : decode cL_stamp 12 = .ok (.astore_n 3, 1) := by decide +kernel
theorem dL_stamp_13 : decode cL_stamp 13 = .ok (.iconst 1, 1) := by decide +kernel
theorem dL_stamp_14 : decode cL_stamp 14 = .ok (.ireturn, 1) := by decide +kernel
theorem dL_stamp_15 : decode cL_stamp 15 = .ok (.iconst 0, 1) := by decide +kernel
theorem dL_stamp_16 : decode cL_stamp 16 = .ok (.ireturn, 1) := by decide +kernel
set_option maxRecDepth 20000 in
theorem ggL_lastRun_X6_lastRun : GoodIn wsL_lastRun wsX6_lastRun := goodIn_ca (goodIn_r _ [6, 7, 8, 9, 10, 11, 5, 12, 13, 14, 15, 16, 17, 18, 19, 20, 21, 22, 23, 24, 25, 26, 27, 28, 29, 30, 31, 32, 33, 34, 35, 36, 37, 38, 39, 40, 41, 42, 43, 44, 45, 46, 47, 48, 49, 50, 51, 52, 53, 54, 55, 56, 57, 58, 59, 60, 61, 62] (by decide +kernel) (by decide +kernel)) (goodIn_sub (fun _ h => List.mem_cons_of_mem _ (List.mem_append_right _ h)) (by decide +kernel))
