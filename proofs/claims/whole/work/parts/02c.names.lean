set_option maxRecDepth 20000 in
theorem gX6_source_X1_writtenOut : GoodIn wsX6_source (wsV RX6 131 RX1 yX1_writtenOut wsX1_writtenOut) := goodIn_app (goodIn_of _ (by decide +kernel)) ggX6_source_X1_writtenOut
set_option maxRecDepth 20000 in
theorem ggX6_source_J4_length_8abf5 : GoodIn wsX6_source wsJ4_length_8abf5 := goodIn_r _ [225, 226, 227, 84, 228, 48, 229, 87, 241, 242, 243, 244] (by decide +kernel) (by decide +kernel)
set_option maxRecDepth 20000 in
theorem gX6_source_J4_length_8abf5 : GoodIn wsX6_source (wsV RX6 135 RJ4 yJ4_length_8abf5 wsJ4_length_8abf5) := goodIn_app (goodIn_of _ (by decide +kernel)) ggX6_source_J4_length_8abf5
theorem dX6_source_0 : decode cX6_source 0 = .ok (.aload_n 0, 1) := by decide +kernel
theorem dX6_source_1 : decode cX6_source 1 = .ok (.iload_n 1, 1) := by decide +kernel
theorem dX6_source_2 : decode cX6_source 2 = .ok (.invokevirtual 72, 3) := by decide +kernel
theorem dX6_source_5 : decode cX6_source 5 = .ok (.invokevirtual 131, 3) := by decide +kernel
theorem dX6_source_8 : decode cX6_source 8 = .ok (.invokevirtual 135, 3) := by decide +kernel
theorem dX6_source_11 : decode cX6_source 11 = .ok (.ireturn, 1) := by decide +kernel
set_option maxRecDepth 20000 in
theorem ggX6_sourceChar_X6_requireCell : GoodIn wsX6_sourceChar wsX6_requireCell := goodIn_ca (goodIn_r _ [7, 1, 2, 8, 9, 10, 11, 12, 13, 14, 15, 16, 17, 18, 19, 20, 21, 22, 23, 24, 25, 26, 27, 28, 29, 30, 31, 32, 243, 244, 245, 246, 247, 248, 249, 250, 251, 252, 253] (by decide +kernel) (by decide +kernel)) (goodIn_sub (fun _ h => List.mem_cons_of_mem _ (List.mem_append_right _ h)) (by decide +kernel))
set_option maxRecDepth 20000 in
theorem gX6_sourceChar_X6_requireCell : GoodIn wsX6_sourceChar (wsV RX6 72 RX6 yX6_requireCell wsX6_requireCell) := goodIn_app (goodIn_of _ (by decide +kernel)) ggX6_sourceChar_X6_requireCell
set_option maxRecDepth 20000 in
theorem ggX6_sourceChar_X1_writtenOut : GoodIn wsX6_sourceChar wsX1_writtenOut := goodIn_r _ [37, 38, 39, 40, 41, 42, 43, 44, 45, 46, 47, 48, 49, 50, 51, 52, 53, 54, 55, 56, 57, 58, 59, 60, 61, 62, 63, 64, 65, 11, 12, 13, 14, 15, 66, 17, 18, 19, 20, 21, 22, 23, 24, 25, 26, 27, 28, 29, 30, 31, 32, 67, 68, 69, 70, 71, 72, 73, 74, 75, 76, 77, 78, 79, 80, 81, 82, 83, 84, 85, 86, 87, 88, 89, 90, 91, 92, 93, 94, 95, 96, 97, 98, 99, 100, 101, 102, 103, 104, 105, 106, 107, 108, 109, 110, 111, 112, 113, 114, 115, 116, 117, 118, 119, 120, 121, 122, 123, 124, 125, 126, 127, 128, 129, 130, 131, 132, 133, 134, 135, 136, 137, 138, 139, 140, 141, 142, 143, 144, 145, 146, 147, 148, 149, 150, 151, 152, 153, 154, 155, 156, 157, 158, 159, 160, 161, 162, 163, 164, 165, 166, 167, 168, 169, 170, 171, 172, 173, 174, 175, 176, 177, 178, 179, 180, 181, 6, 182, 183, 184, 185, 186, 187, 188, 189, 190, 191, 192, 193, 194, 195, 196, 197, 198, 199, 200, 201, 202, 203, 204, 205, 206, 207, 208, 209, 210, 211, 212, 213, 214, 215, 216, 217, 218, 219, 220, 221, 254, 255, 256, 257, 258, 259, 260, 261, 251, 252, 253, 262, 263, 264, 265] (by decide +kernel) (by decide +kernel)
set_option maxRecDepth 20000 in
theorem gX6_sourceChar_X1_writtenOut : GoodIn wsX6_sourceChar (wsV RX6 131 RX1 yX1_writtenOut wsX1_writtenOut) := goodIn_app (goodIn_of _ (by decide +kernel)) ggX6_sourceChar_X1_writtenOut
set_option maxRecDepth 20000 in
theorem ggX6_sourceChar_J4_length_8abf5 : GoodIn wsX6_sourceChar wsJ4_length_8abf5 := goodIn_r _ [225, 226, 227, 84, 228, 48, 229, 87, 254, 255, 256, 257] (by decide +kernel) (by decide +kernel)
set_option maxRecDepth 20000 in
theorem gX6_sourceChar_J4_length_8abf5 : GoodIn wsX6_sourceChar (wsV RX6 135 RJ4 yJ4_length_8abf5 wsJ4_length_8abf5) := goodIn_app (goodIn_of _ (by decide +kernel)) ggX6_sourceChar_J4_length_8abf5
set_option maxRecDepth 20000 in
theorem ggX6_sourceChar_J4_charAt_5068e : GoodIn wsX6_sourceChar wsJ4_charAt_5068e := goodIn_r _ [233, 234, 235, 84, 236, 48, 237, 56, 55, 87, 238, 122, 105, 123, 239, 175, 156, 176, 158, 177, 25, 26, 27, 240, 241, 59, 242, 165, 166, 167, 151, 152, 153, 254, 255, 256, 257] (by decide +kernel) (by decide +kernel)
set_option maxRecDepth 20000 in
theorem gX6_sourceChar_J4_charAt_5068e : GoodIn wsX6_sourceChar (wsV RX6 145 RJ4 yJ4_charAt_5068e wsJ4_charAt_5068e) := goodIn_app (goodIn_of _ (by decide +kernel)) ggX6_sourceChar_J4_charAt_5068e
theorem dX6_sourceChar_0 : decode cX6_sourceChar 0 = .ok (.aload_n 0, 1) := by decide +kernel
theorem dX6_sourceChar_1 : decode cX6_sourceChar 1 = .ok (.iload_n 1, 1) := by decide +kernel
theorem dX6_sourceChar_2 : decode cX6_sourceChar 2 = .ok (.invokevirtual 72, 3) := by decide +kernel
theorem dX6_sourceChar_5 : decode cX6_sourceChar 5 = .ok (.invokevirtual 131, 3) := by decide +kernel
theorem dX6_sourceChar_8 : decode cX6_sourceChar 8 = .ok (.astore_n 3, 1) := by decide +kernel
theorem dX6_sourceChar_9 : decode cX6_sourceChar 9 = .ok (.iload_n 2, 1) := by decide +kernel
theorem dX6_sourceChar_10 : decode cX6_sourceChar 10 = .ok (.ifCond .lt 11, 3) := by decide +kernel
theorem dX6_sourceChar_13 : decode cX6_sourceChar 13 = .ok (.iload_n 2, 1) := by decide +kernel
theorem dX6_sourceChar_14 : decode cX6_sourceChar 14 = .ok (.aload_n 3, 1) := by decide +kernel
theorem dX6_sourceChar_15 : decode cX6_sourceChar 15 = .ok (.invokevirtual 135, 3) := by decide +kernel
theorem dX6_sourceChar_18 : decode cX6_sourceChar 18 = .ok (.if_icmp .lt 13, 3) := by decide +kernel
theorem dX6_sourceChar_21 : decode cX6_sourceChar 21 = .ok (.new 140, 3) := by decide +kernel
theorem dX6_sourceChar_24 : decode cX6_sourceChar 24 = .ok (.dup, 1) := by decide +kernel
theorem dX6_sourceChar_25 : decode cX6_sourceChar 25 = .ok (.ldc 142, 2) := by decide +kernel
theorem dX6_sourceChar_27 : decode cX6_sourceChar 27 = .ok (.invokespecial 144, 3) := by decide +kernel
theorem dX6_sourceChar_30 : decode cX6_sourceChar 30 = .ok (.athrow, 1) := by decide +kernel
theorem dX6_sourceChar_31 : decode cX6_sourceChar 31 = .ok (.aload_n 3, 1) := by decide +kernel
theorem dX6_sourceChar_32 : decode cX6_sourceChar 32 = .ok (.iload_n 2, 1) := by decide +kernel
theorem dX6_sourceChar_33 : decode cX6_sourceChar 33 = .ok (.invokevirtual 145, 3) := by decide +kernel
theorem dX6_sourceChar_36 : decode cX6_sourceChar 36 = .ok (.ireturn, 1) := by decide +kernel
set_option maxRecDepth 20000 in
theorem ggX6_grant_X6_requireUser : GoodIn wsX6_grant wsX6_requireUser := goodIn_ca (goodIn_r _ [8, 1, 2] (by decide +kernel) (by decide +kernel)) (goodIn_sub (fun _ h => List.mem_cons_of_mem _ (List.mem_append_left _ (List.mem_append_right _ h))) (by decide +kernel))
set_option maxRecDepth 20000 in
theorem gX6_grant_X6_requireUser : GoodIn wsX6_grant (va_wsS RX6 69 yX6_requireUser wsX6_requireUser) := goodIn_app (goodIn_of _ (by decide +kernel)) ggX6_grant_X6_requireUser
set_option maxRecDepth 20000 in
theorem ggX6_grant_X6_requireCell : GoodIn wsX6_grant wsX6_requireCell := goodIn_ca (goodIn_r _ [12, 1, 2, 13, 14, 15, 16, 17, 18, 19, 20, 21, 22, 23, 24, 25, 26, 27, 28, 29, 30, 31, 32, 33, 34, 35, 36, 37, 48, 49, 50, 51, 52, 53, 54, 55, 56, 57, 58] (by decide +kernel) (by decide +kernel)) (goodIn_sub (fun _ h => List.mem_cons_of_mem _ (List.mem_append_left _ (List.mem_append_right _ h))) (by decide +kernel))
set_option maxRecDepth 20000 in
theorem gX6_grant_X6_requireCell : GoodIn wsX6_grant (wsV RX6 72 RX6 yX6_requireCell wsX6_requireCell) := goodIn_app (goodIn_of _ (by decide +kernel)) ggX6_grant_X6_requireCell
set_option maxRecDepth 20000 in
theorem ggX6_grant_X1_rightOf : GoodIn wsX6_grant wsX1_rightOf := goodIn_r _ [42, 43, 59, 60, 61, 62] (by decide +kernel) (by decide +kernel)
set_option maxRecDepth 20000 in
theorem gX6_grant_X1_rightOf : GoodIn wsX6_grant (wsV RX6 153 RX1 yX1_rightOf wsX1_rightOf) := goodIn_app (goodIn_of _ (by decide +kernel)) ggX6_grant_X1_rightOf
set_option maxRecDepth 20000 in
theorem ggX6_grant_X1_giveRight : GoodIn wsX6_grant wsX1_giveRight := goodIn_r _ [47, 43, 59, 60, 61, 62] (by decide +kernel) (by decide +kernel)
set_option maxRecDepth 20000 in
theorem gX6_grant_X1_giveRight : GoodIn wsX6_grant (wsV RX6 157 RX1 yX1_giveRight wsX1_giveRight) := goodIn_app (goodIn_of _ (by decide +kernel)) ggX6_grant_X1_giveRight
theorem dX6_grant_0 : decode cX6_grant 0 = .ok (.iload_n 1, 1) := by decide +kernel
theorem dX6_grant_1 : decode cX6_grant 1 = .ok (.invokestatic 69, 3) := by decide +kernel
theorem dX6_grant_4 : decode cX6_grant 4 = .ok (.aload_n 0, 1) := by decide +kernel
theorem dX6_grant_5 : decode cX6_grant 5 = .ok (.iload_n 2, 1) := by decide +kernel
theorem dX6_grant_6 : decode cX6_grant 6 = .ok (.invokevirtual 72, 3) := by decide +kernel
theorem dX6_grant_9 : decode cX6_grant 9 = .ok (.astore 4, 2) := by decide +kernel
theorem dX6_grant_11 : decode cX6_grant 11 = .ok (.iload_n 1, 1) := by decide +kernel
theorem dX6_grant_12 : decode cX6_grant 12 = .ok (.ifCond .ne 13, 3) := by decide +kernel
theorem dX6_grant_15 : decode cX6_grant 15 = .ok (.new 140, 3) := by decide +kernel
theorem dX6_grant_18 : decode cX6_grant 18 = .ok (.dup, 1) := by decide +kernel
theorem dX6_grant_19 : decode cX6_grant 19 = .ok (.ldc 149, 2) := by decide +kernel
theorem dX6_grant_21 : decode cX6_grant 21 = .ok (.invokespecial 144, 3) := by decide +kernel
theorem dX6_grant_24 : decode cX6_grant 24 = .ok (.athrow, 1) := by decide +kernel
theorem dX6_grant_25 : decode cX6_grant 25 = .ok (.iload_n 3, 1) := by decide +kernel
theorem dX6_grant_26 : decode cX6_grant 26 = .ok (.ifCond .lt 8, 3) := by decide +kernel
theorem dX6_grant_29 : decode cX6_grant 29 = .ok (.iload_n 3, 1) := by decide +kernel
theorem dX6_grant_30 : decode cX6_grant 30 = .ok (.iconst 3, 1) := by decide +kernel
theorem dX6_grant_31 : decode cX6_grant 31 = .ok (.if_icmp .le 13, 3) := by decide +kernel
theorem dX6_grant_34 : decode cX6_grant 34 = .ok (.new 79, 3) := by decide +kernel
theorem dX6_grant_37 : decode cX6_grant 37 = .ok (.dup, 1) := by decide +kernel
theorem dX6_grant_38 : decode cX6_grant 38 = .ok (.ldc 151, 2) := by decide +kernel
theorem dX6_grant_40 : decode cX6_grant 40 = .ok (.invokespecial 83, 3) := by decide +kernel
theorem dX6_grant_43 : decode cX6_grant 43 = .ok (.athrow, 1) := by decide +kernel
theorem dX6_grant_44 : decode cX6_grant 44 = .ok (.aload 4, 2) := by decide +kernel
theorem dX6_grant_46 : decode cX6_grant 46 = .ok (.iload_n 1, 1) := by decide +kernel
theorem dX6_grant_47 : decode cX6_grant 47 = .ok (.invokevirtual 153, 3) := by decide +kernel
theorem dX6_grant_50 : decode cX6_grant 50 = .ok (.istore 5, 2) := by decide +kernel
theorem dX6_grant_52 : decode cX6_grant 52 = .ok (.aload 4, 2) := by decide +kernel
theorem dX6_grant_54 : decode cX6_grant 54 = .ok (.iload_n 1, 1) := by decide +kernel
theorem dX6_grant_55 : decode cX6_grant 55 = .ok (.iload_n 3, 1) := by decide +kernel
theorem dX6_grant_56 : decode cX6_grant 56 = .ok (.invokevirtual 157, 3) := by decide +kernel
theorem dX6_grant_59 : decode cX6_grant 59 = .ok (.iload 5, 2) := by decide +kernel
theorem dX6_grant_61 : decode cX6_grant 61 = .ok (.ireturn, 1) := by decide +kernel
set_option maxRecDepth 20000 in
theorem ggX6_right_X6_requireUser : GoodIn wsX6_right wsX6_requireUser := goodIn_ca (goodIn_r _ [4, 5, 6] (by decide +kernel) (by decide +kernel)) (goodIn_sub (fun _ h => List.mem_cons_of_mem _ (List.mem_append_right _ h)) (by decide +kernel))
set_option maxRecDepth 20000 in
theorem gX6_right_X6_requireUser : GoodIn wsX6_right (va_wsS RX6 69 yX6_requireUser wsX6_requireUser) := goodIn_app (goodIn_of _ (by decide +kernel)) ggX6_right_X6_requireUser
set_option maxRecDepth 20000 in
theorem ggX6_right_X6_requireCell : GoodIn wsX6_right wsX6_requireCell := goodIn_ca (goodIn_r _ [10, 5, 6, 11, 12, 13, 14, 15, 16, 17, 18, 19, 20, 21, 22, 23, 24, 25, 26, 27, 28, 29, 30, 31, 32, 33, 34, 35, 42, 43, 44, 45, 46, 47, 48, 49, 50, 51, 52] (by decide +kernel) (by decide +kernel)) (goodIn_sub (fun _ h => List.mem_cons_of_mem _ (List.mem_append_right _ h)) (by decide +kernel))
set_option maxRecDepth 20000 in
theorem gX6_right_X6_requireCell : GoodIn wsX6_right (wsV RX6 72 RX6 yX6_requireCell wsX6_requireCell) := goodIn_app (goodIn_of _ (by decide +kernel)) ggX6_right_X6_requireCell
set_option maxRecDepth 20000 in
theorem ggX6_right_X1_rightOf : GoodIn wsX6_right wsX1_rightOf := goodIn_r _ [40, 41, 53, 54, 55, 56] (by decide +kernel) (by decide +kernel)
set_option maxRecDepth 20000 in
theorem gX6_right_X1_rightOf : GoodIn wsX6_right (wsV RX6 153 RX1 yX1_rightOf wsX1_rightOf) := goodIn_app (goodIn_of _ (by decide +kernel)) ggX6_right_X1_rightOf
theorem dX6_right_0 : decode cX6_right 0 = .ok (.iload_n 1, 1) := by decide +kernel
theorem dX6_right_1 : decode cX6_right 1 = .ok (.invokestatic 69, 3) := by decide +kernel
theorem dX6_right_4 : decode cX6_right 4 = .ok (.aload_n 0, 1) := by decide +kernel
theorem dX6_right_5 : decode cX6_right 5 = .ok (.iload_n 2, 1) := by decide +kernel
theorem dX6_right_6 : decode cX6_right 6 = .ok (.invokevirtual 72, 3) := by decide +kernel
theorem dX6_right_9 : decode cX6_right 9 = .ok (.iload_n 1, 1) := by decide +kernel
theorem dX6_right_10 : decode cX6_right 10 = .ok (.invokevirtual 153, 3) := by decide +kernel
theorem dX6_right_13 : decode cX6_right 13 = .ok (.ireturn, 1) := by decide +kernel
set_option maxRecDepth 20000 in
theorem ggX6_run_X6_requireUser : GoodIn wsX6_run wsX6_requireUser := goodIn_ca (goodIn_r _ [7, 8, 9] (by decide +kernel) (by decide +kernel)) (goodIn_sub (fun _ h => List.mem_cons_of_mem _ (List.mem_append_right _ h)) (by decide +kernel))
set_option maxRecDepth 20000 in
theorem gX6_run_X6_requireUser : GoodIn wsX6_run (va_wsS RX6 69 yX6_requireUser wsX6_requireUser) := goodIn_app (goodIn_of _ (by decide +kernel)) ggX6_run_X6_requireUser
set_option maxRecDepth 20000 in
theorem ggX6_run_X6_requireCell : GoodIn wsX6_run wsX6_requireCell := goodIn_ca (goodIn_r _ [13, 8, 9, 14, 15, 16, 17, 18, 19, 20, 21, 22, 23, 24, 25, 26, 27, 28, 29, 30, 31, 32, 33, 34, 35, 36, 37, 38, 215, 216, 217, 218, 219, 220, 221, 222, 223, 224, 225] (by decide +kernel) (by decide +kernel)) (goodIn_sub (fun _ h => List.mem_cons_of_mem _ (List.mem_append_right _ h)) (by decide +kernel))
set_option maxRecDepth 20000 in
theorem gX6_run_X6_requireCell : GoodIn wsX6_run (wsV RX6 72 RX6 yX6_requireCell wsX6_requireCell) := goodIn_app (goodIn_of _ (by decide +kernel)) ggX6_run_X6_requireCell
set_option maxRecDepth 20000 in
theorem ggX6_run_X6_requireRight : GoodIn wsX6_run wsX6_requireRight := goodIn_ca (goodIn_r _ [41, 1, 2, 42, 43, 44, 45, 46, 47, 48, 49, 50, 51, 226, 227, 228, 229] (by decide +kernel) (by decide +kernel)) (goodIn_sub (fun _ h => List.mem_cons_of_mem _ (List.mem_append_left _ (List.mem_append_right _ h))) (by decide +kernel))
set_option maxRecDepth 20000 in
theorem gX6_run_X6_requireRight : GoodIn wsX6_run (va_wsS RX6 90 yX6_requireRight wsX6_requireRight) := goodIn_app (goodIn_of _ (by decide +kernel)) ggX6_run_X6_requireRight
set_option maxRecDepth 20000 in
theorem ggX6_run_Jx4a65c_size_8abf5 : GoodIn wsX6_run wsJx4a65c_size_8abf5 := goodIn_r _ [20, 21, 223, 224, 225] (by decide +kernel) (by decide +kernel)
set_option maxRecDepth 20000 in
theorem gX6_run_Jx4a65c_size_8abf5 : GoodIn wsX6_run (wsV RX6 49 RJx4a65c yJx4a65c_size_8abf5 wsJx4a65c_size_8abf5) := goodIn_app (goodIn_of _ (by decide +kernel)) ggX6_run_Jx4a65c_size_8abf5
set_option maxRecDepth 20000 in
theorem ggX6_run_X6_makeRun : GoodIn wsX6_run wsX6_makeRun := goodIn_r _ [55, 3, 56, 57, 58, 59, 60, 61, 62, 63, 64, 65, 16, 17, 18, 19, 20, 21, 66, 67, 68, 69, 70, 71, 72, 73, 74, 75, 76, 77, 78, 79, 80, 81, 82, 83, 84, 85, 86, 87, 88, 89, 90, 91, 92, 93, 6, 94, 95, 96, 97, 98, 99, 100, 101, 102, 103, 104, 105, 23, 24, 25, 26, 27, 28, 29, 30, 31, 32, 33, 34, 35, 36, 37, 38, 106, 107, 108, 109, 110, 111, 112, 113, 114, 115, 116, 117, 118, 119, 120, 121, 122, 123, 124, 125, 126, 127, 128, 129, 130, 131, 132, 133, 134, 135, 136, 137, 138, 139, 140, 141, 142, 143, 144, 145, 146, 147, 148, 149, 150, 151, 152, 153, 154, 155, 156, 157, 158, 159, 160, 161, 162, 163, 164, 165, 166, 167, 168, 169, 170, 171, 172, 173, 174, 175, 176, 177, 178, 179, 180, 181, 182, 183, 184, 185, 186, 187, 188, 189, 190, 191, 192, 193, 194, 195, 196, 197, 198, 199, 200, 201, 202, 203, 204, 205, 206, 207, 208, 209, 210, 211, 212, 213, 214, 215, 216, 217, 218, 219, 220, 221, 222, 226, 227, 228, 229, 230, 231, 232, 233, 234, 235, 236, 237, 238, 239, 240, 241, 242, 243, 244, 245, 223, 224, 225, 246, 247, 248, 249, 250, 251] (by decide +kernel) (by decide +kernel)
set_option maxRecDepth 20000 in
theorem gX6_run_X6_makeRun : GoodIn wsX6_run (wsV RX6 163 RX6 yX6_makeRun wsX6_makeRun) := goodIn_app (goodIn_of _ (by decide +kernel)) ggX6_run_X6_makeRun
theorem dX6_run_0 : decode cX6_run 0 = .ok (.iload_n 1, 1) := by decide +kernel
theorem dX6_run_1 : decode cX6_run 1 = .ok (.invokestatic 69, 3) := by decide +kernel
theorem dX6_run_4 : decode cX6_run 4 = .ok (.aload_n 0, 1) := by decide +kernel
theorem dX6_run_5 : decode cX6_run 5 = .ok (.iload_n 2, 1) := by decide +kernel
theorem dX6_run_6 : decode cX6_run 6 = .ok (.invokevirtual 72, 3) := by decide +kernel
theorem dX6_run_9 : decode cX6_run 9 = .ok (.astore_n 3, 1) := by decide +kernel
theorem dX6_run_10 : decode cX6_run 10 = .ok (.aload_n 3, 1) := by decide +kernel
theorem dX6_run_11 : decode cX6_run 11 = .ok (.iload_n 1, 1) := by decide +kernel
theorem dX6_run_12 : decode cX6_run 12 = .ok (.iconst 2, 1) := by decide +kernel
theorem dX6_run_13 : decode cX6_run 13 = .ok (.invokestatic 90, 3) := by decide +kernel
theorem dX6_run_16 : decode cX6_run 16 = .ok (.aload_n 0, 1) := by decide +kernel
theorem dX6_run_17 : decode cX6_run 17 = .ok (.getfield 19, 3) := by decide +kernel
theorem dX6_run_20 : decode cX6_run 20 = .ok (.invokevirtual 49, 3) := by decide +kernel
theorem dX6_run_23 : decode cX6_run 23 = .ok (.sipush 400, 3) := by decide +kernel
theorem dX6_run_26 : decode cX6_run 26 = .ok (.if_icmp .lt 13, 3) := by decide +kernel
theorem dX6_run_29 : decode cX6_run 29 = .ok (.new 53, 3) := by decide +kernel
theorem dX6_run_32 : decode cX6_run 32 = .ok (.dup, 1) := by decide +kernel
theorem dX6_run_33 : decode cX6_run 33 = .ok (.ldc 161, 2) := by decide +kernel
theorem dX6_run_35 : decode cX6_run 35 = .ok (.invokespecial 57, 3) := by decide +kernel
theorem dX6_run_38 : decode cX6_run 38 = .ok (.athrow, 1) := by decide +kernel
theorem dX6_run_39 : decode cX6_run 39 = .ok (.aload_n 0, 1) := by decide +kernel
theorem dX6_run_40 : decode cX6_run 40 = .ok (.iload_n 1, 1) := by decide +kernel
theorem dX6_run_41 : decode cX6_run 41 = .ok (.aload_n 3, 1) := by decide +kernel
theorem dX6_run_42 : decode cX6_run 42 = .ok (.invokevirtual 163, 3) := by decide +kernel
theorem dX6_run_45 : decode cX6_run 45 = .ok (.ireturn, 1) := by decide +kernel
set_option maxRecDepth 20000 in
theorem ggX6_refresh_X6_requireUser : GoodIn wsX6_refresh wsX6_requireUser := goodIn_ca (goodIn_r _ [9, 10, 11] (by decide +kernel) (by decide +kernel)) (goodIn_sub (fun _ h => List.mem_cons_of_mem _ (List.mem_append_right _ h)) (by decide +kernel))
set_option maxRecDepth 20000 in
theorem gX6_refresh_X6_requireUser : GoodIn wsX6_refresh (va_wsS RX6 69 yX6_requireUser wsX6_requireUser) := goodIn_app (goodIn_of _ (by decide +kernel)) ggX6_refresh_X6_requireUser
set_option maxRecDepth 20000 in
theorem ggX6_refresh_Jx4a65c_size_8abf5 : GoodIn wsX6_refresh wsJx4a65c_size_8abf5 := goodIn_r _ [16, 17, 257, 258, 259] (by decide +kernel) (by decide +kernel)
set_option maxRecDepth 20000 in
theorem gX6_refresh_Jx4a65c_size_8abf5 : GoodIn wsX6_refresh (wsV RX6 49 RJx4a65c yJx4a65c_size_8abf5 wsJx4a65c_size_8abf5) := goodIn_app (goodIn_of _ (by decide +kernel)) ggX6_refresh_Jx4a65c_size_8abf5
set_option maxRecDepth 20000 in
theorem ggX6_refresh_Jx4a65c_get_915e3 : GoodIn wsX6_refresh wsJx4a65c_get_915e3 := goodIn_r _ [21, 17, 22, 23, 24, 25, 26, 27, 28, 29, 30, 31, 32, 15, 33, 34, 257, 258, 259] (by decide +kernel) (by decide +kernel)
set_option maxRecDepth 20000 in
theorem gX6_refresh_Jx4a65c_get_915e3 : GoodIn wsX6_refresh (wsV RX6 125 RJx4a65c yJx4a65c_get_915e3 wsJx4a65c_get_915e3) := goodIn_app (goodIn_of _ (by decide +kernel)) ggX6_refresh_Jx4a65c_get_915e3
set_option maxRecDepth 20000 in
theorem ggX6_refresh_X1_allows : GoodIn wsX6_refresh wsX1_allows := goodIn_r _ [39, 40, 41, 42, 38, 43, 44, 260, 261, 262, 263] (by decide +kernel) (by decide +kernel)
set_option maxRecDepth 20000 in
theorem gX6_refresh_X1_allows : GoodIn wsX6_refresh (wsV RX6 169 RX1 yX1_allows wsX1_allows) := goodIn_app (goodIn_of _ (by decide +kernel)) ggX6_refresh_X1_allows
set_option maxRecDepth 20000 in
theorem ggX6_refresh_X6_needsRun : GoodIn wsX6_refresh wsX6_needsRun := goodIn_r _ [48, 49, 50, 51, 52, 53, 54, 55, 56, 57, 58, 59, 8, 60, 3, 61, 62, 12, 13, 14, 15, 16, 17, 18, 19, 20, 21, 22, 23, 24, 25, 26, 27, 28, 29, 30, 31, 32, 33, 34, 63, 64, 65, 66, 67, 68, 69, 70, 71, 72, 73, 74, 75, 76, 77, 78, 79, 80, 81, 82, 83, 84, 85, 86, 87, 88, 89, 90, 91, 92, 93, 94, 95, 96, 97, 98, 99, 100, 249, 250, 251, 252, 253, 254, 255, 256, 260, 261, 262, 263, 264, 265, 266, 267, 268, 269, 270, 271, 272, 257, 258, 259, 273, 274] (by decide +kernel) (by decide +kernel)
set_option maxRecDepth 20000 in
theorem gX6_refresh_X6_needsRun : GoodIn wsX6_refresh (wsV RX6 173 RX6 yX6_needsRun wsX6_needsRun) := goodIn_app (goodIn_of _ (by decide +kernel)) ggX6_refresh_X6_needsRun
set_option maxRecDepth 20000 in
theorem ggX6_refresh_X6_makeRun : GoodIn wsX6_refresh wsX6_makeRun := goodIn_r _ [104, 3, 105, 106, 49, 73, 107, 108, 77, 109, 50, 110, 12, 13, 14, 15, 16, 17, 111, 112, 113, 114, 115, 116, 117, 118, 119, 120, 121, 122, 123, 124, 125, 126, 127, 128, 129, 130, 85, 131, 132, 133, 134, 135, 136, 80, 8, 81, 137, 83, 84, 86, 87, 138, 139, 140, 141, 142, 143, 19, 20, 21, 22, 23, 24, 25, 26, 27, 28, 29, 30, 31, 32, 33, 34, 144, 145, 146, 147, 148, 149, 150, 151, 152, 153, 154, 155, 156, 157, 158, 159, 160, 161, 162, 163, 164, 165, 166, 167, 168, 169, 170, 171, 172, 173, 174, 175, 176, 177, 178, 179, 92, 180, 181, 182, 183, 184, 185, 186, 187, 79, 188, 189, 190, 191, 192, 193, 194, 195, 196, 197, 198, 199, 200, 201, 202, 203, 204, 205, 206, 207, 208, 209, 210, 211, 212, 213, 214, 215, 216, 217, 218, 219, 220, 221, 222, 223, 224, 225, 226, 227, 228, 229, 230, 231, 232, 233, 234, 235, 236, 237, 238, 239, 240, 241, 242, 243, 244, 245, 246, 247, 54, 248, 56, 249, 250, 251, 252, 253, 254, 255, 256, 260, 261, 262, 263, 264, 265, 266, 267, 268, 269, 270, 271, 272, 275, 276, 277, 278, 279, 280, 281, 257, 258, 259, 273, 274, 282, 283, 284, 285] (by decide +kernel) (by decide +kernel)
set_option maxRecDepth 20000 in
theorem gX6_refresh_X6_makeRun : GoodIn wsX6_refresh (wsV RX6 163 RX6 yX6_makeRun wsX6_makeRun) := goodIn_app (goodIn_of _ (by decide +kernel)) ggX6_refresh_X6_makeRun
theorem dX6_refresh_0 : decode cX6_refresh 0 = .ok (.iload_n 1, 1) := by decide +kernel
theorem dX6_refresh_1 : decode cX6_refresh 1 = .ok (.invokestatic 69, 3) := by decide +kernel
theorem dX6_refresh_4 : decode cX6_refresh 4 = .ok (.aload_n 0, 1) := by decide +kernel
theorem dX6_refresh_5 : decode cX6_refresh 5 = .ok (.getfield 19, 3) := by decide +kernel
theorem dX6_refresh_8 : decode cX6_refresh 8 = .ok (.invokevirtual 49, 3) := by decide +kernel
theorem dX6_refresh_11 : decode cX6_refresh 11 = .ok (.sipush 380, 3) := by decide +kernel
theorem dX6_refresh_14 : decode cX6_refresh 14 = .ok (.if_icmp .le 13, 3) := by decide +kernel
theorem dX6_refresh_17 : decode cX6_refresh 17 = .ok (.new 53, 3) := by decide +kernel
theorem dX6_refresh_20 : decode cX6_refresh 20 = .ok (.dup, 1) := by decide +kernel
theorem dX6_refresh_21 : decode cX6_refresh 21 = .ok (.ldc 167, 2) := by decide +kernel
theorem dX6_refresh_23 : decode cX6_refresh 23 = .ok (.invokespecial 57, 3) := by decide +kernel
theorem dX6_refresh_26 : decode cX6_refresh 26 = .ok (.athrow, 1) := by decide +kernel
theorem dX6_refresh_27 : decode cX6_refresh 27 = .ok (.iconst 0, 1) := by decide +kernel
theorem dX6_refresh_28 : decode cX6_refresh 28 = .ok (.istore_n 2, 1) := by decide +kernel
theorem dX6_refresh_29 : decode cX6_refresh 29 = .ok (.iconst 0, 1) := by decide +kernel
theorem dX6_refresh_30 : decode cX6_refresh 30 = .ok (.istore_n 3, 1) := by decide +kernel
theorem dX6_refresh_31 : decode cX6_refresh 31 = .ok (.iload_n 3, 1) := by decide +kernel
theorem dX6_refresh_32 : decode cX6_refresh 32 = .ok (.aload_n 0, 1) := by decide +kernel
theorem dX6_refresh_33 : decode cX6_refresh 33 = .ok (.getfield 16, 3) := by decide +kernel
theorem dX6_refresh_36 : decode cX6_refresh 36 = .ok (.invokevirtual 49, 3) := by decide +kernel
theorem dX6_refresh_39 : decode cX6_refresh 39 = .ok (.if_icmp .ge 52, 3) := by decide +kernel
theorem dX6_refresh_42 : decode cX6_refresh 42 = .ok (.aload_n 0, 1) := by decide +kernel
theorem dX6_refresh_43 : decode cX6_refresh 43 = .ok (.getfield 16, 3) := by decide +kernel
theorem dX6_refresh_46 : decode cX6_refresh 46 = .ok (.iload_n 3, 1) := by decide +kernel
theorem dX6_refresh_47 : decode cX6_refresh 47 = .ok (.invokevirtual 125, 3) := by decide +kernel
theorem dX6_refresh_50 : decode cX6_refresh 50 = .ok (.checkcast 60, 3) := by decide +kernel
theorem dX6_refresh_53 : decode cX6_refresh 53 = .ok (.astore 4, 2) := by decide +kernel
theorem dX6_refresh_55 : decode cX6_refresh 55 = .ok (.aload 4, 2) := by decide +kernel
theorem dX6_refresh_57 : decode cX6_refresh 57 = .ok (.iload_n 1, 1) := by decide +kernel
theorem dX6_refresh_58 : decode cX6_refresh 58 = .ok (.iconst 2, 1) := by decide +kernel
theorem dX6_refresh_59 : decode cX6_refresh 59 = .ok (.invokevirtual 169, 3) := by decide +kernel
theorem dX6_refresh_62 : decode cX6_refresh 62 = .ok (.ifCond .eq 23, 3) := by decide +kernel
theorem dX6_refresh_65 : decode cX6_refresh 65 = .ok (.aload_n 0, 1) := by decide +kernel
theorem dX6_refresh_66 : decode cX6_refresh 66 = .ok (.aload 4, 2) := by decide +kernel
theorem dX6_refresh_68 : decode cX6_refresh 68 = .ok (.invokevirtual 173, 3) := by decide +kernel
theorem dX6_refresh_71 : decode cX6_refresh 71 = .ok (.ifCond .eq 14, 3) := by decide +kernel
theorem dX6_refresh_74 : decode cX6_refresh 74 = .ok (.aload_n 0, 1) := by decide +kernel
theorem dX6_refresh_75 : decode cX6_refresh 75 = .ok (.iload_n 1, 1) := by decide +kernel
theorem dX6_refresh_76 : decode cX6_refresh 76 = .ok (.aload 4, 2) := by decide +kernel
theorem dX6_refresh_78 : decode cX6_refresh 78 = .ok (.invokevirtual 163, 3) := by decide +kernel
theorem dX6_refresh_81 : decode cX6_refresh 81 = .ok (.pop, 1) := by decide +kernel
theorem dX6_refresh_82 : decode cX6_refresh 82 = .ok (.iinc 2 1, 3) := by decide +kernel
theorem dX6_refresh_85 : decode cX6_refresh 85 = .ok (.iinc 3 1, 3) := by decide +kernel
theorem dX6_refresh_88 : decode cX6_refresh 88 = .ok (.goto (-57), 3) := by decide +kernel
theorem dX6_refresh_91 : decode cX6_refresh 91 = .ok (.iload_n 2, 1) := by decide +kernel
theorem dX6_refresh_92 : decode cX6_refresh 92 = .ok (.ireturn, 1) := by decide +kernel
set_option maxRecDepth 20000 in
theorem ggX6_isSet_X6_requireName : GoodIn wsX6_isSet wsX6_requireName := goodIn_ca (goodIn_r _ [6, 7, 8, 9, 10, 5, 11] (by decide +kernel) (by decide +kernel)) (goodIn_sub (fun _ h => List.mem_cons_of_mem _ (List.mem_append_right _ h)) (by decide +kernel))
set_option maxRecDepth 20000 in
theorem gX6_isSet_X6_requireName : GoodIn wsX6_isSet (va_wsS RX6 76 yX6_requireName wsX6_requireName) := goodIn_app (goodIn_of _ (by decide +kernel)) ggX6_isSet_X6_requireName
set_option maxRecDepth 20000 in
theorem ggX6_isSet_X2_hold : GoodIn wsX6_isSet wsX2_hold := goodIn_r _ [16, 17, 10, 5, 11, 28, 29] (by decide +kernel) (by decide +kernel)
set_option maxRecDepth 20000 in
theorem gX6_isSet_X2_hold : GoodIn wsX6_isSet (wsV RX6 180 RX2 yX2_hold wsX2_hold) := goodIn_app (goodIn_of _ (by decide +kernel)) ggX6_isSet_X2_hold
theorem dX6_isSet_0 : decode cX6_isSet 0 = .ok (.iload_n 1, 1) := by decide +kernel
theorem dX6_isSet_1 : decode cX6_isSet 1 = .ok (.invokestatic 76, 3) := by decide +kernel
theorem dX6_isSet_4 : decode cX6_isSet 4 = .ok (.aload_n 0, 1) := by decide +kernel
theorem dX6_isSet_5 : decode cX6_isSet 5 = .ok (.getfield 31, 3) := by decide +kernel
theorem dX6_isSet_8 : decode cX6_isSet 8 = .ok (.getfield 177, 3) := by decide +kernel
theorem dX6_isSet_11 : decode cX6_isSet 11 = .ok (.iload_n 1, 1) := by decide +kernel
theorem dX6_isSet_12 : decode cX6_isSet 12 = .ok (.invokevirtual 180, 3) := by decide +kernel
theorem dX6_isSet_15 : decode cX6_isSet 15 = .ok (.ireturn, 1) := by decide +kernel
set_option maxRecDepth 20000 in
theorem ggX6_value_X6_requireName : GoodIn wsX6_value wsX6_requireName := goodIn_ca (goodIn_r _ [6, 7, 8, 9, 10, 5, 11] (by decide +kernel) (by decide +kernel)) (goodIn_sub (fun _ h => List.mem_cons_of_mem _ (List.mem_append_left _ (List.mem_append_right _ h))) (by decide +kernel))
set_option maxRecDepth 20000 in
theorem gX6_value_X6_requireName : GoodIn wsX6_value (va_wsS RX6 76 yX6_requireName wsX6_requireName) := goodIn_app (goodIn_of _ (by decide +kernel)) ggX6_value_X6_requireName
set_option maxRecDepth 20000 in
theorem ggX6_value_X6_requireValue : GoodIn wsX6_value wsX6_requireValue := goodIn_ca (goodIn_r _ [14, 15, 16, 17, 18, 19, 20, 21, 22, 10, 5, 11, 23, 24, 25, 26, 27, 38, 39] (by decide +kernel) (by decide +kernel)) (goodIn_sub (fun _ h => List.mem_cons_of_mem _ (List.mem_append_right _ h)) (by decide +kernel))
set_option maxRecDepth 20000 in
theorem gX6_value_X6_requireValue : GoodIn wsX6_value (va_wsS RX6 183 yX6_requireValue wsX6_requireValue) := goodIn_app (goodIn_of _ (by decide +kernel)) ggX6_value_X6_requireValue
theorem dX6_value_0 : decode cX6_value 0 = .ok (.iload_n 1, 1) := by decide +kernel
theorem dX6_value_1 : decode cX6_value 1 = .ok (.invokestatic 76, 3) := by decide +kernel
theorem dX6_value_4 : decode cX6_value 4 = .ok (.aload_n 0, 1) := by decide +kernel
theorem dX6_value_5 : decode cX6_value 5 = .ok (.getfield 31, 3) := by decide +kernel
theorem dX6_value_8 : decode cX6_value 8 = .ok (.getfield 177, 3) := by decide +kernel
theorem dX6_value_11 : decode cX6_value 11 = .ok (.iload_n 1, 1) := by decide +kernel
theorem dX6_value_12 : decode cX6_value 12 = .ok (.invokestatic 183, 3) := by decide +kernel
theorem dX6_value_15 : decode cX6_value 15 = .ok (.ireturn, 1) := by decide +kernel
set_option maxRecDepth 20000 in
theorem ggX6_stamp_X6_requireName : GoodIn wsX6_stamp wsX6_requireName := goodIn_ca (goodIn_r _ [6, 7, 8, 9, 10, 5, 11] (by decide +kernel) (by decide +kernel)) (goodIn_sub (fun _ h => List.mem_cons_of_mem _ (List.mem_append_right _ h)) (by decide +kernel))
set_option maxRecDepth 20000 in
theorem gX6_stamp_X6_requireName : GoodIn wsX6_stamp (va_wsS RX6 76 yX6_requireName wsX6_requireName) := goodIn_app (goodIn_of _ (by decide +kernel)) ggX6_stamp_X6_requireName
set_option maxRecDepth 20000 in
theorem ggX6_stamp_X2_stampOf : GoodIn wsX6_stamp wsX2_stampOf := goodIn_r _ [16, 17, 10, 5, 11, 28, 29] (by decide +kernel) (by decide +kernel)
set_option maxRecDepth 20000 in
theorem gX6_stamp_X2_stampOf : GoodIn wsX6_stamp (wsV RX6 187 RX2 yX2_stampOf wsX2_stampOf) := goodIn_app (goodIn_of _ (by decide +kernel)) ggX6_stamp_X2_stampOf
theorem dX6_stamp_0 : decode cX6_stamp 0 = .ok (.iload_n 1, 1) := by decide +kernel
theorem dX6_stamp_1 : decode cX6_stamp 1 = .ok (.invokestatic 76, 3) := by decide +kernel
theorem dX6_stamp_4 : decode cX6_stamp 4 = .ok (.aload_n 0, 1) := by decide +kernel
theorem dX6_stamp_5 : decode cX6_stamp 5 = .ok (.getfield 31, 3) := by decide +kernel
theorem dX6_stamp_8 : decode cX6_stamp 8 = .ok (.getfield 177, 3) := by decide +kernel
theorem dX6_stamp_11 : decode cX6_stamp 11 = .ok (.iload_n 1, 1) := by decide +kernel
theorem dX6_stamp_12 : decode cX6_stamp 12 = .ok (.invokevirtual 187, 3) := by decide +kernel
theorem dX6_stamp_15 : decode cX6_stamp 15 = .ok (.ireturn, 1) := by decide +kernel
set_option maxRecDepth 20000 in
theorem ggX6_lastRun_X6_requireCell : GoodIn wsX6_lastRun wsX6_requireCell := goodIn_ca (goodIn_r _ [7, 8, 9, 10, 11, 12, 13, 14, 15, 16, 17, 18, 19, 20, 21, 22, 23, 24, 25, 26, 27, 28, 29, 30, 31, 32, 33, 34, 41, 42, 43, 44, 45, 46, 47, 48, 53, 54, 55] (by decide +kernel) (by decide +kernel)) (goodIn_sub (fun _ h => List.mem_cons_of_mem _ (List.mem_append_right _ h)) (by decide +kernel))
set_option maxRecDepth 20000 in
theorem gX6_lastRun_X6_requireCell : GoodIn wsX6_lastRun (wsV RX6 72 RX6 yX6_requireCell wsX6_requireCell) := goodIn_app (goodIn_of _ (by decide +kernel)) ggX6_lastRun_X6_requireCell
set_option maxRecDepth 20000 in
theorem ggX6_lastRun_X4_lastRunOf : GoodIn wsX6_lastRun wsX4_lastRunOf := goodIn_r _ [39, 40, 56, 57] (by decide +kernel) (by decide +kernel)
set_option maxRecDepth 20000 in
theorem gX6_lastRun_X4_lastRunOf : GoodIn wsX6_lastRun (wsV RX6 190 RX4 yX4_lastRunOf wsX4_lastRunOf) := goodIn_app (goodIn_of _ (by decide +kernel)) ggX6_lastRun_X4_lastRunOf
theorem dX6_lastRun_0 : decode cX6_lastRun 0 = .ok (.aload_n 0, 1) := by decide +kernel
theorem dX6_lastRun_1 : decode cX6_lastRun 1 = .ok (.getfield 31, 3) := by decide +kernel
theorem dX6_lastRun_4 : decode cX6_lastRun 4 = .ok (.aload_n 0, 1) := by decide +kernel
theorem dX6_lastRun_5 : decode cX6_lastRun 5 = .ok (.iload_n 1, 1) := by decide +kernel
theorem dX6_lastRun_6 : decode cX6_lastRun 6 = .ok (.invokevirtual 72, 3) := by decide +kernel
theorem dX6_lastRun_9 : decode cX6_lastRun 9 = .ok (.getfield 128, 3) := by decide +kernel
theorem dX6_lastRun_12 : decode cX6_lastRun 12 = .ok (.invokevirtual 190, 3) := by decide +kernel
theorem dX6_lastRun_15 : decode cX6_lastRun 15 = .ok (.ireturn, 1) := by decide +kernel
set_option maxRecDepth 20000 in
theorem ggX6_hasResult_X6_requireCell : GoodIn wsX6_hasResult wsX6_requireCell := goodIn_ca (goodIn_r _ [6, 7, 8, 9, 10, 11, 12, 13, 14, 15, 16, 17, 18, 19, 20, 21, 22, 23, 24, 25, 26, 27, 28, 29, 30, 31, 32, 33, 59, 60, 61, 62, 63, 64, 65, 66, 67, 68, 69] (by decide +kernel) (by decide +kernel)) (goodIn_sub (fun _ h => List.mem_cons_of_mem _ (List.mem_append_right _ h)) (by decide +kernel))
set_option maxRecDepth 20000 in
theorem gX6_hasResult_X6_requireCell : GoodIn wsX6_hasResult (wsV RX6 72 RX6 yX6_requireCell wsX6_requireCell) := goodIn_app (goodIn_of _ (by decide +kernel)) ggX6_hasResult_X6_requireCell
set_option maxRecDepth 20000 in
theorem ggX6_hasResult_X6_lastRunMadeOf : GoodIn wsX6_hasResult wsX6_lastRunMadeOf := goodIn_r _ [37, 38, 39, 40, 41, 42, 43, 44, 45, 46, 47, 48, 5, 49, 50, 51, 11, 12, 13, 14, 15, 16, 17, 18, 19, 20, 21, 22, 23, 24, 25, 26, 27, 28, 29, 30, 31, 32, 33, 59, 60, 61, 62, 63, 64, 65, 66, 70, 71, 72, 73, 74, 75, 67, 68, 69] (by decide +kernel) (by decide +kernel)
set_option maxRecDepth 20000 in
theorem gX6_hasResult_X6_lastRunMadeOf : GoodIn wsX6_hasResult (wsV RX6 193 RX6 yX6_lastRunMadeOf wsX6_lastRunMadeOf) := goodIn_app (goodIn_of _ (by decide +kernel)) ggX6_hasResult_X6_lastRunMadeOf
theorem dX6_hasResult_0 : decode cX6_hasResult 0 = .ok (.aload_n 0, 1) := by decide +kernel
theorem dX6_hasResult_1 : decode cX6_hasResult 1 = .ok (.aload_n 0, 1) := by decide +kernel
theorem dX6_hasResult_2 : decode cX6_hasResult 2 = .ok (.iload_n 1, 1) := by decide +kernel
theorem dX6_hasResult_3 : decode cX6_hasResult 3 = .ok (.invokevirtual 72, 3) := by decide +kernel
theorem dX6_hasResult_6 : decode cX6_hasResult 6 = .ok (.invokevirtual 193, 3) := by decide +kernel
theorem dX6_hasResult_9 : decode cX6_hasResult 9 = .ok (.astore_n 2, 1) := by decide +kernel
theorem dX6_hasResult_10 : decode cX6_hasResult 10 = .ok (.aload_n 2, 1) := by decide +kernel
theorem dX6_hasResult_11 : decode cX6_hasResult 11 = .ok (.ifnull 14, 3) := by decide +kernel
theorem dX6_hasResult_14 : decode cX6_hasResult 14 = .ok (.aload_n 2, 1) := by decide +kernel
theorem dX6_hasResult_15 : decode cX6_hasResult 15 = .ok (.getfield 197, 3) := by decide +kernel
theorem dX6_hasResult_18 : decode cX6_hasResult 18 = .ok (.ifCond .eq 7, 3) := by decide +kernel
theorem dX6_hasResult_21 : decode cX6_hasResult 21 = .ok (.iconst 1, 1) := by decide +kernel
theorem dX6_hasResult_22 : decode cX6_hasResult 22 = .ok (.goto 4, 3) := by decide +kernel
theorem dX6_hasResult_25 : decode cX6_hasResult 25 = .ok (.iconst 0, 1) := by decide +kernel
theorem dX6_hasResult_26 : decode cX6_hasResult 26 = .ok (.ireturn, 1) := by decide +kernel
set_option maxRecDepth 20000 in
theorem ggX6_result_X6_requireUser : GoodIn wsX6_result wsX6_requireUser := goodIn_ca (goodIn_r _ [8, 9, 10] (by decide +kernel) (by decide +kernel)) (goodIn_sub (fun _ h => List.mem_cons_of_mem _ (List.mem_append_right _ h)) (by decide +kernel))
set_option maxRecDepth 20000 in
theorem gX6_result_X6_requireUser : GoodIn wsX6_result (va_wsS RX6 69 yX6_requireUser wsX6_requireUser) := goodIn_app (goodIn_of _ (by decide +kernel)) ggX6_result_X6_requireUser
set_option maxRecDepth 20000 in
theorem ggX6_result_X6_requireCell : GoodIn wsX6_result wsX6_requireCell := goodIn_ca (goodIn_r _ [14, 9, 10, 15, 16, 17, 18, 19, 20, 21, 22, 23, 24, 25, 26, 27, 28, 29, 30, 31, 32, 33, 34, 35, 36, 37, 38, 39, 78, 79, 80, 81, 82, 83, 84, 85, 86, 87, 88] (by decide +kernel) (by decide +kernel)) (goodIn_sub (fun _ h => List.mem_cons_of_mem _ (List.mem_append_right _ h)) (by decide +kernel))
set_option maxRecDepth 20000 in
theorem gX6_result_X6_requireCell : GoodIn wsX6_result (wsV RX6 72 RX6 yX6_requireCell wsX6_requireCell) := goodIn_app (goodIn_of _ (by decide +kernel)) ggX6_result_X6_requireCell
set_option maxRecDepth 20000 in
theorem ggX6_result_X6_requireRight : GoodIn wsX6_result wsX6_requireRight := goodIn_ca (goodIn_r _ [42, 1, 2, 43, 44, 45, 46, 47, 48, 49, 50, 51, 52, 89, 90, 91, 92] (by decide +kernel) (by decide +kernel)) (goodIn_sub (fun _ h => List.mem_cons_of_mem _ (List.mem_append_left _ (List.mem_append_right _ h))) (by decide +kernel))
set_option maxRecDepth 20000 in
theorem gX6_result_X6_requireRight : GoodIn wsX6_result (va_wsS RX6 90 yX6_requireRight wsX6_requireRight) := goodIn_app (goodIn_of _ (by decide +kernel)) ggX6_result_X6_requireRight
set_option maxRecDepth 20000 in
theorem ggX6_result_X6_lastRunMadeOf : GoodIn wsX6_result wsX6_lastRunMadeOf := goodIn_r _ [56, 57, 58, 59, 60, 61, 62, 63, 64, 65, 66, 67, 7, 68, 69, 70, 17, 18, 19, 20, 21, 22, 23, 24, 25, 26, 27, 28, 29, 30, 31, 32, 33, 34, 35, 36, 37, 38, 39, 78, 79, 80, 81, 82, 83, 84, 85, 89, 90, 91, 92, 93, 94, 86, 87, 88] (by decide +kernel) (by decide +kernel)
set_option maxRecDepth 20000 in
theorem gX6_result_X6_lastRunMadeOf : GoodIn wsX6_result (wsV RX6 193 RX6 yX6_lastRunMadeOf wsX6_lastRunMadeOf) := goodIn_app (goodIn_of _ (by decide +kernel)) ggX6_result_X6_lastRunMadeOf
theorem dX6_result_0 : decode cX6_result 0 = .ok (.iload_n 1, 1) := by decide +kernel
theorem dX6_result_1 : decode cX6_result 1 = .ok (.invokestatic 69, 3) := by decide +kernel
theorem dX6_result_4 : decode cX6_result 4 = .ok (.aload_n 0, 1) := by decide +kernel
theorem dX6_result_5 : decode cX6_result 5 = .ok (.iload_n 2, 1) := by decide +kernel
theorem dX6_result_6 : decode cX6_result 6 = .ok (.invokevirtual 72, 3) := by decide +kernel
theorem dX6_result_9 : decode cX6_result 9 = .ok (.astore_n 3, 1) := by decide +kernel
theorem dX6_result_10 : decode cX6_result 10 = .ok (.aload_n 3, 1) := by decide +kernel
theorem dX6_result_11 : decode cX6_result 11 = .ok (.iload_n 1, 1) := by decide +kernel
theorem dX6_result_12 : decode cX6_result 12 = .ok (.iconst 1, 1) := by decide +kernel
theorem dX6_result_13 : decode cX6_result 13 = .ok (.invokestatic 90, 3) := by decide +kernel
theorem dX6_result_16 : decode cX6_result 16 = .ok (.aload_n 0, 1) := by decide +kernel
theorem dX6_result_17 : decode cX6_result 17 = .ok (.aload_n 3, 1) := by decide +kernel
theorem dX6_result_18 : decode cX6_result 18 = .ok (.invokevirtual 193, 3) := by decide +kernel
theorem dX6_result_21 : decode cX6_result 21 = .ok (.astore 4, 2) := by decide +kernel
theorem dX6_result_23 : decode cX6_result 23 = .ok (.aload 4, 2) := by decide +kernel
theorem dX6_result_25 : decode cX6_result 25 = .ok (.ifnull 11, 3) := by decide +kernel
theorem dX6_result_28 : decode cX6_result 28 = .ok (.aload 4, 2) := by decide +kernel
theorem dX6_result_30 : decode cX6_result 30 = .ok (.getfield 197, 3) := by decide +kernel
theorem dX6_result_33 : decode cX6_result 33 = .ok (.ifCond .ne 13, 3) := by decide +kernel
theorem dX6_result_36 : decode cX6_result 36 = .ok (.new 53, 3) := by decide +kernel
theorem dX6_result_39 : decode cX6_result 39 = .ok (.dup, 1) := by decide +kernel
theorem dX6_result_40 : decode cX6_result 40 = .ok (.ldc 203, 2) := by decide +kernel
theorem dX6_result_42 : decode cX6_result 42 = .ok (.invokespecial 57, 3) := by decide +kernel
theorem dX6_result_45 : decode cX6_result 45 = .ok (.athrow, 1) := by decide +kernel
theorem dX6_result_46 : decode cX6_result 46 = .ok (.aload 4, 2) := by decide +kernel
theorem dX6_result_48 : decode cX6_result 48 = .ok (.getfield 205, 3) := by decide +kernel
theorem dX6_result_51 : decode cX6_result 51 = .ok (.ireturn, 1) := by decide +kernel
set_option maxRecDepth 20000 in
theorem ggX6_seen_X6_requireCell : GoodIn wsX6_seen wsX6_requireCell := goodIn_ca (goodIn_r _ [6, 7, 8, 9, 10, 11, 12, 13, 14, 15, 16, 17, 18, 19, 20, 21, 22, 23, 24, 25, 26, 27, 28, 29, 30, 31, 32, 33, 59, 60, 61, 62, 63, 64, 65, 66, 67, 68, 69] (by decide +kernel) (by decide +kernel)) (goodIn_sub (fun _ h => List.mem_cons_of_mem _ (List.mem_append_right _ h)) (by decide +kernel))
set_option maxRecDepth 20000 in
theorem gX6_seen_X6_requireCell : GoodIn wsX6_seen (wsV RX6 72 RX6 yX6_requireCell wsX6_requireCell) := goodIn_app (goodIn_of _ (by decide +kernel)) ggX6_seen_X6_requireCell
set_option maxRecDepth 20000 in
theorem ggX6_seen_X6_lastRunMadeOf : GoodIn wsX6_seen wsX6_lastRunMadeOf := goodIn_r _ [37, 38, 39, 40, 41, 42, 43, 44, 45, 46, 47, 48, 5, 49, 50, 51, 11, 12, 13, 14, 15, 16, 17, 18, 19, 20, 21, 22, 23, 24, 25, 26, 27, 28, 29, 30, 31, 32, 33, 59, 60, 61, 62, 63, 64, 65, 66, 70, 71, 72, 73, 74, 75, 67, 68, 69] (by decide +kernel) (by decide +kernel)
set_option maxRecDepth 20000 in
theorem gX6_seen_X6_lastRunMadeOf : GoodIn wsX6_seen (wsV RX6 193 RX6 yX6_lastRunMadeOf wsX6_lastRunMadeOf) := goodIn_app (goodIn_of _ (by decide +kernel)) ggX6_seen_X6_lastRunMadeOf
theorem dX6_seen_0 : decode cX6_seen 0 = .ok (.aload_n 0, 1) := by decide +kernel
theorem dX6_seen_1 : decode cX6_seen 1 = .ok (.aload_n 0, 1) := by decide +kernel
theorem dX6_seen_2 : decode cX6_seen 2 = .ok (.iload_n 1, 1) := by decide +kernel
theorem dX6_seen_3 : decode cX6_seen 3 = .ok (.invokevirtual 72, 3) := by decide +kernel
theorem dX6_seen_6 : decode cX6_seen 6 = .ok (.invokevirtual 193, 3) := by decide +kernel
theorem dX6_seen_9 : decode cX6_seen 9 = .ok (.astore_n 2, 1) := by decide +kernel
theorem dX6_seen_10 : decode cX6_seen 10 = .ok (.aload_n 2, 1) := by decide +kernel
theorem dX6_seen_11 : decode cX6_seen 11 = .ok (.ifnonnull 7, 3) := by decide +kernel
theorem dX6_seen_14 : decode cX6_seen 14 = .ok (.iconst 0, 1) := by decide +kernel
theorem dX6_seen_15 : decode cX6_seen 15 = .ok (.goto 7, 3) := by decide +kernel
theorem dX6_seen_18 : decode cX6_seen 18 = .ok (.aload_n 2, 1) := by decide +kernel
theorem dX6_seen_19 : decode cX6_seen 19 = .ok (.getfield 208, 3) := by decide +kernel
theorem dX6_seen_22 : decode cX6_seen 22 = .ok (.ireturn, 1) := by decide +kernel
set_option maxRecDepth 20000 in
theorem ggX6_timesSeen_X6_requireName : GoodIn wsX6_timesSeen wsX6_requireName := goodIn_ca (goodIn_r _ [6, 7, 8, 9, 10, 5, 11] (by decide +kernel) (by decide +kernel)) (goodIn_sub (fun _ h => List.mem_cons_of_mem _ (List.mem_append_right _ h)) (by decide +kernel))
set_option maxRecDepth 20000 in
theorem gX6_timesSeen_X6_requireName : GoodIn wsX6_timesSeen (va_wsS RX6 76 yX6_requireName wsX6_requireName) := goodIn_app (goodIn_of _ (by decide +kernel)) ggX6_timesSeen_X6_requireName
set_option maxRecDepth 20000 in
theorem ggX6_timesSeen_Jx4a65c_size_8abf5 : GoodIn wsX6_timesSeen wsJx4a65c_size_8abf5 := goodIn_r _ [16, 17, 49, 50, 51] (by decide +kernel) (by decide +kernel)
set_option maxRecDepth 20000 in
theorem gX6_timesSeen_Jx4a65c_size_8abf5 : GoodIn wsX6_timesSeen (wsV RX6 49 RJx4a65c yJx4a65c_size_8abf5 wsJx4a65c_size_8abf5) := goodIn_app (goodIn_of _ (by decide +kernel)) ggX6_timesSeen_Jx4a65c_size_8abf5
set_option maxRecDepth 20000 in
theorem ggX6_timesSeen_Jx4a65c_get_915e3 : GoodIn wsX6_timesSeen wsJx4a65c_get_915e3 := goodIn_r _ [21, 17, 22, 23, 24, 25, 26, 27, 28, 29, 30, 31, 32, 15, 33, 34, 49, 50, 51] (by decide +kernel) (by decide +kernel)
set_option maxRecDepth 20000 in
theorem gX6_timesSeen_Jx4a65c_get_915e3 : GoodIn wsX6_timesSeen (wsV RX6 125 RJx4a65c yJx4a65c_get_915e3 wsJx4a65c_get_915e3) := goodIn_app (goodIn_of _ (by decide +kernel)) ggX6_timesSeen_Jx4a65c_get_915e3
set_option maxRecDepth 20000 in
theorem ggX6_timesSeen_X3_sawName : GoodIn wsX6_timesSeen wsX3_sawName := goodIn_r _ [39, 40, 10, 5, 11, 52, 53, 54, 55, 56, 57, 58] (by decide +kernel) (by decide +kernel)
set_option maxRecDepth 20000 in
theorem gX6_timesSeen_X3_sawName : GoodIn wsX6_timesSeen (wsV RX6 211 RX3 yX3_sawName wsX3_sawName) := goodIn_app (goodIn_of _ (by decide +kernel)) ggX6_timesSeen_X3_sawName
theorem dX6_timesSeen_0 : decode cX6_timesSeen 0 = .ok (.iload_n 1, 1) := by decide +kernel
theorem dX6_timesSeen_1 : decode cX6_timesSeen 1 = .ok (.invokestatic 76, 3) := by decide +kernel
theorem dX6_timesSeen_4 : decode cX6_timesSeen 4 = .ok (.iconst 0, 1) := by decide +kernel
theorem dX6_timesSeen_5 : decode cX6_timesSeen 5 = .ok (.istore_n 2, 1) := by decide +kernel
theorem dX6_timesSeen_6 : decode cX6_timesSeen 6 = .ok (.iconst 0, 1) := by decide +kernel
theorem dX6_timesSeen_7 : decode cX6_timesSeen 7 = .ok (.istore_n 3, 1) := by decide +kernel
theorem dX6_timesSeen_8 : decode cX6_timesSeen 8 = .ok (.iload_n 3, 1) := by decide +kernel
theorem dX6_timesSeen_9 : decode cX6_timesSeen 9 = .ok (.aload_n 0, 1) := by decide +kernel
theorem dX6_timesSeen_10 : decode cX6_timesSeen 10 = .ok (.getfield 19, 3) := by decide +kernel
theorem dX6_timesSeen_13 : decode cX6_timesSeen 13 = .ok (.invokevirtual 49, 3) := by decide +kernel
theorem dX6_timesSeen_16 : decode cX6_timesSeen 16 = .ok (.if_icmp .ge 30, 3) := by decide +kernel
theorem dX6_timesSeen_19 : decode cX6_timesSeen 19 = .ok (.aload_n 0, 1) := by decide +kernel
theorem dX6_timesSeen_20 : decode cX6_timesSeen 20 = .ok (.getfield 19, 3) := by decide +kernel
theorem dX6_timesSeen_23 : decode cX6_timesSeen 23 = .ok (.iload_n 3, 1) := by decide +kernel
theorem dX6_timesSeen_24 : decode cX6_timesSeen 24 = .ok (.invokevirtual 125, 3) := by decide +kernel
theorem dX6_timesSeen_27 : decode cX6_timesSeen 27 = .ok (.checkcast 198, 3) := by decide +kernel
theorem dX6_timesSeen_30 : decode cX6_timesSeen 30 = .ok (.iload_n 1, 1) := by decide +kernel
theorem dX6_timesSeen_31 : decode cX6_timesSeen 31 = .ok (.invokevirtual 211, 3) := by decide +kernel
theorem dX6_timesSeen_34 : decode cX6_timesSeen 34 = .ok (.ifCond .eq 6, 3) := by decide +kernel
theorem dX6_timesSeen_37 : decode cX6_timesSeen 37 = .ok (.iinc 2 1, 3) := by decide +kernel
theorem dX6_timesSeen_40 : decode cX6_timesSeen 40 = .ok (.iinc 3 1, 3) := by decide +kernel
theorem dX6_timesSeen_43 : decode cX6_timesSeen 43 = .ok (.goto (-35), 3) := by decide +kernel
theorem dX6_timesSeen_46 : decode cX6_timesSeen 46 = .ok (.iload_n 2, 1) := by decide +kernel
theorem dX6_timesSeen_47 : decode cX6_timesSeen 47 = .ok (.ireturn, 1) := by decide +kernel
set_option maxRecDepth 20000 in
theorem ggX6_why_X6_requireCell : GoodIn wsX6_why wsX6_requireCell := goodIn_ca (goodIn_r _ [5, 6, 7, 8, 9, 10, 11, 12, 13, 14, 15, 16, 17, 18, 19, 20, 21, 22, 23, 24, 25, 26, 27, 28, 29, 30, 31, 32, 90, 91, 92, 93, 94, 95, 96, 97, 98, 99, 100] (by decide +kernel) (by decide +kernel)) (goodIn_sub (fun _ h => List.mem_cons_of_mem _ (List.mem_append_right _ h)) (by decide +kernel))
set_option maxRecDepth 20000 in
theorem gX6_why_X6_requireCell : GoodIn wsX6_why (wsV RX6 72 RX6 yX6_requireCell wsX6_requireCell) := goodIn_app (goodIn_of _ (by decide +kernel)) ggX6_why_X6_requireCell
set_option maxRecDepth 20000 in
theorem ggX6_why_X6_lastRunMadeOf : GoodIn wsX6_why wsX6_lastRunMadeOf := goodIn_r _ [36, 37, 38, 39, 40, 41, 42, 43, 44, 45, 46, 47, 4, 48, 49, 50, 10, 11, 12, 13, 14, 15, 16, 17, 18, 19, 20, 21, 22, 23, 24, 25, 26, 27, 28, 29, 30, 31, 32, 90, 91, 92, 93, 94, 95, 96, 97, 101, 102, 103, 104, 105, 106, 98, 99, 100] (by decide +kernel) (by decide +kernel)
set_option maxRecDepth 20000 in
theorem gX6_why_X6_lastRunMadeOf : GoodIn wsX6_why (wsV RX6 193 RX6 yX6_lastRunMadeOf wsX6_lastRunMadeOf) := goodIn_app (goodIn_of _ (by decide +kernel)) ggX6_why_X6_lastRunMadeOf
set_option maxRecDepth 20000 in
theorem ggX6_why_X6_staleCells : GoodIn wsX6_why wsX6_staleCells := goodIn_r _ [54, 49, 50, 55, 38, 10, 11, 12, 13, 14, 15, 16, 17, 18, 19, 20, 21, 22, 23, 24, 25, 26, 27, 28, 29, 30, 31, 32, 56, 57, 58, 4, 59, 37, 60, 39, 40, 41, 42, 43, 44, 61, 62, 63, 64, 65, 66, 67, 68, 69, 70, 71, 72, 73, 74, 75, 76, 77, 78, 79, 80, 81, 82, 83, 84, 85, 86, 87, 88, 89, 45, 46, 47, 48, 90, 91, 92, 93, 94, 95, 96, 97, 107, 108, 109, 110, 111, 112, 113, 101, 102, 103, 104, 98, 99, 100, 105, 106, 114, 115] (by decide +kernel) (by decide +kernel)
set_option maxRecDepth 20000 in
theorem gX6_why_X6_staleCells : GoodIn wsX6_why (wsV RX6 214 RX6 yX6_staleCells wsX6_staleCells) := goodIn_app (goodIn_of _ (by decide +kernel)) ggX6_why_X6_staleCells
set_option maxRecDepth 20000 in
theorem ggX6_why_X6_reasons : GoodIn wsX6_why wsX6_reasons := goodIn_r _ [64, 55, 65, 60, 37, 66, 67, 68, 69, 70, 71, 72, 73, 4, 74, 75, 76, 77, 78, 79, 80, 81, 82, 83, 84, 85, 86, 87, 88, 89, 38, 45, 46, 47, 48, 49, 50, 10, 11, 12, 13, 14, 15, 16, 17, 18, 19, 20, 21, 22, 23, 24, 25, 26, 27, 28, 29, 30, 31, 32, 56, 57, 58, 59, 39, 40, 41, 42, 43, 44, 107, 108, 109, 110, 111, 112, 113, 101, 102, 103, 104, 90, 91, 92, 93, 94, 95, 96, 97, 105, 106, 114, 115, 98, 99, 100] (by decide +kernel) (by decide +kernel)
set_option maxRecDepth 20000 in
theorem gX6_why_X6_reasons : GoodIn wsX6_why (wsV RX6 217 RX6 yX6_reasons wsX6_reasons) := goodIn_app (goodIn_of _ (by decide +kernel)) ggX6_why_X6_reasons
theorem dX6_why_0 : decode cX6_why 0 = .ok (.aload_n 0, 1) := by decide +kernel
theorem dX6_why_1 : decode cX6_why 1 = .ok (.aload_n 0, 1) := by decide +kernel
theorem dX6_why_2 : decode cX6_why 2 = .ok (.iload_n 1, 1) := by decide +kernel
theorem dX6_why_3 : decode cX6_why 3 = .ok (.invokevirtual 72, 3) := by decide +kernel
theorem dX6_why_6 : decode cX6_why 6 = .ok (.invokevirtual 193, 3) := by decide +kernel
theorem dX6_why_9 : decode cX6_why 9 = .ok (.astore_n 2, 1) := by decide +kernel
theorem dX6_why_10 : decode cX6_why 10 = .ok (.aload_n 2, 1) := by decide +kernel
theorem dX6_why_11 : decode cX6_why 11 = .ok (.ifnonnull 7, 3) := by decide +kernel
theorem dX6_why_14 : decode cX6_why 14 = .ok (.iconst 0, 1) := by decide +kernel
theorem dX6_why_15 : decode cX6_why 15 = .ok (.goto 14, 3) := by decide +kernel
theorem dX6_why_18 : decode cX6_why 18 = .ok (.aload_n 0, 1) := by decide +kernel
theorem dX6_why_19 : decode cX6_why 19 = .ok (.aload_n 2, 1) := by decide +kernel
theorem dX6_why_20 : decode cX6_why 20 = .ok (.iconst (-1), 1) := by decide +kernel
theorem dX6_why_21 : decode cX6_why 21 = .ok (.aload_n 0, 1) := by decide +kernel
theorem dX6_why_22 : decode cX6_why 22 = .ok (.iconst (-1), 1) := by decide +kernel
theorem dX6_why_23 : decode cX6_why 23 = .ok (.invokevirtual 214, 3) := by decide +kernel
theorem dX6_why_26 : decode cX6_why 26 = .ok (.invokevirtual 217, 3) := by decide +kernel
theorem dX6_why_29 : decode cX6_why 29 = .ok (.ireturn, 1) := by decide +kernel
set_option maxRecDepth 20000 in
theorem ggX6_stale_X6_staleCells : GoodIn wsX6_stale wsX6_staleCells := goodIn_r _ [5, 6, 7, 8, 9, 10, 11, 12, 13, 14, 15, 16, 17, 18, 19, 20, 21, 22, 23, 24, 25, 26, 27, 28, 29, 30, 31, 32, 33, 34, 35, 4, 36, 37, 38, 39, 40, 41, 42, 43, 44, 45, 46, 47, 48, 49, 50, 51, 52, 53, 54, 55, 56, 57, 58, 59, 60, 61, 62, 63, 64, 65, 66, 67, 68, 69, 70, 71, 72, 73, 74, 75, 76, 77, 78, 79, 80, 81, 82, 83, 84, 85, 86, 87, 88, 89, 90, 91, 92, 93, 94, 95, 96, 97, 98, 99, 100, 101, 102, 103] (by decide +kernel) (by decide +kernel)
set_option maxRecDepth 20000 in
theorem gX6_stale_X6_staleCells : GoodIn wsX6_stale (wsV RX6 214 RX6 yX6_staleCells wsX6_staleCells) := goodIn_app (goodIn_of _ (by decide +kernel)) ggX6_stale_X6_staleCells
theorem dX6_stale_0 : decode cX6_stale 0 = .ok (.aload_n 0, 1) := by decide +kernel
theorem dX6_stale_1 : decode cX6_stale 1 = .ok (.iconst (-1), 1) := by decide +kernel
theorem dX6_stale_2 : decode cX6_stale 2 = .ok (.invokevirtual 214, 3) := by decide +kernel
theorem dX6_stale_5 : decode cX6_stale 5 = .ok (.ireturn, 1) := by decide +kernel
set_option maxRecDepth 20000 in
theorem ggX6_wouldBeStale_X6_requireName : GoodIn wsX6_wouldBeStale wsX6_requireName := goodIn_ca (goodIn_r _ [4, 5, 6, 7, 8, 3, 9] (by decide +kernel) (by decide +kernel)) (goodIn_sub (fun _ h => List.mem_cons_of_mem _ (List.mem_append_right _ h)) (by decide +kernel))
set_option maxRecDepth 20000 in
theorem gX6_wouldBeStale_X6_requireName : GoodIn wsX6_wouldBeStale (va_wsS RX6 76 yX6_requireName wsX6_requireName) := goodIn_app (goodIn_of _ (by decide +kernel)) ggX6_wouldBeStale_X6_requireName
set_option maxRecDepth 20000 in
theorem ggX6_wouldBeStale_X6_staleCells : GoodIn wsX6_wouldBeStale wsX6_staleCells := goodIn_r _ [13, 14, 15, 16, 17, 18, 19, 20, 21, 22, 23, 24, 25, 26, 27, 28, 29, 30, 31, 32, 33, 34, 35, 36, 37, 38, 39, 40, 41, 42, 43, 3, 44, 45, 46, 47, 48, 49, 50, 51, 52, 53, 54, 55, 56, 57, 58, 59, 60, 61, 62, 63, 64, 8, 9, 65, 66, 67, 68, 69, 70, 71, 72, 73, 74, 75, 76, 77, 78, 79, 80, 81, 82, 83, 84, 85, 86, 87, 88, 89, 90, 91, 92, 93, 94, 95, 96, 97, 98, 99, 100, 101, 102, 103, 104, 105, 106, 107, 108, 109] (by decide +kernel) (by decide +kernel)
set_option maxRecDepth 20000 in
theorem gX6_wouldBeStale_X6_staleCells : GoodIn wsX6_wouldBeStale (wsV RX6 214 RX6 yX6_staleCells wsX6_staleCells) := goodIn_app (goodIn_of _ (by decide +kernel)) ggX6_wouldBeStale_X6_staleCells
theorem dX6_wouldBeStale_0 : decode cX6_wouldBeStale 0 = .ok (.iload_n 1, 1) := by decide +kernel
theorem dX6_wouldBeStale_1 : decode cX6_wouldBeStale 1 = .ok (.invokestatic 76, 3) := by decide +kernel
theorem dX6_wouldBeStale_4 : decode cX6_wouldBeStale 4 = .ok (.aload_n 0, 1) := by decide +kernel
theorem dX6_wouldBeStale_5 : decode cX6_wouldBeStale 5 = .ok (.iload_n 1, 1) := by decide +kernel
theorem dX6_wouldBeStale_6 : decode cX6_wouldBeStale 6 = .ok (.invokevirtual 214, 3) := by decide +kernel
theorem dX6_wouldBeStale_9 : decode cX6_wouldBeStale 9 = .ok (.aload_n 0, 1) := by decide +kernel
theorem dX6_wouldBeStale_10 : decode cX6_wouldBeStale 10 = .ok (.iconst (-1), 1) := by decide +kernel
theorem dX6_wouldBeStale_11 : decode cX6_wouldBeStale 11 = .ok (.invokevirtual 214, 3) := by decide +kernel
theorem dX6_wouldBeStale_14 : decode cX6_wouldBeStale 14 = .ok (.iconst (-1), 1) := by decide +kernel
theorem dX6_wouldBeStale_15 : decode cX6_wouldBeStale 15 = .ok (.ixor, 1) := by decide +kernel
theorem dX6_wouldBeStale_16 : decode cX6_wouldBeStale 16 = .ok (.iand, 1) := by decide +kernel
theorem dX6_wouldBeStale_17 : decode cX6_wouldBeStale 17 = .ok (.ireturn, 1) := by decide +kernel
set_option maxRecDepth 20000 in
theorem ggX6_keep_Jx4a65c_size_8abf5 : GoodIn wsX6_keep wsJx4a65c_size_8abf5 := goodIn_r _ [12, 13, 125, 126, 127] (by decide +kernel) (by decide +kernel)
set_option maxRecDepth 20000 in
theorem gX6_keep_Jx4a65c_size_8abf5 : GoodIn wsX6_keep (wsV RX6 49 RJx4a65c yJx4a65c_size_8abf5 wsJx4a65c_size_8abf5) := goodIn_app (goodIn_of _ (by decide +kernel)) ggX6_keep_Jx4a65c_size_8abf5
set_option maxRecDepth 20000 in
theorem ggX6_keep_X4_init : GoodIn wsX6_keep wsX4_init := goodIn_r _ [15, 16, 17, 18, 19, 20, 21, 22, 23, 24, 25, 26, 27, 28, 29, 128, 129, 123, 124] (by decide +kernel) (by decide +kernel)
set_option maxRecDepth 20000 in
theorem gX6_keep_X4_init_n30 : GoodIn wsX6_keep (wsX4_init) := ggX6_keep_X4_init
set_option maxRecDepth 20000 in
theorem ggX6_keep_X4_becomeLike : GoodIn wsX6_keep wsX4_becomeLike := goodIn_r _ [33, 22, 34, 35, 36, 21, 37, 38, 39, 40, 41, 28, 42, 43, 44, 45, 46, 47, 48, 29, 49, 50, 51, 52, 53, 54, 55, 6, 56, 24, 57, 58, 59, 60, 123, 124, 128, 129] (by decide +kernel) (by decide +kernel)
set_option maxRecDepth 20000 in
theorem gX6_keep_X4_becomeLike : GoodIn wsX6_keep (wsV RX6 223 RX4 yX4_becomeLike wsX4_becomeLike) := goodIn_app (goodIn_of _ (by decide +kernel)) ggX6_keep_X4_becomeLike
set_option maxRecDepth 20000 in
theorem ggX6_keep_Jx4a65c_add_9ea2d : GoodIn wsX6_keep wsJx4a65c_add_9ea2d := goodIn_r _ [64, 65, 66, 67, 13, 68, 69, 70, 11, 71, 72, 73, 74, 75, 76, 77, 78, 79, 80, 81, 82, 83, 84, 85, 86, 87, 88, 89, 90, 91, 92, 93, 94, 95, 96, 97, 98, 99, 100, 101, 102, 103, 104, 105, 106, 107, 108, 109, 110, 111, 112, 113, 114, 125, 126, 127] (by decide +kernel) (by decide +kernel)
set_option maxRecDepth 20000 in
theorem gX6_keep_Jx4a65c_add_9ea2d : GoodIn wsX6_keep (wsV RX6 65 RJx4a65c yJx4a65c_add_9ea2d wsJx4a65c_add_9ea2d) := goodIn_app (goodIn_of _ (by decide +kernel)) ggX6_keep_Jx4a65c_add_9ea2d
theorem dX6_keep_0 : decode cX6_keep 0 = .ok (.aload_n 0, 1) := by decide +kernel
theorem dX6_keep_1 : decode cX6_keep 1 = .ok (.getfield 25, 3) := by decide +kernel
theorem dX6_keep_4 : decode cX6_keep 4 = .ok (.invokevirtual 49, 3) := by decide +kernel
theorem dX6_keep_7 : decode cX6_keep 7 = .ok (.istore_n 1, 1) := by decide +kernel
theorem dX6_keep_8 : decode cX6_keep 8 = .ok (.iload_n 1, 1) := by decide +kernel
theorem dX6_keep_9 : decode cX6_keep 9 = .ok (.bipush 10, 2) := by decide +kernel
theorem dX6_keep_11 : decode cX6_keep 11 = .ok (.if_icmp .lt 13, 3) := by decide +kernel
theorem dX6_keep_14 : decode cX6_keep 14 = .ok (.new 53, 3) := by decide +kernel
theorem dX6_keep_17 : decode cX6_keep 17 = .ok (.dup, 1) := by decide +kernel
theorem dX6_keep_18 : decode cX6_keep 18 = .ok (.ldc 221, 2) := by decide +kernel
theorem dX6_keep_20 : decode cX6_keep 20 = .ok (.invokespecial 57, 3) := by decide +kernel
theorem dX6_keep_23 : decode cX6_keep 23 = .ok (.athrow, 1) := by decide +kernel
theorem dX6_keep_24 : decode cX6_keep 24 = .ok (.new 28, 3) := by decide +kernel
theorem dX6_keep_27 : decode cX6_keep 27 = .ok (.dup, 1) := by decide +kernel
theorem dX6_keep_28 : decode cX6_keep 28 = .ok (.invokespecial 30, 3) := by decide +kernel
theorem dX6_keep_31 : decode cX6_keep 31 = .ok (.astore_n 2, 1) := by decide +kernel
theorem dX6_keep_32 : decode cX6_keep 32 = .ok (.aload_n 2, 1) := by decide +kernel
theorem dX6_keep_33 : decode cX6_keep 33 = .ok (.aload_n 0, 1) := by decide +kernel
theorem dX6_keep_34 : decode cX6_keep 34 = .ok (.getfield 31, 3) := by decide +kernel
theorem dX6_keep_37 : decode cX6_keep 37 = .ok (.invokevirtual 223, 3) := by decide +kernel
theorem dX6_keep_40 : decode cX6_keep 40 = .ok (.aload_n 0, 1) := by decide +kernel
theorem dX6_keep_41 : decode cX6_keep 41 = .ok (.getfield 25, 3) := by decide +kernel
theorem dX6_keep_44 : decode cX6_keep 44 = .ok (.aload_n 2, 1) := by decide +kernel
theorem dX6_keep_45 : decode cX6_keep 45 = .ok (.invokevirtual 65, 3) := by decide +kernel
theorem dX6_keep_48 : decode cX6_keep 48 = .ok (.pop, 1) := by decide +kernel
theorem dX6_keep_49 : decode cX6_keep 49 = .ok (.iload_n 1, 1) := by decide +kernel
theorem dX6_keep_50 : decode cX6_keep 50 = .ok (.ireturn, 1) := by decide +kernel
set_option maxRecDepth 20000 in
theorem ggX6_restore_Jx4a65c_size_8abf5 : GoodIn wsX6_restore wsJx4a65c_size_8abf5 := goodIn_r _ [11, 12, 85, 86, 87] (by decide +kernel) (by decide +kernel)
set_option maxRecDepth 20000 in
theorem gX6_restore_Jx4a65c_size_8abf5 : GoodIn wsX6_restore (wsV RX6 49 RJx4a65c yJx4a65c_size_8abf5 wsJx4a65c_size_8abf5) := goodIn_app (goodIn_of _ (by decide +kernel)) ggX6_restore_Jx4a65c_size_8abf5
set_option maxRecDepth 20000 in
theorem ggX6_restore_Jx4a65c_get_915e3 : GoodIn wsX6_restore wsJx4a65c_get_915e3 := goodIn_r _ [16, 12, 17, 18, 19, 20, 21, 22, 23, 24, 25, 26, 27, 10, 28, 29, 85, 86, 87] (by decide +kernel) (by decide +kernel)
set_option maxRecDepth 20000 in
theorem gX6_restore_Jx4a65c_get_915e3 : GoodIn wsX6_restore (wsV RX6 125 RJx4a65c yJx4a65c_get_915e3 wsJx4a65c_get_915e3) := goodIn_app (goodIn_of _ (by decide +kernel)) ggX6_restore_Jx4a65c_get_915e3
set_option maxRecDepth 20000 in
theorem ggX6_restore_X4_becomeLike : GoodIn wsX6_restore wsX4_becomeLike := goodIn_r _ [34, 35, 36, 37, 38, 39, 40, 41, 42, 43, 44, 45, 46, 47, 48, 49, 50, 51, 52, 53, 54, 55, 56, 57, 58, 59, 60, 33, 61, 62, 63, 64, 65, 66, 83, 84, 88, 89] (by decide +kernel) (by decide +kernel)
set_option maxRecDepth 20000 in
theorem gX6_restore_X4_becomeLike : GoodIn wsX6_restore (wsV RX6 223 RX4 yX4_becomeLike wsX4_becomeLike) := goodIn_app (goodIn_of _ (by decide +kernel)) ggX6_restore_X4_becomeLike
set_option maxRecDepth 20000 in
theorem ggX6_restore_X2_howManySet : GoodIn wsX6_restore wsX2_howManySet := goodIn_r _ [70, 71, 72, 73, 39, 74, 53, 46, 47, 48, 88, 89] (by decide +kernel) (by decide +kernel)
set_option maxRecDepth 20000 in
theorem gX6_restore_X2_howManySet : GoodIn wsX6_restore (wsV RX6 229 RX2 yX2_howManySet wsX2_howManySet) := goodIn_app (goodIn_of _ (by decide +kernel)) ggX6_restore_X2_howManySet
theorem dX6_restore_0 : decode cX6_restore 0 = .ok (.iload_n 1, 1) := by decide +kernel
theorem dX6_restore_1 : decode cX6_restore 1 = .ok (.ifCond .lt 14, 3) := by decide +kernel
theorem dX6_restore_4 : decode cX6_restore 4 = .ok (.iload_n 1, 1) := by decide +kernel
theorem dX6_restore_5 : decode cX6_restore 5 = .ok (.aload_n 0, 1) := by decide +kernel
theorem dX6_restore_6 : decode cX6_restore 6 = .ok (.getfield 25, 3) := by decide +kernel
theorem dX6_restore_9 : decode cX6_restore 9 = .ok (.invokevirtual 49, 3) := by decide +kernel
theorem dX6_restore_12 : decode cX6_restore 12 = .ok (.if_icmp .lt 13, 3) := by decide +kernel
theorem dX6_restore_15 : decode cX6_restore 15 = .ok (.new 140, 3) := by decide +kernel
theorem dX6_restore_18 : decode cX6_restore 18 = .ok (.dup, 1) := by decide +kernel
theorem dX6_restore_19 : decode cX6_restore 19 = .ok (.ldc 227, 2) := by decide +kernel
theorem dX6_restore_21 : decode cX6_restore 21 = .ok (.invokespecial 144, 3) := by decide +kernel
theorem dX6_restore_24 : decode cX6_restore 24 = .ok (.athrow, 1) := by decide +kernel
theorem dX6_restore_25 : decode cX6_restore 25 = .ok (.aload_n 0, 1) := by decide +kernel
theorem dX6_restore_26 : decode cX6_restore 26 = .ok (.getfield 31, 3) := by decide +kernel
theorem dX6_restore_29 : decode cX6_restore 29 = .ok (.aload_n 0, 1) := by decide +kernel
theorem dX6_restore_30 : decode cX6_restore 30 = .ok (.getfield 25, 3) := by decide +kernel
theorem dX6_restore_33 : decode cX6_restore 33 = .ok (.iload_n 1, 1) := by decide +kernel
theorem dX6_restore_34 : decode cX6_restore 34 = .ok (.invokevirtual 125, 3) := by decide +kernel
theorem dX6_restore_37 : decode cX6_restore 37 = .ok (.checkcast 28, 3) := by decide +kernel
theorem dX6_restore_40 : decode cX6_restore 40 = .ok (.invokevirtual 223, 3) := by decide +kernel
theorem dX6_restore_43 : decode cX6_restore 43 = .ok (.aload_n 0, 1) := by decide +kernel
theorem dX6_restore_44 : decode cX6_restore 44 = .ok (.getfield 31, 3) := by decide +kernel
theorem dX6_restore_47 : decode cX6_restore 47 = .ok (.getfield 177, 3) := by decide +kernel
theorem dX6_restore_50 : decode cX6_restore 50 = .ok (.invokevirtual 229, 3) := by decide +kernel
theorem dX6_restore_53 : decode cX6_restore 53 = .ok (.ireturn, 1) := by decide +kernel
set_option maxRecDepth 20000 in
theorem ggX6_end_X2_howManySet : GoodIn wsX6_end wsX2_howManySet := goodIn_r _ [7, 8, 9, 10, 6, 11, 12, 13, 14, 15, 35, 36] (by decide +kernel) (by decide +kernel)
set_option maxRecDepth 20000 in
theorem gX6_end_X2_howManySet : GoodIn wsX6_end (wsV RX6 229 RX2 yX2_howManySet wsX2_howManySet) := goodIn_app (goodIn_of _ (by decide +kernel)) ggX6_end_X2_howManySet
set_option maxRecDepth 20000 in
theorem ggX6_end_X2_unsetAll : GoodIn wsX6_end wsX2_unsetAll := goodIn_r _ [19, 20, 21, 22, 6, 23, 24, 12, 13, 14, 15, 35, 36] (by decide +kernel) (by decide +kernel)
set_option maxRecDepth 20000 in
theorem gX6_end_X2_unsetAll : GoodIn wsX6_end (wsV RX6 232 RX2 yX2_unsetAll wsX2_unsetAll) := goodIn_app (goodIn_of _ (by decide +kernel)) ggX6_end_X2_unsetAll
theorem dX6_end_0 : decode cX6_end 0 = .ok (.aload_n 0, 1) := by decide +kernel
theorem dX6_end_1 : decode cX6_end 1 = .ok (.getfield 31, 3) := by decide +kernel
theorem dX6_end_4 : decode cX6_end 4 = .ok (.getfield 177, 3) := by decide +kernel
theorem dX6_end_7 : decode cX6_end 7 = .ok (.invokevirtual 229, 3) := by decide +kernel
theorem dX6_end_10 : decode cX6_end 10 = .ok (.istore_n 1, 1) := by decide +kernel
theorem dX6_end_11 : decode cX6_end 11 = .ok (.aload_n 0, 1) := by decide +kernel
theorem dX6_end_12 : decode cX6_end 12 = .ok (.getfield 31, 3) := by decide +kernel
theorem dX6_end_15 : decode cX6_end 15 = .ok (.getfield 177, 3) := by decide +kernel
theorem dX6_end_18 : decode cX6_end 18 = .ok (.invokevirtual 232, 3) := by decide +kernel
theorem dX6_end_21 : decode cX6_end 21 = .ok (.iload_n 1, 1) := by decide +kernel
theorem dX6_end_22 : decode cX6_end 22 = .ok (.ireturn, 1) := by decide +kernel
set_option maxRecDepth 20000 in
theorem ggX6_isSetInOrder_X6_requireName : GoodIn wsX6_isSetInOrder wsX6_requireName := goodIn_ca (goodIn_r _ [5, 6, 7, 8, 9, 4, 10] (by decide +kernel) (by decide +kernel)) (goodIn_sub (fun _ h => List.mem_cons_of_mem _ (List.mem_append_right _ h)) (by decide +kernel))
set_option maxRecDepth 20000 in
theorem gX6_isSetInOrder_X6_requireName : GoodIn wsX6_isSetInOrder (va_wsS RX6 76 yX6_requireName wsX6_requireName) := goodIn_app (goodIn_of _ (by decide +kernel)) ggX6_isSetInOrder_X6_requireName
set_option maxRecDepth 20000 in
theorem ggX6_isSetInOrder_X6_runAllInOrder : GoodIn wsX6_isSetInOrder wsX6_runAllInOrder := goodIn_r _ [14, 1, 15, 16, 17, 18, 19, 20, 21, 22, 23, 24, 25, 26, 27, 28, 29, 9, 4, 10, 30, 31, 32, 33, 34, 35, 36, 37, 38, 39, 40, 41, 42, 43, 44, 45, 46, 47, 48, 49, 50, 51, 52, 53, 54, 55, 56, 57, 58, 59, 60, 61, 62, 63, 64, 65, 66, 67, 68, 69, 70, 71, 72, 73, 74, 75, 76, 77, 78, 79, 80, 81, 82, 83, 84, 85, 86, 87, 88, 89, 90, 91, 92, 93, 94, 95, 96, 97, 98, 99, 100, 101, 102, 103, 104, 105, 106, 107, 108, 109, 110, 111, 112, 114, 115, 116, 117, 118, 119, 120, 121, 122, 123, 124, 125, 126, 127, 128, 129, 130, 131, 132, 133, 134, 135, 136, 137, 138, 139, 140, 141] (by decide +kernel) (by decide +kernel)
set_option maxRecDepth 20000 in
theorem gX6_isSetInOrder_X6_runAllInOrder : GoodIn wsX6_isSetInOrder (wsV RX6 235 RX6 yX6_runAllInOrder wsX6_runAllInOrder) := goodIn_app (goodIn_of _ (by decide +kernel)) ggX6_isSetInOrder_X6_runAllInOrder
set_option maxRecDepth 20000 in
theorem ggX6_isSetInOrder_X2_hold : GoodIn wsX6_isSetInOrder wsX2_hold := goodIn_r _ [99, 29, 9, 4, 10, 126, 127] (by decide +kernel) (by decide +kernel)
set_option maxRecDepth 20000 in
theorem gX6_isSetInOrder_X2_hold : GoodIn wsX6_isSetInOrder (wsV RX6 180 RX2 yX2_hold wsX2_hold) := goodIn_app (goodIn_of _ (by decide +kernel)) ggX6_isSetInOrder_X2_hold
theorem dX6_isSetInOrder_0 : decode cX6_isSetInOrder 0 = .ok (.iload_n 1, 1) := by decide +kernel
theorem dX6_isSetInOrder_1 : decode cX6_isSetInOrder 1 = .ok (.invokestatic 76, 3) := by decide +kernel
theorem dX6_isSetInOrder_4 : decode cX6_isSetInOrder 4 = .ok (.aload_n 0, 1) := by decide +kernel
theorem dX6_isSetInOrder_5 : decode cX6_isSetInOrder 5 = .ok (.invokevirtual 235, 3) := by decide +kernel
theorem dX6_isSetInOrder_8 : decode cX6_isSetInOrder 8 = .ok (.aload_n 0, 1) := by decide +kernel
theorem dX6_isSetInOrder_9 : decode cX6_isSetInOrder 9 = .ok (.getfield 38, 3) := by decide +kernel
theorem dX6_isSetInOrder_12 : decode cX6_isSetInOrder 12 = .ok (.iload_n 1, 1) := by decide +kernel
theorem dX6_isSetInOrder_13 : decode cX6_isSetInOrder 13 = .ok (.invokevirtual 180, 3) := by decide +kernel
theorem dX6_isSetInOrder_16 : decode cX6_isSetInOrder 16 = .ok (.ireturn, 1) := by decide +kernel
set_option maxRecDepth 20000 in
theorem ggX6_valueInOrder_X6_requireName : GoodIn wsX6_valueInOrder wsX6_requireName := goodIn_ca (goodIn_r _ [5, 6, 7, 8, 9, 4, 10] (by decide +kernel) (by decide +kernel)) (goodIn_sub (fun _ h => List.mem_cons_of_mem _ (List.mem_append_left _ (List.mem_append_right _ h))) (by decide +kernel))
set_option maxRecDepth 20000 in
theorem gX6_valueInOrder_X6_requireName : GoodIn wsX6_valueInOrder (va_wsS RX6 76 yX6_requireName wsX6_requireName) := goodIn_app (goodIn_of _ (by decide +kernel)) ggX6_valueInOrder_X6_requireName
set_option maxRecDepth 20000 in
theorem ggX6_valueInOrder_X6_runAllInOrder : GoodIn wsX6_valueInOrder wsX6_runAllInOrder := goodIn_r _ [14, 1, 15, 16, 17, 18, 19, 20, 21, 22, 23, 24, 25, 26, 27, 28, 29, 9, 4, 10, 30, 31, 32, 33, 34, 35, 36, 37, 38, 39, 40, 41, 42, 43, 44, 45, 46, 47, 48, 49, 50, 51, 52, 53, 54, 55, 56, 57, 58, 59, 60, 61, 62, 63, 64, 65, 66, 67, 68, 69, 70, 71, 72, 73, 74, 75, 76, 77, 78, 79, 80, 81, 82, 83, 84, 85, 86, 87, 88, 89, 90, 91, 92, 93, 94, 95, 96, 97, 98, 99, 100, 101, 102, 103, 104, 105, 106, 107, 108, 109, 110, 111, 112, 120, 121, 122, 123, 124, 125, 126, 127, 128, 129, 130, 131, 132, 133, 134, 135, 136, 137, 138, 139, 140, 141, 142, 143, 144, 145, 146, 147] (by decide +kernel) (by decide +kernel)
set_option maxRecDepth 20000 in
theorem gX6_valueInOrder_X6_runAllInOrder : GoodIn wsX6_valueInOrder (wsV RX6 235 RX6 yX6_runAllInOrder wsX6_runAllInOrder) := goodIn_app (goodIn_of _ (by decide +kernel)) ggX6_valueInOrder_X6_runAllInOrder
set_option maxRecDepth 20000 in
theorem ggX6_valueInOrder_X6_requireValue : GoodIn wsX6_valueInOrder wsX6_requireValue := goodIn_ca (goodIn_r _ [115, 116, 117, 118, 97, 98, 22, 99, 29, 9, 4, 10, 119, 75, 76, 77, 28, 132, 133] (by decide +kernel) (by decide +kernel)) (goodIn_sub (fun _ h => List.mem_cons_of_mem _ (List.mem_append_right _ h)) (by decide +kernel))
set_option maxRecDepth 20000 in
theorem gX6_valueInOrder_X6_requireValue : GoodIn wsX6_valueInOrder (va_wsS RX6 183 yX6_requireValue wsX6_requireValue) := goodIn_app (goodIn_of _ (by decide +kernel)) ggX6_valueInOrder_X6_requireValue
theorem dX6_valueInOrder_0 : decode cX6_valueInOrder 0 = .ok (.iload_n 1, 1) := by decide +kernel
theorem dX6_valueInOrder_1 : decode cX6_valueInOrder 1 = .ok (.invokestatic 76, 3) := by decide +kernel
theorem dX6_valueInOrder_4 : decode cX6_valueInOrder 4 = .ok (.aload_n 0, 1) := by decide +kernel
theorem dX6_valueInOrder_5 : decode cX6_valueInOrder 5 = .ok (.invokevirtual 235, 3) := by decide +kernel
theorem dX6_valueInOrder_8 : decode cX6_valueInOrder 8 = .ok (.aload_n 0, 1) := by decide +kernel
theorem dX6_valueInOrder_9 : decode cX6_valueInOrder 9 = .ok (.getfield 38, 3) := by decide +kernel
theorem dX6_valueInOrder_12 : decode cX6_valueInOrder 12 = .ok (.iload_n 1, 1) := by decide +kernel
theorem dX6_valueInOrder_13 : decode cX6_valueInOrder 13 = .ok (.invokestatic 183, 3) := by decide +kernel
theorem dX6_valueInOrder_16 : decode cX6_valueInOrder 16 = .ok (.ireturn, 1) := by decide +kernel
set_option maxRecDepth 20000 in
theorem ggX6_unlikeInOrder_X6_runAllInOrder : GoodIn wsX6_unlikeInOrder wsX6_runAllInOrder := goodIn_r _ [8, 3, 9, 10, 11, 12, 13, 14, 15, 16, 17, 18, 19, 20, 21, 22, 23, 24, 7, 25, 26, 27, 28, 29, 30, 31, 32, 33, 34, 35, 36, 37, 38, 39, 40, 41, 42, 43, 44, 45, 46, 47, 48, 49, 50, 51, 52, 53, 54, 55, 56, 57, 58, 59, 60, 61, 62, 63, 64, 65, 66, 67, 68, 69, 70, 71, 72, 73, 74, 75, 76, 77, 78, 79, 80, 81, 82, 83, 84, 85, 86, 87, 88, 89, 90, 91, 92, 93, 94, 95, 96, 97, 98, 99, 100, 101, 102, 103, 104, 105, 106, 107, 108, 111, 112, 113, 114, 115, 116, 117, 118, 121, 122, 123, 124, 125, 126, 127, 128, 129, 130, 131, 132, 133, 134, 135, 136, 137, 138, 139, 140] (by decide +kernel) (by decide +kernel)
set_option maxRecDepth 20000 in
theorem gX6_unlikeInOrder_X6_runAllInOrder : GoodIn wsX6_unlikeInOrder (wsV RX6 235 RX6 yX6_runAllInOrder wsX6_runAllInOrder) := goodIn_app (goodIn_of _ (by decide +kernel)) ggX6_unlikeInOrder_X6_runAllInOrder
set_option maxRecDepth 20000 in
theorem ggX6_unlikeInOrder_X2_hold : GoodIn wsX6_unlikeInOrder wsX2_hold := goodIn_r _ [95, 23, 24, 7, 25, 125, 126] (by decide +kernel) (by decide +kernel)
set_option maxRecDepth 20000 in
theorem gX6_unlikeInOrder_X2_hold : GoodIn wsX6_unlikeInOrder (wsV RX6 180 RX2 yX2_hold wsX2_hold) := goodIn_app (goodIn_of _ (by decide +kernel)) ggX6_unlikeInOrder_X2_hold
set_option maxRecDepth 20000 in
theorem ggX6_unlikeInOrder_X2_valueOf : GoodIn wsX6_unlikeInOrder wsX2_valueOf := goodIn_r _ [73, 22, 24, 7, 25, 125, 126] (by decide +kernel) (by decide +kernel)
set_option maxRecDepth 20000 in
theorem gX6_unlikeInOrder_X2_valueOf : GoodIn wsX6_unlikeInOrder (wsV RX6 238 RX2 yX2_valueOf wsX2_valueOf) := goodIn_app (goodIn_of _ (by decide +kernel)) ggX6_unlikeInOrder_X2_valueOf
theorem dX6_unlikeInOrder_0 : decode cX6_unlikeInOrder 0 = .ok (.aload_n 0, 1) := by decide +kernel
theorem dX6_unlikeInOrder_1 : decode cX6_unlikeInOrder 1 = .ok (.invokevirtual 235, 3) := by decide +kernel
theorem dX6_unlikeInOrder_4 : decode cX6_unlikeInOrder 4 = .ok (.iconst 0, 1) := by decide +kernel
theorem dX6_unlikeInOrder_5 : decode cX6_unlikeInOrder 5 = .ok (.istore_n 1, 1) := by decide +kernel
theorem dX6_unlikeInOrder_6 : decode cX6_unlikeInOrder 6 = .ok (.iconst 0, 1) := by decide +kernel
theorem dX6_unlikeInOrder_7 : decode cX6_unlikeInOrder 7 = .ok (.istore_n 2, 1) := by decide +kernel
theorem dX6_unlikeInOrder_8 : decode cX6_unlikeInOrder 8 = .ok (.iload_n 2, 1) := by decide +kernel
theorem dX6_unlikeInOrder_9 : decode cX6_unlikeInOrder 9 = .ok (.bipush 8, 2) := by decide +kernel
theorem dX6_unlikeInOrder_11 : decode cX6_unlikeInOrder 11 = .ok (.if_icmp .ge 59, 3) := by decide +kernel
theorem dX6_unlikeInOrder_14 : decode cX6_unlikeInOrder 14 = .ok (.aload_n 0, 1) := by decide +kernel
theorem dX6_unlikeInOrder_15 : decode cX6_unlikeInOrder 15 = .ok (.getfield 31, 3) := by decide +kernel
theorem dX6_unlikeInOrder_18 : decode cX6_unlikeInOrder 18 = .ok (.getfield 177, 3) := by decide +kernel
theorem dX6_unlikeInOrder_21 : decode cX6_unlikeInOrder 21 = .ok (.iload_n 2, 1) := by decide +kernel
theorem dX6_unlikeInOrder_22 : decode cX6_unlikeInOrder 22 = .ok (.invokevirtual 180, 3) := by decide +kernel
theorem dX6_unlikeInOrder_25 : decode cX6_unlikeInOrder 25 = .ok (.aload_n 0, 1) := by decide +kernel
theorem dX6_unlikeInOrder_26 : decode cX6_unlikeInOrder 26 = .ok (.getfield 38, 3) := by decide +kernel
theorem dX6_unlikeInOrder_29 : decode cX6_unlikeInOrder 29 = .ok (.iload_n 2, 1) := by decide +kernel
theorem dX6_unlikeInOrder_30 : decode cX6_unlikeInOrder 30 = .ok (.invokevirtual 180, 3) := by decide +kernel
theorem dX6_unlikeInOrder_33 : decode cX6_unlikeInOrder 33 = .ok (.if_icmp .ne 25, 3) := by decide +kernel
theorem dX6_unlikeInOrder_36 : decode cX6_unlikeInOrder 36 = .ok (.aload_n 0, 1) := by decide +kernel
theorem dX6_unlikeInOrder_37 : decode cX6_unlikeInOrder 37 = .ok (.getfield 31, 3) := by decide +kernel
theorem dX6_unlikeInOrder_40 : decode cX6_unlikeInOrder 40 = .ok (.getfield 177, 3) := by decide +kernel
theorem dX6_unlikeInOrder_43 : decode cX6_unlikeInOrder 43 = .ok (.iload_n 2, 1) := by decide +kernel
theorem dX6_unlikeInOrder_44 : decode cX6_unlikeInOrder 44 = .ok (.invokevirtual 238, 3) := by decide +kernel
theorem dX6_unlikeInOrder_47 : decode cX6_unlikeInOrder 47 = .ok (.aload_n 0, 1) := by decide +kernel
theorem dX6_unlikeInOrder_48 : decode cX6_unlikeInOrder 48 = .ok (.getfield 38, 3) := by decide +kernel
theorem dX6_unlikeInOrder_51 : decode cX6_unlikeInOrder 51 = .ok (.iload_n 2, 1) := by decide +kernel
theorem dX6_unlikeInOrder_52 : decode cX6_unlikeInOrder 52 = .ok (.invokevirtual 238, 3) := by decide +kernel
theorem dX6_unlikeInOrder_55 : decode cX6_unlikeInOrder 55 = .ok (.if_icmp .eq 9, 3) := by decide +kernel
theorem dX6_unlikeInOrder_58 : decode cX6_unlikeInOrder 58 = .ok (.iload_n 1, 1) := by decide +kernel
theorem dX6_unlikeInOrder_59 : decode cX6_unlikeInOrder 59 = .ok (.iconst 1, 1) := by decide +kernel
theorem dX6_unlikeInOrder_60 : decode cX6_unlikeInOrder 60 = .ok (.iload_n 2, 1) := by decide +kernel
theorem dX6_unlikeInOrder_61 : decode cX6_unlikeInOrder 61 = .ok (.ishl, 1) := by decide +kernel
theorem dX6_unlikeInOrder_62 : decode cX6_unlikeInOrder 62 = .ok (.ior, 1) := by decide +kernel
theorem dX6_unlikeInOrder_63 : decode cX6_unlikeInOrder 63 = .ok (.istore_n 1, 1) := by decide +kernel
theorem dX6_unlikeInOrder_64 : decode cX6_unlikeInOrder 64 = .ok (.iinc 2 1, 3) := by decide +kernel
theorem dX6_unlikeInOrder_67 : decode cX6_unlikeInOrder 67 = .ok (.goto (-59), 3) := by decide +kernel
theorem dX6_unlikeInOrder_70 : decode cX6_unlikeInOrder 70 = .ok (.iload_n 1, 1) := by decide +kernel
theorem dX6_unlikeInOrder_71 : decode cX6_unlikeInOrder 71 = .ok (.ireturn, 1) := by decide +kernel
set_option maxRecDepth 20000 in
theorem ggX6_runs_Jx4a65c_size_8abf5 : GoodIn wsX6_runs wsJx4a65c_size_8abf5 := goodIn_r _ [6, 7, 16, 17, 18] (by decide +kernel) (by decide +kernel)
set_option maxRecDepth 20000 in
theorem gX6_runs_Jx4a65c_size_8abf5 : GoodIn wsX6_runs (wsV RX6 49 RJx4a65c yJx4a65c_size_8abf5 wsJx4a65c_size_8abf5) := goodIn_app (goodIn_of _ (by decide +kernel)) ggX6_runs_Jx4a65c_size_8abf5
theorem dX6_runs_0 : decode cX6_runs 0 = .ok (.aload_n 0, 1) := by decide +kernel
theorem dX6_runs_1 : decode cX6_runs 1 = .ok (.getfield 19, 3) := by decide +kernel
theorem dX6_runs_4 : decode cX6_runs 4 = .ok (.invokevirtual 49, 3) := by decide +kernel
theorem dX6_runs_7 : decode cX6_runs 7 = .ok (.ireturn, 1) := by decide +kernel
set_option maxRecDepth 20000 in
theorem ggX6_logged_Jx4a65c_size_8abf5 : GoodIn wsX6_logged wsJx4a65c_size_8abf5 := goodIn_r _ [6, 7, 16, 17, 18] (by decide +kernel) (by decide +kernel)
set_option maxRecDepth 20000 in
theorem gX6_logged_Jx4a65c_size_8abf5 : GoodIn wsX6_logged (wsV RX6 49 RJx4a65c yJx4a65c_size_8abf5 wsJx4a65c_size_8abf5) := goodIn_app (goodIn_of _ (by decide +kernel)) ggX6_logged_Jx4a65c_size_8abf5
theorem dX6_logged_0 : decode cX6_logged 0 = .ok (.aload_n 0, 1) := by decide +kernel
theorem dX6_logged_1 : decode cX6_logged 1 = .ok (.getfield 22, 3) := by decide +kernel
theorem dX6_logged_4 : decode cX6_logged 4 = .ok (.invokevirtual 49, 3) := by decide +kernel
theorem dX6_logged_7 : decode cX6_logged 7 = .ok (.ireturn, 1) := by decide +kernel
set_option maxRecDepth 20000 in
theorem ggX6_logAt_Jx4a65c_size_8abf5 : GoodIn wsX6_logAt wsJx4a65c_size_8abf5 := goodIn_r _ [13, 14, 51, 52, 53] (by decide +kernel) (by decide +kernel)
set_option maxRecDepth 20000 in
theorem gX6_logAt_Jx4a65c_size_8abf5 : GoodIn wsX6_logAt (wsV RX6 49 RJx4a65c yJx4a65c_size_8abf5 wsJx4a65c_size_8abf5) := goodIn_app (goodIn_of _ (by decide +kernel)) ggX6_logAt_Jx4a65c_size_8abf5
set_option maxRecDepth 20000 in
theorem ggX6_logAt_Jx4a65c_get_915e3 : GoodIn wsX6_logAt wsJx4a65c_get_915e3 := goodIn_r _ [18, 14, 19, 20, 21, 22, 23, 24, 25, 26, 27, 28, 29, 12, 30, 31, 51, 52, 53] (by decide +kernel) (by decide +kernel)
set_option maxRecDepth 20000 in
theorem gX6_logAt_Jx4a65c_get_915e3 : GoodIn wsX6_logAt (wsV RX6 125 RJx4a65c yJx4a65c_get_915e3 wsJx4a65c_get_915e3) := goodIn_app (goodIn_of _ (by decide +kernel)) ggX6_logAt_Jx4a65c_get_915e3
theorem dX6_logAt_0 : decode cX6_logAt 0 = .ok (.iload_n 1, 1) := by decide +kernel
theorem dX6_logAt_1 : decode cX6_logAt 1 = .ok (.ifCond .lt 14, 3) := by decide +kernel
theorem dX6_logAt_4 : decode cX6_logAt 4 = .ok (.iload_n 1, 1) := by decide +kernel
theorem dX6_logAt_5 : decode cX6_logAt 5 = .ok (.aload_n 0, 1) := by decide +kernel
theorem dX6_logAt_6 : decode cX6_logAt 6 = .ok (.getfield 22, 3) := by decide +kernel
theorem dX6_logAt_9 : decode cX6_logAt 9 = .ok (.invokevirtual 49, 3) := by decide +kernel
theorem dX6_logAt_12 : decode cX6_logAt 12 = .ok (.if_icmp .lt 13, 3) := by decide +kernel
theorem dX6_logAt_15 : decode cX6_logAt 15 = .ok (.new 140, 3) := by decide +kernel
theorem dX6_logAt_18 : decode cX6_logAt 18 = .ok (.dup, 1) := by decide +kernel
theorem dX6_logAt_19 : decode cX6_logAt 19 = .ok (.ldc 241, 2) := by decide +kernel
theorem dX6_logAt_21 : decode cX6_logAt 21 = .ok (.invokespecial 144, 3) := by decide +kernel
theorem dX6_logAt_24 : decode cX6_logAt 24 = .ok (.athrow, 1) := by decide +kernel
theorem dX6_logAt_25 : decode cX6_logAt 25 = .ok (.aload_n 0, 1) := by decide +kernel
theorem dX6_logAt_26 : decode cX6_logAt 26 = .ok (.getfield 22, 3) := by decide +kernel
theorem dX6_logAt_29 : decode cX6_logAt 29 = .ok (.iload_n 1, 1) := by decide +kernel
theorem dX6_logAt_30 : decode cX6_logAt 30 = .ok (.invokevirtual 125, 3) := by decide +kernel
theorem dX6_logAt_33 : decode cX6_logAt 33 = .ok (.checkcast 198, 3) := by decide +kernel
theorem dX6_logAt_36 : decode cX6_logAt 36 = .ok (.astore_n 2, 1) := by decide +kernel
theorem dX6_logAt_37 : decode cX6_logAt 37 = .ok (.sipush 1000, 3) := by decide +kernel
theorem dX6_logAt_40 : decode cX6_logAt 40 = .ok (.aload_n 2, 1) := by decide +kernel
theorem dX6_logAt_41 : decode cX6_logAt 41 = .ok (.getfield 243, 3) := by decide +kernel
theorem dX6_logAt_44 : decode cX6_logAt 44 = .ok (.imul, 1) := by decide +kernel
theorem dX6_logAt_45 : decode cX6_logAt 45 = .ok (.bipush 10, 2) := by decide +kernel
theorem dX6_logAt_47 : decode cX6_logAt 47 = .ok (.aload_n 2, 1) := by decide +kernel
theorem dX6_logAt_48 : decode cX6_logAt 48 = .ok (.getfield 244, 3) := by decide +kernel
theorem dX6_logAt_51 : decode cX6_logAt 51 = .ok (.getfield 128, 3) := by decide +kernel
theorem dX6_logAt_54 : decode cX6_logAt 54 = .ok (.imul, 1) := by decide +kernel
theorem dX6_logAt_55 : decode cX6_logAt 55 = .ok (.iadd, 1) := by decide +kernel
theorem dX6_logAt_56 : decode cX6_logAt 56 = .ok (.aload_n 2, 1) := by decide +kernel
theorem dX6_logAt_57 : decode cX6_logAt 57 = .ok (.getfield 248, 3) := by decide +kernel
theorem dX6_logAt_60 : decode cX6_logAt 60 = .ok (.iadd, 1) := by decide +kernel
theorem dX6_logAt_61 : decode cX6_logAt 61 = .ok (.ireturn, 1) := by decide +kernel
set_option maxRecDepth 20000 in
theorem ggX6_forget_X6_requireUser : GoodIn wsX6_forget wsX6_requireUser := goodIn_ca (goodIn_r _ [7, 8, 9] (by decide +kernel) (by decide +kernel)) (goodIn_sub (fun _ h => List.mem_cons_of_mem _ (List.mem_append_right _ h)) (by decide +kernel))
set_option maxRecDepth 20000 in
theorem gX6_forget_X6_requireUser : GoodIn wsX6_forget (va_wsS RX6 69 yX6_requireUser wsX6_requireUser) := goodIn_app (goodIn_of _ (by decide +kernel)) ggX6_forget_X6_requireUser
set_option maxRecDepth 20000 in
theorem ggX6_forget_Jx4a65c_size_8abf5 : GoodIn wsX6_forget wsJx4a65c_size_8abf5 := goodIn_r _ [14, 15, 76, 77, 78] (by decide +kernel) (by decide +kernel)
set_option maxRecDepth 20000 in
theorem gX6_forget_Jx4a65c_size_8abf5 : GoodIn wsX6_forget (wsV RX6 49 RJx4a65c yJx4a65c_size_8abf5 wsJx4a65c_size_8abf5) := goodIn_app (goodIn_of _ (by decide +kernel)) ggX6_forget_Jx4a65c_size_8abf5
set_option maxRecDepth 20000 in
theorem ggX6_forget_Jx4a65c_get_915e3 : GoodIn wsX6_forget wsJx4a65c_get_915e3 := goodIn_r _ [19, 15, 20, 21, 22, 23, 24, 25, 26, 27, 28, 29, 30, 13, 31, 32, 76, 77, 78] (by decide +kernel) (by decide +kernel)
set_option maxRecDepth 20000 in
theorem gX6_forget_Jx4a65c_get_915e3 : GoodIn wsX6_forget (wsV RX6 125 RJx4a65c yJx4a65c_get_915e3 wsJx4a65c_get_915e3) := goodIn_app (goodIn_of _ (by decide +kernel)) ggX6_forget_Jx4a65c_get_915e3
set_option maxRecDepth 20000 in
theorem ggX6_forget_X6_isLastRun : GoodIn wsX6_forget wsX6_isLastRun := goodIn_r _ [36, 37, 38, 39, 40, 41, 42, 43, 44, 45, 46, 61, 62, 63, 64, 65, 66, 67, 68, 69, 70, 71, 72, 73, 74, 75, 79, 80, 81, 82, 83, 84] (by decide +kernel) (by decide +kernel)
set_option maxRecDepth 20000 in
theorem gX6_forget_X6_isLastRun : GoodIn wsX6_forget (wsV RX6 251 RX6 yX6_isLastRun wsX6_isLastRun) := goodIn_app (goodIn_of _ (by decide +kernel)) ggX6_forget_X6_isLastRun
set_option maxRecDepth 20000 in
theorem ggX6_forget_Jx4a65c_remove_915e3 : GoodIn wsX6_forget wsJx4a65c_remove_915e3 := goodIn_r _ [50, 15, 32, 20, 21, 22, 23, 24, 25, 26, 27, 51, 52, 53, 13, 54, 55, 56, 57, 58, 59, 60, 76, 77, 78] (by decide +kernel) (by decide +kernel)
set_option maxRecDepth 20000 in
theorem gX6_forget_Jx4a65c_remove_915e3 : GoodIn wsX6_forget (wsV RX6 118 RJx4a65c yJx4a65c_remove_915e3 wsJx4a65c_remove_915e3) := goodIn_app (goodIn_of _ (by decide +kernel)) ggX6_forget_Jx4a65c_remove_915e3
theorem dX6_forget_0 : decode cX6_forget 0 = .ok (.iload_n 1, 1) := by decide +kernel
theorem dX6_forget_1 : decode cX6_forget 1 = .ok (.invokestatic 69, 3) := by decide +kernel
theorem dX6_forget_4 : decode cX6_forget 4 = .ok (.iconst 0, 1) := by decide +kernel
theorem dX6_forget_5 : decode cX6_forget 5 = .ok (.istore_n 2, 1) := by decide +kernel
theorem dX6_forget_6 : decode cX6_forget 6 = .ok (.aload_n 0, 1) := by decide +kernel
theorem dX6_forget_7 : decode cX6_forget 7 = .ok (.getfield 22, 3) := by decide +kernel
theorem dX6_forget_10 : decode cX6_forget 10 = .ok (.invokevirtual 49, 3) := by decide +kernel
theorem dX6_forget_13 : decode cX6_forget 13 = .ok (.iconst 1, 1) := by decide +kernel
theorem dX6_forget_14 : decode cX6_forget 14 = .ok (.isub, 1) := by decide +kernel
theorem dX6_forget_15 : decode cX6_forget 15 = .ok (.istore_n 3, 1) := by decide +kernel
theorem dX6_forget_16 : decode cX6_forget 16 = .ok (.iload_n 3, 1) := by decide +kernel
theorem dX6_forget_17 : decode cX6_forget 17 = .ok (.ifCond .lt 52, 3) := by decide +kernel
theorem dX6_forget_20 : decode cX6_forget 20 = .ok (.aload_n 0, 1) := by decide +kernel
theorem dX6_forget_21 : decode cX6_forget 21 = .ok (.getfield 22, 3) := by decide +kernel
theorem dX6_forget_24 : decode cX6_forget 24 = .ok (.iload_n 3, 1) := by decide +kernel
theorem dX6_forget_25 : decode cX6_forget 25 = .ok (.invokevirtual 125, 3) := by decide +kernel
theorem dX6_forget_28 : decode cX6_forget 28 = .ok (.checkcast 198, 3) := by decide +kernel
theorem dX6_forget_31 : decode cX6_forget 31 = .ok (.astore 4, 2) := by decide +kernel
theorem dX6_forget_33 : decode cX6_forget 33 = .ok (.aload 4, 2) := by decide +kernel
theorem dX6_forget_35 : decode cX6_forget 35 = .ok (.getfield 248, 3) := by decide +kernel
theorem dX6_forget_38 : decode cX6_forget 38 = .ok (.iload_n 1, 1) := by decide +kernel
theorem dX6_forget_39 : decode cX6_forget 39 = .ok (.if_icmp .ne 24, 3) := by decide +kernel
theorem dX6_forget_42 : decode cX6_forget 42 = .ok (.aload_n 0, 1) := by decide +kernel
theorem dX6_forget_43 : decode cX6_forget 43 = .ok (.aload 4, 2) := by decide +kernel
theorem dX6_forget_45 : decode cX6_forget 45 = .ok (.invokevirtual 251, 3) := by decide +kernel
theorem dX6_forget_48 : decode cX6_forget 48 = .ok (.ifCond .ne 15, 3) := by decide +kernel
theorem dX6_forget_51 : decode cX6_forget 51 = .ok (.aload_n 0, 1) := by decide +kernel
theorem dX6_forget_52 : decode cX6_forget 52 = .ok (.getfield 22, 3) := by decide +kernel
theorem dX6_forget_55 : decode cX6_forget 55 = .ok (.iload_n 3, 1) := by decide +kernel
theorem dX6_forget_56 : decode cX6_forget 56 = .ok (.invokevirtual 118, 3) := by decide +kernel
theorem dX6_forget_59 : decode cX6_forget 59 = .ok (.pop, 1) := by decide +kernel
theorem dX6_forget_60 : decode cX6_forget 60 = .ok (.iinc 2 1, 3) := by decide +kernel
theorem dX6_forget_63 : decode cX6_forget 63 = .ok (.iinc 3 (-1), 3) := by decide +kernel
theorem dX6_forget_66 : decode cX6_forget 66 = .ok (.goto (-50), 3) := by decide +kernel
theorem dX6_forget_69 : decode cX6_forget 69 = .ok (.iload_n 2, 1) := by decide +kernel
theorem dX6_forget_70 : decode cX6_forget 70 = .ok (.ireturn, 1) := by decide +kernel
theorem dX6_requireUser_0 : decode cX6_requireUser 0 = .ok (.iload_n 0, 1) := by decide +kernel
theorem dX6_requireUser_1 : decode cX6_requireUser 1 = .ok (.ifCond .lt 8, 3) := by decide +kernel
theorem dX6_requireUser_4 : decode cX6_requireUser 4 = .ok (.iload_n 0, 1) := by decide +kernel
theorem dX6_requireUser_5 : decode cX6_requireUser 5 = .ok (.iconst 5, 1) := by decide +kernel
theorem dX6_requireUser_6 : decode cX6_requireUser 6 = .ok (.if_icmp .lt 13, 3) := by decide +kernel
theorem dX6_requireUser_9 : decode cX6_requireUser 9 = .ok (.new 140, 3) := by decide +kernel
theorem dX6_requireUser_12 : decode cX6_requireUser 12 = .ok (.dup, 1) := by decide +kernel
theorem dX6_requireUser_13 : decode cX6_requireUser 13 = .ok (.ldc 255, 2) := by decide +kernel
theorem dX6_requireUser_15 : decode cX6_requireUser 15 = .ok (.invokespecial 144, 3) := by decide +kernel
theorem dX6_requireUser_18 : decode cX6_requireUser 18 = .ok (.athrow, 1) := by decide +kernel
theorem dX6_requireUser_19 : decode cX6_requireUser 19 = .ok (.return_, 1) := by decide +kernel
set_option maxRecDepth 20000 in
theorem ggX6_requireName_X6_isName : GoodIn wsX6_requireName wsX6_isName := goodIn_r _ [6] (by decide +kernel) (by decide +kernel)
set_option maxRecDepth 20000 in
theorem gX6_requireName_X6_isName : GoodIn wsX6_requireName (va_wsS RX6 257 yX6_isName wsX6_isName) := goodIn_app (goodIn_of _ (by decide +kernel)) ggX6_requireName_X6_isName
theorem dX6_requireName_0 : decode cX6_requireName 0 = .ok (.iload_n 0, 1) := by decide +kernel
theorem dX6_requireName_1 : decode cX6_requireName 1 = .ok (.invokestatic 257, 3) := by decide +kernel
theorem dX6_requireName_4 : decode cX6_requireName 4 = .ok (.ifCond .ne 14, 3) := by decide +kernel
theorem dX6_requireName_7 : decode cX6_requireName 7 = .ok (.new 140, 3) := by decide +kernel
theorem dX6_requireName_10 : decode cX6_requireName 10 = .ok (.dup, 1) := by decide +kernel
theorem dX6_requireName_11 : decode cX6_requireName 11 = .ok (.ldc_w 260, 3) := by decide +kernel
theorem dX6_requireName_14 : decode cX6_requireName 14 = .ok (.invokespecial 144, 3) := by decide +kernel
theorem dX6_requireName_17 : decode cX6_requireName 17 = .ok (.athrow, 1) := by decide +kernel
theorem dX6_requireName_18 : decode cX6_requireName 18 = .ok (.return_, 1) := by decide +kernel
set_option maxRecDepth 20000 in
theorem ggX6_requireCell_Jx4a65c_size_8abf5 : GoodIn wsX6_requireCell wsJx4a65c_size_8abf5 := goodIn_r _ [9, 10, 36, 37, 38] (by decide +kernel) (by decide +kernel)
set_option maxRecDepth 20000 in
theorem gX6_requireCell_Jx4a65c_size_8abf5 : GoodIn wsX6_requireCell (wsV RX6 49 RJx4a65c yJx4a65c_size_8abf5 wsJx4a65c_size_8abf5) := goodIn_app (goodIn_of _ (by decide +kernel)) ggX6_requireCell_Jx4a65c_size_8abf5
set_option maxRecDepth 20000 in
theorem ggX6_requireCell_Jx4a65c_get_915e3 : GoodIn wsX6_requireCell wsJx4a65c_get_915e3 := goodIn_r _ [14, 10, 15, 16, 17, 18, 19, 20, 21, 22, 23, 24, 25, 8, 26, 27, 36, 37, 38] (by decide +kernel) (by decide +kernel)
set_option maxRecDepth 20000 in
theorem gX6_requireCell_Jx4a65c_get_915e3 : GoodIn wsX6_requireCell (wsV RX6 125 RJx4a65c yJx4a65c_get_915e3 wsJx4a65c_get_915e3) := goodIn_app (goodIn_of _ (by decide +kernel)) ggX6_requireCell_Jx4a65c_get_915e3
theorem dX6_requireCell_0 : decode cX6_requireCell 0 = .ok (.iload_n 1, 1) := by decide +kernel
theorem dX6_requireCell_1 : decode cX6_requireCell 1 = .ok (.ifCond .lt 14, 3) := by decide +kernel
theorem dX6_requireCell_4 : decode cX6_requireCell 4 = .ok (.iload_n 1, 1) := by decide +kernel
theorem dX6_requireCell_5 : decode cX6_requireCell 5 = .ok (.aload_n 0, 1) := by decide +kernel
theorem dX6_requireCell_6 : decode cX6_requireCell 6 = .ok (.getfield 10, 3) := by decide +kernel
theorem dX6_requireCell_9 : decode cX6_requireCell 9 = .ok (.invokevirtual 49, 3) := by decide +kernel
theorem dX6_requireCell_12 : decode cX6_requireCell 12 = .ok (.if_icmp .lt 14, 3) := by decide +kernel
theorem dX6_requireCell_15 : decode cX6_requireCell 15 = .ok (.new 140, 3) := by decide +kernel
theorem dX6_requireCell_18 : decode cX6_requireCell 18 = .ok (.dup, 1) := by decide +kernel
theorem dX6_requireCell_19 : decode cX6_requireCell 19 = .ok (.ldc_w 262, 3) := by decide +kernel
theorem dX6_requireCell_22 : decode cX6_requireCell 22 = .ok (.invokespecial 144, 3) := by decide +kernel
theorem dX6_requireCell_25 : decode cX6_requireCell 25 = .ok (.athrow, 1) := by decide +kernel
theorem dX6_requireCell_26 : decode cX6_requireCell 26 = .ok (.aload_n 0, 1) := by decide +kernel
theorem dX6_requireCell_27 : decode cX6_requireCell 27 = .ok (.getfield 10, 3) := by decide +kernel
theorem dX6_requireCell_30 : decode cX6_requireCell 30 = .ok (.iload_n 1, 1) := by decide +kernel
theorem dX6_requireCell_31 : decode cX6_requireCell 31 = .ok (.invokevirtual 125, 3) := by decide +kernel
theorem dX6_requireCell_34 : decode cX6_requireCell 34 = .ok (.checkcast 60, 3) := by decide +kernel
theorem dX6_requireCell_37 : decode cX6_requireCell 37 = .ok (.areturn, 1) := by decide +kernel
set_option maxRecDepth 20000 in
theorem ggX6_requirePlace_Jx4a65c_size_8abf5 : GoodIn wsX6_requirePlace wsJx4a65c_size_8abf5 := goodIn_r _ [8, 9, 18, 19, 20] (by decide +kernel) (by decide +kernel)
set_option maxRecDepth 20000 in
theorem gX6_requirePlace_Jx4a65c_size_8abf5 : GoodIn wsX6_requirePlace (wsV RX6 49 RJx4a65c yJx4a65c_size_8abf5 wsJx4a65c_size_8abf5) := goodIn_app (goodIn_of _ (by decide +kernel)) ggX6_requirePlace_Jx4a65c_size_8abf5
theorem dX6_requirePlace_0 : decode cX6_requirePlace 0 = .ok (.iload_n 1, 1) := by decide +kernel
theorem dX6_requirePlace_1 : decode cX6_requirePlace 1 = .ok (.ifCond .lt 14, 3) := by decide +kernel
theorem dX6_requirePlace_4 : decode cX6_requirePlace 4 = .ok (.iload_n 1, 1) := by decide +kernel
theorem dX6_requirePlace_5 : decode cX6_requirePlace 5 = .ok (.aload_n 0, 1) := by decide +kernel
theorem dX6_requirePlace_6 : decode cX6_requirePlace 6 = .ok (.getfield 16, 3) := by decide +kernel
theorem dX6_requirePlace_9 : decode cX6_requirePlace 9 = .ok (.invokevirtual 49, 3) := by decide +kernel
theorem dX6_requirePlace_12 : decode cX6_requirePlace 12 = .ok (.if_icmp .lt 14, 3) := by decide +kernel
theorem dX6_requirePlace_15 : decode cX6_requirePlace 15 = .ok (.new 140, 3) := by decide +kernel
theorem dX6_requirePlace_18 : decode cX6_requirePlace 18 = .ok (.dup, 1) := by decide +kernel
theorem dX6_requirePlace_19 : decode cX6_requirePlace 19 = .ok (.ldc_w 264, 3) := by decide +kernel
theorem dX6_requirePlace_22 : decode cX6_requirePlace 22 = .ok (.invokespecial 144, 3) := by decide +kernel
theorem dX6_requirePlace_25 : decode cX6_requirePlace 25 = .ok (.athrow, 1) := by decide +kernel
theorem dX6_requirePlace_26 : decode cX6_requirePlace 26 = .ok (.return_, 1) := by decide +kernel
set_option maxRecDepth 20000 in
theorem ggX6_requireRight_X1_allows : GoodIn wsX6_requireRight wsX1_allows := goodIn_r _ [7, 8, 9, 10, 6, 11, 12, 13, 14, 15, 16] (by decide +kernel) (by decide +kernel)
set_option maxRecDepth 20000 in
theorem gX6_requireRight_X1_allows : GoodIn wsX6_requireRight (wsV RX6 169 RX1 yX1_allows wsX1_allows) := goodIn_app (goodIn_of _ (by decide +kernel)) ggX6_requireRight_X1_allows
theorem dX6_requireRight_0 : decode cX6_requireRight 0 = .ok (.aload_n 0, 1) := by decide +kernel
theorem dX6_requireRight_1 : decode cX6_requireRight 1 = .ok (.iload_n 1, 1) := by decide +kernel
theorem dX6_requireRight_2 : decode cX6_requireRight 2 = .ok (.iload_n 2, 1) := by decide +kernel
theorem dX6_requireRight_3 : decode cX6_requireRight 3 = .ok (.invokevirtual 169, 3) := by decide +kernel
theorem dX6_requireRight_6 : decode cX6_requireRight 6 = .ok (.ifCond .ne 14, 3) := by decide +kernel
theorem dX6_requireRight_9 : decode cX6_requireRight 9 = .ok (.new 53, 3) := by decide +kernel
theorem dX6_requireRight_12 : decode cX6_requireRight 12 = .ok (.dup, 1) := by decide +kernel
theorem dX6_requireRight_13 : decode cX6_requireRight 13 = .ok (.ldc_w 266, 3) := by decide +kernel
theorem dX6_requireRight_16 : decode cX6_requireRight 16 = .ok (.invokespecial 57, 3) := by decide +kernel
theorem dX6_requireRight_19 : decode cX6_requireRight 19 = .ok (.athrow, 1) := by decide +kernel
theorem dX6_requireRight_20 : decode cX6_requireRight 20 = .ok (.return_, 1) := by decide +kernel
set_option maxRecDepth 20000 in
theorem ggX6_requireValue_X2_hold : GoodIn wsX6_requireValue wsX2_hold := goodIn_r _ [7, 8, 9, 10, 11, 17, 18] (by decide +kernel) (by decide +kernel)
set_option maxRecDepth 20000 in
theorem gX6_requireValue_X2_hold : GoodIn wsX6_requireValue (wsV RX6 180 RX2 yX2_hold wsX2_hold) := goodIn_app (goodIn_of _ (by decide +kernel)) ggX6_requireValue_X2_hold
set_option maxRecDepth 20000 in
theorem ggX6_requireValue_X2_valueOf : GoodIn wsX6_requireValue wsX2_valueOf := goodIn_r _ [15, 16, 9, 10, 11, 17, 18] (by decide +kernel) (by decide +kernel)
set_option maxRecDepth 20000 in
theorem gX6_requireValue_X2_valueOf : GoodIn wsX6_requireValue (wsV RX6 238 RX2 yX2_valueOf wsX2_valueOf) := goodIn_app (goodIn_of _ (by decide +kernel)) ggX6_requireValue_X2_valueOf
theorem dX6_requireValue_0 : decode cX6_requireValue 0 = .ok (.aload_n 0, 1) := by decide +kernel
theorem dX6_requireValue_1 : decode cX6_requireValue 1 = .ok (.iload_n 1, 1) := by decide +kernel
theorem dX6_requireValue_2 : decode cX6_requireValue 2 = .ok (.invokevirtual 180, 3) := by decide +kernel
theorem dX6_requireValue_5 : decode cX6_requireValue 5 = .ok (.ifCond .ne 14, 3) := by decide +kernel
theorem dX6_requireValue_8 : decode cX6_requireValue 8 = .ok (.new 53, 3) := by decide +kernel
theorem dX6_requireValue_11 : decode cX6_requireValue 11 = .ok (.dup, 1) := by decide +kernel
theorem dX6_requireValue_12 : decode cX6_requireValue 12 = .ok (.ldc_w 268, 3) := by decide +kernel
theorem dX6_requireValue_15 : decode cX6_requireValue 15 = .ok (.invokespecial 57, 3) := by decide +kernel
theorem dX6_requireValue_18 : decode cX6_requireValue 18 = .ok (.athrow, 1) := by decide +kernel
theorem dX6_requireValue_19 : decode cX6_requireValue 19 = .ok (.aload_n 0, 1) := by decide +kernel
theorem dX6_requireValue_20 : decode cX6_requireValue 20 = .ok (.iload_n 1, 1) := by decide +kernel
theorem dX6_requireValue_21 : decode cX6_requireValue 21 = .ok (.invokevirtual 238, 3) := by decide +kernel
theorem dX6_requireValue_24 : decode cX6_requireValue 24 = .ok (.ireturn, 1) := by decide +kernel
theorem dX6_isName_0 : decode cX6_isName 0 = .ok (.iload_n 0, 1) := by decide +kernel
theorem dX6_isName_1 : decode cX6_isName 1 = .ok (.ifCond .lt 13, 3) := by decide +kernel
theorem dX6_isName_4 : decode cX6_isName 4 = .ok (.iload_n 0, 1) := by decide +kernel
theorem dX6_isName_5 : decode cX6_isName 5 = .ok (.bipush 8, 2) := by decide +kernel
theorem dX6_isName_7 : decode cX6_isName 7 = .ok (.if_icmp .ge 7, 3) := by decide +kernel
theorem dX6_isName_10 : decode cX6_isName 10 = .ok (.iconst 1, 1) := by decide +kernel
theorem dX6_isName_11 : decode cX6_isName 11 = .ok (.goto 4, 3) := by decide +kernel
theorem dX6_isName_14 : decode cX6_isName 14 = .ok (.iconst 0, 1) := by decide +kernel
theorem dX6_isName_15 : decode cX6_isName 15 = .ok (.ireturn, 1) := by decide +kernel
set_option maxRecDepth 20000 in
theorem ggX6_isOperand_X6_isName : GoodIn wsX6_isOperand wsX6_isName := goodIn_r _ [4] (by decide +kernel) (by decide +kernel)
set_option maxRecDepth 20000 in
theorem gX6_isOperand_X6_isName : GoodIn wsX6_isOperand (va_wsS RX6 257 yX6_isName wsX6_isName) := goodIn_app (goodIn_of _ (by decide +kernel)) ggX6_isOperand_X6_isName
theorem dX6_isOperand_0 : decode cX6_isOperand 0 = .ok (.iload_n 0, 1) := by decide +kernel
theorem dX6_isOperand_1 : decode cX6_isOperand 1 = .ok (.invokestatic 257, 3) := by decide +kernel
theorem dX6_isOperand_4 : decode cX6_isOperand 4 = .ok (.ifCond .ne 16, 3) := by decide +kernel
theorem dX6_isOperand_7 : decode cX6_isOperand 7 = .ok (.iload_n 0, 1) := by decide +kernel
theorem dX6_isOperand_8 : decode cX6_isOperand 8 = .ok (.bipush 100, 2) := by decide +kernel
theorem dX6_isOperand_10 : decode cX6_isOperand 10 = .ok (.if_icmp .lt 14, 3) := by decide +kernel
theorem dX6_isOperand_13 : decode cX6_isOperand 13 = .ok (.iload_n 0, 1) := by decide +kernel
theorem dX6_isOperand_14 : decode cX6_isOperand 14 = .ok (.sipush 1100, 3) := by decide +kernel
theorem dX6_isOperand_17 : decode cX6_isOperand 17 = .ok (.if_icmp .gt 7, 3) := by decide +kernel
theorem dX6_isOperand_20 : decode cX6_isOperand 20 = .ok (.iconst 1, 1) := by decide +kernel
theorem dX6_isOperand_21 : decode cX6_isOperand 21 = .ok (.goto 4, 3) := by decide +kernel
theorem dX6_isOperand_24 : decode cX6_isOperand 24 = .ok (.iconst 0, 1) := by decide +kernel
theorem dX6_isOperand_25 : decode cX6_isOperand 25 = .ok (.ireturn, 1) := by decide +kernel
set_option maxRecDepth 20000 in
theorem ggX6_placeOf_Jx4a65c_size_8abf5 : GoodIn wsX6_placeOf wsJx4a65c_size_8abf5 := goodIn_r _ [6, 7, 33, 34, 35] (by decide +kernel) (by decide +kernel)
set_option maxRecDepth 20000 in
theorem gX6_placeOf_Jx4a65c_size_8abf5 : GoodIn wsX6_placeOf (wsV RX6 49 RJx4a65c yJx4a65c_size_8abf5 wsJx4a65c_size_8abf5) := goodIn_app (goodIn_of _ (by decide +kernel)) ggX6_placeOf_Jx4a65c_size_8abf5
set_option maxRecDepth 20000 in
theorem ggX6_placeOf_Jx4a65c_get_915e3 : GoodIn wsX6_placeOf wsJx4a65c_get_915e3 := goodIn_r _ [11, 7, 12, 13, 14, 15, 16, 17, 18, 19, 20, 21, 22, 5, 23, 24, 33, 34, 35] (by decide +kernel) (by decide +kernel)
set_option maxRecDepth 20000 in
theorem gX6_placeOf_Jx4a65c_get_915e3 : GoodIn wsX6_placeOf (wsV RX6 125 RJx4a65c yJx4a65c_get_915e3 wsJx4a65c_get_915e3) := goodIn_app (goodIn_of _ (by decide +kernel)) ggX6_placeOf_Jx4a65c_get_915e3
theorem dX6_placeOf_0 : decode cX6_placeOf 0 = .ok (.iconst 0, 1) := by decide +kernel
theorem dX6_placeOf_1 : decode cX6_placeOf 1 = .ok (.istore_n 2, 1) := by decide +kernel
theorem dX6_placeOf_2 : decode cX6_placeOf 2 = .ok (.iload_n 2, 1) := by decide +kernel
theorem dX6_placeOf_3 : decode cX6_placeOf 3 = .ok (.aload_n 0, 1) := by decide +kernel
theorem dX6_placeOf_4 : decode cX6_placeOf 4 = .ok (.getfield 16, 3) := by decide +kernel
theorem dX6_placeOf_7 : decode cX6_placeOf 7 = .ok (.invokevirtual 49, 3) := by decide +kernel
theorem dX6_placeOf_10 : decode cX6_placeOf 10 = .ok (.iconst 1, 1) := by decide +kernel
theorem dX6_placeOf_11 : decode cX6_placeOf 11 = .ok (.isub, 1) := by decide +kernel
theorem dX6_placeOf_12 : decode cX6_placeOf 12 = .ok (.if_icmp .ge 21, 3) := by decide +kernel
theorem dX6_placeOf_15 : decode cX6_placeOf 15 = .ok (.aload_n 0, 1) := by decide +kernel
theorem dX6_placeOf_16 : decode cX6_placeOf 16 = .ok (.getfield 16, 3) := by decide +kernel
theorem dX6_placeOf_19 : decode cX6_placeOf 19 = .ok (.iload_n 2, 1) := by decide +kernel
theorem dX6_placeOf_20 : decode cX6_placeOf 20 = .ok (.invokevirtual 125, 3) := by decide +kernel
theorem dX6_placeOf_23 : decode cX6_placeOf 23 = .ok (.aload_n 1, 1) := by decide +kernel
theorem dX6_placeOf_24 : decode cX6_placeOf 24 = .ok (.if_acmp .eq 9, 3) := by decide +kernel
theorem dX6_placeOf_27 : decode cX6_placeOf 27 = .ok (.iinc 2 1, 3) := by decide +kernel
theorem dX6_placeOf_30 : decode cX6_placeOf 30 = .ok (.goto (-28), 3) := by decide +kernel
theorem dX6_placeOf_33 : decode cX6_placeOf 33 = .ok (.iload_n 2, 1) := by decide +kernel
theorem dX6_placeOf_34 : decode cX6_placeOf 34 = .ok (.ireturn, 1) := by decide +kernel
set_option maxRecDepth 20000 in
theorem ggX6_makeRun_Jx4a65c_size_8abf5 : GoodIn wsX6_makeRun wsJx4a65c_size_8abf5 := goodIn_r _ [16, 17, 212, 213, 214] (by decide +kernel) (by decide +kernel)
set_option maxRecDepth 20000 in
theorem gX6_makeRun_Jx4a65c_size_8abf5 : GoodIn wsX6_makeRun (wsV RX6 49 RJx4a65c yJx4a65c_size_8abf5 wsJx4a65c_size_8abf5) := goodIn_app (goodIn_of _ (by decide +kernel)) ggX6_makeRun_Jx4a65c_size_8abf5
set_option maxRecDepth 20000 in
theorem ggX6_makeRun_X0_perform : GoodIn wsX6_makeRun wsX0_perform := goodIn_r _ [22, 23, 24, 25, 26, 27, 28, 29, 21, 30, 31, 32, 33, 34, 35, 36, 37, 38, 39, 40, 41, 42, 43, 44, 45, 46, 47, 48, 49, 50, 51, 52, 53, 54, 55, 56, 57, 13, 14, 15, 16, 17, 58, 59, 60, 61, 62, 63, 64, 65, 66, 67, 68, 69, 70, 71, 72, 73, 74, 75, 76, 77, 78, 79, 80, 81, 82, 83, 84, 85, 86, 87, 88, 89, 90, 91, 92, 93, 94, 95, 96, 97, 98, 99, 100, 101, 102, 103, 205, 206, 207, 208, 209, 210, 211, 215, 216, 212, 213, 214, 217, 218, 219, 220] (by decide +kernel) (by decide +kernel)
set_option maxRecDepth 20000 in
theorem gX6_makeRun_X0_perform : GoodIn wsX6_makeRun (wsV RX6 270 RX0 yX0_perform wsX0_perform) := goodIn_app (goodIn_of _ (by decide +kernel)) ggX6_makeRun_X0_perform
set_option maxRecDepth 20000 in
theorem ggX6_makeRun_X3_init : GoodIn wsX6_makeRun wsX3_init := goodIn_r _ [106, 107, 108, 109, 110, 111, 112, 113, 114, 115, 116, 117, 118, 119, 120, 121, 122, 123, 21, 124, 34, 45, 46, 47, 198, 199, 200, 201, 202, 203, 204, 205, 206, 207, 208, 209, 210, 211] (by decide +kernel) (by decide +kernel)
set_option maxRecDepth 20000 in
theorem gX6_makeRun_X3_init : GoodIn wsX6_makeRun (wsX3_init) := ggX6_makeRun_X3_init
set_option maxRecDepth 20000 in
theorem ggX6_makeRun_Jx4a65c_add_9ea2d : GoodIn wsX6_makeRun wsJx4a65c_add_9ea2d := goodIn_r _ [128, 129, 130, 74, 17, 131, 132, 133, 15, 134, 135, 136, 137, 138, 139, 140, 141, 142, 143, 144, 145, 146, 147, 148, 149, 150, 151, 152, 153, 154, 155, 156, 157, 158, 159, 160, 161, 162, 163, 164, 165, 166, 167, 168, 169, 170, 171, 172, 173, 174, 175, 176, 177, 212, 213, 214] (by decide +kernel) (by decide +kernel)
set_option maxRecDepth 20000 in
theorem gX6_makeRun_Jx4a65c_add_9ea2d : GoodIn wsX6_makeRun (wsV RX6 65 RJx4a65c yJx4a65c_add_9ea2d wsJx4a65c_add_9ea2d) := goodIn_app (goodIn_of _ (by decide +kernel)) ggX6_makeRun_Jx4a65c_add_9ea2d
set_option maxRecDepth 20000 in
theorem ggX6_makeRun_X4_setLastRun : GoodIn wsX6_makeRun wsX4_setLastRun := goodIn_r _ [182, 183, 196, 197] (by decide +kernel) (by decide +kernel)
set_option maxRecDepth 20000 in
theorem gX6_makeRun_X4_setLastRun : GoodIn wsX6_makeRun (wsV RX6 277 RX4 yX4_setLastRun wsX4_setLastRun) := goodIn_app (goodIn_of _ (by decide +kernel)) ggX6_makeRun_X4_setLastRun
theorem dX6_makeRun_0 : decode cX6_makeRun 0 = .ok (.aload_n 0, 1) := by decide +kernel
theorem dX6_makeRun_1 : decode cX6_makeRun 1 = .ok (.getfield 19, 3) := by decide +kernel
theorem dX6_makeRun_4 : decode cX6_makeRun 4 = .ok (.invokevirtual 49, 3) := by decide +kernel
theorem dX6_makeRun_7 : decode cX6_makeRun 7 = .ok (.iconst 1, 1) := by decide +kernel
theorem dX6_makeRun_8 : decode cX6_makeRun 8 = .ok (.iadd, 1) := by decide +kernel
theorem dX6_makeRun_9 : decode cX6_makeRun 9 = .ok (.istore_n 3, 1) := by decide +kernel
theorem dX6_makeRun_10 : decode cX6_makeRun 10 = .ok (.aload_n 0, 1) := by decide +kernel
theorem dX6_makeRun_11 : decode cX6_makeRun 11 = .ok (.getfield 45, 3) := by decide +kernel
theorem dX6_makeRun_14 : decode cX6_makeRun 14 = .ok (.aload_n 2, 1) := by decide +kernel
theorem dX6_makeRun_15 : decode cX6_makeRun 15 = .ok (.getfield 94, 3) := by decide +kernel
theorem dX6_makeRun_18 : decode cX6_makeRun 18 = .ok (.aload_n 0, 1) := by decide +kernel
theorem dX6_makeRun_19 : decode cX6_makeRun 19 = .ok (.getfield 31, 3) := by decide +kernel
theorem dX6_makeRun_22 : decode cX6_makeRun 22 = .ok (.getfield 177, 3) := by decide +kernel
theorem dX6_makeRun_25 : decode cX6_makeRun 25 = .ok (.iload_n 3, 1) := by decide +kernel
theorem dX6_makeRun_26 : decode cX6_makeRun 26 = .ok (.invokevirtual 270, 3) := by decide +kernel
theorem dX6_makeRun_29 : decode cX6_makeRun 29 = .ok (.new 198, 3) := by decide +kernel
theorem dX6_makeRun_32 : decode cX6_makeRun 32 = .ok (.dup, 1) := by decide +kernel
theorem dX6_makeRun_33 : decode cX6_makeRun 33 = .ok (.iload_n 3, 1) := by decide +kernel
theorem dX6_makeRun_34 : decode cX6_makeRun 34 = .ok (.aload_n 2, 1) := by decide +kernel
theorem dX6_makeRun_35 : decode cX6_makeRun 35 = .ok (.iload_n 1, 1) := by decide +kernel
theorem dX6_makeRun_36 : decode cX6_makeRun 36 = .ok (.aload_n 0, 1) := by decide +kernel
theorem dX6_makeRun_37 : decode cX6_makeRun 37 = .ok (.getfield 45, 3) := by decide +kernel
theorem dX6_makeRun_40 : decode cX6_makeRun 40 = .ok (.invokespecial 274, 3) := by decide +kernel
theorem dX6_makeRun_43 : decode cX6_makeRun 43 = .ok (.astore 4, 2) := by decide +kernel
theorem dX6_makeRun_45 : decode cX6_makeRun 45 = .ok (.aload_n 0, 1) := by decide +kernel
theorem dX6_makeRun_46 : decode cX6_makeRun 46 = .ok (.getfield 19, 3) := by decide +kernel
theorem dX6_makeRun_49 : decode cX6_makeRun 49 = .ok (.aload 4, 2) := by decide +kernel
theorem dX6_makeRun_51 : decode cX6_makeRun 51 = .ok (.invokevirtual 65, 3) := by decide +kernel
theorem dX6_makeRun_54 : decode cX6_makeRun 54 = .ok (.pop, 1) := by decide +kernel
theorem dX6_makeRun_55 : decode cX6_makeRun 55 = .ok (.aload_n 0, 1) := by decide +kernel
theorem dX6_makeRun_56 : decode cX6_makeRun 56 = .ok (.getfield 22, 3) := by decide +kernel
theorem dX6_makeRun_59 : decode cX6_makeRun 59 = .ok (.aload 4, 2) := by decide +kernel
theorem dX6_makeRun_61 : decode cX6_makeRun 61 = .ok (.invokevirtual 65, 3) := by decide +kernel
theorem dX6_makeRun_64 : decode cX6_makeRun 64 = .ok (.pop, 1) := by decide +kernel
theorem dX6_makeRun_65 : decode cX6_makeRun 65 = .ok (.aload_n 0, 1) := by decide +kernel
theorem dX6_makeRun_66 : decode cX6_makeRun 66 = .ok (.getfield 31, 3) := by decide +kernel
theorem dX6_makeRun_69 : decode cX6_makeRun 69 = .ok (.aload_n 2, 1) := by decide +kernel
theorem dX6_makeRun_70 : decode cX6_makeRun 70 = .ok (.getfield 128, 3) := by decide +kernel
theorem dX6_makeRun_73 : decode cX6_makeRun 73 = .ok (.iload_n 3, 1) := by decide +kernel
theorem dX6_makeRun_74 : decode cX6_makeRun 74 = .ok (.invokevirtual 277, 3) := by decide +kernel
theorem dX6_makeRun_77 : decode cX6_makeRun 77 = .ok (.aload_n 0, 1) := by decide +kernel
theorem dX6_makeRun_78 : decode cX6_makeRun 78 = .ok (.getfield 45, 3) := by decide +kernel
theorem dX6_makeRun_81 : decode cX6_makeRun 81 = .ok (.getfield 280, 3) := by decide +kernel
theorem dX6_makeRun_84 : decode cX6_makeRun 84 = .ok (.ifCond .ne 7, 3) := by decide +kernel
theorem dX6_makeRun_87 : decode cX6_makeRun 87 = .ok (.iconst 1, 1) := by decide +kernel
theorem dX6_makeRun_88 : decode cX6_makeRun 88 = .ok (.goto 4, 3) := by decide +kernel
theorem dX6_makeRun_91 : decode cX6_makeRun 91 = .ok (.iconst 0, 1) := by decide +kernel
theorem dX6_makeRun_92 : decode cX6_makeRun 92 = .ok (.ireturn, 1) := by decide +kernel
set_option maxRecDepth 20000 in
theorem ggX6_runAllInOrder_X2_unsetAll : GoodIn wsX6_runAllInOrder wsX2_unsetAll := goodIn_r _ [10, 11, 12, 13, 9, 14, 15, 16, 17, 18, 19, 115, 116] (by decide +kernel) (by decide +kernel)
set_option maxRecDepth 20000 in
theorem gX6_runAllInOrder_X2_unsetAll : GoodIn wsX6_runAllInOrder (wsV RX6 232 RX2 yX2_unsetAll wsX2_unsetAll) := goodIn_app (goodIn_of _ (by decide +kernel)) ggX6_runAllInOrder_X2_unsetAll
set_option maxRecDepth 20000 in
theorem ggX6_runAllInOrder_Jx4a65c_size_8abf5 : GoodIn wsX6_runAllInOrder wsJx4a65c_size_8abf5 := goodIn_r _ [24, 25, 117, 118, 119] (by decide +kernel) (by decide +kernel)
set_option maxRecDepth 20000 in
theorem gX6_runAllInOrder_Jx4a65c_size_8abf5 : GoodIn wsX6_runAllInOrder (wsV RX6 49 RJx4a65c yJx4a65c_size_8abf5 wsJx4a65c_size_8abf5) := goodIn_app (goodIn_of _ (by decide +kernel)) ggX6_runAllInOrder_Jx4a65c_size_8abf5
set_option maxRecDepth 20000 in
theorem ggX6_runAllInOrder_Jx4a65c_get_915e3 : GoodIn wsX6_runAllInOrder wsJx4a65c_get_915e3 := goodIn_r _ [29, 25, 30, 31, 32, 33, 34, 35, 36, 37, 38, 39, 40, 23, 41, 42, 117, 118, 119] (by decide +kernel) (by decide +kernel)
set_option maxRecDepth 20000 in
theorem gX6_runAllInOrder_Jx4a65c_get_915e3 : GoodIn wsX6_runAllInOrder (wsV RX6 125 RJx4a65c yJx4a65c_get_915e3 wsJx4a65c_get_915e3) := goodIn_app (goodIn_of _ (by decide +kernel)) ggX6_runAllInOrder_Jx4a65c_get_915e3
set_option maxRecDepth 20000 in
theorem ggX6_runAllInOrder_X0_perform : GoodIn wsX6_runAllInOrder wsX0_perform := goodIn_r _ [47, 48, 49, 50, 51, 52, 53, 54, 46, 55, 56, 57, 58, 59, 60, 61, 62, 9, 63, 64, 65, 66, 67, 15, 17, 18, 19, 68, 69, 70, 71, 16, 11, 12, 13, 14, 72, 21, 22, 23, 24, 25, 73, 27, 28, 29, 30, 31, 32, 33, 34, 35, 36, 37, 38, 39, 40, 41, 42, 74, 75, 76, 77, 78, 79, 80, 81, 82, 83, 84, 85, 86, 87, 88, 89, 90, 91, 92, 93, 94, 95, 96, 97, 98, 99, 100, 101, 102, 120, 121, 122, 123, 124, 125, 126, 115, 116, 117, 118, 119, 127, 128, 129, 130] (by decide +kernel) (by decide +kernel)
set_option maxRecDepth 20000 in
theorem gX6_runAllInOrder_X0_perform : GoodIn wsX6_runAllInOrder (wsV RX6 270 RX0 yX0_perform wsX0_perform) := goodIn_app (goodIn_of _ (by decide +kernel)) ggX6_runAllInOrder_X0_perform
theorem dX6_runAllInOrder_0 : decode cX6_runAllInOrder 0 = .ok (.aload_n 0, 1) := by decide +kernel
theorem dX6_runAllInOrder_1 : decode cX6_runAllInOrder 1 = .ok (.getfield 38, 3) := by decide +kernel
theorem dX6_runAllInOrder_4 : decode cX6_runAllInOrder 4 = .ok (.invokevirtual 232, 3) := by decide +kernel
theorem dX6_runAllInOrder_7 : decode cX6_runAllInOrder 7 = .ok (.iconst 0, 1) := by decide +kernel
theorem dX6_runAllInOrder_8 : decode cX6_runAllInOrder 8 = .ok (.istore_n 1, 1) := by decide +kernel
theorem dX6_runAllInOrder_9 : decode cX6_runAllInOrder 9 = .ok (.iload_n 1, 1) := by decide +kernel
theorem dX6_runAllInOrder_10 : decode cX6_runAllInOrder 10 = .ok (.aload_n 0, 1) := by decide +kernel
theorem dX6_runAllInOrder_11 : decode cX6_runAllInOrder 11 = .ok (.getfield 16, 3) := by decide +kernel
theorem dX6_runAllInOrder_14 : decode cX6_runAllInOrder 14 = .ok (.invokevirtual 49, 3) := by decide +kernel
theorem dX6_runAllInOrder_17 : decode cX6_runAllInOrder 17 = .ok (.if_icmp .ge 35, 3) := by decide +kernel
theorem dX6_runAllInOrder_20 : decode cX6_runAllInOrder 20 = .ok (.aload_n 0, 1) := by decide +kernel
theorem dX6_runAllInOrder_21 : decode cX6_runAllInOrder 21 = .ok (.getfield 45, 3) := by decide +kernel
theorem dX6_runAllInOrder_24 : decode cX6_runAllInOrder 24 = .ok (.aload_n 0, 1) := by decide +kernel
theorem dX6_runAllInOrder_25 : decode cX6_runAllInOrder 25 = .ok (.getfield 16, 3) := by decide +kernel
theorem dX6_runAllInOrder_28 : decode cX6_runAllInOrder 28 = .ok (.iload_n 1, 1) := by decide +kernel
theorem dX6_runAllInOrder_29 : decode cX6_runAllInOrder 29 = .ok (.invokevirtual 125, 3) := by decide +kernel
theorem dX6_runAllInOrder_32 : decode cX6_runAllInOrder 32 = .ok (.checkcast 60, 3) := by decide +kernel
theorem dX6_runAllInOrder_35 : decode cX6_runAllInOrder 35 = .ok (.getfield 94, 3) := by decide +kernel
theorem dX6_runAllInOrder_38 : decode cX6_runAllInOrder 38 = .ok (.aload_n 0, 1) := by decide +kernel
theorem dX6_runAllInOrder_39 : decode cX6_runAllInOrder 39 = .ok (.getfield 38, 3) := by decide +kernel
theorem dX6_runAllInOrder_42 : decode cX6_runAllInOrder 42 = .ok (.iconst 1, 1) := by decide +kernel
theorem dX6_runAllInOrder_43 : decode cX6_runAllInOrder 43 = .ok (.invokevirtual 270, 3) := by decide +kernel
theorem dX6_runAllInOrder_46 : decode cX6_runAllInOrder 46 = .ok (.iinc 1 1, 3) := by decide +kernel
theorem dX6_runAllInOrder_49 : decode cX6_runAllInOrder 49 = .ok (.goto (-40), 3) := by decide +kernel
theorem dX6_runAllInOrder_52 : decode cX6_runAllInOrder 52 = .ok (.return_, 1) := by decide +kernel
set_option maxRecDepth 20000 in
theorem ggX6_needsRun_X4_lastRunOf : GoodIn wsX6_needsRun wsX4_lastRunOf := goodIn_r _ [7, 8, 90, 91] (by decide +kernel) (by decide +kernel)
set_option maxRecDepth 20000 in
theorem gX6_needsRun_X4_lastRunOf : GoodIn wsX6_needsRun (wsV RX6 190 RX4 yX4_lastRunOf wsX4_lastRunOf) := goodIn_app (goodIn_of _ (by decide +kernel)) ggX6_needsRun_X4_lastRunOf
set_option maxRecDepth 20000 in
theorem ggX6_needsRun_X6_staleCells : GoodIn wsX6_needsRun wsX6_staleCells := goodIn_r _ [13, 14, 15, 16, 2, 17, 18, 19, 20, 21, 22, 23, 24, 25, 26, 27, 28, 29, 30, 31, 32, 33, 34, 35, 36, 37, 38, 39, 40, 41, 42, 12, 43, 1, 44, 3, 4, 5, 6, 7, 8, 45, 46, 47, 48, 49, 50, 51, 52, 53, 54, 55, 56, 57, 58, 59, 60, 61, 62, 63, 64, 65, 66, 67, 68, 69, 70, 71, 72, 73, 74, 75, 76, 77, 78, 79, 80, 81, 82, 83, 84, 85, 92, 93, 94, 95, 96, 97, 98, 86, 87, 88, 89, 99, 100, 101, 90, 91, 102, 103] (by decide +kernel) (by decide +kernel)
set_option maxRecDepth 20000 in
theorem gX6_needsRun_X6_staleCells : GoodIn wsX6_needsRun (wsV RX6 214 RX6 yX6_staleCells wsX6_staleCells) := goodIn_app (goodIn_of _ (by decide +kernel)) ggX6_needsRun_X6_staleCells
theorem dX6_needsRun_0 : decode cX6_needsRun 0 = .ok (.aload_n 0, 1) := by decide +kernel
theorem dX6_needsRun_1 : decode cX6_needsRun 1 = .ok (.getfield 31, 3) := by decide +kernel
theorem dX6_needsRun_4 : decode cX6_needsRun 4 = .ok (.aload_n 1, 1) := by decide +kernel
theorem dX6_needsRun_5 : decode cX6_needsRun 5 = .ok (.getfield 128, 3) := by decide +kernel
theorem dX6_needsRun_8 : decode cX6_needsRun 8 = .ok (.invokevirtual 190, 3) := by decide +kernel
theorem dX6_needsRun_11 : decode cX6_needsRun 11 = .ok (.ifCond .eq 18, 3) := by decide +kernel
theorem dX6_needsRun_14 : decode cX6_needsRun 14 = .ok (.aload_n 0, 1) := by decide +kernel
theorem dX6_needsRun_15 : decode cX6_needsRun 15 = .ok (.iconst (-1), 1) := by decide +kernel
theorem dX6_needsRun_16 : decode cX6_needsRun 16 = .ok (.invokevirtual 214, 3) := by decide +kernel
theorem dX6_needsRun_19 : decode cX6_needsRun 19 = .ok (.iconst 1, 1) := by decide +kernel
theorem dX6_needsRun_20 : decode cX6_needsRun 20 = .ok (.aload_n 1, 1) := by decide +kernel
theorem dX6_needsRun_21 : decode cX6_needsRun 21 = .ok (.getfield 128, 3) := by decide +kernel
theorem dX6_needsRun_24 : decode cX6_needsRun 24 = .ok (.ishl, 1) := by decide +kernel
theorem dX6_needsRun_25 : decode cX6_needsRun 25 = .ok (.iand, 1) := by decide +kernel
theorem dX6_needsRun_26 : decode cX6_needsRun 26 = .ok (.ifCond .eq 7, 3) := by decide +kernel
theorem dX6_needsRun_29 : decode cX6_needsRun 29 = .ok (.iconst 1, 1) := by decide +kernel
theorem dX6_needsRun_30 : decode cX6_needsRun 30 = .ok (.goto 4, 3) := by decide +kernel
theorem dX6_needsRun_33 : decode cX6_needsRun 33 = .ok (.iconst 0, 1) := by decide +kernel
theorem dX6_needsRun_34 : decode cX6_needsRun 34 = .ok (.ireturn, 1) := by decide +kernel
set_option maxRecDepth 20000 in
theorem ggX6_runNumbered_Jx4a65c_size_8abf5 : GoodIn wsX6_runNumbered wsJx4a65c_size_8abf5 := goodIn_r _ [7, 8, 34, 35, 36] (by decide +kernel) (by decide +kernel)
set_option maxRecDepth 20000 in
theorem gX6_runNumbered_Jx4a65c_size_8abf5 : GoodIn wsX6_runNumbered (wsV RX6 49 RJx4a65c yJx4a65c_size_8abf5 wsJx4a65c_size_8abf5) := goodIn_app (goodIn_of _ (by decide +kernel)) ggX6_runNumbered_Jx4a65c_size_8abf5
set_option maxRecDepth 20000 in
theorem ggX6_runNumbered_Jx4a65c_get_915e3 : GoodIn wsX6_runNumbered wsJx4a65c_get_915e3 := goodIn_r _ [12, 8, 13, 14, 15, 16, 17, 18, 19, 20, 21, 22, 23, 6, 24, 25, 34, 35, 36] (by decide +kernel) (by decide +kernel)
set_option maxRecDepth 20000 in
theorem gX6_runNumbered_Jx4a65c_get_915e3 : GoodIn wsX6_runNumbered (wsV RX6 125 RJx4a65c yJx4a65c_get_915e3 wsJx4a65c_get_915e3) := goodIn_app (goodIn_of _ (by decide +kernel)) ggX6_runNumbered_Jx4a65c_get_915e3
theorem dX6_runNumbered_0 : decode cX6_runNumbered 0 = .ok (.iload_n 1, 1) := by decide +kernel
theorem dX6_runNumbered_1 : decode cX6_runNumbered 1 = .ok (.iconst 1, 1) := by decide +kernel
theorem dX6_runNumbered_2 : decode cX6_runNumbered 2 = .ok (.if_icmp .lt 30, 3) := by decide +kernel
theorem dX6_runNumbered_5 : decode cX6_runNumbered 5 = .ok (.iload_n 1, 1) := by decide +kernel
theorem dX6_runNumbered_6 : decode cX6_runNumbered 6 = .ok (.aload_n 0, 1) := by decide +kernel
