theorem dX0_init_0 : decode cX0_init 0 = .ok (.aload_n 0, 1) := by decide +kernel
theorem dX0_init_1 : decode cX0_init 1 = .ok (.invokespecial 3, 3) := by decide +kernel
theorem dX0_init_4 : decode cX0_init 4 = .ok (.aload_n 0, 1) := by decide +kernel
theorem dX0_init_5 : decode cX0_init 5 = .ok (.new 9, 3) := by decide +kernel
theorem dX0_init_8 : decode cX0_init 8 = .ok (.dup, 1) := by decide +kernel
theorem dX0_init_9 : decode cX0_init 9 = .ok (.invokespecial 11, 3) := by decide +kernel
theorem dX0_init_12 : decode cX0_init 12 = .ok (.putfield 12, 3) := by decide +kernel
theorem dX0_init_15 : decode cX0_init 15 = .ok (.aload_n 0, 1) := by decide +kernel
theorem dX0_init_16 : decode cX0_init 16 = .ok (.bipush 8, 2) := by decide +kernel
theorem dX0_init_18 : decode cX0_init 18 = .ok (.newarray .int, 2) := by decide +kernel
theorem dX0_init_20 : decode cX0_init 20 = .ok (.putfield 18, 3) := by decide +kernel
theorem dX0_init_23 : decode cX0_init 23 = .ok (.return_, 1) := by decide +kernel
set_option maxRecDepth 20000 in
theorem ggX0_perform_X0_begin : GoodIn wsX0_perform wsX0_begin := goodIn_r _ [9, 1, 3, 10, 11, 12, 4, 13, 14, 15, 16, 17, 18, 19, 20, 21, 22, 23, 24, 25, 26, 27, 28, 29, 30, 31, 32, 33, 34, 35, 88, 89, 90, 91, 92, 93, 94, 95, 96] (by decide +kernel) (by decide +kernel)
set_option maxRecDepth 20000 in
theorem gX0_perform_X0_begin : GoodIn wsX0_perform (wsV RX0 22 RX0 yX0_begin wsX0_begin) := goodIn_app (goodIn_of _ (by decide +kernel)) ggX0_perform_X0_begin
set_option maxRecDepth 20000 in
theorem ggX0_perform_Jx4a65c_size_8abf5 : GoodIn wsX0_perform wsJx4a65c_size_8abf5 := goodIn_r _ [40, 41, 97, 98, 99] (by decide +kernel) (by decide +kernel)
set_option maxRecDepth 20000 in
theorem gX0_perform_Jx4a65c_size_8abf5 : GoodIn wsX0_perform (wsV RX0 26 RJx4a65c yJx4a65c_size_8abf5 wsJx4a65c_size_8abf5) := goodIn_app (goodIn_of _ (by decide +kernel)) ggX0_perform_Jx4a65c_size_8abf5
set_option maxRecDepth 20000 in
theorem ggX0_perform_Jx4a65c_get_915e3 : GoodIn wsX0_perform wsJx4a65c_get_915e3 := goodIn_r _ [45, 41, 46, 47, 48, 49, 50, 51, 52, 53, 54, 55, 56, 39, 57, 58, 97, 98, 99] (by decide +kernel) (by decide +kernel)
set_option maxRecDepth 20000 in
theorem gX0_perform_Jx4a65c_get_915e3 : GoodIn wsX0_perform (wsV RX0 36 RJx4a65c yJx4a65c_get_915e3 wsJx4a65c_get_915e3) := goodIn_app (goodIn_of _ (by decide +kernel)) ggX0_perform_Jx4a65c_get_915e3
set_option maxRecDepth 20000 in
theorem ggX0_perform_X0_performStatement : GoodIn wsX0_perform wsX0_performStatement := goodIn_r _ [62, 63, 64, 1, 10, 3, 4, 65, 12, 66, 67, 68, 8, 69, 11, 13, 24, 25, 26, 70, 28, 29, 17, 30, 31, 71, 72, 73, 74, 75, 76, 77, 78, 79, 20, 21, 22, 23, 80, 81, 82, 83, 84, 85, 86, 87, 33, 34, 35, 100, 101, 102, 103, 88, 89, 90, 91, 92, 93, 94, 95, 96] (by decide +kernel) (by decide +kernel)
set_option maxRecDepth 20000 in
theorem gX0_perform_X0_performStatement : GoodIn wsX0_perform (wsV RX0 42 RX0 yX0_performStatement wsX0_performStatement) := goodIn_app (goodIn_of _ (by decide +kernel)) ggX0_perform_X0_performStatement
set_option maxRecDepth 20000 in
theorem ggX0_perform_X2_becomeLike : GoodIn wsX0_perform wsX2_becomeLike := goodIn_r _ [18, 19, 20, 21, 17, 22, 23, 24, 25, 26, 27, 28, 29, 30, 31, 32, 33, 34, 35, 95, 96] (by decide +kernel) (by decide +kernel)
set_option maxRecDepth 20000 in
theorem gX0_perform_X2_becomeLike : GoodIn wsX0_perform (wsV RX0 49 RX2 yX2_becomeLike wsX2_becomeLike) := goodIn_app (goodIn_of _ (by decide +kernel)) ggX0_perform_X2_becomeLike
theorem dX0_perform_0 : decode cX0_perform 0 = .ok (.aload_n 0, 1) := by decide +kernel
theorem dX0_perform_1 : decode cX0_perform 1 = .ok (.aload_n 2, 1) := by decide +kernel
theorem dX0_perform_2 : decode cX0_perform 2 = .ok (.invokevirtual 22, 3) := by decide +kernel
theorem dX0_perform_5 : decode cX0_perform 5 = .ok (.iconst 0, 1) := by decide +kernel
theorem dX0_perform_6 : decode cX0_perform 6 = .ok (.istore 4, 2) := by decide +kernel
theorem dX0_perform_8 : decode cX0_perform 8 = .ok (.iload 4, 2) := by decide +kernel
theorem dX0_perform_10 : decode cX0_perform 10 = .ok (.aload_n 1, 1) := by decide +kernel
theorem dX0_perform_11 : decode cX0_perform 11 = .ok (.invokevirtual 26, 3) := by decide +kernel
theorem dX0_perform_14 : decode cX0_perform 14 = .ok (.if_icmp .ge 30, 3) := by decide +kernel
theorem dX0_perform_17 : decode cX0_perform 17 = .ok (.aload_n 0, 1) := by decide +kernel
theorem dX0_perform_18 : decode cX0_perform 18 = .ok (.getfield 32, 3) := by decide +kernel
theorem dX0_perform_21 : decode cX0_perform 21 = .ok (.ifCond .ne 23, 3) := by decide +kernel
theorem dX0_perform_24 : decode cX0_perform 24 = .ok (.aload_n 0, 1) := by decide +kernel
theorem dX0_perform_25 : decode cX0_perform 25 = .ok (.aload_n 1, 1) := by decide +kernel
theorem dX0_perform_26 : decode cX0_perform 26 = .ok (.iload 4, 2) := by decide +kernel
theorem dX0_perform_28 : decode cX0_perform 28 = .ok (.invokevirtual 36, 3) := by decide +kernel
theorem dX0_perform_31 : decode cX0_perform 31 = .ok (.checkcast 40, 3) := by decide +kernel
theorem dX0_perform_34 : decode cX0_perform 34 = .ok (.iload_n 3, 1) := by decide +kernel
theorem dX0_perform_35 : decode cX0_perform 35 = .ok (.invokevirtual 42, 3) := by decide +kernel
theorem dX0_perform_38 : decode cX0_perform 38 = .ok (.iinc 4 1, 3) := by decide +kernel
theorem dX0_perform_41 : decode cX0_perform 41 = .ok (.goto (-33), 3) := by decide +kernel
theorem dX0_perform_44 : decode cX0_perform 44 = .ok (.aload_n 0, 1) := by decide +kernel
theorem dX0_perform_45 : decode cX0_perform 45 = .ok (.getfield 32, 3) := by decide +kernel
theorem dX0_perform_48 : decode cX0_perform 48 = .ok (.ifCond .eq 11, 3) := by decide +kernel
theorem dX0_perform_51 : decode cX0_perform 51 = .ok (.aload_n 0, 1) := by decide +kernel
theorem dX0_perform_52 : decode cX0_perform 52 = .ok (.iconst 0, 1) := by decide +kernel
theorem dX0_perform_53 : decode cX0_perform 53 = .ok (.putfield 46, 3) := by decide +kernel
theorem dX0_perform_56 : decode cX0_perform 56 = .ok (.goto 11, 3) := by decide +kernel
theorem dX0_perform_59 : decode cX0_perform 59 = .ok (.aload_n 2, 1) := by decide +kernel
theorem dX0_perform_60 : decode cX0_perform 60 = .ok (.aload_n 0, 1) := by decide +kernel
theorem dX0_perform_61 : decode cX0_perform 61 = .ok (.getfield 12, 3) := by decide +kernel
theorem dX0_perform_64 : decode cX0_perform 64 = .ok (.invokevirtual 49, 3) := by decide +kernel
theorem dX0_perform_67 : decode cX0_perform 67 = .ok (.return_, 1) := by decide +kernel
set_option maxRecDepth 20000 in
theorem ggX0_stampSeen_X6_isName : GoodIn wsX0_stampSeen wsX6_isName := goodIn_r _ [4] (by decide +kernel) (by decide +kernel)
set_option maxRecDepth 20000 in
theorem gX0_stampSeen_X6_isName_n52 : GoodIn wsX0_stampSeen (wsX6_isName) := ggX0_stampSeen_X6_isName
theorem dX0_stampSeen_0 : decode cX0_stampSeen 0 = .ok (.iload_n 1, 1) := by decide +kernel
theorem dX0_stampSeen_1 : decode cX0_stampSeen 1 = .ok (.invokestatic 52, 3) := by decide +kernel
theorem dX0_stampSeen_4 : decode cX0_stampSeen 4 = .ok (.ifCond .eq 12, 3) := by decide +kernel
theorem dX0_stampSeen_7 : decode cX0_stampSeen 7 = .ok (.aload_n 0, 1) := by decide +kernel
theorem dX0_stampSeen_8 : decode cX0_stampSeen 8 = .ok (.getfield 18, 3) := by decide +kernel
theorem dX0_stampSeen_11 : decode cX0_stampSeen 11 = .ok (.iload_n 1, 1) := by decide +kernel
theorem dX0_stampSeen_12 : decode cX0_stampSeen 12 = .ok (.iaload, 1) := by decide +kernel
theorem dX0_stampSeen_13 : decode cX0_stampSeen 13 = .ok (.goto 4, 3) := by decide +kernel
theorem dX0_stampSeen_16 : decode cX0_stampSeen 16 = .ok (.iconst 0, 1) := by decide +kernel
theorem dX0_stampSeen_17 : decode cX0_stampSeen 17 = .ok (.ireturn, 1) := by decide +kernel
set_option maxRecDepth 20000 in
theorem ggX0_begin_X2_becomeLike : GoodIn wsX0_begin wsX2_becomeLike := goodIn_r _ [12, 13, 14, 15, 11, 16, 17, 18, 19, 20, 21, 22, 23, 24, 25, 26, 27, 28, 29, 37, 38] (by decide +kernel) (by decide +kernel)
set_option maxRecDepth 20000 in
theorem gX0_begin_X2_becomeLike : GoodIn wsX0_begin (wsV RX0 49 RX2 yX2_becomeLike wsX2_becomeLike) := goodIn_app (goodIn_of _ (by decide +kernel)) ggX0_begin_X2_becomeLike
theorem dX0_begin_0 : decode cX0_begin 0 = .ok (.aload_n 0, 1) := by decide +kernel
theorem dX0_begin_1 : decode cX0_begin 1 = .ok (.iconst 0, 1) := by decide +kernel
theorem dX0_begin_2 : decode cX0_begin 2 = .ok (.putfield 32, 3) := by decide +kernel
theorem dX0_begin_5 : decode cX0_begin 5 = .ok (.aload_n 0, 1) := by decide +kernel
theorem dX0_begin_6 : decode cX0_begin 6 = .ok (.iconst 0, 1) := by decide +kernel
theorem dX0_begin_7 : decode cX0_begin 7 = .ok (.putfield 46, 3) := by decide +kernel
theorem dX0_begin_10 : decode cX0_begin 10 = .ok (.aload_n 0, 1) := by decide +kernel
theorem dX0_begin_11 : decode cX0_begin 11 = .ok (.iconst 0, 1) := by decide +kernel
theorem dX0_begin_12 : decode cX0_begin 12 = .ok (.putfield 56, 3) := by decide +kernel
theorem dX0_begin_15 : decode cX0_begin 15 = .ok (.aload_n 0, 1) := by decide +kernel
theorem dX0_begin_16 : decode cX0_begin 16 = .ok (.iconst 0, 1) := by decide +kernel
theorem dX0_begin_17 : decode cX0_begin 17 = .ok (.putfield 60, 3) := by decide +kernel
theorem dX0_begin_20 : decode cX0_begin 20 = .ok (.aload_n 0, 1) := by decide +kernel
theorem dX0_begin_21 : decode cX0_begin 21 = .ok (.iconst 0, 1) := by decide +kernel
theorem dX0_begin_22 : decode cX0_begin 22 = .ok (.putfield 63, 3) := by decide +kernel
theorem dX0_begin_25 : decode cX0_begin 25 = .ok (.aload_n 0, 1) := by decide +kernel
theorem dX0_begin_26 : decode cX0_begin 26 = .ok (.getfield 12, 3) := by decide +kernel
theorem dX0_begin_29 : decode cX0_begin 29 = .ok (.aload_n 1, 1) := by decide +kernel
theorem dX0_begin_30 : decode cX0_begin 30 = .ok (.invokevirtual 49, 3) := by decide +kernel
theorem dX0_begin_33 : decode cX0_begin 33 = .ok (.iconst 0, 1) := by decide +kernel
theorem dX0_begin_34 : decode cX0_begin 34 = .ok (.istore_n 2, 1) := by decide +kernel
theorem dX0_begin_35 : decode cX0_begin 35 = .ok (.iload_n 2, 1) := by decide +kernel
theorem dX0_begin_36 : decode cX0_begin 36 = .ok (.bipush 8, 2) := by decide +kernel
theorem dX0_begin_38 : decode cX0_begin 38 = .ok (.if_icmp .ge 16, 3) := by decide +kernel
theorem dX0_begin_41 : decode cX0_begin 41 = .ok (.aload_n 0, 1) := by decide +kernel
theorem dX0_begin_42 : decode cX0_begin 42 = .ok (.getfield 18, 3) := by decide +kernel
theorem dX0_begin_45 : decode cX0_begin 45 = .ok (.iload_n 2, 1) := by decide +kernel
theorem dX0_begin_46 : decode cX0_begin 46 = .ok (.iconst 0, 1) := by decide +kernel
theorem dX0_begin_47 : decode cX0_begin 47 = .ok (.iastore, 1) := by decide +kernel
theorem dX0_begin_48 : decode cX0_begin 48 = .ok (.iinc 2 1, 3) := by decide +kernel
theorem dX0_begin_51 : decode cX0_begin 51 = .ok (.goto (-16), 3) := by decide +kernel
theorem dX0_begin_54 : decode cX0_begin 54 = .ok (.return_, 1) := by decide +kernel
set_option maxRecDepth 20000 in
theorem ggX0_performStatement_X0_read : GoodIn wsX0_performStatement wsX0_read := goodIn_r _ [13, 8, 14, 15, 6, 16, 17, 18, 19, 20, 21, 22, 23, 24, 25, 26, 27, 28, 53, 54, 55, 56, 57, 58, 59, 60, 61] (by decide +kernel) (by decide +kernel)
set_option maxRecDepth 20000 in
theorem gX0_performStatement_X0_read : GoodIn wsX0_performStatement (wsV RX0 69 RX0 yX0_read wsX0_read) := goodIn_app (goodIn_of _ (by decide +kernel)) ggX0_performStatement_X0_read
set_option maxRecDepth 20000 in
theorem ggX0_performStatement_X0_operandValue : GoodIn wsX0_performStatement wsX0_operandValue := goodIn_r _ [32, 6, 16, 17, 18, 33, 34, 35, 22, 36, 37, 53, 54, 55, 56, 57, 58, 59, 60, 61] (by decide +kernel) (by decide +kernel)
set_option maxRecDepth 20000 in
theorem gX0_performStatement_X0_operandValue : GoodIn wsX0_performStatement (wsV RX0 75 RX0 yX0_operandValue wsX0_operandValue) := goodIn_app (goodIn_of _ (by decide +kernel)) ggX0_performStatement_X0_operandValue
set_option maxRecDepth 20000 in
theorem ggX0_performStatement_X5_outcome : GoodIn wsX0_performStatement wsX5_outcome := goodIn_r _ [42, 43, 44, 49, 50, 51, 52] (by decide +kernel) (by decide +kernel)
set_option maxRecDepth 20000 in
theorem gX0_performStatement_X5_outcome : GoodIn wsX0_performStatement (wsV RX0 79 RX5 yX5_outcome wsX5_outcome) := goodIn_app (goodIn_of _ (by decide +kernel)) ggX0_performStatement_X5_outcome
set_option maxRecDepth 20000 in
theorem ggX0_performStatement_X2_assign : GoodIn wsX0_performStatement wsX2_assign := goodIn_r _ [48, 37, 24, 16, 17, 18, 60, 61] (by decide +kernel) (by decide +kernel)
set_option maxRecDepth 20000 in
theorem gX0_performStatement_X2_assign : GoodIn wsX0_performStatement (wsV RX0 85 RX2 yX2_assign wsX2_assign) := goodIn_app (goodIn_of _ (by decide +kernel)) ggX0_performStatement_X2_assign
theorem dX0_performStatement_0 : decode cX0_performStatement 0 = .ok (.aload_n 0, 1) := by decide +kernel
theorem dX0_performStatement_1 : decode cX0_performStatement 1 = .ok (.aload_n 1, 1) := by decide +kernel
theorem dX0_performStatement_2 : decode cX0_performStatement 2 = .ok (.getfield 66, 3) := by decide +kernel
theorem dX0_performStatement_5 : decode cX0_performStatement 5 = .ok (.invokevirtual 69, 3) := by decide +kernel
theorem dX0_performStatement_8 : decode cX0_performStatement 8 = .ok (.ifCond .eq 14, 3) := by decide +kernel
theorem dX0_performStatement_11 : decode cX0_performStatement 11 = .ok (.aload_n 0, 1) := by decide +kernel
theorem dX0_performStatement_12 : decode cX0_performStatement 12 = .ok (.aload_n 1, 1) := by decide +kernel
theorem dX0_performStatement_13 : decode cX0_performStatement 13 = .ok (.getfield 72, 3) := by decide +kernel
theorem dX0_performStatement_16 : decode cX0_performStatement 16 = .ok (.invokevirtual 69, 3) := by decide +kernel
theorem dX0_performStatement_19 : decode cX0_performStatement 19 = .ok (.ifCond .ne 9, 3) := by decide +kernel
theorem dX0_performStatement_22 : decode cX0_performStatement 22 = .ok (.aload_n 0, 1) := by decide +kernel
theorem dX0_performStatement_23 : decode cX0_performStatement 23 = .ok (.iconst 1, 1) := by decide +kernel
theorem dX0_performStatement_24 : decode cX0_performStatement 24 = .ok (.putfield 32, 3) := by decide +kernel
theorem dX0_performStatement_27 : decode cX0_performStatement 27 = .ok (.return_, 1) := by decide +kernel
theorem dX0_performStatement_28 : decode cX0_performStatement 28 = .ok (.aload_n 1, 1) := by decide +kernel
theorem dX0_performStatement_29 : decode cX0_performStatement 29 = .ok (.aload_n 0, 1) := by decide +kernel
theorem dX0_performStatement_30 : decode cX0_performStatement 30 = .ok (.aload_n 1, 1) := by decide +kernel
theorem dX0_performStatement_31 : decode cX0_performStatement 31 = .ok (.getfield 66, 3) := by decide +kernel
theorem dX0_performStatement_34 : decode cX0_performStatement 34 = .ok (.invokevirtual 75, 3) := by decide +kernel
theorem dX0_performStatement_37 : decode cX0_performStatement 37 = .ok (.i2l, 1) := by decide +kernel
theorem dX0_performStatement_38 : decode cX0_performStatement 38 = .ok (.aload_n 0, 1) := by decide +kernel
theorem dX0_performStatement_39 : decode cX0_performStatement 39 = .ok (.aload_n 1, 1) := by decide +kernel
theorem dX0_performStatement_40 : decode cX0_performStatement 40 = .ok (.getfield 72, 3) := by decide +kernel
theorem dX0_performStatement_43 : decode cX0_performStatement 43 = .ok (.invokevirtual 75, 3) := by decide +kernel
theorem dX0_performStatement_46 : decode cX0_performStatement 46 = .ok (.i2l, 1) := by decide +kernel
theorem dX0_performStatement_47 : decode cX0_performStatement 47 = .ok (.invokevirtual 79, 3) := by decide +kernel
theorem dX0_performStatement_50 : decode cX0_performStatement 50 = .ok (.lstore_n 3, 1) := by decide +kernel
theorem dX0_performStatement_51 : decode cX0_performStatement 51 = .ok (.lload_n 3, 1) := by decide +kernel
theorem dX0_performStatement_52 : decode cX0_performStatement 52 = .ok (.l2i, 1) := by decide +kernel
theorem dX0_performStatement_53 : decode cX0_performStatement 53 = .ok (.i2l, 1) := by decide +kernel
theorem dX0_performStatement_54 : decode cX0_performStatement 54 = .ok (.lload_n 3, 1) := by decide +kernel
theorem dX0_performStatement_55 : decode cX0_performStatement 55 = .ok (.lcmp, 1) := by decide +kernel
theorem dX0_performStatement_56 : decode cX0_performStatement 56 = .ok (.ifCond .eq 9, 3) := by decide +kernel
theorem dX0_performStatement_59 : decode cX0_performStatement 59 = .ok (.aload_n 0, 1) := by decide +kernel
theorem dX0_performStatement_60 : decode cX0_performStatement 60 = .ok (.iconst 1, 1) := by decide +kernel
theorem dX0_performStatement_61 : decode cX0_performStatement 61 = .ok (.putfield 32, 3) := by decide +kernel
theorem dX0_performStatement_64 : decode cX0_performStatement 64 = .ok (.return_, 1) := by decide +kernel
theorem dX0_performStatement_65 : decode cX0_performStatement 65 = .ok (.aload_n 0, 1) := by decide +kernel
theorem dX0_performStatement_66 : decode cX0_performStatement 66 = .ok (.lload_n 3, 1) := by decide +kernel
theorem dX0_performStatement_67 : decode cX0_performStatement 67 = .ok (.l2i, 1) := by decide +kernel
theorem dX0_performStatement_68 : decode cX0_performStatement 68 = .ok (.putfield 56, 3) := by decide +kernel
theorem dX0_performStatement_71 : decode cX0_performStatement 71 = .ok (.aload_n 0, 1) := by decide +kernel
theorem dX0_performStatement_72 : decode cX0_performStatement 72 = .ok (.iconst 1, 1) := by decide +kernel
theorem dX0_performStatement_73 : decode cX0_performStatement 73 = .ok (.putfield 46, 3) := by decide +kernel
theorem dX0_performStatement_76 : decode cX0_performStatement 76 = .ok (.aload_n 0, 1) := by decide +kernel
theorem dX0_performStatement_77 : decode cX0_performStatement 77 = .ok (.getfield 12, 3) := by decide +kernel
theorem dX0_performStatement_80 : decode cX0_performStatement 80 = .ok (.aload_n 1, 1) := by decide +kernel
theorem dX0_performStatement_81 : decode cX0_performStatement 81 = .ok (.getfield 82, 3) := by decide +kernel
theorem dX0_performStatement_84 : decode cX0_performStatement 84 = .ok (.aload_n 0, 1) := by decide +kernel
theorem dX0_performStatement_85 : decode cX0_performStatement 85 = .ok (.getfield 56, 3) := by decide +kernel
theorem dX0_performStatement_88 : decode cX0_performStatement 88 = .ok (.iload_n 2, 1) := by decide +kernel
theorem dX0_performStatement_89 : decode cX0_performStatement 89 = .ok (.invokevirtual 85, 3) := by decide +kernel
theorem dX0_performStatement_92 : decode cX0_performStatement 92 = .ok (.aload_n 0, 1) := by decide +kernel
theorem dX0_performStatement_93 : decode cX0_performStatement 93 = .ok (.dup, 1) := by decide +kernel
theorem dX0_performStatement_94 : decode cX0_performStatement 94 = .ok (.getfield 63, 3) := by decide +kernel
theorem dX0_performStatement_97 : decode cX0_performStatement 97 = .ok (.iconst 1, 1) := by decide +kernel
theorem dX0_performStatement_98 : decode cX0_performStatement 98 = .ok (.aload_n 1, 1) := by decide +kernel
theorem dX0_performStatement_99 : decode cX0_performStatement 99 = .ok (.getfield 82, 3) := by decide +kernel
theorem dX0_performStatement_102 : decode cX0_performStatement 102 = .ok (.ishl, 1) := by decide +kernel
theorem dX0_performStatement_103 : decode cX0_performStatement 103 = .ok (.ior, 1) := by decide +kernel
theorem dX0_performStatement_104 : decode cX0_performStatement 104 = .ok (.putfield 63, 3) := by decide +kernel
theorem dX0_performStatement_107 : decode cX0_performStatement 107 = .ok (.return_, 1) := by decide +kernel
set_option maxRecDepth 20000 in
theorem ggX0_read_X6_isName : GoodIn wsX0_read wsX6_isName := goodIn_r _ [7] (by decide +kernel) (by decide +kernel)
set_option maxRecDepth 20000 in
theorem gX0_read_X6_isName_n52 : GoodIn wsX0_read (wsX6_isName) := ggX0_read_X6_isName
set_option maxRecDepth 20000 in
theorem ggX0_read_X2_stampOf : GoodIn wsX0_read wsX2_stampOf := goodIn_r _ [12, 13, 5, 6, 7, 25, 26] (by decide +kernel) (by decide +kernel)
set_option maxRecDepth 20000 in
theorem gX0_read_X2_stampOf : GoodIn wsX0_read (wsV RX0 89 RX2 yX2_stampOf wsX2_stampOf) := goodIn_app (goodIn_of _ (by decide +kernel)) ggX0_read_X2_stampOf
set_option maxRecDepth 20000 in
theorem ggX0_read_X2_hold : GoodIn wsX0_read wsX2_hold := goodIn_r _ [17, 13, 5, 6, 7, 25, 26] (by decide +kernel) (by decide +kernel)
set_option maxRecDepth 20000 in
theorem gX0_read_X2_hold : GoodIn wsX0_read (wsV RX0 92 RX2 yX2_hold wsX2_hold) := goodIn_app (goodIn_of _ (by decide +kernel)) ggX0_read_X2_hold
theorem dX0_read_0 : decode cX0_read 0 = .ok (.iload_n 1, 1) := by decide +kernel
theorem dX0_read_1 : decode cX0_read 1 = .ok (.invokestatic 52, 3) := by decide +kernel
theorem dX0_read_4 : decode cX0_read 4 = .ok (.ifCond .ne 5, 3) := by decide +kernel
theorem dX0_read_7 : decode cX0_read 7 = .ok (.iconst 1, 1) := by decide +kernel
theorem dX0_read_8 : decode cX0_read 8 = .ok (.ireturn, 1) := by decide +kernel
theorem dX0_read_9 : decode cX0_read 9 = .ok (.aload_n 0, 1) := by decide +kernel
theorem dX0_read_10 : decode cX0_read 10 = .ok (.getfield 63, 3) := by decide +kernel
theorem dX0_read_13 : decode cX0_read 13 = .ok (.iconst 1, 1) := by decide +kernel
theorem dX0_read_14 : decode cX0_read 14 = .ok (.iload_n 1, 1) := by decide +kernel
theorem dX0_read_15 : decode cX0_read 15 = .ok (.ishl, 1) := by decide +kernel
theorem dX0_read_16 : decode cX0_read 16 = .ok (.iand, 1) := by decide +kernel
theorem dX0_read_17 : decode cX0_read 17 = .ok (.ifCond .ne 29, 3) := by decide +kernel
theorem dX0_read_20 : decode cX0_read 20 = .ok (.aload_n 0, 1) := by decide +kernel
theorem dX0_read_21 : decode cX0_read 21 = .ok (.dup, 1) := by decide +kernel
theorem dX0_read_22 : decode cX0_read 22 = .ok (.getfield 60, 3) := by decide +kernel
theorem dX0_read_25 : decode cX0_read 25 = .ok (.iconst 1, 1) := by decide +kernel
theorem dX0_read_26 : decode cX0_read 26 = .ok (.iload_n 1, 1) := by decide +kernel
theorem dX0_read_27 : decode cX0_read 27 = .ok (.ishl, 1) := by decide +kernel
theorem dX0_read_28 : decode cX0_read 28 = .ok (.ior, 1) := by decide +kernel
theorem dX0_read_29 : decode cX0_read 29 = .ok (.putfield 60, 3) := by decide +kernel
theorem dX0_read_32 : decode cX0_read 32 = .ok (.aload_n 0, 1) := by decide +kernel
theorem dX0_read_33 : decode cX0_read 33 = .ok (.getfield 18, 3) := by decide +kernel
theorem dX0_read_36 : decode cX0_read 36 = .ok (.iload_n 1, 1) := by decide +kernel
theorem dX0_read_37 : decode cX0_read 37 = .ok (.aload_n 0, 1) := by decide +kernel
theorem dX0_read_38 : decode cX0_read 38 = .ok (.getfield 12, 3) := by decide +kernel
theorem dX0_read_41 : decode cX0_read 41 = .ok (.iload_n 1, 1) := by decide +kernel
theorem dX0_read_42 : decode cX0_read 42 = .ok (.invokevirtual 89, 3) := by decide +kernel
theorem dX0_read_45 : decode cX0_read 45 = .ok (.iastore, 1) := by decide +kernel
theorem dX0_read_46 : decode cX0_read 46 = .ok (.aload_n 0, 1) := by decide +kernel
theorem dX0_read_47 : decode cX0_read 47 = .ok (.getfield 12, 3) := by decide +kernel
theorem dX0_read_50 : decode cX0_read 50 = .ok (.iload_n 1, 1) := by decide +kernel
theorem dX0_read_51 : decode cX0_read 51 = .ok (.invokevirtual 92, 3) := by decide +kernel
theorem dX0_read_54 : decode cX0_read 54 = .ok (.ireturn, 1) := by decide +kernel
set_option maxRecDepth 20000 in
theorem ggX0_operandValue_X6_isName : GoodIn wsX0_operandValue wsX6_isName := goodIn_r _ [4] (by decide +kernel) (by decide +kernel)
set_option maxRecDepth 20000 in
theorem gX0_operandValue_X6_isName_n52 : GoodIn wsX0_operandValue (wsX6_isName) := ggX0_operandValue_X6_isName
set_option maxRecDepth 20000 in
theorem ggX0_operandValue_X2_valueOf : GoodIn wsX0_operandValue wsX2_valueOf := goodIn_r _ [9, 10, 2, 3, 4, 18, 19] (by decide +kernel) (by decide +kernel)
set_option maxRecDepth 20000 in
theorem gX0_operandValue_X2_valueOf : GoodIn wsX0_operandValue (wsV RX0 95 RX2 yX2_valueOf wsX2_valueOf) := goodIn_app (goodIn_of _ (by decide +kernel)) ggX0_operandValue_X2_valueOf
theorem dX0_operandValue_0 : decode cX0_operandValue 0 = .ok (.iload_n 1, 1) := by decide +kernel
theorem dX0_operandValue_1 : decode cX0_operandValue 1 = .ok (.invokestatic 52, 3) := by decide +kernel
theorem dX0_operandValue_4 : decode cX0_operandValue 4 = .ok (.ifCond .eq 14, 3) := by decide +kernel
theorem dX0_operandValue_7 : decode cX0_operandValue 7 = .ok (.aload_n 0, 1) := by decide +kernel
theorem dX0_operandValue_8 : decode cX0_operandValue 8 = .ok (.getfield 12, 3) := by decide +kernel
theorem dX0_operandValue_11 : decode cX0_operandValue 11 = .ok (.iload_n 1, 1) := by decide +kernel
theorem dX0_operandValue_12 : decode cX0_operandValue 12 = .ok (.invokevirtual 95, 3) := by decide +kernel
theorem dX0_operandValue_15 : decode cX0_operandValue 15 = .ok (.goto 8, 3) := by decide +kernel
theorem dX0_operandValue_18 : decode cX0_operandValue 18 = .ok (.iload_n 1, 1) := by decide +kernel
theorem dX0_operandValue_19 : decode cX0_operandValue 19 = .ok (.sipush 600, 3) := by decide +kernel
theorem dX0_operandValue_22 : decode cX0_operandValue 22 = .ok (.isub, 1) := by decide +kernel
theorem dX0_operandValue_23 : decode cX0_operandValue 23 = .ok (.ireturn, 1) := by decide +kernel
set_option maxRecDepth 20000 in
theorem ggX1_init_Jx4a65c_init_da8c8 : GoodIn wsX1_init wsJx4a65c_init_da8c8 := goodIn_r _ [14, 15, 16, 17, 18, 19, 20, 21, 22, 23, 24, 25, 26, 2, 3, 27, 28, 29] (by decide +kernel) (by decide +kernel)
set_option maxRecDepth 20000 in
theorem gX1_init_Jx4a65c_init_da8c8 : GoodIn wsX1_init (wsJx4a65c_init_da8c8) := ggX1_init_Jx4a65c_init_da8c8
theorem dX1_init_0 : decode cX1_init 0 = .ok (.aload_n 0, 1) := by decide +kernel
theorem dX1_init_1 : decode cX1_init 1 = .ok (.invokespecial 3, 3) := by decide +kernel
theorem dX1_init_4 : decode cX1_init 4 = .ok (.aload_n 0, 1) := by decide +kernel
theorem dX1_init_5 : decode cX1_init 5 = .ok (.new 9, 3) := by decide +kernel
theorem dX1_init_8 : decode cX1_init 8 = .ok (.dup, 1) := by decide +kernel
theorem dX1_init_9 : decode cX1_init 9 = .ok (.invokespecial 11, 3) := by decide +kernel
theorem dX1_init_12 : decode cX1_init 12 = .ok (.putfield 12, 3) := by decide +kernel
theorem dX1_init_15 : decode cX1_init 15 = .ok (.aload_n 0, 1) := by decide +kernel
theorem dX1_init_16 : decode cX1_init 16 = .ok (.iconst 0, 1) := by decide +kernel
theorem dX1_init_17 : decode cX1_init 17 = .ok (.putfield 18, 3) := by decide +kernel
theorem dX1_init_20 : decode cX1_init 20 = .ok (.aload_n 0, 1) := by decide +kernel
theorem dX1_init_21 : decode cX1_init 21 = .ok (.iconst 5, 1) := by decide +kernel
theorem dX1_init_22 : decode cX1_init 22 = .ok (.newarray .int, 2) := by decide +kernel
theorem dX1_init_24 : decode cX1_init 24 = .ok (.putfield 22, 3) := by decide +kernel
theorem dX1_init_27 : decode cX1_init 27 = .ok (.aload_n 0, 1) := by decide +kernel
theorem dX1_init_28 : decode cX1_init 28 = .ok (.iload_n 1, 1) := by decide +kernel
theorem dX1_init_29 : decode cX1_init 29 = .ok (.putfield 26, 3) := by decide +kernel
theorem dX1_init_32 : decode cX1_init 32 = .ok (.aload_n 0, 1) := by decide +kernel
theorem dX1_init_33 : decode cX1_init 33 = .ok (.getfield 22, 3) := by decide +kernel
theorem dX1_init_36 : decode cX1_init 36 = .ok (.iconst 0, 1) := by decide +kernel
theorem dX1_init_37 : decode cX1_init 37 = .ok (.iconst 3, 1) := by decide +kernel
theorem dX1_init_38 : decode cX1_init 38 = .ok (.iastore, 1) := by decide +kernel
theorem dX1_init_39 : decode cX1_init 39 = .ok (.return_, 1) := by decide +kernel
theorem dX1_rightOf_0 : decode cX1_rightOf 0 = .ok (.iload_n 1, 1) := by decide +kernel
theorem dX1_rightOf_1 : decode cX1_rightOf 1 = .ok (.ifCond .lt 21, 3) := by decide +kernel
theorem dX1_rightOf_4 : decode cX1_rightOf 4 = .ok (.iload_n 1, 1) := by decide +kernel
theorem dX1_rightOf_5 : decode cX1_rightOf 5 = .ok (.aload_n 0, 1) := by decide +kernel
theorem dX1_rightOf_6 : decode cX1_rightOf 6 = .ok (.getfield 22, 3) := by decide +kernel
theorem dX1_rightOf_9 : decode cX1_rightOf 9 = .ok (.arraylength, 1) := by decide +kernel
theorem dX1_rightOf_10 : decode cX1_rightOf 10 = .ok (.if_icmp .ge 12, 3) := by decide +kernel
theorem dX1_rightOf_13 : decode cX1_rightOf 13 = .ok (.aload_n 0, 1) := by decide +kernel
theorem dX1_rightOf_14 : decode cX1_rightOf 14 = .ok (.getfield 22, 3) := by decide +kernel
theorem dX1_rightOf_17 : decode cX1_rightOf 17 = .ok (.iload_n 1, 1) := by decide +kernel
theorem dX1_rightOf_18 : decode cX1_rightOf 18 = .ok (.iaload, 1) := by decide +kernel
theorem dX1_rightOf_19 : decode cX1_rightOf 19 = .ok (.goto 4, 3) := by decide +kernel
theorem dX1_rightOf_22 : decode cX1_rightOf 22 = .ok (.iconst 0, 1) := by decide +kernel
theorem dX1_rightOf_23 : decode cX1_rightOf 23 = .ok (.ireturn, 1) := by decide +kernel
theorem dX1_giveRight_0 : decode cX1_giveRight 0 = .ok (.iload_n 1, 1) := by decide +kernel
theorem dX1_giveRight_1 : decode cX1_giveRight 1 = .ok (.ifCond .lt 19, 3) := by decide +kernel
theorem dX1_giveRight_4 : decode cX1_giveRight 4 = .ok (.iload_n 1, 1) := by decide +kernel
theorem dX1_giveRight_5 : decode cX1_giveRight 5 = .ok (.aload_n 0, 1) := by decide +kernel
theorem dX1_giveRight_6 : decode cX1_giveRight 6 = .ok (.getfield 22, 3) := by decide +kernel
theorem dX1_giveRight_9 : decode cX1_giveRight 9 = .ok (.arraylength, 1) := by decide +kernel
theorem dX1_giveRight_10 : decode cX1_giveRight 10 = .ok (.if_icmp .ge 10, 3) := by decide +kernel
theorem dX1_giveRight_13 : decode cX1_giveRight 13 = .ok (.aload_n 0, 1) := by decide +kernel
theorem dX1_giveRight_14 : decode cX1_giveRight 14 = .ok (.getfield 22, 3) := by decide +kernel
theorem dX1_giveRight_17 : decode cX1_giveRight 17 = .ok (.iload_n 1, 1) := by decide +kernel
theorem dX1_giveRight_18 : decode cX1_giveRight 18 = .ok (.iload_n 2, 1) := by decide +kernel
theorem dX1_giveRight_19 : decode cX1_giveRight 19 = .ok (.iastore, 1) := by decide +kernel
theorem dX1_giveRight_20 : decode cX1_giveRight 20 = .ok (.return_, 1) := by decide +kernel
set_option maxRecDepth 20000 in
theorem ggX1_allows_X1_rightOf : GoodIn wsX1_allows wsX1_rightOf := goodIn_r _ [5, 6, 7, 8, 9, 10] (by decide +kernel) (by decide +kernel)
set_option maxRecDepth 20000 in
theorem gX1_allows_X1_rightOf : GoodIn wsX1_allows (wsV RX1 29 RX1 yX1_rightOf wsX1_rightOf) := goodIn_app (goodIn_of _ (by decide +kernel)) ggX1_allows_X1_rightOf
theorem dX1_allows_0 : decode cX1_allows 0 = .ok (.aload_n 0, 1) := by decide +kernel
theorem dX1_allows_1 : decode cX1_allows 1 = .ok (.iload_n 1, 1) := by decide +kernel
theorem dX1_allows_2 : decode cX1_allows 2 = .ok (.invokevirtual 29, 3) := by decide +kernel
theorem dX1_allows_5 : decode cX1_allows 5 = .ok (.iload_n 2, 1) := by decide +kernel
theorem dX1_allows_6 : decode cX1_allows 6 = .ok (.if_icmp .lt 7, 3) := by decide +kernel
theorem dX1_allows_9 : decode cX1_allows 9 = .ok (.iconst 1, 1) := by decide +kernel
theorem dX1_allows_10 : decode cX1_allows 10 = .ok (.goto 4, 3) := by decide +kernel
theorem dX1_allows_13 : decode cX1_allows 13 = .ok (.iconst 0, 1) := by decide +kernel
theorem dX1_allows_14 : decode cX1_allows 14 = .ok (.ireturn, 1) := by decide +kernel
set_option maxRecDepth 20000 in
theorem ggX1_writtenOut_J4_init_da8c8 : GoodIn wsX1_writtenOut wsJ4_init_da8c8 := goodIn_r _ [8, 9, 10, 11, 12, 13, 14, 15, 16, 17, 18, 19, 20, 21, 22, 23, 24, 25, 26, 27, 207, 208, 209, 210] (by decide +kernel) (by decide +kernel)
set_option maxRecDepth 20000 in
theorem gX1_writtenOut_J4_init_da8c8 : GoodIn wsX1_writtenOut (wsJ4_init_da8c8) := ggX1_writtenOut_J4_init_da8c8
set_option maxRecDepth 20000 in
theorem ggX1_writtenOut_Jx4a65c_size_8abf5 : GoodIn wsX1_writtenOut wsJx4a65c_size_8abf5 := goodIn_r _ [32, 33, 215, 216, 217] (by decide +kernel) (by decide +kernel)
set_option maxRecDepth 20000 in
theorem gX1_writtenOut_Jx4a65c_size_8abf5 : GoodIn wsX1_writtenOut (wsV RX1 36 RJx4a65c yJx4a65c_size_8abf5 wsJx4a65c_size_8abf5) := goodIn_app (goodIn_of _ (by decide +kernel)) ggX1_writtenOut_Jx4a65c_size_8abf5
set_option maxRecDepth 20000 in
theorem ggX1_writtenOut_Jx4a65c_get_915e3 : GoodIn wsX1_writtenOut wsJx4a65c_get_915e3 := goodIn_r _ [37, 33, 38, 39, 40, 41, 42, 43, 44, 45, 46, 47, 48, 31, 49, 50, 215, 216, 217] (by decide +kernel) (by decide +kernel)
set_option maxRecDepth 20000 in
theorem gX1_writtenOut_Jx4a65c_get_915e3 : GoodIn wsX1_writtenOut (wsV RX1 40 RJx4a65c yJx4a65c_get_915e3 wsJx4a65c_get_915e3) := goodIn_app (goodIn_of _ (by decide +kernel)) ggX1_writtenOut_Jx4a65c_get_915e3
set_option maxRecDepth 20000 in
theorem ggX1_writtenOut_X5_writeTo : GoodIn wsX1_writtenOut wsX5_writeTo := goodIn_r _ [55, 56, 57, 58, 59, 60, 54, 61, 62, 63, 64, 3, 65, 66, 67, 68, 69, 11, 70, 71, 18, 72, 73, 74, 75, 76, 19, 77, 78, 79, 80, 81, 82, 83, 84, 85, 86, 87, 88, 89, 90, 91, 92, 93, 94, 95, 96, 97, 98, 99, 100, 101, 102, 103, 104, 17, 105, 106, 107, 108, 109, 110, 111, 112, 113, 114, 115, 116, 16, 117, 118, 119, 120, 121, 122, 123, 124, 125, 20, 21, 22, 23, 24, 25, 26, 27, 126, 127, 128, 129, 130, 131, 132, 133, 134, 135, 136, 137, 138, 139, 140, 141, 142, 143, 144, 44, 145, 146, 147, 148, 149, 150, 151, 152, 153, 154, 155, 156, 157, 158, 159, 160, 161, 43, 45, 162, 163, 164, 165, 166, 167, 168, 169, 170, 171, 172, 173, 174, 175, 176, 177, 178, 179, 180, 181, 182, 183, 184, 185, 186, 187, 188, 189, 190, 191, 192, 193, 194, 195, 196, 197, 198, 199, 200, 201, 202, 203, 204, 205, 206, 218, 219, 220, 221, 207, 208, 209, 210] (by decide +kernel) (by decide +kernel)
set_option maxRecDepth 20000 in
theorem gX1_writtenOut_X5_writeTo : GoodIn wsX1_writtenOut (wsV RX1 46 RX5 yX5_writeTo wsX5_writeTo) := goodIn_app (goodIn_of _ (by decide +kernel)) ggX1_writtenOut_X5_writeTo
theorem dX1_writtenOut_0 : decode cX1_writtenOut 0 = .ok (.new 33, 3) := by decide +kernel
theorem dX1_writtenOut_3 : decode cX1_writtenOut 3 = .ok (.dup, 1) := by decide +kernel
theorem dX1_writtenOut_4 : decode cX1_writtenOut 4 = .ok (.invokespecial 35, 3) := by decide +kernel
theorem dX1_writtenOut_7 : decode cX1_writtenOut 7 = .ok (.astore_n 1, 1) := by decide +kernel
theorem dX1_writtenOut_8 : decode cX1_writtenOut 8 = .ok (.iconst 0, 1) := by decide +kernel
theorem dX1_writtenOut_9 : decode cX1_writtenOut 9 = .ok (.istore_n 2, 1) := by decide +kernel
theorem dX1_writtenOut_10 : decode cX1_writtenOut 10 = .ok (.iload_n 2, 1) := by decide +kernel
theorem dX1_writtenOut_11 : decode cX1_writtenOut 11 = .ok (.aload_n 0, 1) := by decide +kernel
theorem dX1_writtenOut_12 : decode cX1_writtenOut 12 = .ok (.getfield 12, 3) := by decide +kernel
theorem dX1_writtenOut_15 : decode cX1_writtenOut 15 = .ok (.invokevirtual 36, 3) := by decide +kernel
theorem dX1_writtenOut_18 : decode cX1_writtenOut 18 = .ok (.if_icmp .ge 24, 3) := by decide +kernel
theorem dX1_writtenOut_21 : decode cX1_writtenOut 21 = .ok (.aload_n 0, 1) := by decide +kernel
theorem dX1_writtenOut_22 : decode cX1_writtenOut 22 = .ok (.getfield 12, 3) := by decide +kernel
theorem dX1_writtenOut_25 : decode cX1_writtenOut 25 = .ok (.iload_n 2, 1) := by decide +kernel
theorem dX1_writtenOut_26 : decode cX1_writtenOut 26 = .ok (.invokevirtual 40, 3) := by decide +kernel
theorem dX1_writtenOut_29 : decode cX1_writtenOut 29 = .ok (.checkcast 44, 3) := by decide +kernel
theorem dX1_writtenOut_32 : decode cX1_writtenOut 32 = .ok (.aload_n 1, 1) := by decide +kernel
theorem dX1_writtenOut_33 : decode cX1_writtenOut 33 = .ok (.invokevirtual 46, 3) := by decide +kernel
theorem dX1_writtenOut_36 : decode cX1_writtenOut 36 = .ok (.iinc 2 1, 3) := by decide +kernel
theorem dX1_writtenOut_39 : decode cX1_writtenOut 39 = .ok (.goto (-29), 3) := by decide +kernel
theorem dX1_writtenOut_42 : decode cX1_writtenOut 42 = .ok (.aload_n 1, 1) := by decide +kernel
theorem dX1_writtenOut_43 : decode cX1_writtenOut 43 = .ok (.areturn, 1) := by decide +kernel
theorem dX2_init_0 : decode cX2_init 0 = .ok (.aload_n 0, 1) := by decide +kernel
theorem dX2_init_1 : decode cX2_init 1 = .ok (.invokespecial 3, 3) := by decide +kernel
theorem dX2_init_4 : decode cX2_init 4 = .ok (.aload_n 0, 1) := by decide +kernel
theorem dX2_init_5 : decode cX2_init 5 = .ok (.bipush 8, 2) := by decide +kernel
theorem dX2_init_7 : decode cX2_init 7 = .ok (.newarray .int, 2) := by decide +kernel
theorem dX2_init_9 : decode cX2_init 9 = .ok (.putfield 9, 3) := by decide +kernel
theorem dX2_init_12 : decode cX2_init 12 = .ok (.aload_n 0, 1) := by decide +kernel
theorem dX2_init_13 : decode cX2_init 13 = .ok (.bipush 8, 2) := by decide +kernel
theorem dX2_init_15 : decode cX2_init 15 = .ok (.newarray .int, 2) := by decide +kernel
theorem dX2_init_17 : decode cX2_init 17 = .ok (.putfield 15, 3) := by decide +kernel
theorem dX2_init_20 : decode cX2_init 20 = .ok (.return_, 1) := by decide +kernel
set_option maxRecDepth 20000 in
theorem ggX2_hold_X6_isName : GoodIn wsX2_hold wsX6_isName := goodIn_r _ [4] (by decide +kernel) (by decide +kernel)
set_option maxRecDepth 20000 in
theorem gX2_hold_X6_isName_n18 : GoodIn wsX2_hold (wsX6_isName) := ggX2_hold_X6_isName
theorem dX2_hold_0 : decode cX2_hold 0 = .ok (.iload_n 1, 1) := by decide +kernel
theorem dX2_hold_1 : decode cX2_hold 1 = .ok (.invokestatic 18, 3) := by decide +kernel
theorem dX2_hold_4 : decode cX2_hold 4 = .ok (.ifCond .eq 16, 3) := by decide +kernel
theorem dX2_hold_7 : decode cX2_hold 7 = .ok (.aload_n 0, 1) := by decide +kernel
theorem dX2_hold_8 : decode cX2_hold 8 = .ok (.getfield 15, 3) := by decide +kernel
theorem dX2_hold_11 : decode cX2_hold 11 = .ok (.iload_n 1, 1) := by decide +kernel
theorem dX2_hold_12 : decode cX2_hold 12 = .ok (.iaload, 1) := by decide +kernel
theorem dX2_hold_13 : decode cX2_hold 13 = .ok (.ifCond .eq 7, 3) := by decide +kernel
theorem dX2_hold_16 : decode cX2_hold 16 = .ok (.iconst 1, 1) := by decide +kernel
theorem dX2_hold_17 : decode cX2_hold 17 = .ok (.goto 4, 3) := by decide +kernel
theorem dX2_hold_20 : decode cX2_hold 20 = .ok (.iconst 0, 1) := by decide +kernel
theorem dX2_hold_21 : decode cX2_hold 21 = .ok (.ireturn, 1) := by decide +kernel
set_option maxRecDepth 20000 in
theorem ggX2_valueOf_X6_isName : GoodIn wsX2_valueOf wsX6_isName := goodIn_r _ [4] (by decide +kernel) (by decide +kernel)
set_option maxRecDepth 20000 in
theorem gX2_valueOf_X6_isName_n18 : GoodIn wsX2_valueOf (wsX6_isName) := ggX2_valueOf_X6_isName
theorem dX2_valueOf_0 : decode cX2_valueOf 0 = .ok (.iload_n 1, 1) := by decide +kernel
theorem dX2_valueOf_1 : decode cX2_valueOf 1 = .ok (.invokestatic 18, 3) := by decide +kernel
theorem dX2_valueOf_4 : decode cX2_valueOf 4 = .ok (.ifCond .eq 12, 3) := by decide +kernel
theorem dX2_valueOf_7 : decode cX2_valueOf 7 = .ok (.aload_n 0, 1) := by decide +kernel
theorem dX2_valueOf_8 : decode cX2_valueOf 8 = .ok (.getfield 9, 3) := by decide +kernel
theorem dX2_valueOf_11 : decode cX2_valueOf 11 = .ok (.iload_n 1, 1) := by decide +kernel
theorem dX2_valueOf_12 : decode cX2_valueOf 12 = .ok (.iaload, 1) := by decide +kernel
theorem dX2_valueOf_13 : decode cX2_valueOf 13 = .ok (.goto 4, 3) := by decide +kernel
theorem dX2_valueOf_16 : decode cX2_valueOf 16 = .ok (.iconst 0, 1) := by decide +kernel
theorem dX2_valueOf_17 : decode cX2_valueOf 17 = .ok (.ireturn, 1) := by decide +kernel
set_option maxRecDepth 20000 in
theorem ggX2_stampOf_X6_isName : GoodIn wsX2_stampOf wsX6_isName := goodIn_r _ [4] (by decide +kernel) (by decide +kernel)
set_option maxRecDepth 20000 in
theorem gX2_stampOf_X6_isName_n18 : GoodIn wsX2_stampOf (wsX6_isName) := ggX2_stampOf_X6_isName
theorem dX2_stampOf_0 : decode cX2_stampOf 0 = .ok (.iload_n 1, 1) := by decide +kernel
theorem dX2_stampOf_1 : decode cX2_stampOf 1 = .ok (.invokestatic 18, 3) := by decide +kernel
theorem dX2_stampOf_4 : decode cX2_stampOf 4 = .ok (.ifCond .eq 12, 3) := by decide +kernel
theorem dX2_stampOf_7 : decode cX2_stampOf 7 = .ok (.aload_n 0, 1) := by decide +kernel
theorem dX2_stampOf_8 : decode cX2_stampOf 8 = .ok (.getfield 15, 3) := by decide +kernel
theorem dX2_stampOf_11 : decode cX2_stampOf 11 = .ok (.iload_n 1, 1) := by decide +kernel
theorem dX2_stampOf_12 : decode cX2_stampOf 12 = .ok (.iaload, 1) := by decide +kernel
theorem dX2_stampOf_13 : decode cX2_stampOf 13 = .ok (.goto 4, 3) := by decide +kernel
theorem dX2_stampOf_16 : decode cX2_stampOf 16 = .ok (.iconst 0, 1) := by decide +kernel
theorem dX2_stampOf_17 : decode cX2_stampOf 17 = .ok (.ireturn, 1) := by decide +kernel
set_option maxRecDepth 20000 in
theorem ggX2_assign_X6_isName : GoodIn wsX2_assign wsX6_isName := goodIn_r _ [5] (by decide +kernel) (by decide +kernel)
set_option maxRecDepth 20000 in
theorem gX2_assign_X6_isName_n18 : GoodIn wsX2_assign (wsX6_isName) := ggX2_assign_X6_isName
theorem dX2_assign_0 : decode cX2_assign 0 = .ok (.iload_n 1, 1) := by decide +kernel
theorem dX2_assign_1 : decode cX2_assign 1 = .ok (.invokestatic 18, 3) := by decide +kernel
theorem dX2_assign_4 : decode cX2_assign 4 = .ok (.ifCond .eq 17, 3) := by decide +kernel
theorem dX2_assign_7 : decode cX2_assign 7 = .ok (.aload_n 0, 1) := by decide +kernel
theorem dX2_assign_8 : decode cX2_assign 8 = .ok (.getfield 9, 3) := by decide +kernel
theorem dX2_assign_11 : decode cX2_assign 11 = .ok (.iload_n 1, 1) := by decide +kernel
theorem dX2_assign_12 : decode cX2_assign 12 = .ok (.iload_n 2, 1) := by decide +kernel
theorem dX2_assign_13 : decode cX2_assign 13 = .ok (.iastore, 1) := by decide +kernel
theorem dX2_assign_14 : decode cX2_assign 14 = .ok (.aload_n 0, 1) := by decide +kernel
theorem dX2_assign_15 : decode cX2_assign 15 = .ok (.getfield 15, 3) := by decide +kernel
theorem dX2_assign_18 : decode cX2_assign 18 = .ok (.iload_n 1, 1) := by decide +kernel
theorem dX2_assign_19 : decode cX2_assign 19 = .ok (.iload_n 3, 1) := by decide +kernel
theorem dX2_assign_20 : decode cX2_assign 20 = .ok (.iastore, 1) := by decide +kernel
theorem dX2_assign_21 : decode cX2_assign 21 = .ok (.return_, 1) := by decide +kernel
set_option maxRecDepth 20000 in
theorem ggX2_howManySet_X2_hold : GoodIn wsX2_howManySet wsX2_hold := goodIn_r _ [5, 6, 7, 8, 9, 10, 11] (by decide +kernel) (by decide +kernel)
set_option maxRecDepth 20000 in
theorem gX2_howManySet_X2_hold : GoodIn wsX2_howManySet (wsV RX2 22 RX2 yX2_hold wsX2_hold) := goodIn_app (goodIn_of _ (by decide +kernel)) ggX2_howManySet_X2_hold
theorem dX2_howManySet_0 : decode cX2_howManySet 0 = .ok (.iconst 0, 1) := by decide +kernel
theorem dX2_howManySet_1 : decode cX2_howManySet 1 = .ok (.istore_n 1, 1) := by decide +kernel
theorem dX2_howManySet_2 : decode cX2_howManySet 2 = .ok (.iconst 0, 1) := by decide +kernel
theorem dX2_howManySet_3 : decode cX2_howManySet 3 = .ok (.istore_n 2, 1) := by decide +kernel
theorem dX2_howManySet_4 : decode cX2_howManySet 4 = .ok (.iload_n 2, 1) := by decide +kernel
theorem dX2_howManySet_5 : decode cX2_howManySet 5 = .ok (.bipush 8, 2) := by decide +kernel
theorem dX2_howManySet_7 : decode cX2_howManySet 7 = .ok (.if_icmp .ge 20, 3) := by decide +kernel
theorem dX2_howManySet_10 : decode cX2_howManySet 10 = .ok (.aload_n 0, 1) := by decide +kernel
theorem dX2_howManySet_11 : decode cX2_howManySet 11 = .ok (.iload_n 2, 1) := by decide +kernel
theorem dX2_howManySet_12 : decode cX2_howManySet 12 = .ok (.invokevirtual 22, 3) := by decide +kernel
theorem dX2_howManySet_15 : decode cX2_howManySet 15 = .ok (.ifCond .eq 6, 3) := by decide +kernel
theorem dX2_howManySet_18 : decode cX2_howManySet 18 = .ok (.iinc 1 1, 3) := by decide +kernel
theorem dX2_howManySet_21 : decode cX2_howManySet 21 = .ok (.iinc 2 1, 3) := by decide +kernel
theorem dX2_howManySet_24 : decode cX2_howManySet 24 = .ok (.goto (-20), 3) := by decide +kernel
theorem dX2_howManySet_27 : decode cX2_howManySet 27 = .ok (.iload_n 1, 1) := by decide +kernel
theorem dX2_howManySet_28 : decode cX2_howManySet 28 = .ok (.ireturn, 1) := by decide +kernel
set_option maxRecDepth 20000 in
theorem ggX2_unsetAll_X2_assign : GoodIn wsX2_unsetAll wsX2_assign := goodIn_r _ [5, 6, 7, 8, 9, 10, 11, 12] (by decide +kernel) (by decide +kernel)
set_option maxRecDepth 20000 in
theorem gX2_unsetAll_X2_assign : GoodIn wsX2_unsetAll (wsV RX2 25 RX2 yX2_assign wsX2_assign) := goodIn_app (goodIn_of _ (by decide +kernel)) ggX2_unsetAll_X2_assign
theorem dX2_unsetAll_0 : decode cX2_unsetAll 0 = .ok (.iconst 0, 1) := by decide +kernel
theorem dX2_unsetAll_1 : decode cX2_unsetAll 1 = .ok (.istore_n 1, 1) := by decide +kernel
theorem dX2_unsetAll_2 : decode cX2_unsetAll 2 = .ok (.iload_n 1, 1) := by decide +kernel
theorem dX2_unsetAll_3 : decode cX2_unsetAll 3 = .ok (.bipush 8, 2) := by decide +kernel
theorem dX2_unsetAll_5 : decode cX2_unsetAll 5 = .ok (.if_icmp .ge 16, 3) := by decide +kernel
theorem dX2_unsetAll_8 : decode cX2_unsetAll 8 = .ok (.aload_n 0, 1) := by decide +kernel
theorem dX2_unsetAll_9 : decode cX2_unsetAll 9 = .ok (.iload_n 1, 1) := by decide +kernel
theorem dX2_unsetAll_10 : decode cX2_unsetAll 10 = .ok (.iconst 0, 1) := by decide +kernel
theorem dX2_unsetAll_11 : decode cX2_unsetAll 11 = .ok (.iconst 0, 1) := by decide +kernel
theorem dX2_unsetAll_12 : decode cX2_unsetAll 12 = .ok (.invokevirtual 25, 3) := by decide +kernel
theorem dX2_unsetAll_15 : decode cX2_unsetAll 15 = .ok (.iinc 1 1, 3) := by decide +kernel
theorem dX2_unsetAll_18 : decode cX2_unsetAll 18 = .ok (.goto (-16), 3) := by decide +kernel
theorem dX2_unsetAll_21 : decode cX2_unsetAll 21 = .ok (.return_, 1) := by decide +kernel
set_option maxRecDepth 20000 in
theorem ggX2_becomeLike_X2_valueOf : GoodIn wsX2_becomeLike wsX2_valueOf := goodIn_r _ [5, 6, 7, 8, 9, 19, 20] (by decide +kernel) (by decide +kernel)
set_option maxRecDepth 20000 in
theorem gX2_becomeLike_X2_valueOf : GoodIn wsX2_becomeLike (wsV RX2 29 RX2 yX2_valueOf wsX2_valueOf) := goodIn_app (goodIn_of _ (by decide +kernel)) ggX2_becomeLike_X2_valueOf
set_option maxRecDepth 20000 in
theorem ggX2_becomeLike_X2_stampOf : GoodIn wsX2_becomeLike wsX2_stampOf := goodIn_r _ [13, 14, 7, 8, 9, 19, 20] (by decide +kernel) (by decide +kernel)
set_option maxRecDepth 20000 in
theorem gX2_becomeLike_X2_stampOf : GoodIn wsX2_becomeLike (wsV RX2 33 RX2 yX2_stampOf wsX2_stampOf) := goodIn_app (goodIn_of _ (by decide +kernel)) ggX2_becomeLike_X2_stampOf
set_option maxRecDepth 20000 in
theorem ggX2_becomeLike_X2_assign : GoodIn wsX2_becomeLike wsX2_assign := goodIn_r _ [18, 6, 14, 7, 8, 9, 19, 20] (by decide +kernel) (by decide +kernel)
set_option maxRecDepth 20000 in
theorem gX2_becomeLike_X2_assign : GoodIn wsX2_becomeLike (wsV RX2 25 RX2 yX2_assign wsX2_assign) := goodIn_app (goodIn_of _ (by decide +kernel)) ggX2_becomeLike_X2_assign
theorem dX2_becomeLike_0 : decode cX2_becomeLike 0 = .ok (.iconst 0, 1) := by decide +kernel
theorem dX2_becomeLike_1 : decode cX2_becomeLike 1 = .ok (.istore_n 2, 1) := by decide +kernel
theorem dX2_becomeLike_2 : decode cX2_becomeLike 2 = .ok (.iload_n 2, 1) := by decide +kernel
theorem dX2_becomeLike_3 : decode cX2_becomeLike 3 = .ok (.bipush 8, 2) := by decide +kernel
theorem dX2_becomeLike_5 : decode cX2_becomeLike 5 = .ok (.if_icmp .ge 24, 3) := by decide +kernel
theorem dX2_becomeLike_8 : decode cX2_becomeLike 8 = .ok (.aload_n 0, 1) := by decide +kernel
theorem dX2_becomeLike_9 : decode cX2_becomeLike 9 = .ok (.iload_n 2, 1) := by decide +kernel
theorem dX2_becomeLike_10 : decode cX2_becomeLike 10 = .ok (.aload_n 1, 1) := by decide +kernel
theorem dX2_becomeLike_11 : decode cX2_becomeLike 11 = .ok (.iload_n 2, 1) := by decide +kernel
theorem dX2_becomeLike_12 : decode cX2_becomeLike 12 = .ok (.invokevirtual 29, 3) := by decide +kernel
theorem dX2_becomeLike_15 : decode cX2_becomeLike 15 = .ok (.aload_n 1, 1) := by decide +kernel
theorem dX2_becomeLike_16 : decode cX2_becomeLike 16 = .ok (.iload_n 2, 1) := by decide +kernel
theorem dX2_becomeLike_17 : decode cX2_becomeLike 17 = .ok (.invokevirtual 33, 3) := by decide +kernel
theorem dX2_becomeLike_20 : decode cX2_becomeLike 20 = .ok (.invokevirtual 25, 3) := by decide +kernel
theorem dX2_becomeLike_23 : decode cX2_becomeLike 23 = .ok (.iinc 2 1, 3) := by decide +kernel
theorem dX2_becomeLike_26 : decode cX2_becomeLike 26 = .ok (.goto (-24), 3) := by decide +kernel
theorem dX2_becomeLike_29 : decode cX2_becomeLike 29 = .ok (.return_, 1) := by decide +kernel
set_option maxRecDepth 20000 in
theorem ggX3_init_X0_stampSeen : GoodIn wsX3_init wsX0_stampSeen := goodIn_r _ [19, 20, 21, 22, 23, 31, 32, 33, 34, 35, 36, 37] (by decide +kernel) (by decide +kernel)
set_option maxRecDepth 20000 in
theorem gX3_init_X0_stampSeen : GoodIn wsX3_init (wsV RX3 41 RX0 yX0_stampSeen wsX0_stampSeen) := goodIn_app (goodIn_of _ (by decide +kernel)) ggX3_init_X0_stampSeen
theorem dX3_init_0 : decode cX3_init 0 = .ok (.aload_n 0, 1) := by decide +kernel
theorem dX3_init_1 : decode cX3_init 1 = .ok (.invokespecial 3, 3) := by decide +kernel
theorem dX3_init_4 : decode cX3_init 4 = .ok (.aload_n 0, 1) := by decide +kernel
theorem dX3_init_5 : decode cX3_init 5 = .ok (.bipush 8, 2) := by decide +kernel
theorem dX3_init_7 : decode cX3_init 7 = .ok (.newarray .int, 2) := by decide +kernel
theorem dX3_init_9 : decode cX3_init 9 = .ok (.putfield 9, 3) := by decide +kernel
theorem dX3_init_12 : decode cX3_init 12 = .ok (.aload_n 0, 1) := by decide +kernel
theorem dX3_init_13 : decode cX3_init 13 = .ok (.iload_n 1, 1) := by decide +kernel
theorem dX3_init_14 : decode cX3_init 14 = .ok (.putfield 15, 3) := by decide +kernel
theorem dX3_init_17 : decode cX3_init 17 = .ok (.aload_n 0, 1) := by decide +kernel
theorem dX3_init_18 : decode cX3_init 18 = .ok (.aload_n 2, 1) := by decide +kernel
theorem dX3_init_19 : decode cX3_init 19 = .ok (.putfield 19, 3) := by decide +kernel
theorem dX3_init_22 : decode cX3_init 22 = .ok (.aload_n 0, 1) := by decide +kernel
theorem dX3_init_23 : decode cX3_init 23 = .ok (.iload_n 3, 1) := by decide +kernel
theorem dX3_init_24 : decode cX3_init 24 = .ok (.putfield 23, 3) := by decide +kernel
theorem dX3_init_27 : decode cX3_init 27 = .ok (.aload_n 0, 1) := by decide +kernel
theorem dX3_init_28 : decode cX3_init 28 = .ok (.aload 4, 2) := by decide +kernel
theorem dX3_init_30 : decode cX3_init 30 = .ok (.getfield 26, 3) := by decide +kernel
theorem dX3_init_33 : decode cX3_init 33 = .ok (.putfield 32, 3) := by decide +kernel
theorem dX3_init_36 : decode cX3_init 36 = .ok (.aload_n 0, 1) := by decide +kernel
theorem dX3_init_37 : decode cX3_init 37 = .ok (.aload 4, 2) := by decide +kernel
theorem dX3_init_39 : decode cX3_init 39 = .ok (.getfield 33, 3) := by decide +kernel
theorem dX3_init_42 : decode cX3_init 42 = .ok (.putfield 36, 3) := by decide +kernel
theorem dX3_init_45 : decode cX3_init 45 = .ok (.aload_n 0, 1) := by decide +kernel
theorem dX3_init_46 : decode cX3_init 46 = .ok (.aload 4, 2) := by decide +kernel
theorem dX3_init_48 : decode cX3_init 48 = .ok (.getfield 37, 3) := by decide +kernel
theorem dX3_init_51 : decode cX3_init 51 = .ok (.putfield 40, 3) := by decide +kernel
theorem dX3_init_54 : decode cX3_init 54 = .ok (.iconst 0, 1) := by decide +kernel
theorem dX3_init_55 : decode cX3_init 55 = .ok (.istore 5, 2) := by decide +kernel
theorem dX3_init_57 : decode cX3_init 57 = .ok (.iload 5, 2) := by decide +kernel
theorem dX3_init_59 : decode cX3_init 59 = .ok (.bipush 8, 2) := by decide +kernel
theorem dX3_init_61 : decode cX3_init 61 = .ok (.if_icmp .ge 23, 3) := by decide +kernel
theorem dX3_init_64 : decode cX3_init 64 = .ok (.aload_n 0, 1) := by decide +kernel
theorem dX3_init_65 : decode cX3_init 65 = .ok (.getfield 9, 3) := by decide +kernel
theorem dX3_init_68 : decode cX3_init 68 = .ok (.iload 5, 2) := by decide +kernel
theorem dX3_init_70 : decode cX3_init 70 = .ok (.aload 4, 2) := by decide +kernel
theorem dX3_init_72 : decode cX3_init 72 = .ok (.iload 5, 2) := by decide +kernel
theorem dX3_init_74 : decode cX3_init 74 = .ok (.invokevirtual 41, 3) := by decide +kernel
theorem dX3_init_77 : decode cX3_init 77 = .ok (.iastore, 1) := by decide +kernel
theorem dX3_init_78 : decode cX3_init 78 = .ok (.iinc 5 1, 3) := by decide +kernel
theorem dX3_init_81 : decode cX3_init 81 = .ok (.goto (-24), 3) := by decide +kernel
theorem dX3_init_84 : decode cX3_init 84 = .ok (.return_, 1) := by decide +kernel
set_option maxRecDepth 20000 in
theorem ggX3_sawName_X6_isName : GoodIn wsX3_sawName wsX6_isName := goodIn_r _ [4] (by decide +kernel) (by decide +kernel)
set_option maxRecDepth 20000 in
theorem gX3_sawName_X6_isName_n45 : GoodIn wsX3_sawName (wsX6_isName) := ggX3_sawName_X6_isName
theorem dX3_sawName_0 : decode cX3_sawName 0 = .ok (.iload_n 1, 1) := by decide +kernel
theorem dX3_sawName_1 : decode cX3_sawName 1 = .ok (.invokestatic 45, 3) := by decide +kernel
theorem dX3_sawName_4 : decode cX3_sawName 4 = .ok (.ifCond .eq 18, 3) := by decide +kernel
theorem dX3_sawName_7 : decode cX3_sawName 7 = .ok (.aload_n 0, 1) := by decide +kernel
theorem dX3_sawName_8 : decode cX3_sawName 8 = .ok (.getfield 40, 3) := by decide +kernel
theorem dX3_sawName_11 : decode cX3_sawName 11 = .ok (.iconst 1, 1) := by decide +kernel
theorem dX3_sawName_12 : decode cX3_sawName 12 = .ok (.iload_n 1, 1) := by decide +kernel
theorem dX3_sawName_13 : decode cX3_sawName 13 = .ok (.ishl, 1) := by decide +kernel
theorem dX3_sawName_14 : decode cX3_sawName 14 = .ok (.iand, 1) := by decide +kernel
theorem dX3_sawName_15 : decode cX3_sawName 15 = .ok (.ifCond .eq 7, 3) := by decide +kernel
theorem dX3_sawName_18 : decode cX3_sawName 18 = .ok (.iconst 1, 1) := by decide +kernel
theorem dX3_sawName_19 : decode cX3_sawName 19 = .ok (.goto 4, 3) := by decide +kernel
theorem dX3_sawName_22 : decode cX3_sawName 22 = .ok (.iconst 0, 1) := by decide +kernel
theorem dX3_sawName_23 : decode cX3_sawName 23 = .ok (.ireturn, 1) := by decide +kernel
set_option maxRecDepth 20000 in
theorem ggX3_stampSeen_X6_isName : GoodIn wsX3_stampSeen wsX6_isName := goodIn_r _ [4] (by decide +kernel) (by decide +kernel)
set_option maxRecDepth 20000 in
theorem gX3_stampSeen_X6_isName_n45 : GoodIn wsX3_stampSeen (wsX6_isName) := ggX3_stampSeen_X6_isName
theorem dX3_stampSeen_0 : decode cX3_stampSeen 0 = .ok (.iload_n 1, 1) := by decide +kernel
theorem dX3_stampSeen_1 : decode cX3_stampSeen 1 = .ok (.invokestatic 45, 3) := by decide +kernel
theorem dX3_stampSeen_4 : decode cX3_stampSeen 4 = .ok (.ifCond .eq 12, 3) := by decide +kernel
theorem dX3_stampSeen_7 : decode cX3_stampSeen 7 = .ok (.aload_n 0, 1) := by decide +kernel
theorem dX3_stampSeen_8 : decode cX3_stampSeen 8 = .ok (.getfield 9, 3) := by decide +kernel
theorem dX3_stampSeen_11 : decode cX3_stampSeen 11 = .ok (.iload_n 1, 1) := by decide +kernel
theorem dX3_stampSeen_12 : decode cX3_stampSeen 12 = .ok (.iaload, 1) := by decide +kernel
theorem dX3_stampSeen_13 : decode cX3_stampSeen 13 = .ok (.goto 4, 3) := by decide +kernel
theorem dX3_stampSeen_16 : decode cX3_stampSeen 16 = .ok (.iconst 0, 1) := by decide +kernel
theorem dX3_stampSeen_17 : decode cX3_stampSeen 17 = .ok (.ireturn, 1) := by decide +kernel
set_option maxRecDepth 20000 in
theorem ggX4_init_X2_init : GoodIn wsX4_init wsX2_init := goodIn_r _ [11, 12, 2, 3, 8, 13, 14, 15, 16] (by decide +kernel) (by decide +kernel)
set_option maxRecDepth 20000 in
theorem gX4_init_X2_init_n11 : GoodIn wsX4_init (wsX2_init) := ggX4_init_X2_init
theorem dX4_init_0 : decode cX4_init 0 = .ok (.aload_n 0, 1) := by decide +kernel
theorem dX4_init_1 : decode cX4_init 1 = .ok (.invokespecial 3, 3) := by decide +kernel
theorem dX4_init_4 : decode cX4_init 4 = .ok (.aload_n 0, 1) := by decide +kernel
theorem dX4_init_5 : decode cX4_init 5 = .ok (.new 9, 3) := by decide +kernel
theorem dX4_init_8 : decode cX4_init 8 = .ok (.dup, 1) := by decide +kernel
theorem dX4_init_9 : decode cX4_init 9 = .ok (.invokespecial 11, 3) := by decide +kernel
theorem dX4_init_12 : decode cX4_init 12 = .ok (.putfield 12, 3) := by decide +kernel
theorem dX4_init_15 : decode cX4_init 15 = .ok (.aload_n 0, 1) := by decide +kernel
theorem dX4_init_16 : decode cX4_init 16 = .ok (.bipush 16, 2) := by decide +kernel
theorem dX4_init_18 : decode cX4_init 18 = .ok (.newarray .int, 2) := by decide +kernel
theorem dX4_init_20 : decode cX4_init 20 = .ok (.putfield 18, 3) := by decide +kernel
theorem dX4_init_23 : decode cX4_init 23 = .ok (.return_, 1) := by decide +kernel
theorem dX4_lastRunOf_0 : decode cX4_lastRunOf 0 = .ok (.iload_n 1, 1) := by decide +kernel
theorem dX4_lastRunOf_1 : decode cX4_lastRunOf 1 = .ok (.ifCond .lt 21, 3) := by decide +kernel
theorem dX4_lastRunOf_4 : decode cX4_lastRunOf 4 = .ok (.iload_n 1, 1) := by decide +kernel
theorem dX4_lastRunOf_5 : decode cX4_lastRunOf 5 = .ok (.aload_n 0, 1) := by decide +kernel
theorem dX4_lastRunOf_6 : decode cX4_lastRunOf 6 = .ok (.getfield 18, 3) := by decide +kernel
theorem dX4_lastRunOf_9 : decode cX4_lastRunOf 9 = .ok (.arraylength, 1) := by decide +kernel
theorem dX4_lastRunOf_10 : decode cX4_lastRunOf 10 = .ok (.if_icmp .ge 12, 3) := by decide +kernel
theorem dX4_lastRunOf_13 : decode cX4_lastRunOf 13 = .ok (.aload_n 0, 1) := by decide +kernel
theorem dX4_lastRunOf_14 : decode cX4_lastRunOf 14 = .ok (.getfield 18, 3) := by decide +kernel
theorem dX4_lastRunOf_17 : decode cX4_lastRunOf 17 = .ok (.iload_n 1, 1) := by decide +kernel
theorem dX4_lastRunOf_18 : decode cX4_lastRunOf 18 = .ok (.iaload, 1) := by decide +kernel
theorem dX4_lastRunOf_19 : decode cX4_lastRunOf 19 = .ok (.goto 4, 3) := by decide +kernel
theorem dX4_lastRunOf_22 : decode cX4_lastRunOf 22 = .ok (.iconst 0, 1) := by decide +kernel
theorem dX4_lastRunOf_23 : decode cX4_lastRunOf 23 = .ok (.ireturn, 1) := by decide +kernel
theorem dX4_setLastRun_0 : decode cX4_setLastRun 0 = .ok (.iload_n 1, 1) := by decide +kernel
theorem dX4_setLastRun_1 : decode cX4_setLastRun 1 = .ok (.ifCond .lt 19, 3) := by decide +kernel
theorem dX4_setLastRun_4 : decode cX4_setLastRun 4 = .ok (.iload_n 1, 1) := by decide +kernel
theorem dX4_setLastRun_5 : decode cX4_setLastRun 5 = .ok (.aload_n 0, 1) := by decide +kernel
theorem dX4_setLastRun_6 : decode cX4_setLastRun 6 = .ok (.getfield 18, 3) := by decide +kernel
theorem dX4_setLastRun_9 : decode cX4_setLastRun 9 = .ok (.arraylength, 1) := by decide +kernel
theorem dX4_setLastRun_10 : decode cX4_setLastRun 10 = .ok (.if_icmp .ge 10, 3) := by decide +kernel
theorem dX4_setLastRun_13 : decode cX4_setLastRun 13 = .ok (.aload_n 0, 1) := by decide +kernel
theorem dX4_setLastRun_14 : decode cX4_setLastRun 14 = .ok (.getfield 18, 3) := by decide +kernel
theorem dX4_setLastRun_17 : decode cX4_setLastRun 17 = .ok (.iload_n 1, 1) := by decide +kernel
theorem dX4_setLastRun_18 : decode cX4_setLastRun 18 = .ok (.iload_n 2, 1) := by decide +kernel
theorem dX4_setLastRun_19 : decode cX4_setLastRun 19 = .ok (.iastore, 1) := by decide +kernel
theorem dX4_setLastRun_20 : decode cX4_setLastRun 20 = .ok (.return_, 1) := by decide +kernel
set_option maxRecDepth 20000 in
theorem ggX4_becomeLike_X2_becomeLike : GoodIn wsX4_becomeLike wsX2_becomeLike := goodIn_r _ [6, 7, 8, 9, 5, 10, 11, 12, 13, 14, 15, 16, 17, 18, 19, 20, 21, 22, 23, 36, 37] (by decide +kernel) (by decide +kernel)
set_option maxRecDepth 20000 in
theorem gX4_becomeLike_X2_becomeLike : GoodIn wsX4_becomeLike (wsV RX4 22 RX2 yX2_becomeLike wsX2_becomeLike) := goodIn_app (goodIn_of _ (by decide +kernel)) ggX4_becomeLike_X2_becomeLike
set_option maxRecDepth 20000 in
theorem ggX4_becomeLike_X4_lastRunOf : GoodIn wsX4_becomeLike wsX4_lastRunOf := goodIn_r _ [28, 29, 34, 35] (by decide +kernel) (by decide +kernel)
set_option maxRecDepth 20000 in
theorem gX4_becomeLike_X4_lastRunOf : GoodIn wsX4_becomeLike (wsV RX4 26 RX4 yX4_lastRunOf wsX4_lastRunOf) := goodIn_app (goodIn_of _ (by decide +kernel)) ggX4_becomeLike_X4_lastRunOf
set_option maxRecDepth 20000 in
theorem ggX4_becomeLike_X4_setLastRun : GoodIn wsX4_becomeLike wsX4_setLastRun := goodIn_r _ [33, 29, 34, 35] (by decide +kernel) (by decide +kernel)
set_option maxRecDepth 20000 in
theorem gX4_becomeLike_X4_setLastRun : GoodIn wsX4_becomeLike (wsV RX4 30 RX4 yX4_setLastRun wsX4_setLastRun) := goodIn_app (goodIn_of _ (by decide +kernel)) ggX4_becomeLike_X4_setLastRun
theorem dX4_becomeLike_0 : decode cX4_becomeLike 0 = .ok (.aload_n 0, 1) := by decide +kernel
theorem dX4_becomeLike_1 : decode cX4_becomeLike 1 = .ok (.getfield 12, 3) := by decide +kernel
theorem dX4_becomeLike_4 : decode cX4_becomeLike 4 = .ok (.aload_n 1, 1) := by decide +kernel
theorem dX4_becomeLike_5 : decode cX4_becomeLike 5 = .ok (.getfield 12, 3) := by decide +kernel
theorem dX4_becomeLike_8 : decode cX4_becomeLike 8 = .ok (.invokevirtual 22, 3) := by decide +kernel
theorem dX4_becomeLike_11 : decode cX4_becomeLike 11 = .ok (.iconst 0, 1) := by decide +kernel
theorem dX4_becomeLike_12 : decode cX4_becomeLike 12 = .ok (.istore_n 2, 1) := by decide +kernel
theorem dX4_becomeLike_13 : decode cX4_becomeLike 13 = .ok (.iload_n 2, 1) := by decide +kernel
theorem dX4_becomeLike_14 : decode cX4_becomeLike 14 = .ok (.bipush 16, 2) := by decide +kernel
theorem dX4_becomeLike_16 : decode cX4_becomeLike 16 = .ok (.if_icmp .ge 19, 3) := by decide +kernel
theorem dX4_becomeLike_19 : decode cX4_becomeLike 19 = .ok (.aload_n 0, 1) := by decide +kernel
theorem dX4_becomeLike_20 : decode cX4_becomeLike 20 = .ok (.iload_n 2, 1) := by decide +kernel
theorem dX4_becomeLike_21 : decode cX4_becomeLike 21 = .ok (.aload_n 1, 1) := by decide +kernel
theorem dX4_becomeLike_22 : decode cX4_becomeLike 22 = .ok (.iload_n 2, 1) := by decide +kernel
theorem dX4_becomeLike_23 : decode cX4_becomeLike 23 = .ok (.invokevirtual 26, 3) := by decide +kernel
theorem dX4_becomeLike_26 : decode cX4_becomeLike 26 = .ok (.invokevirtual 30, 3) := by decide +kernel
theorem dX4_becomeLike_29 : decode cX4_becomeLike 29 = .ok (.iinc 2 1, 3) := by decide +kernel
theorem dX4_becomeLike_32 : decode cX4_becomeLike 32 = .ok (.goto (-19), 3) := by decide +kernel
theorem dX4_becomeLike_35 : decode cX4_becomeLike 35 = .ok (.return_, 1) := by decide +kernel
theorem dX5_init_0 : decode cX5_init 0 = .ok (.aload_n 0, 1) := by decide +kernel
theorem dX5_init_1 : decode cX5_init 1 = .ok (.invokespecial 3, 3) := by decide +kernel
theorem dX5_init_4 : decode cX5_init 4 = .ok (.aload_n 0, 1) := by decide +kernel
theorem dX5_init_5 : decode cX5_init 5 = .ok (.iload_n 1, 1) := by decide +kernel
theorem dX5_init_6 : decode cX5_init 6 = .ok (.putfield 9, 3) := by decide +kernel
theorem dX5_init_9 : decode cX5_init 9 = .ok (.aload_n 0, 1) := by decide +kernel
theorem dX5_init_10 : decode cX5_init 10 = .ok (.iload_n 2, 1) := by decide +kernel
theorem dX5_init_11 : decode cX5_init 11 = .ok (.putfield 15, 3) := by decide +kernel
theorem dX5_init_14 : decode cX5_init 14 = .ok (.aload_n 0, 1) := by decide +kernel
theorem dX5_init_15 : decode cX5_init 15 = .ok (.iload_n 3, 1) := by decide +kernel
theorem dX5_init_16 : decode cX5_init 16 = .ok (.putfield 18, 3) := by decide +kernel
theorem dX5_init_19 : decode cX5_init 19 = .ok (.aload_n 0, 1) := by decide +kernel
theorem dX5_init_20 : decode cX5_init 20 = .ok (.iload 4, 2) := by decide +kernel
theorem dX5_init_22 : decode cX5_init 22 = .ok (.putfield 21, 3) := by decide +kernel
theorem dX5_init_25 : decode cX5_init 25 = .ok (.return_, 1) := by decide +kernel
theorem dX5_outcome_0 : decode cX5_outcome 0 = .ok (.aload_n 0, 1) := by decide +kernel
theorem dX5_outcome_1 : decode cX5_outcome 1 = .ok (.getfield 15, 3) := by decide +kernel
theorem dX5_outcome_4 : decode cX5_outcome 4 = .ok (.tableswitch 40 0 2 #[28, 32, 36], 28) := by decide +kernel
theorem dX5_outcome_32 : decode cX5_outcome 32 = .ok (.lload_n 1, 1) := by decide +kernel
theorem dX5_outcome_33 : decode cX5_outcome 33 = .ok (.lload_n 3, 1) := by decide +kernel
theorem dX5_outcome_34 : decode cX5_outcome 34 = .ok (.ladd, 1) := by decide +kernel
theorem dX5_outcome_35 : decode cX5_outcome 35 = .ok (.lreturn, 1) := by decide +kernel
theorem dX5_outcome_36 : decode cX5_outcome 36 = .ok (.lload_n 1, 1) := by decide +kernel
theorem dX5_outcome_37 : decode cX5_outcome 37 = .ok (.lload_n 3, 1) := by decide +kernel
theorem dX5_outcome_38 : decode cX5_outcome 38 = .ok (.lsub, 1) := by decide +kernel
theorem dX5_outcome_39 : decode cX5_outcome 39 = .ok (.lreturn, 1) := by decide +kernel
theorem dX5_outcome_40 : decode cX5_outcome 40 = .ok (.lload_n 1, 1) := by decide +kernel
theorem dX5_outcome_41 : decode cX5_outcome 41 = .ok (.lload_n 3, 1) := by decide +kernel
theorem dX5_outcome_42 : decode cX5_outcome 42 = .ok (.lmul, 1) := by decide +kernel
theorem dX5_outcome_43 : decode cX5_outcome 43 = .ok (.lreturn, 1) := by decide +kernel
theorem dX5_outcome_44 : decode cX5_outcome 44 = .ok (.lload_n 3, 1) := by decide +kernel
theorem dX5_outcome_45 : decode cX5_outcome 45 = .ok (.lconst 0, 1) := by decide +kernel
theorem dX5_outcome_46 : decode cX5_outcome 46 = .ok (.lcmp, 1) := by decide +kernel
theorem dX5_outcome_47 : decode cX5_outcome 47 = .ok (.ifCond .ne 9, 3) := by decide +kernel
theorem dX5_outcome_50 : decode cX5_outcome 50 = .ok (.ldc2_w 24, 3) := by decide +kernel
theorem dX5_outcome_53 : decode cX5_outcome 53 = .ok (.goto 6, 3) := by decide +kernel
theorem dX5_outcome_56 : decode cX5_outcome 56 = .ok (.lload_n 1, 1) := by decide +kernel
theorem dX5_outcome_57 : decode cX5_outcome 57 = .ok (.lload_n 3, 1) := by decide +kernel
theorem dX5_outcome_58 : decode cX5_outcome 58 = .ok (.ldiv, 1) := by decide +kernel
theorem dX5_outcome_59 : decode cX5_outcome 59 = .ok (.lreturn, 1) := by decide +kernel
set_option maxRecDepth 20000 in
theorem ggX5_writeTo_X5_letter : GoodIn wsX5_writeTo wsX5_letter := goodIn_r _ [7] (by decide +kernel) (by decide +kernel)
set_option maxRecDepth 20000 in
theorem gX5_writeTo_X5_letter : GoodIn wsX5_writeTo (va_wsS RX5 26 yX5_letter wsX5_letter) := goodIn_app (goodIn_of _ (by decide +kernel)) ggX5_writeTo_X5_letter
set_option maxRecDepth 20000 in
theorem ggX5_writeTo_J4_append_cf468 : GoodIn wsX5_writeTo wsJ4_append_cf468 := goodIn_r _ [12, 13, 14, 15, 16, 17, 18, 19, 20, 21, 22, 23, 24, 25, 26, 27, 28, 29, 30, 31, 32, 33, 34, 35, 36, 37, 38, 39, 40, 41, 42, 43, 44, 45, 46, 47, 48, 49, 50, 51, 52, 53, 54, 55, 56, 57, 58, 59, 60, 61, 62, 63, 64, 65, 66, 67, 68, 69, 70, 71, 72, 73, 74, 75, 76, 77, 78, 79, 80, 81, 82, 83, 84, 85, 86, 87, 88, 89, 90, 91, 92, 93, 94, 95, 96, 97, 98, 99, 100, 101, 102, 103, 104, 105, 106, 107, 108, 109, 110, 111, 112, 113, 114, 115, 116, 117, 118, 119, 120, 121, 122, 123, 124, 174, 175, 176, 177] (by decide +kernel) (by decide +kernel)
set_option maxRecDepth 20000 in
theorem gX5_writeTo_J4_append_cf468 : GoodIn wsX5_writeTo (wsV RX5 30 RJ4 yJ4_append_cf468 wsJ4_append_cf468) := goodIn_app (goodIn_of _ (by decide +kernel)) ggX5_writeTo_J4_append_cf468
set_option maxRecDepth 20000 in
theorem ggX5_writeTo_X5_writeOperand : GoodIn wsX5_writeTo wsX5_writeOperand := goodIn_r _ [127, 128, 129, 130, 4, 5, 6, 7, 8, 9, 10, 11, 12, 13, 14, 15, 16, 17, 18, 19, 20, 21, 22, 23, 24, 25, 26, 27, 28, 29, 30, 31, 32, 33, 34, 35, 36, 37, 38, 39, 40, 41, 42, 43, 44, 45, 46, 47, 48, 49, 50, 51, 52, 53, 54, 55, 56, 57, 58, 59, 60, 61, 62, 63, 64, 65, 66, 67, 68, 69, 70, 71, 72, 73, 74, 75, 76, 77, 78, 79, 80, 81, 82, 83, 84, 85, 86, 87, 88, 89, 90, 91, 92, 93, 94, 95, 96, 97, 98, 99, 100, 101, 102, 103, 104, 105, 106, 107, 108, 109, 110, 111, 112, 113, 114, 115, 116, 117, 118, 119, 120, 121, 122, 123, 124, 131, 132, 133, 134, 135, 136, 137, 138, 139, 140, 141, 142, 143, 144, 145, 146, 147, 148, 149, 150, 151, 152, 153, 154, 155, 156, 157, 158, 159, 160, 161, 162, 163, 164, 174, 175, 176, 177] (by decide +kernel) (by decide +kernel)
set_option maxRecDepth 20000 in
theorem gX5_writeTo_X5_writeOperand : GoodIn wsX5_writeTo (va_wsS RX5 36 yX5_writeOperand wsX5_writeOperand) := goodIn_app (goodIn_of _ (by decide +kernel)) ggX5_writeTo_X5_writeOperand
set_option maxRecDepth 20000 in
theorem ggX5_writeTo_X5_sign : GoodIn wsX5_writeTo wsX5_sign := goodIn_r _ [168, 169, 170, 171, 172, 173] (by decide +kernel) (by decide +kernel)
set_option maxRecDepth 20000 in
theorem gX5_writeTo_X5_sign : GoodIn wsX5_writeTo (wsV RX5 40 RX5 yX5_sign wsX5_sign) := goodIn_app (goodIn_of _ (by decide +kernel)) ggX5_writeTo_X5_sign
theorem dX5_writeTo_0 : decode cX5_writeTo 0 = .ok (.aload_n 1, 1) := by decide +kernel
theorem dX5_writeTo_1 : decode cX5_writeTo 1 = .ok (.aload_n 0, 1) := by decide +kernel
theorem dX5_writeTo_2 : decode cX5_writeTo 2 = .ok (.getfield 9, 3) := by decide +kernel
theorem dX5_writeTo_5 : decode cX5_writeTo 5 = .ok (.invokestatic 26, 3) := by decide +kernel
theorem dX5_writeTo_8 : decode cX5_writeTo 8 = .ok (.invokevirtual 30, 3) := by decide +kernel
theorem dX5_writeTo_11 : decode cX5_writeTo 11 = .ok (.pop, 1) := by decide +kernel
theorem dX5_writeTo_12 : decode cX5_writeTo 12 = .ok (.aload_n 1, 1) := by decide +kernel
theorem dX5_writeTo_13 : decode cX5_writeTo 13 = .ok (.bipush 61, 2) := by decide +kernel
theorem dX5_writeTo_15 : decode cX5_writeTo 15 = .ok (.invokevirtual 30, 3) := by decide +kernel
theorem dX5_writeTo_18 : decode cX5_writeTo 18 = .ok (.pop, 1) := by decide +kernel
theorem dX5_writeTo_19 : decode cX5_writeTo 19 = .ok (.aload_n 0, 1) := by decide +kernel
theorem dX5_writeTo_20 : decode cX5_writeTo 20 = .ok (.getfield 18, 3) := by decide +kernel
theorem dX5_writeTo_23 : decode cX5_writeTo 23 = .ok (.aload_n 1, 1) := by decide +kernel
theorem dX5_writeTo_24 : decode cX5_writeTo 24 = .ok (.invokestatic 36, 3) := by decide +kernel
theorem dX5_writeTo_27 : decode cX5_writeTo 27 = .ok (.aload_n 1, 1) := by decide +kernel
theorem dX5_writeTo_28 : decode cX5_writeTo 28 = .ok (.aload_n 0, 1) := by decide +kernel
theorem dX5_writeTo_29 : decode cX5_writeTo 29 = .ok (.invokevirtual 40, 3) := by decide +kernel
theorem dX5_writeTo_32 : decode cX5_writeTo 32 = .ok (.invokevirtual 30, 3) := by decide +kernel
theorem dX5_writeTo_35 : decode cX5_writeTo 35 = .ok (.pop, 1) := by decide +kernel
theorem dX5_writeTo_36 : decode cX5_writeTo 36 = .ok (.aload_n 0, 1) := by decide +kernel
theorem dX5_writeTo_37 : decode cX5_writeTo 37 = .ok (.getfield 21, 3) := by decide +kernel
theorem dX5_writeTo_40 : decode cX5_writeTo 40 = .ok (.aload_n 1, 1) := by decide +kernel
theorem dX5_writeTo_41 : decode cX5_writeTo 41 = .ok (.invokestatic 36, 3) := by decide +kernel
theorem dX5_writeTo_44 : decode cX5_writeTo 44 = .ok (.aload_n 1, 1) := by decide +kernel
theorem dX5_writeTo_45 : decode cX5_writeTo 45 = .ok (.bipush 10, 2) := by decide +kernel
theorem dX5_writeTo_47 : decode cX5_writeTo 47 = .ok (.invokevirtual 30, 3) := by decide +kernel
theorem dX5_writeTo_50 : decode cX5_writeTo 50 = .ok (.pop, 1) := by decide +kernel
theorem dX5_writeTo_51 : decode cX5_writeTo 51 = .ok (.return_, 1) := by decide +kernel
theorem dX5_sign_0 : decode cX5_sign 0 = .ok (.aload_n 0, 1) := by decide +kernel
theorem dX5_sign_1 : decode cX5_sign 1 = .ok (.getfield 15, 3) := by decide +kernel
theorem dX5_sign_4 : decode cX5_sign 4 = .ok (.tableswitch 37 0 2 #[28, 31, 34], 28) := by decide +kernel
theorem dX5_sign_32 : decode cX5_sign 32 = .ok (.bipush 43, 2) := by decide +kernel
theorem dX5_sign_34 : decode cX5_sign 34 = .ok (.ireturn, 1) := by decide +kernel
theorem dX5_sign_35 : decode cX5_sign 35 = .ok (.bipush 45, 2) := by decide +kernel
theorem dX5_sign_37 : decode cX5_sign 37 = .ok (.ireturn, 1) := by decide +kernel
theorem dX5_sign_38 : decode cX5_sign 38 = .ok (.bipush 42, 2) := by decide +kernel
theorem dX5_sign_40 : decode cX5_sign 40 = .ok (.ireturn, 1) := by decide +kernel
theorem dX5_sign_41 : decode cX5_sign 41 = .ok (.bipush 47, 2) := by decide +kernel
theorem dX5_sign_43 : decode cX5_sign 43 = .ok (.ireturn, 1) := by decide +kernel
set_option maxRecDepth 20000 in
theorem ggX5_writeOperand_X6_isName : GoodIn wsX5_writeOperand wsX6_isName := goodIn_r _ [3] (by decide +kernel) (by decide +kernel)
set_option maxRecDepth 20000 in
theorem gX5_writeOperand_X6_isName_n44 : GoodIn wsX5_writeOperand (wsX6_isName) := ggX5_writeOperand_X6_isName
set_option maxRecDepth 20000 in
theorem ggX5_writeOperand_X5_letter : GoodIn wsX5_writeOperand wsX5_letter := goodIn_r _ [7] (by decide +kernel) (by decide +kernel)
set_option maxRecDepth 20000 in
theorem gX5_writeOperand_X5_letter : GoodIn wsX5_writeOperand (va_wsS RX5 26 yX5_letter wsX5_letter) := goodIn_app (goodIn_of _ (by decide +kernel)) ggX5_writeOperand_X5_letter
set_option maxRecDepth 20000 in
theorem ggX5_writeOperand_J4_append_cf468 : GoodIn wsX5_writeOperand wsJ4_append_cf468 := goodIn_r _ [12, 13, 14, 15, 16, 17, 18, 19, 20, 21, 22, 23, 24, 25, 26, 27, 28, 29, 30, 31, 32, 33, 34, 35, 36, 37, 38, 39, 40, 41, 42, 43, 44, 45, 46, 47, 48, 49, 50, 51, 52, 53, 54, 55, 56, 57, 58, 59, 60, 61, 62, 63, 64, 65, 66, 67, 68, 69, 70, 71, 72, 73, 74, 75, 76, 77, 78, 79, 80, 81, 82, 83, 84, 85, 86, 87, 88, 89, 90, 91, 92, 93, 94, 95, 96, 97, 98, 99, 100, 101, 102, 103, 104, 105, 106, 107, 108, 109, 110, 111, 112, 113, 114, 115, 116, 117, 118, 119, 120, 121, 122, 123, 124, 159, 160, 161, 162] (by decide +kernel) (by decide +kernel)
set_option maxRecDepth 20000 in
theorem gX5_writeOperand_J4_append_cf468 : GoodIn wsX5_writeOperand (wsV RX5 30 RJ4 yJ4_append_cf468 wsJ4_append_cf468) := goodIn_app (goodIn_of _ (by decide +kernel)) ggX5_writeOperand_J4_append_cf468
set_option maxRecDepth 20000 in
theorem ggX5_writeOperand_J4_append_bf812 : GoodIn wsX5_writeOperand wsJ4_append_bf812 := goodIn_r _ [128, 129, 130, 15, 131, 17, 132, 19, 20, 133, 134, 135, 136, 21, 22, 23, 24, 25, 26, 27, 28, 29, 30, 31, 32, 33, 34, 35, 36, 37, 38, 39, 40, 41, 42, 43, 44, 45, 46, 47, 48, 49, 50, 51, 52, 53, 54, 55, 56, 57, 58, 59, 60, 61, 62, 63, 64, 65, 66, 67, 68, 137, 138, 139, 140, 141, 142, 143, 80, 144, 110, 145, 146, 147, 95, 96, 97, 148, 149, 100, 150, 102, 151, 152, 105, 153, 154, 155, 156, 157, 158, 107, 108, 109, 111, 112, 159, 160, 161, 162] (by decide +kernel) (by decide +kernel)
set_option maxRecDepth 20000 in
theorem gX5_writeOperand_J4_append_bf812 : GoodIn wsX5_writeOperand (wsV RX5 48 RJ4 yJ4_append_bf812 wsJ4_append_bf812) := goodIn_app (goodIn_of _ (by decide +kernel)) ggX5_writeOperand_J4_append_bf812
theorem dX5_writeOperand_0 : decode cX5_writeOperand 0 = .ok (.iload_n 0, 1) := by decide +kernel
theorem dX5_writeOperand_1 : decode cX5_writeOperand 1 = .ok (.invokestatic 44, 3) := by decide +kernel
theorem dX5_writeOperand_4 : decode cX5_writeOperand 4 = .ok (.ifCond .eq 15, 3) := by decide +kernel
theorem dX5_writeOperand_7 : decode cX5_writeOperand 7 = .ok (.aload_n 1, 1) := by decide +kernel
theorem dX5_writeOperand_8 : decode cX5_writeOperand 8 = .ok (.iload_n 0, 1) := by decide +kernel
theorem dX5_writeOperand_9 : decode cX5_writeOperand 9 = .ok (.invokestatic 26, 3) := by decide +kernel
theorem dX5_writeOperand_12 : decode cX5_writeOperand 12 = .ok (.invokevirtual 30, 3) := by decide +kernel
theorem dX5_writeOperand_15 : decode cX5_writeOperand 15 = .ok (.pop, 1) := by decide +kernel
theorem dX5_writeOperand_16 : decode cX5_writeOperand 16 = .ok (.goto 13, 3) := by decide +kernel
theorem dX5_writeOperand_19 : decode cX5_writeOperand 19 = .ok (.aload_n 1, 1) := by decide +kernel
theorem dX5_writeOperand_20 : decode cX5_writeOperand 20 = .ok (.iload_n 0, 1) := by decide +kernel
theorem dX5_writeOperand_21 : decode cX5_writeOperand 21 = .ok (.sipush 600, 3) := by decide +kernel
theorem dX5_writeOperand_24 : decode cX5_writeOperand 24 = .ok (.isub, 1) := by decide +kernel
theorem dX5_writeOperand_25 : decode cX5_writeOperand 25 = .ok (.invokevirtual 48, 3) := by decide +kernel
theorem dX5_writeOperand_28 : decode cX5_writeOperand 28 = .ok (.pop, 1) := by decide +kernel
theorem dX5_writeOperand_29 : decode cX5_writeOperand 29 = .ok (.return_, 1) := by decide +kernel
theorem dX5_letter_0 : decode cX5_letter 0 = .ok (.bipush 97, 2) := by decide +kernel
theorem dX5_letter_2 : decode cX5_letter 2 = .ok (.iload_n 0, 1) := by decide +kernel
theorem dX5_letter_3 : decode cX5_letter 3 = .ok (.iadd, 1) := by decide +kernel
theorem dX5_letter_4 : decode cX5_letter 4 = .ok (.i2c, 1) := by decide +kernel
theorem dX5_letter_5 : decode cX5_letter 5 = .ok (.ireturn, 1) := by decide +kernel
set_option maxRecDepth 20000 in
theorem ggX6_init_Jx4a65c_init_da8c8 : GoodIn wsX6_init wsJx4a65c_init_da8c8 := goodIn_r _ [26, 27, 28, 29, 30, 31, 32, 33, 34, 35, 36, 37, 38, 2, 3, 57, 58, 59] (by decide +kernel) (by decide +kernel)
set_option maxRecDepth 20000 in
theorem gX6_init_Jx4a65c_init_da8c8 : GoodIn wsX6_init (wsJx4a65c_init_da8c8) := ggX6_init_Jx4a65c_init_da8c8
set_option maxRecDepth 20000 in
theorem ggX6_init_X4_init : GoodIn wsX6_init wsX4_init := goodIn_r _ [40, 41, 2, 3, 42, 17, 18, 43, 44, 45, 46, 47, 48, 49, 50, 70, 71, 68, 69] (by decide +kernel) (by decide +kernel)
set_option maxRecDepth 20000 in
theorem gX6_init_X4_init_n30 : GoodIn wsX6_init (wsX4_init) := ggX6_init_X4_init
set_option maxRecDepth 20000 in
theorem ggX6_init_X2_init : GoodIn wsX6_init wsX2_init := goodIn_r _ [47, 48, 2, 3, 44, 49, 50, 70, 71] (by decide +kernel) (by decide +kernel)
set_option maxRecDepth 20000 in
theorem gX6_init_X2_init_n37 : GoodIn wsX6_init (wsX2_init) := ggX6_init_X2_init
set_option maxRecDepth 20000 in
theorem ggX6_init_X0_init : GoodIn wsX6_init wsX0_init := goodIn_r _ [52, 53, 2, 3, 54, 17, 18, 55, 44, 56, 46, 47, 48, 49, 50, 70, 71, 72, 73, 74, 75, 76, 77, 78] (by decide +kernel) (by decide +kernel)
set_option maxRecDepth 20000 in
theorem gX6_init_X0_init_n44 : GoodIn wsX6_init (wsX0_init) := ggX6_init_X0_init
theorem dX6_init_0 : decode cX6_init 0 = .ok (.aload_n 0, 1) := by decide +kernel
theorem dX6_init_1 : decode cX6_init 1 = .ok (.invokespecial 1, 3) := by decide +kernel
theorem dX6_init_4 : decode cX6_init 4 = .ok (.aload_n 0, 1) := by decide +kernel
theorem dX6_init_5 : decode cX6_init 5 = .ok (.new 7, 3) := by decide +kernel
theorem dX6_init_8 : decode cX6_init 8 = .ok (.dup, 1) := by decide +kernel
theorem dX6_init_9 : decode cX6_init 9 = .ok (.invokespecial 9, 3) := by decide +kernel
theorem dX6_init_12 : decode cX6_init 12 = .ok (.putfield 10, 3) := by decide +kernel
theorem dX6_init_15 : decode cX6_init 15 = .ok (.aload_n 0, 1) := by decide +kernel
theorem dX6_init_16 : decode cX6_init 16 = .ok (.new 7, 3) := by decide +kernel
theorem dX6_init_19 : decode cX6_init 19 = .ok (.dup, 1) := by decide +kernel
theorem dX6_init_20 : decode cX6_init 20 = .ok (.invokespecial 9, 3) := by decide +kernel
theorem dX6_init_23 : decode cX6_init 23 = .ok (.putfield 16, 3) := by decide +kernel
theorem dX6_init_26 : decode cX6_init 26 = .ok (.aload_n 0, 1) := by decide +kernel
theorem dX6_init_27 : decode cX6_init 27 = .ok (.new 7, 3) := by decide +kernel
theorem dX6_init_30 : decode cX6_init 30 = .ok (.dup, 1) := by decide +kernel
theorem dX6_init_31 : decode cX6_init 31 = .ok (.invokespecial 9, 3) := by decide +kernel
theorem dX6_init_34 : decode cX6_init 34 = .ok (.putfield 19, 3) := by decide +kernel
theorem dX6_init_37 : decode cX6_init 37 = .ok (.aload_n 0, 1) := by decide +kernel
theorem dX6_init_38 : decode cX6_init 38 = .ok (.new 7, 3) := by decide +kernel
theorem dX6_init_41 : decode cX6_init 41 = .ok (.dup, 1) := by decide +kernel
theorem dX6_init_42 : decode cX6_init 42 = .ok (.invokespecial 9, 3) := by decide +kernel
theorem dX6_init_45 : decode cX6_init 45 = .ok (.putfield 22, 3) := by decide +kernel
theorem dX6_init_48 : decode cX6_init 48 = .ok (.aload_n 0, 1) := by decide +kernel
theorem dX6_init_49 : decode cX6_init 49 = .ok (.new 7, 3) := by decide +kernel
theorem dX6_init_52 : decode cX6_init 52 = .ok (.dup, 1) := by decide +kernel
theorem dX6_init_53 : decode cX6_init 53 = .ok (.invokespecial 9, 3) := by decide +kernel
theorem dX6_init_56 : decode cX6_init 56 = .ok (.putfield 25, 3) := by decide +kernel
theorem dX6_init_59 : decode cX6_init 59 = .ok (.aload_n 0, 1) := by decide +kernel
theorem dX6_init_60 : decode cX6_init 60 = .ok (.new 28, 3) := by decide +kernel
theorem dX6_init_63 : decode cX6_init 63 = .ok (.dup, 1) := by decide +kernel
theorem dX6_init_64 : decode cX6_init 64 = .ok (.invokespecial 30, 3) := by decide +kernel
theorem dX6_init_67 : decode cX6_init 67 = .ok (.putfield 31, 3) := by decide +kernel
theorem dX6_init_70 : decode cX6_init 70 = .ok (.aload_n 0, 1) := by decide +kernel
theorem dX6_init_71 : decode cX6_init 71 = .ok (.new 35, 3) := by decide +kernel
theorem dX6_init_74 : decode cX6_init 74 = .ok (.dup, 1) := by decide +kernel
theorem dX6_init_75 : decode cX6_init 75 = .ok (.invokespecial 37, 3) := by decide +kernel
theorem dX6_init_78 : decode cX6_init 78 = .ok (.putfield 38, 3) := by decide +kernel
theorem dX6_init_81 : decode cX6_init 81 = .ok (.aload_n 0, 1) := by decide +kernel
theorem dX6_init_82 : decode cX6_init 82 = .ok (.new 42, 3) := by decide +kernel
theorem dX6_init_85 : decode cX6_init 85 = .ok (.dup, 1) := by decide +kernel
theorem dX6_init_86 : decode cX6_init 86 = .ok (.invokespecial 44, 3) := by decide +kernel
theorem dX6_init_89 : decode cX6_init 89 = .ok (.putfield 45, 3) := by decide +kernel
theorem dX6_init_92 : decode cX6_init 92 = .ok (.return_, 1) := by decide +kernel
set_option maxRecDepth 20000 in
theorem ggX6_addCell_Jx4a65c_size_8abf5 : GoodIn wsX6_addCell wsJx4a65c_size_8abf5 := goodIn_r _ [12, 13, 106, 107, 108] (by decide +kernel) (by decide +kernel)
set_option maxRecDepth 20000 in
theorem gX6_addCell_Jx4a65c_size_8abf5 : GoodIn wsX6_addCell (wsV RX6 49 RJx4a65c yJx4a65c_size_8abf5 wsJx4a65c_size_8abf5) := goodIn_app (goodIn_of _ (by decide +kernel)) ggX6_addCell_Jx4a65c_size_8abf5
set_option maxRecDepth 20000 in
theorem ggX6_addCell_X1_init : GoodIn wsX6_addCell wsX1_init := goodIn_r _ [16, 17, 18, 19, 20, 21, 11, 22, 23, 24, 25, 26, 27, 28, 29, 30, 31, 32, 33, 34, 35, 36, 37, 38, 39, 40, 41, 106, 107, 108, 102, 103, 104, 105] (by decide +kernel) (by decide +kernel)
set_option maxRecDepth 20000 in
theorem gX6_addCell_X1_init : GoodIn wsX6_addCell (wsX1_init) := ggX6_addCell_X1_init
set_option maxRecDepth 20000 in
theorem ggX6_addCell_Jx4a65c_add_9ea2d : GoodIn wsX6_addCell wsJx4a65c_add_9ea2d := goodIn_r _ [45, 46, 47, 31, 13, 48, 49, 50, 11, 51, 52, 53, 54, 55, 56, 57, 58, 59, 30, 60, 61, 62, 63, 64, 65, 66, 67, 68, 69, 70, 71, 72, 73, 74, 75, 76, 77, 78, 79, 80, 81, 82, 83, 84, 85, 86, 87, 88, 89, 90, 91, 92, 93, 106, 107, 108] (by decide +kernel) (by decide +kernel)
set_option maxRecDepth 20000 in
theorem gX6_addCell_Jx4a65c_add_9ea2d : GoodIn wsX6_addCell (wsV RX6 65 RJx4a65c yJx4a65c_add_9ea2d wsJx4a65c_add_9ea2d) := goodIn_app (goodIn_of _ (by decide +kernel)) ggX6_addCell_Jx4a65c_add_9ea2d
theorem dX6_addCell_0 : decode cX6_addCell 0 = .ok (.aload_n 0, 1) := by decide +kernel
theorem dX6_addCell_1 : decode cX6_addCell 1 = .ok (.getfield 10, 3) := by decide +kernel
theorem dX6_addCell_4 : decode cX6_addCell 4 = .ok (.invokevirtual 49, 3) := by decide +kernel
theorem dX6_addCell_7 : decode cX6_addCell 7 = .ok (.istore_n 1, 1) := by decide +kernel
theorem dX6_addCell_8 : decode cX6_addCell 8 = .ok (.iload_n 1, 1) := by decide +kernel
theorem dX6_addCell_9 : decode cX6_addCell 9 = .ok (.bipush 16, 2) := by decide +kernel
theorem dX6_addCell_11 : decode cX6_addCell 11 = .ok (.if_icmp .lt 13, 3) := by decide +kernel
theorem dX6_addCell_14 : decode cX6_addCell 14 = .ok (.new 53, 3) := by decide +kernel
theorem dX6_addCell_17 : decode cX6_addCell 17 = .ok (.dup, 1) := by decide +kernel
theorem dX6_addCell_18 : decode cX6_addCell 18 = .ok (.ldc 55, 2) := by decide +kernel
theorem dX6_addCell_20 : decode cX6_addCell 20 = .ok (.invokespecial 57, 3) := by decide +kernel
theorem dX6_addCell_23 : decode cX6_addCell 23 = .ok (.athrow, 1) := by decide +kernel
theorem dX6_addCell_24 : decode cX6_addCell 24 = .ok (.new 60, 3) := by decide +kernel
theorem dX6_addCell_27 : decode cX6_addCell 27 = .ok (.dup, 1) := by decide +kernel
theorem dX6_addCell_28 : decode cX6_addCell 28 = .ok (.iload_n 1, 1) := by decide +kernel
theorem dX6_addCell_29 : decode cX6_addCell 29 = .ok (.invokespecial 62, 3) := by decide +kernel
theorem dX6_addCell_32 : decode cX6_addCell 32 = .ok (.astore_n 2, 1) := by decide +kernel
theorem dX6_addCell_33 : decode cX6_addCell 33 = .ok (.aload_n 0, 1) := by decide +kernel
theorem dX6_addCell_34 : decode cX6_addCell 34 = .ok (.getfield 10, 3) := by decide +kernel
theorem dX6_addCell_37 : decode cX6_addCell 37 = .ok (.aload_n 2, 1) := by decide +kernel
theorem dX6_addCell_38 : decode cX6_addCell 38 = .ok (.invokevirtual 65, 3) := by decide +kernel
theorem dX6_addCell_41 : decode cX6_addCell 41 = .ok (.pop, 1) := by decide +kernel
theorem dX6_addCell_42 : decode cX6_addCell 42 = .ok (.aload_n 0, 1) := by decide +kernel
theorem dX6_addCell_43 : decode cX6_addCell 43 = .ok (.getfield 16, 3) := by decide +kernel
theorem dX6_addCell_46 : decode cX6_addCell 46 = .ok (.aload_n 2, 1) := by decide +kernel
theorem dX6_addCell_47 : decode cX6_addCell 47 = .ok (.invokevirtual 65, 3) := by decide +kernel
theorem dX6_addCell_50 : decode cX6_addCell 50 = .ok (.pop, 1) := by decide +kernel
theorem dX6_addCell_51 : decode cX6_addCell 51 = .ok (.iload_n 1, 1) := by decide +kernel
theorem dX6_addCell_52 : decode cX6_addCell 52 = .ok (.ireturn, 1) := by decide +kernel
set_option maxRecDepth 20000 in
theorem ggX6_write_X6_requireUser : GoodIn wsX6_write wsX6_requireUser := goodIn_ca (goodIn_r _ [14, 15, 16] (by decide +kernel) (by decide +kernel)) (goodIn_sub (fun _ h => List.mem_cons_of_mem _ (List.mem_append_right _ h)) (by decide +kernel))
set_option maxRecDepth 20000 in
theorem gX6_write_X6_requireUser : GoodIn wsX6_write (va_wsS RX6 69 yX6_requireUser wsX6_requireUser) := goodIn_app (goodIn_of _ (by decide +kernel)) ggX6_write_X6_requireUser
set_option maxRecDepth 20000 in
theorem ggX6_write_X6_requireCell : GoodIn wsX6_write wsX6_requireCell := goodIn_ca (goodIn_r _ [20, 15, 16, 21, 22, 23, 24, 25, 26, 27, 28, 29, 30, 31, 32, 33, 34, 35, 36, 37, 38, 39, 40, 41, 42, 43, 44, 45, 139, 140, 141, 142, 143, 144, 145, 146, 147, 148, 149] (by decide +kernel) (by decide +kernel)) (goodIn_sub (fun _ h => List.mem_cons_of_mem _ (List.mem_append_right _ h)) (by decide +kernel))
set_option maxRecDepth 20000 in
theorem gX6_write_X6_requireCell : GoodIn wsX6_write (wsV RX6 72 RX6 yX6_requireCell wsX6_requireCell) := goodIn_app (goodIn_of _ (by decide +kernel)) ggX6_write_X6_requireCell
set_option maxRecDepth 20000 in
theorem ggX6_write_X6_requireName : GoodIn wsX6_write wsX6_requireName := goodIn_ca (goodIn_r _ [48, 15, 16, 49, 50, 13, 51] (by decide +kernel) (by decide +kernel)) (goodIn_sub (fun _ h => List.mem_cons_of_mem _ (List.mem_append_right _ h)) (by decide +kernel))
set_option maxRecDepth 20000 in
theorem gX6_write_X6_requireName : GoodIn wsX6_write (va_wsS RX6 76 yX6_requireName wsX6_requireName) := goodIn_app (goodIn_of _ (by decide +kernel)) ggX6_write_X6_requireName
set_option maxRecDepth 20000 in
theorem ggX6_write_X6_isOperand : GoodIn wsX6_write wsX6_isOperand := goodIn_r _ [54, 49, 50, 13, 51] (by decide +kernel) (by decide +kernel)
set_option maxRecDepth 20000 in
theorem gX6_write_X6_isOperand : GoodIn wsX6_write (va_wsS RX6 84 yX6_isOperand wsX6_isOperand) := goodIn_app (goodIn_of _ (by decide +kernel)) ggX6_write_X6_isOperand
set_option maxRecDepth 20000 in
theorem ggX6_write_X6_requireRight : GoodIn wsX6_write wsX6_requireRight := goodIn_ca (goodIn_r _ [57, 3, 4, 58, 59, 60, 61, 62, 63, 64, 65, 66, 67, 131, 132, 133, 134] (by decide +kernel) (by decide +kernel)) (goodIn_sub (fun _ h => List.mem_cons_of_mem _ (List.mem_append_left _ (List.mem_append_right _ h))) (by decide +kernel))
set_option maxRecDepth 20000 in
theorem gX6_write_X6_requireRight : GoodIn wsX6_write (va_wsS RX6 90 yX6_requireRight wsX6_requireRight) := goodIn_app (goodIn_of _ (by decide +kernel)) ggX6_write_X6_requireRight
set_option maxRecDepth 20000 in
theorem ggX6_write_Jx4a65c_size_8abf5 : GoodIn wsX6_write wsJx4a65c_size_8abf5 := goodIn_r _ [27, 28, 147, 148, 149] (by decide +kernel) (by decide +kernel)
set_option maxRecDepth 20000 in
theorem gX6_write_Jx4a65c_size_8abf5 : GoodIn wsX6_write (wsV RX6 49 RJx4a65c yJx4a65c_size_8abf5 wsJx4a65c_size_8abf5) := goodIn_app (goodIn_of _ (by decide +kernel)) ggX6_write_Jx4a65c_size_8abf5
set_option maxRecDepth 20000 in
theorem ggX6_write_X5_init : GoodIn wsX6_write wsX5_init := goodIn_r _ [70, 71, 72, 73, 74, 75, 76, 77, 135, 136, 137, 138] (by decide +kernel) (by decide +kernel)
set_option maxRecDepth 20000 in
theorem gX6_write_X5_init : GoodIn wsX6_write (wsX5_init) := ggX6_write_X5_init
set_option maxRecDepth 20000 in
theorem ggX6_write_Jx4a65c_add_9ea2d : GoodIn wsX6_write wsJx4a65c_add_9ea2d := goodIn_r _ [81, 82, 83, 45, 28, 84, 85, 86, 26, 87, 88, 89, 90, 91, 92, 93, 94, 95, 96, 97, 98, 99, 100, 101, 102, 103, 104, 105, 106, 107, 108, 109, 110, 111, 112, 113, 114, 115, 116, 117, 118, 119, 120, 121, 122, 123, 124, 125, 126, 127, 128, 129, 130, 147, 148, 149] (by decide +kernel) (by decide +kernel)
set_option maxRecDepth 20000 in
theorem gX6_write_Jx4a65c_add_9ea2d : GoodIn wsX6_write (wsV RX6 65 RJx4a65c yJx4a65c_add_9ea2d wsJx4a65c_add_9ea2d) := goodIn_app (goodIn_of _ (by decide +kernel)) ggX6_write_Jx4a65c_add_9ea2d
theorem dX6_write_0 : decode cX6_write 0 = .ok (.iload_n 1, 1) := by decide +kernel
theorem dX6_write_1 : decode cX6_write 1 = .ok (.invokestatic 69, 3) := by decide +kernel
theorem dX6_write_4 : decode cX6_write 4 = .ok (.aload_n 0, 1) := by decide +kernel
theorem dX6_write_5 : decode cX6_write 5 = .ok (.iload_n 2, 1) := by decide +kernel
theorem dX6_write_6 : decode cX6_write 6 = .ok (.invokevirtual 72, 3) := by decide +kernel
theorem dX6_write_9 : decode cX6_write 9 = .ok (.astore 7, 2) := by decide +kernel
theorem dX6_write_11 : decode cX6_write 11 = .ok (.iload_n 3, 1) := by decide +kernel
theorem dX6_write_12 : decode cX6_write 12 = .ok (.invokestatic 76, 3) := by decide +kernel
theorem dX6_write_15 : decode cX6_write 15 = .ok (.iload 4, 2) := by decide +kernel
theorem dX6_write_17 : decode cX6_write 17 = .ok (.ifCond .lt 9, 3) := by decide +kernel
theorem dX6_write_20 : decode cX6_write 20 = .ok (.iload 4, 2) := by decide +kernel
theorem dX6_write_22 : decode cX6_write 22 = .ok (.iconst 3, 1) := by decide +kernel
theorem dX6_write_23 : decode cX6_write 23 = .ok (.if_icmp .le 13, 3) := by decide +kernel
theorem dX6_write_26 : decode cX6_write 26 = .ok (.new 79, 3) := by decide +kernel
theorem dX6_write_29 : decode cX6_write 29 = .ok (.dup, 1) := by decide +kernel
theorem dX6_write_30 : decode cX6_write 30 = .ok (.ldc 81, 2) := by decide +kernel
theorem dX6_write_32 : decode cX6_write 32 = .ok (.invokespecial 83, 3) := by decide +kernel
theorem dX6_write_35 : decode cX6_write 35 = .ok (.athrow, 1) := by decide +kernel
theorem dX6_write_36 : decode cX6_write 36 = .ok (.iload 5, 2) := by decide +kernel
theorem dX6_write_38 : decode cX6_write 38 = .ok (.invokestatic 84, 3) := by decide +kernel
theorem dX6_write_41 : decode cX6_write 41 = .ok (.ifCond .eq 11, 3) := by decide +kernel
theorem dX6_write_44 : decode cX6_write 44 = .ok (.iload 6, 2) := by decide +kernel
theorem dX6_write_46 : decode cX6_write 46 = .ok (.invokestatic 84, 3) := by decide +kernel
theorem dX6_write_49 : decode cX6_write 49 = .ok (.ifCond .ne 13, 3) := by decide +kernel
theorem dX6_write_52 : decode cX6_write 52 = .ok (.new 79, 3) := by decide +kernel
theorem dX6_write_55 : decode cX6_write 55 = .ok (.dup, 1) := by decide +kernel
theorem dX6_write_56 : decode cX6_write 56 = .ok (.ldc 88, 2) := by decide +kernel
theorem dX6_write_58 : decode cX6_write 58 = .ok (.invokespecial 83, 3) := by decide +kernel
theorem dX6_write_61 : decode cX6_write 61 = .ok (.athrow, 1) := by decide +kernel
theorem dX6_write_62 : decode cX6_write 62 = .ok (.aload 7, 2) := by decide +kernel
theorem dX6_write_64 : decode cX6_write 64 = .ok (.iload_n 1, 1) := by decide +kernel
theorem dX6_write_65 : decode cX6_write 65 = .ok (.iconst 3, 1) := by decide +kernel
theorem dX6_write_66 : decode cX6_write 66 = .ok (.invokestatic 90, 3) := by decide +kernel
theorem dX6_write_69 : decode cX6_write 69 = .ok (.aload 7, 2) := by decide +kernel
theorem dX6_write_71 : decode cX6_write 71 = .ok (.getfield 94, 3) := by decide +kernel
theorem dX6_write_74 : decode cX6_write 74 = .ok (.invokevirtual 49, 3) := by decide +kernel
theorem dX6_write_77 : decode cX6_write 77 = .ok (.bipush 6, 2) := by decide +kernel
theorem dX6_write_79 : decode cX6_write 79 = .ok (.if_icmp .lt 13, 3) := by decide +kernel
theorem dX6_write_82 : decode cX6_write 82 = .ok (.new 53, 3) := by decide +kernel
theorem dX6_write_85 : decode cX6_write 85 = .ok (.dup, 1) := by decide +kernel
theorem dX6_write_86 : decode cX6_write 86 = .ok (.ldc 97, 2) := by decide +kernel
theorem dX6_write_88 : decode cX6_write 88 = .ok (.invokespecial 57, 3) := by decide +kernel
theorem dX6_write_91 : decode cX6_write 91 = .ok (.athrow, 1) := by decide +kernel
theorem dX6_write_92 : decode cX6_write 92 = .ok (.aload 7, 2) := by decide +kernel
theorem dX6_write_94 : decode cX6_write 94 = .ok (.getfield 94, 3) := by decide +kernel
theorem dX6_write_97 : decode cX6_write 97 = .ok (.new 99, 3) := by decide +kernel
theorem dX6_write_100 : decode cX6_write 100 = .ok (.dup, 1) := by decide +kernel
theorem dX6_write_101 : decode cX6_write 101 = .ok (.iload_n 3, 1) := by decide +kernel
theorem dX6_write_102 : decode cX6_write 102 = .ok (.iload 4, 2) := by decide +kernel
theorem dX6_write_104 : decode cX6_write 104 = .ok (.iload 5, 2) := by decide +kernel
theorem dX6_write_106 : decode cX6_write 106 = .ok (.iload 6, 2) := by decide +kernel
theorem dX6_write_108 : decode cX6_write 108 = .ok (.invokespecial 101, 3) := by decide +kernel
theorem dX6_write_111 : decode cX6_write 111 = .ok (.invokevirtual 65, 3) := by decide +kernel
theorem dX6_write_114 : decode cX6_write 114 = .ok (.pop, 1) := by decide +kernel
theorem dX6_write_115 : decode cX6_write 115 = .ok (.aload 7, 2) := by decide +kernel
theorem dX6_write_117 : decode cX6_write 117 = .ok (.aload_n 0, 1) := by decide +kernel
theorem dX6_write_118 : decode cX6_write 118 = .ok (.getfield 19, 3) := by decide +kernel
theorem dX6_write_121 : decode cX6_write 121 = .ok (.invokevirtual 49, 3) := by decide +kernel
theorem dX6_write_124 : decode cX6_write 124 = .ok (.putfield 104, 3) := by decide +kernel
theorem dX6_write_127 : decode cX6_write 127 = .ok (.aload 7, 2) := by decide +kernel
theorem dX6_write_129 : decode cX6_write 129 = .ok (.getfield 94, 3) := by decide +kernel
theorem dX6_write_132 : decode cX6_write 132 = .ok (.invokevirtual 49, 3) := by decide +kernel
theorem dX6_write_135 : decode cX6_write 135 = .ok (.ireturn, 1) := by decide +kernel
set_option maxRecDepth 20000 in
theorem ggX6_clear_X6_requireUser : GoodIn wsX6_clear wsX6_requireUser := goodIn_ca (goodIn_r _ [7, 8, 9] (by decide +kernel) (by decide +kernel)) (goodIn_sub (fun _ h => List.mem_cons_of_mem _ (List.mem_append_left _ (List.mem_append_right _ h))) (by decide +kernel))
set_option maxRecDepth 20000 in
theorem gX6_clear_X6_requireUser : GoodIn wsX6_clear (va_wsS RX6 69 yX6_requireUser wsX6_requireUser) := goodIn_app (goodIn_of _ (by decide +kernel)) ggX6_clear_X6_requireUser
set_option maxRecDepth 20000 in
theorem ggX6_clear_X6_requireCell : GoodIn wsX6_clear wsX6_requireCell := goodIn_ca (goodIn_r _ [13, 8, 9, 14, 15, 16, 17, 18, 19, 20, 21, 22, 23, 24, 25, 26, 27, 28, 29, 30, 31, 32, 33, 34, 35, 36, 37, 38, 64, 65, 66, 67, 68, 69, 70, 71, 72, 73, 74] (by decide +kernel) (by decide +kernel)) (goodIn_sub (fun _ h => List.mem_cons_of_mem _ (List.mem_append_left _ (List.mem_append_right _ h))) (by decide +kernel))
set_option maxRecDepth 20000 in
theorem gX6_clear_X6_requireCell : GoodIn wsX6_clear (wsV RX6 72 RX6 yX6_requireCell wsX6_requireCell) := goodIn_app (goodIn_of _ (by decide +kernel)) ggX6_clear_X6_requireCell
set_option maxRecDepth 20000 in
theorem ggX6_clear_X6_requireRight : GoodIn wsX6_clear wsX6_requireRight := goodIn_ca (goodIn_r _ [41, 42, 43, 44, 45, 46, 47, 48, 49, 50, 51, 52, 53, 60, 61, 62, 63] (by decide +kernel) (by decide +kernel)) (goodIn_sub (fun _ h => List.mem_cons_of_mem _ (List.mem_append_right _ h)) (by decide +kernel))
set_option maxRecDepth 20000 in
theorem gX6_clear_X6_requireRight : GoodIn wsX6_clear (va_wsS RX6 90 yX6_requireRight wsX6_requireRight) := goodIn_app (goodIn_of _ (by decide +kernel)) ggX6_clear_X6_requireRight
set_option maxRecDepth 20000 in
theorem ggX6_clear_Jx4a65c_size_8abf5 : GoodIn wsX6_clear wsJx4a65c_size_8abf5 := goodIn_r _ [20, 21, 72, 73, 74] (by decide +kernel) (by decide +kernel)
set_option maxRecDepth 20000 in
theorem gX6_clear_Jx4a65c_size_8abf5 : GoodIn wsX6_clear (wsV RX6 49 RJx4a65c yJx4a65c_size_8abf5 wsJx4a65c_size_8abf5) := goodIn_app (goodIn_of _ (by decide +kernel)) ggX6_clear_Jx4a65c_size_8abf5
set_option maxRecDepth 20000 in
theorem ggX6_clear_Jx4a65c_clear_da8c8 : GoodIn wsX6_clear wsJx4a65c_clear_da8c8 := goodIn_r _ [57, 58, 59, 38, 21, 72, 73, 74] (by decide +kernel) (by decide +kernel)
set_option maxRecDepth 20000 in
theorem gX6_clear_Jx4a65c_clear_da8c8 : GoodIn wsX6_clear (wsV RX6 108 RJx4a65c yJx4a65c_clear_da8c8 wsJx4a65c_clear_da8c8) := goodIn_app (goodIn_of _ (by decide +kernel)) ggX6_clear_Jx4a65c_clear_da8c8
theorem dX6_clear_0 : decode cX6_clear 0 = .ok (.iload_n 1, 1) := by decide +kernel
theorem dX6_clear_1 : decode cX6_clear 1 = .ok (.invokestatic 69, 3) := by decide +kernel
theorem dX6_clear_4 : decode cX6_clear 4 = .ok (.aload_n 0, 1) := by decide +kernel
theorem dX6_clear_5 : decode cX6_clear 5 = .ok (.iload_n 2, 1) := by decide +kernel
theorem dX6_clear_6 : decode cX6_clear 6 = .ok (.invokevirtual 72, 3) := by decide +kernel
theorem dX6_clear_9 : decode cX6_clear 9 = .ok (.astore_n 3, 1) := by decide +kernel
theorem dX6_clear_10 : decode cX6_clear 10 = .ok (.aload_n 3, 1) := by decide +kernel
theorem dX6_clear_11 : decode cX6_clear 11 = .ok (.iload_n 1, 1) := by decide +kernel
theorem dX6_clear_12 : decode cX6_clear 12 = .ok (.iconst 3, 1) := by decide +kernel
theorem dX6_clear_13 : decode cX6_clear 13 = .ok (.invokestatic 90, 3) := by decide +kernel
theorem dX6_clear_16 : decode cX6_clear 16 = .ok (.aload_n 3, 1) := by decide +kernel
theorem dX6_clear_17 : decode cX6_clear 17 = .ok (.getfield 94, 3) := by decide +kernel
theorem dX6_clear_20 : decode cX6_clear 20 = .ok (.invokevirtual 49, 3) := by decide +kernel
theorem dX6_clear_23 : decode cX6_clear 23 = .ok (.istore 4, 2) := by decide +kernel
theorem dX6_clear_25 : decode cX6_clear 25 = .ok (.iload 4, 2) := by decide +kernel
theorem dX6_clear_27 : decode cX6_clear 27 = .ok (.ifCond .le 21, 3) := by decide +kernel
theorem dX6_clear_30 : decode cX6_clear 30 = .ok (.aload_n 3, 1) := by decide +kernel
theorem dX6_clear_31 : decode cX6_clear 31 = .ok (.getfield 94, 3) := by decide +kernel
theorem dX6_clear_34 : decode cX6_clear 34 = .ok (.invokevirtual 108, 3) := by decide +kernel
theorem dX6_clear_37 : decode cX6_clear 37 = .ok (.aload_n 3, 1) := by decide +kernel
theorem dX6_clear_38 : decode cX6_clear 38 = .ok (.aload_n 0, 1) := by decide +kernel
theorem dX6_clear_39 : decode cX6_clear 39 = .ok (.getfield 19, 3) := by decide +kernel
theorem dX6_clear_42 : decode cX6_clear 42 = .ok (.invokevirtual 49, 3) := by decide +kernel
theorem dX6_clear_45 : decode cX6_clear 45 = .ok (.putfield 104, 3) := by decide +kernel
theorem dX6_clear_48 : decode cX6_clear 48 = .ok (.iload 4, 2) := by decide +kernel
theorem dX6_clear_50 : decode cX6_clear 50 = .ok (.ireturn, 1) := by decide +kernel
set_option maxRecDepth 20000 in
theorem ggX6_move_X6_requireCell : GoodIn wsX6_move wsX6_requireCell := goodIn_ca (goodIn_r _ [6, 7, 8, 9, 10, 11, 12, 13, 14, 15, 16, 17, 18, 19, 20, 21, 22, 23, 24, 25, 26, 27, 28, 29, 30, 31, 32, 33, 104, 105, 106, 107, 108, 109, 110, 111, 112, 113, 114] (by decide +kernel) (by decide +kernel)) (goodIn_sub (fun _ h => List.mem_cons_of_mem _ (List.mem_append_right _ h)) (by decide +kernel))
set_option maxRecDepth 20000 in
theorem gX6_move_X6_requireCell : GoodIn wsX6_move (wsV RX6 72 RX6 yX6_requireCell wsX6_requireCell) := goodIn_app (goodIn_of _ (by decide +kernel)) ggX6_move_X6_requireCell
set_option maxRecDepth 20000 in
theorem ggX6_move_X6_requirePlace : GoodIn wsX6_move wsX6_requirePlace := goodIn_ca (goodIn_r _ [37, 7, 8, 1, 11, 12, 13, 14, 15, 16, 104, 105, 106, 107, 108, 109, 110, 111, 112, 113, 114] (by decide +kernel) (by decide +kernel)) (goodIn_sub (fun _ h => List.mem_cons_of_mem _ (List.mem_append_right _ h)) (by decide +kernel))
set_option maxRecDepth 20000 in
theorem gX6_move_X6_requirePlace : GoodIn wsX6_move (wsV RX6 111 RX6 yX6_requirePlace wsX6_requirePlace) := goodIn_app (goodIn_of _ (by decide +kernel)) ggX6_move_X6_requirePlace
set_option maxRecDepth 20000 in
theorem ggX6_move_X6_placeOf : GoodIn wsX6_move wsX6_placeOf := goodIn_r _ [41, 1, 11, 12, 13, 14, 15, 16, 17, 18, 19, 20, 21, 22, 23, 24, 25, 26, 27, 28, 29, 30, 31, 32, 33, 104, 105, 106, 107, 108, 109, 110, 111, 112, 113, 114] (by decide +kernel) (by decide +kernel)
set_option maxRecDepth 20000 in
theorem gX6_move_X6_placeOf : GoodIn wsX6_move (wsV RX6 114 RX6 yX6_placeOf wsX6_placeOf) := goodIn_app (goodIn_of _ (by decide +kernel)) ggX6_move_X6_placeOf
set_option maxRecDepth 20000 in
theorem ggX6_move_Jx4a65c_remove_915e3 : GoodIn wsX6_move wsJx4a65c_remove_915e3 := goodIn_r _ [45, 16, 33, 21, 22, 23, 24, 25, 26, 27, 28, 46, 47, 48, 14, 49, 50, 51, 52, 53, 54, 55, 112, 113, 114] (by decide +kernel) (by decide +kernel)
set_option maxRecDepth 20000 in
theorem gX6_move_Jx4a65c_remove_915e3 : GoodIn wsX6_move (wsV RX6 118 RJx4a65c yJx4a65c_remove_915e3 wsJx4a65c_remove_915e3) := goodIn_app (goodIn_of _ (by decide +kernel)) ggX6_move_Jx4a65c_remove_915e3
set_option maxRecDepth 20000 in
theorem ggX6_move_Jx4a65c_add_7a177 : GoodIn wsX6_move wsJx4a65c_add_7a177 := goodIn_r _ [59, 50, 51, 16, 33, 52, 53, 54, 55, 60, 61, 62, 14, 63, 64, 65, 66, 67, 68, 69, 70, 71, 72, 73, 74, 75, 76, 77, 78, 79, 80, 81, 82, 83, 84, 85, 86, 87, 88, 89, 90, 91, 92, 93, 94, 95, 96, 97, 98, 99, 100, 101, 102, 103, 112, 113, 114] (by decide +kernel) (by decide +kernel)
set_option maxRecDepth 20000 in
theorem gX6_move_Jx4a65c_add_7a177 : GoodIn wsX6_move (wsV RX6 122 RJx4a65c yJx4a65c_add_7a177 wsJx4a65c_add_7a177) := goodIn_app (goodIn_of _ (by decide +kernel)) ggX6_move_Jx4a65c_add_7a177
theorem dX6_move_0 : decode cX6_move 0 = .ok (.aload_n 0, 1) := by decide +kernel
theorem dX6_move_1 : decode cX6_move 1 = .ok (.iload_n 1, 1) := by decide +kernel
theorem dX6_move_2 : decode cX6_move 2 = .ok (.invokevirtual 72, 3) := by decide +kernel
theorem dX6_move_5 : decode cX6_move 5 = .ok (.astore_n 3, 1) := by decide +kernel
theorem dX6_move_6 : decode cX6_move 6 = .ok (.aload_n 0, 1) := by decide +kernel
theorem dX6_move_7 : decode cX6_move 7 = .ok (.iload_n 2, 1) := by decide +kernel
theorem dX6_move_8 : decode cX6_move 8 = .ok (.invokevirtual 111, 3) := by decide +kernel
theorem dX6_move_11 : decode cX6_move 11 = .ok (.aload_n 0, 1) := by decide +kernel
theorem dX6_move_12 : decode cX6_move 12 = .ok (.aload_n 3, 1) := by decide +kernel
theorem dX6_move_13 : decode cX6_move 13 = .ok (.invokevirtual 114, 3) := by decide +kernel
theorem dX6_move_16 : decode cX6_move 16 = .ok (.istore 4, 2) := by decide +kernel
theorem dX6_move_18 : decode cX6_move 18 = .ok (.aload_n 0, 1) := by decide +kernel
theorem dX6_move_19 : decode cX6_move 19 = .ok (.getfield 16, 3) := by decide +kernel
theorem dX6_move_22 : decode cX6_move 22 = .ok (.iload 4, 2) := by decide +kernel
theorem dX6_move_24 : decode cX6_move 24 = .ok (.invokevirtual 118, 3) := by decide +kernel
theorem dX6_move_27 : decode cX6_move 27 = .ok (.pop, 1) := by decide +kernel
theorem dX6_move_28 : decode cX6_move 28 = .ok (.aload_n 0, 1) := by decide +kernel
theorem dX6_move_29 : decode cX6_move 29 = .ok (.getfield 16, 3) := by decide +kernel
theorem dX6_move_32 : decode cX6_move 32 = .ok (.iload_n 2, 1) := by decide +kernel
theorem dX6_move_33 : decode cX6_move 33 = .ok (.aload_n 3, 1) := by decide +kernel
theorem dX6_move_34 : decode cX6_move 34 = .ok (.invokevirtual 122, 3) := by decide +kernel
theorem dX6_move_37 : decode cX6_move 37 = .ok (.iload 4, 2) := by decide +kernel
theorem dX6_move_39 : decode cX6_move 39 = .ok (.ireturn, 1) := by decide +kernel
set_option maxRecDepth 20000 in
theorem ggX6_cellCount_Jx4a65c_size_8abf5 : GoodIn wsX6_cellCount wsJx4a65c_size_8abf5 := goodIn_r _ [6, 7, 16, 17, 18] (by decide +kernel) (by decide +kernel)
set_option maxRecDepth 20000 in
theorem gX6_cellCount_Jx4a65c_size_8abf5 : GoodIn wsX6_cellCount (wsV RX6 49 RJx4a65c yJx4a65c_size_8abf5 wsJx4a65c_size_8abf5) := goodIn_app (goodIn_of _ (by decide +kernel)) ggX6_cellCount_Jx4a65c_size_8abf5
theorem dX6_cellCount_0 : decode cX6_cellCount 0 = .ok (.aload_n 0, 1) := by decide +kernel
theorem dX6_cellCount_1 : decode cX6_cellCount 1 = .ok (.getfield 10, 3) := by decide +kernel
theorem dX6_cellCount_4 : decode cX6_cellCount 4 = .ok (.invokevirtual 49, 3) := by decide +kernel
theorem dX6_cellCount_7 : decode cX6_cellCount 7 = .ok (.ireturn, 1) := by decide +kernel
set_option maxRecDepth 20000 in
theorem ggX6_cellAt_X6_requirePlace : GoodIn wsX6_cellAt wsX6_requirePlace := goodIn_ca (goodIn_r _ [8, 9, 10, 1, 11, 12, 13, 14, 15, 16, 34, 35, 36, 37, 38, 39, 40, 41, 46, 47, 48] (by decide +kernel) (by decide +kernel)) (goodIn_sub (fun _ h => List.mem_cons_of_mem _ (List.mem_append_right _ h)) (by decide +kernel))
set_option maxRecDepth 20000 in
theorem gX6_cellAt_X6_requirePlace : GoodIn wsX6_cellAt (wsV RX6 111 RX6 yX6_requirePlace wsX6_requirePlace) := goodIn_app (goodIn_of _ (by decide +kernel)) ggX6_cellAt_X6_requirePlace
set_option maxRecDepth 20000 in
theorem ggX6_cellAt_Jx4a65c_get_915e3 : GoodIn wsX6_cellAt wsJx4a65c_get_915e3 := goodIn_r _ [20, 16, 21, 22, 23, 24, 25, 26, 27, 28, 29, 30, 31, 14, 32, 33, 46, 47, 48] (by decide +kernel) (by decide +kernel)
set_option maxRecDepth 20000 in
theorem gX6_cellAt_Jx4a65c_get_915e3 : GoodIn wsX6_cellAt (wsV RX6 125 RJx4a65c yJx4a65c_get_915e3 wsJx4a65c_get_915e3) := goodIn_app (goodIn_of _ (by decide +kernel)) ggX6_cellAt_Jx4a65c_get_915e3
theorem dX6_cellAt_0 : decode cX6_cellAt 0 = .ok (.aload_n 0, 1) := by decide +kernel
theorem dX6_cellAt_1 : decode cX6_cellAt 1 = .ok (.iload_n 1, 1) := by decide +kernel
theorem dX6_cellAt_2 : decode cX6_cellAt 2 = .ok (.invokevirtual 111, 3) := by decide +kernel
theorem dX6_cellAt_5 : decode cX6_cellAt 5 = .ok (.aload_n 0, 1) := by decide +kernel
theorem dX6_cellAt_6 : decode cX6_cellAt 6 = .ok (.getfield 16, 3) := by decide +kernel
theorem dX6_cellAt_9 : decode cX6_cellAt 9 = .ok (.iload_n 1, 1) := by decide +kernel
theorem dX6_cellAt_10 : decode cX6_cellAt 10 = .ok (.invokevirtual 125, 3) := by decide +kernel
theorem dX6_cellAt_13 : decode cX6_cellAt 13 = .ok (.checkcast 60, 3) := by decide +kernel
theorem dX6_cellAt_16 : decode cX6_cellAt 16 = .ok (.getfield 128, 3) := by decide +kernel
theorem dX6_cellAt_19 : decode cX6_cellAt 19 = .ok (.ireturn, 1) := by decide +kernel
set_option maxRecDepth 20000 in
theorem ggX6_source_X6_requireCell : GoodIn wsX6_source wsX6_requireCell := goodIn_ca (goodIn_r _ [5, 6, 7, 8, 9, 10, 11, 12, 13, 14, 15, 16, 17, 18, 19, 20, 21, 22, 23, 24, 25, 26, 27, 28, 29, 30, 31, 32, 230, 231, 232, 233, 234, 235, 236, 237, 238, 239, 240] (by decide +kernel) (by decide +kernel)) (goodIn_sub (fun _ h => List.mem_cons_of_mem _ (List.mem_append_right _ h)) (by decide +kernel))
set_option maxRecDepth 20000 in
theorem gX6_source_X6_requireCell : GoodIn wsX6_source (wsV RX6 72 RX6 yX6_requireCell wsX6_requireCell) := goodIn_app (goodIn_of _ (by decide +kernel)) ggX6_source_X6_requireCell
set_option maxRecDepth 20000 in
theorem ggX6_source_X1_writtenOut : GoodIn wsX6_source wsX1_writtenOut := goodIn_r _ [37, 38, 39, 40, 41, 42, 43, 44, 45, 46, 47, 48, 49, 50, 51, 52, 53, 54, 55, 56, 57, 58, 59, 60, 61, 62, 63, 64, 65, 11, 12, 13, 14, 15, 66, 17, 18, 19, 20, 21, 22, 23, 24, 25, 26, 27, 28, 29, 30, 31, 32, 67, 68, 69, 70, 71, 72, 73, 74, 75, 76, 77, 78, 79, 80, 81, 82, 83, 84, 85, 86, 87, 88, 89, 90, 91, 92, 93, 94, 95, 96, 97, 98, 99, 100, 101, 102, 103, 104, 105, 106, 107, 108, 109, 110, 111, 112, 113, 114, 115, 116, 117, 118, 119, 120, 121, 122, 123, 124, 125, 126, 127, 128, 129, 130, 131, 132, 133, 134, 135, 136, 137, 138, 139, 140, 141, 142, 143, 144, 145, 146, 147, 148, 149, 150, 151, 152, 153, 154, 155, 156, 157, 158, 159, 160, 161, 162, 163, 164, 165, 166, 167, 168, 169, 170, 171, 172, 173, 174, 175, 176, 177, 178, 179, 180, 181, 4, 182, 183, 184, 185, 186, 187, 188, 189, 190, 191, 192, 193, 194, 195, 196, 197, 198, 199, 200, 201, 202, 203, 204, 205, 206, 207, 208, 209, 210, 211, 212, 213, 214, 215, 216, 217, 218, 219, 220, 221, 241, 242, 243, 244, 245, 246, 247, 248, 238, 239, 240, 249, 250, 251, 252] (by decide +kernel) (by decide +kernel)
