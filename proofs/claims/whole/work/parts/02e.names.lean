theorem dX7_sourceChar_64 : decode cX7_sourceChar 64 = .ok (.invokevirtual 125, 3) := by decide +kernel
theorem dX7_sourceChar_67 : decode cX7_sourceChar 67 = .ok (.if_icmp .lt 20, 3) := by decide +kernel
theorem dX7_sourceChar_70 : decode cX7_sourceChar 70 = .ok (.iload 5, 2) := by decide +kernel
theorem dX7_sourceChar_72 : decode cX7_sourceChar 72 = .ok (.aload_n 0, 1) := by decide +kernel
theorem dX7_sourceChar_73 : decode cX7_sourceChar 73 = .ok (.iload 4, 2) := by decide +kernel
theorem dX7_sourceChar_75 : decode cX7_sourceChar 75 = .ok (.invokevirtual 125, 3) := by decide +kernel
theorem dX7_sourceChar_78 : decode cX7_sourceChar 78 = .ok (.isub, 1) := by decide +kernel
theorem dX7_sourceChar_79 : decode cX7_sourceChar 79 = .ok (.istore 5, 2) := by decide +kernel
theorem dX7_sourceChar_81 : decode cX7_sourceChar 81 = .ok (.iinc 4 1, 3) := by decide +kernel
theorem dX7_sourceChar_84 : decode cX7_sourceChar 84 = .ok (.goto (-25), 3) := by decide +kernel
theorem dX7_sourceChar_87 : decode cX7_sourceChar 87 = .ok (.aload_n 0, 1) := by decide +kernel
theorem dX7_sourceChar_88 : decode cX7_sourceChar 88 = .ok (.iload 4, 2) := by decide +kernel
theorem dX7_sourceChar_90 : decode cX7_sourceChar 90 = .ok (.iload 5, 2) := by decide +kernel
theorem dX7_sourceChar_92 : decode cX7_sourceChar 92 = .ok (.invokevirtual 139, 3) := by decide +kernel
theorem dX7_sourceChar_95 : decode cX7_sourceChar 95 = .ok (.ireturn, 1) := by decide +kernel
set_option maxRecDepth 20000 in
theorem ggX7_grant_X7_in : GoodIn wsX7_grant wsX7_in := goodIn_r _ [5] (by decide +kernel) (by decide +kernel)
set_option maxRecDepth 20000 in
theorem gX7_grant_X7_in : GoodIn wsX7_grant (va_wsS RX7 90 yX7_in wsX7_in) := goodIn_app (goodIn_of _ (by decide +kernel)) ggX7_grant_X7_in
set_option maxRecDepth 20000 in
theorem ggX7_grant_X7_isCell : GoodIn wsX7_grant wsX7_isCell := goodIn_r _ [9, 10, 2, 3, 4, 5, 16, 17, 18, 19, 20, 21, 22, 23, 24, 25, 26, 27, 28, 29, 30, 31, 32, 33, 34, 35, 36, 37, 38, 39, 40, 41, 42, 43, 44, 45, 46, 47] (by decide +kernel) (by decide +kernel)
set_option maxRecDepth 20000 in
theorem gX7_grant_X7_isCell : GoodIn wsX7_grant (wsV RX7 105 RX7 yX7_isCell wsX7_isCell) := goodIn_app (goodIn_of _ (by decide +kernel)) ggX7_grant_X7_isCell
set_option maxRecDepth 20000 in
theorem ggX7_grant_X7_goes : GoodIn wsX7_grant wsX7_goes := goodIn_r _ [14, 15, 16, 17, 18, 19, 20, 21, 22, 23, 24, 25, 26, 27, 28, 29, 30, 31, 32, 33, 34, 35, 36, 37, 38, 39, 40, 41, 42, 43, 44, 45, 46, 47] (by decide +kernel) (by decide +kernel)
set_option maxRecDepth 20000 in
theorem gX7_grant_X7_goes : GoodIn wsX7_grant (wsV RX7 98 RX7 yX7_goes wsX7_goes) := goodIn_app (goodIn_of _ (by decide +kernel)) ggX7_grant_X7_goes
theorem dX7_grant_0 : decode cX7_grant 0 = .ok (.aload_n 0, 1) := by decide +kernel
theorem dX7_grant_1 : decode cX7_grant 1 = .ok (.iload_n 1, 1) := by decide +kernel
theorem dX7_grant_2 : decode cX7_grant 2 = .ok (.iconst 1, 1) := by decide +kernel
theorem dX7_grant_3 : decode cX7_grant 3 = .ok (.iconst 4, 1) := by decide +kernel
theorem dX7_grant_4 : decode cX7_grant 4 = .ok (.invokestatic 90, 3) := by decide +kernel
theorem dX7_grant_7 : decode cX7_grant 7 = .ok (.ifCond .eq 15, 3) := by decide +kernel
theorem dX7_grant_10 : decode cX7_grant 10 = .ok (.aload_n 0, 1) := by decide +kernel
theorem dX7_grant_11 : decode cX7_grant 11 = .ok (.iload_n 2, 1) := by decide +kernel
theorem dX7_grant_12 : decode cX7_grant 12 = .ok (.invokevirtual 105, 3) := by decide +kernel
theorem dX7_grant_15 : decode cX7_grant 15 = .ok (.ifCond .eq 7, 3) := by decide +kernel
theorem dX7_grant_18 : decode cX7_grant 18 = .ok (.iconst 1, 1) := by decide +kernel
theorem dX7_grant_19 : decode cX7_grant 19 = .ok (.goto 4, 3) := by decide +kernel
theorem dX7_grant_22 : decode cX7_grant 22 = .ok (.iconst 0, 1) := by decide +kernel
theorem dX7_grant_23 : decode cX7_grant 23 = .ok (.iload_n 3, 1) := by decide +kernel
theorem dX7_grant_24 : decode cX7_grant 24 = .ok (.iconst 0, 1) := by decide +kernel
theorem dX7_grant_25 : decode cX7_grant 25 = .ok (.iconst 3, 1) := by decide +kernel
theorem dX7_grant_26 : decode cX7_grant 26 = .ok (.invokestatic 90, 3) := by decide +kernel
theorem dX7_grant_29 : decode cX7_grant 29 = .ok (.iconst 1, 1) := by decide +kernel
theorem dX7_grant_30 : decode cX7_grant 30 = .ok (.invokevirtual 98, 3) := by decide +kernel
theorem dX7_grant_33 : decode cX7_grant 33 = .ok (.ifCond .ne 5, 3) := by decide +kernel
theorem dX7_grant_36 : decode cX7_grant 36 = .ok (.iconst 0, 1) := by decide +kernel
theorem dX7_grant_37 : decode cX7_grant 37 = .ok (.ireturn, 1) := by decide +kernel
theorem dX7_grant_38 : decode cX7_grant 38 = .ok (.aload_n 0, 1) := by decide +kernel
theorem dX7_grant_39 : decode cX7_grant 39 = .ok (.getfield 34, 3) := by decide +kernel
theorem dX7_grant_42 : decode cX7_grant 42 = .ok (.bipush 16, 2) := by decide +kernel
theorem dX7_grant_44 : decode cX7_grant 44 = .ok (.iload_n 1, 1) := by decide +kernel
theorem dX7_grant_45 : decode cX7_grant 45 = .ok (.imul, 1) := by decide +kernel
theorem dX7_grant_46 : decode cX7_grant 46 = .ok (.iload_n 2, 1) := by decide +kernel
theorem dX7_grant_47 : decode cX7_grant 47 = .ok (.iadd, 1) := by decide +kernel
theorem dX7_grant_48 : decode cX7_grant 48 = .ok (.iaload, 1) := by decide +kernel
theorem dX7_grant_49 : decode cX7_grant 49 = .ok (.istore 4, 2) := by decide +kernel
theorem dX7_grant_51 : decode cX7_grant 51 = .ok (.aload_n 0, 1) := by decide +kernel
theorem dX7_grant_52 : decode cX7_grant 52 = .ok (.getfield 34, 3) := by decide +kernel
theorem dX7_grant_55 : decode cX7_grant 55 = .ok (.bipush 16, 2) := by decide +kernel
theorem dX7_grant_57 : decode cX7_grant 57 = .ok (.iload_n 1, 1) := by decide +kernel
theorem dX7_grant_58 : decode cX7_grant 58 = .ok (.imul, 1) := by decide +kernel
theorem dX7_grant_59 : decode cX7_grant 59 = .ok (.iload_n 2, 1) := by decide +kernel
theorem dX7_grant_60 : decode cX7_grant 60 = .ok (.iadd, 1) := by decide +kernel
theorem dX7_grant_61 : decode cX7_grant 61 = .ok (.iload_n 3, 1) := by decide +kernel
theorem dX7_grant_62 : decode cX7_grant 62 = .ok (.iastore, 1) := by decide +kernel
theorem dX7_grant_63 : decode cX7_grant 63 = .ok (.iload 4, 2) := by decide +kernel
theorem dX7_grant_65 : decode cX7_grant 65 = .ok (.ireturn, 1) := by decide +kernel
set_option maxRecDepth 20000 in
theorem ggX7_right_X7_isUser : GoodIn wsX7_right wsX7_isUser := goodIn_r _ [4, 5, 6, 3, 7] (by decide +kernel) (by decide +kernel)
set_option maxRecDepth 20000 in
theorem gX7_right_X7_isUser : GoodIn wsX7_right (va_wsS RX7 102 yX7_isUser wsX7_isUser) := goodIn_app (goodIn_of _ (by decide +kernel)) ggX7_right_X7_isUser
set_option maxRecDepth 20000 in
theorem ggX7_right_X7_isCell : GoodIn wsX7_right wsX7_isCell := goodIn_r _ [11, 12, 5, 6, 3, 7, 23, 24, 25, 26, 27, 28, 29, 30, 31, 32, 33, 34, 35, 36, 37, 38, 39, 40, 41, 42, 43, 44, 45, 46, 47, 48, 49, 50, 51, 52, 53, 54] (by decide +kernel) (by decide +kernel)
set_option maxRecDepth 20000 in
theorem gX7_right_X7_isCell : GoodIn wsX7_right (wsV RX7 105 RX7 yX7_isCell wsX7_isCell) := goodIn_app (goodIn_of _ (by decide +kernel)) ggX7_right_X7_isCell
set_option maxRecDepth 20000 in
theorem ggX7_right_X7_goes : GoodIn wsX7_right wsX7_goes := goodIn_r _ [16, 17, 23, 24, 25, 26, 27, 28, 29, 30, 31, 32, 33, 34, 35, 36, 37, 38, 39, 40, 41, 42, 43, 44, 45, 46, 47, 48, 49, 50, 51, 52, 53, 54] (by decide +kernel) (by decide +kernel)
set_option maxRecDepth 20000 in
theorem gX7_right_X7_goes : GoodIn wsX7_right (wsV RX7 98 RX7 yX7_goes wsX7_goes) := goodIn_app (goodIn_of _ (by decide +kernel)) ggX7_right_X7_goes
set_option maxRecDepth 20000 in
theorem ggX7_right_X7_rightOf : GoodIn wsX7_right wsX7_rightOf := goodIn_r _ [21, 22, 23, 24, 25, 26, 27, 28, 29, 30, 31, 32, 33, 34, 35, 36, 37, 38, 39, 40, 41, 42, 43, 44, 45, 46, 47, 48, 49, 50, 51, 52, 53, 54] (by decide +kernel) (by decide +kernel)
set_option maxRecDepth 20000 in
theorem gX7_right_X7_rightOf : GoodIn wsX7_right (wsV RX7 111 RX7 yX7_rightOf wsX7_rightOf) := goodIn_app (goodIn_of _ (by decide +kernel)) ggX7_right_X7_rightOf
theorem dX7_right_0 : decode cX7_right 0 = .ok (.aload_n 0, 1) := by decide +kernel
theorem dX7_right_1 : decode cX7_right 1 = .ok (.iload_n 1, 1) := by decide +kernel
theorem dX7_right_2 : decode cX7_right 2 = .ok (.invokestatic 102, 3) := by decide +kernel
theorem dX7_right_5 : decode cX7_right 5 = .ok (.ifCond .eq 15, 3) := by decide +kernel
theorem dX7_right_8 : decode cX7_right 8 = .ok (.aload_n 0, 1) := by decide +kernel
theorem dX7_right_9 : decode cX7_right 9 = .ok (.iload_n 2, 1) := by decide +kernel
theorem dX7_right_10 : decode cX7_right 10 = .ok (.invokevirtual 105, 3) := by decide +kernel
theorem dX7_right_13 : decode cX7_right 13 = .ok (.ifCond .eq 7, 3) := by decide +kernel
theorem dX7_right_16 : decode cX7_right 16 = .ok (.iconst 1, 1) := by decide +kernel
theorem dX7_right_17 : decode cX7_right 17 = .ok (.goto 4, 3) := by decide +kernel
theorem dX7_right_20 : decode cX7_right 20 = .ok (.iconst 0, 1) := by decide +kernel
theorem dX7_right_21 : decode cX7_right 21 = .ok (.iconst 1, 1) := by decide +kernel
theorem dX7_right_22 : decode cX7_right 22 = .ok (.iconst 1, 1) := by decide +kernel
theorem dX7_right_23 : decode cX7_right 23 = .ok (.invokevirtual 98, 3) := by decide +kernel
theorem dX7_right_26 : decode cX7_right 26 = .ok (.ifCond .eq 12, 3) := by decide +kernel
theorem dX7_right_29 : decode cX7_right 29 = .ok (.aload_n 0, 1) := by decide +kernel
theorem dX7_right_30 : decode cX7_right 30 = .ok (.iload_n 1, 1) := by decide +kernel
theorem dX7_right_31 : decode cX7_right 31 = .ok (.iload_n 2, 1) := by decide +kernel
theorem dX7_right_32 : decode cX7_right 32 = .ok (.invokevirtual 111, 3) := by decide +kernel
theorem dX7_right_35 : decode cX7_right 35 = .ok (.goto 4, 3) := by decide +kernel
theorem dX7_right_38 : decode cX7_right 38 = .ok (.iconst 0, 1) := by decide +kernel
theorem dX7_right_39 : decode cX7_right 39 = .ok (.ireturn, 1) := by decide +kernel
set_option maxRecDepth 20000 in
theorem ggX7_canRead_X7_isName : GoodIn wsX7_canRead wsX7_isName := goodIn_r _ [7, 8, 9, 6, 10] (by decide +kernel) (by decide +kernel)
set_option maxRecDepth 20000 in
theorem gX7_canRead_X7_isName : GoodIn wsX7_canRead (va_wsS RX7 94 yX7_isName wsX7_isName) := goodIn_app (goodIn_of _ (by decide +kernel)) ggX7_canRead_X7_isName
set_option maxRecDepth 20000 in
theorem ggX7_canRead_X7_has : GoodIn wsX7_canRead wsX7_has := goodIn_r _ [13] (by decide +kernel) (by decide +kernel)
set_option maxRecDepth 20000 in
theorem gX7_canRead_X7_has : GoodIn wsX7_canRead (va_wsS RX7 148 yX7_has wsX7_has) := goodIn_app (goodIn_of _ (by decide +kernel)) ggX7_canRead_X7_has
theorem dX7_canRead_0 : decode cX7_canRead 0 = .ok (.iload_n 1, 1) := by decide +kernel
theorem dX7_canRead_1 : decode cX7_canRead 1 = .ok (.invokestatic 94, 3) := by decide +kernel
theorem dX7_canRead_4 : decode cX7_canRead 4 = .ok (.ifCond .ne 5, 3) := by decide +kernel
theorem dX7_canRead_7 : decode cX7_canRead 7 = .ok (.iconst 1, 1) := by decide +kernel
theorem dX7_canRead_8 : decode cX7_canRead 8 = .ok (.ireturn, 1) := by decide +kernel
theorem dX7_canRead_9 : decode cX7_canRead 9 = .ok (.aload_n 0, 1) := by decide +kernel
theorem dX7_canRead_10 : decode cX7_canRead 10 = .ok (.dup, 1) := by decide +kernel
theorem dX7_canRead_11 : decode cX7_canRead 11 = .ok (.getfield 142, 3) := by decide +kernel
theorem dX7_canRead_14 : decode cX7_canRead 14 = .ok (.aload_n 0, 1) := by decide +kernel
theorem dX7_canRead_15 : decode cX7_canRead 15 = .ok (.getfield 145, 3) := by decide +kernel
theorem dX7_canRead_18 : decode cX7_canRead 18 = .ok (.iload_n 1, 1) := by decide +kernel
theorem dX7_canRead_19 : decode cX7_canRead 19 = .ok (.invokestatic 148, 3) := by decide +kernel
theorem dX7_canRead_22 : decode cX7_canRead 22 = .ok (.ifCond .eq 7, 3) := by decide +kernel
theorem dX7_canRead_25 : decode cX7_canRead 25 = .ok (.iconst 0, 1) := by decide +kernel
theorem dX7_canRead_26 : decode cX7_canRead 26 = .ok (.goto 6, 3) := by decide +kernel
theorem dX7_canRead_29 : decode cX7_canRead 29 = .ok (.iconst 1, 1) := by decide +kernel
theorem dX7_canRead_30 : decode cX7_canRead 30 = .ok (.iload_n 1, 1) := by decide +kernel
theorem dX7_canRead_31 : decode cX7_canRead 31 = .ok (.ishl, 1) := by decide +kernel
theorem dX7_canRead_32 : decode cX7_canRead 32 = .ok (.ior, 1) := by decide +kernel
theorem dX7_canRead_33 : decode cX7_canRead 33 = .ok (.putfield 142, 3) := by decide +kernel
theorem dX7_canRead_36 : decode cX7_canRead 36 = .ok (.aload_n 0, 1) := by decide +kernel
theorem dX7_canRead_37 : decode cX7_canRead 37 = .ok (.getfield 145, 3) := by decide +kernel
theorem dX7_canRead_40 : decode cX7_canRead 40 = .ok (.iload_n 1, 1) := by decide +kernel
theorem dX7_canRead_41 : decode cX7_canRead 41 = .ok (.invokestatic 148, 3) := by decide +kernel
theorem dX7_canRead_44 : decode cX7_canRead 44 = .ok (.ifCond .ne 14, 3) := by decide +kernel
theorem dX7_canRead_47 : decode cX7_canRead 47 = .ok (.aload_n 0, 1) := by decide +kernel
theorem dX7_canRead_48 : decode cX7_canRead 48 = .ok (.getfield 152, 3) := by decide +kernel
theorem dX7_canRead_51 : decode cX7_canRead 51 = .ok (.iload_n 1, 1) := by decide +kernel
theorem dX7_canRead_52 : decode cX7_canRead 52 = .ok (.invokestatic 148, 3) := by decide +kernel
theorem dX7_canRead_55 : decode cX7_canRead 55 = .ok (.ifCond .eq 7, 3) := by decide +kernel
theorem dX7_canRead_58 : decode cX7_canRead 58 = .ok (.iconst 1, 1) := by decide +kernel
theorem dX7_canRead_59 : decode cX7_canRead 59 = .ok (.goto 4, 3) := by decide +kernel
theorem dX7_canRead_62 : decode cX7_canRead 62 = .ok (.iconst 0, 1) := by decide +kernel
theorem dX7_canRead_63 : decode cX7_canRead 63 = .ok (.ireturn, 1) := by decide +kernel
set_option maxRecDepth 20000 in
theorem ggX7_read_X7_isName : GoodIn wsX7_read wsX7_isName := goodIn_r _ [5, 6, 7, 4, 8] (by decide +kernel) (by decide +kernel)
set_option maxRecDepth 20000 in
theorem gX7_read_X7_isName : GoodIn wsX7_read (va_wsS RX7 94 yX7_isName wsX7_isName) := goodIn_app (goodIn_of _ (by decide +kernel)) ggX7_read_X7_isName
theorem dX7_read_0 : decode cX7_read 0 = .ok (.iload_n 1, 1) := by decide +kernel
theorem dX7_read_1 : decode cX7_read 1 = .ok (.invokestatic 94, 3) := by decide +kernel
theorem dX7_read_4 : decode cX7_read 4 = .ok (.ifCond .eq 13, 3) := by decide +kernel
theorem dX7_read_7 : decode cX7_read 7 = .ok (.aload_n 0, 1) := by decide +kernel
theorem dX7_read_8 : decode cX7_read 8 = .ok (.getfield 77, 3) := by decide +kernel
theorem dX7_read_11 : decode cX7_read 11 = .ok (.iload_n 1, 1) := by decide +kernel
theorem dX7_read_12 : decode cX7_read 12 = .ok (.iaload, 1) := by decide +kernel
theorem dX7_read_13 : decode cX7_read 13 = .ok (.i2l, 1) := by decide +kernel
theorem dX7_read_14 : decode cX7_read 14 = .ok (.goto 9, 3) := by decide +kernel
theorem dX7_read_17 : decode cX7_read 17 = .ok (.iload_n 1, 1) := by decide +kernel
theorem dX7_read_18 : decode cX7_read 18 = .ok (.sipush 600, 3) := by decide +kernel
theorem dX7_read_21 : decode cX7_read 21 = .ok (.isub, 1) := by decide +kernel
theorem dX7_read_22 : decode cX7_read 22 = .ok (.i2l, 1) := by decide +kernel
theorem dX7_read_23 : decode cX7_read 23 = .ok (.lreturn, 1) := by decide +kernel
set_option maxRecDepth 20000 in
theorem ggX7_does_X7_canRead : GoodIn wsX7_does wsX7_canRead := goodIn_r _ [14, 15, 8, 16, 17, 18, 13, 19, 20, 21, 22, 23, 24, 25, 30, 31, 32, 33, 34, 35, 36, 37, 38, 39, 40, 41, 42, 43, 44, 45, 46, 47, 48, 49, 50, 51, 52, 53, 54, 55, 56, 57, 58, 59, 60, 61] (by decide +kernel) (by decide +kernel)
set_option maxRecDepth 20000 in
theorem gX7_does_X7_canRead : GoodIn wsX7_does (wsV RX7 155 RX7 yX7_canRead wsX7_canRead) := goodIn_app (goodIn_of _ (by decide +kernel)) ggX7_does_X7_canRead
set_option maxRecDepth 20000 in
theorem ggX7_does_X7_read : GoodIn wsX7_does wsX7_read := goodIn_r _ [29, 6, 17, 18, 13, 19, 20, 21, 22, 30, 31, 32, 33, 34, 35, 36, 37, 38, 39, 40, 41, 42, 43, 44, 45, 46, 47, 48, 49, 50, 51, 52, 53, 54, 55, 56, 57, 58, 59, 60, 61] (by decide +kernel) (by decide +kernel)
set_option maxRecDepth 20000 in
theorem gX7_does_X7_read : GoodIn wsX7_does (wsV RX7 158 RX7 yX7_read wsX7_read) := goodIn_app (goodIn_of _ (by decide +kernel)) ggX7_does_X7_read
theorem dX7_does_0 : decode cX7_does 0 = .ok (.aload_n 0, 1) := by decide +kernel
theorem dX7_does_1 : decode cX7_does 1 = .ok (.aload_n 0, 1) := by decide +kernel
theorem dX7_does_2 : decode cX7_does 2 = .ok (.getfield 22, 3) := by decide +kernel
theorem dX7_does_5 : decode cX7_does 5 = .ok (.iload_n 1, 1) := by decide +kernel
theorem dX7_does_6 : decode cX7_does 6 = .ok (.iaload, 1) := by decide +kernel
theorem dX7_does_7 : decode cX7_does 7 = .ok (.invokevirtual 155, 3) := by decide +kernel
theorem dX7_does_10 : decode cX7_does 10 = .ok (.ifCond .eq 16, 3) := by decide +kernel
theorem dX7_does_13 : decode cX7_does 13 = .ok (.aload_n 0, 1) := by decide +kernel
theorem dX7_does_14 : decode cX7_does 14 = .ok (.aload_n 0, 1) := by decide +kernel
theorem dX7_does_15 : decode cX7_does 15 = .ok (.getfield 25, 3) := by decide +kernel
theorem dX7_does_18 : decode cX7_does 18 = .ok (.iload_n 1, 1) := by decide +kernel
theorem dX7_does_19 : decode cX7_does 19 = .ok (.iaload, 1) := by decide +kernel
theorem dX7_does_20 : decode cX7_does 20 = .ok (.invokevirtual 155, 3) := by decide +kernel
theorem dX7_does_23 : decode cX7_does 23 = .ok (.ifCond .ne 5, 3) := by decide +kernel
theorem dX7_does_26 : decode cX7_does 26 = .ok (.iconst 0, 1) := by decide +kernel
theorem dX7_does_27 : decode cX7_does 27 = .ok (.ireturn, 1) := by decide +kernel
theorem dX7_does_28 : decode cX7_does 28 = .ok (.aload_n 0, 1) := by decide +kernel
theorem dX7_does_29 : decode cX7_does 29 = .ok (.aload_n 0, 1) := by decide +kernel
theorem dX7_does_30 : decode cX7_does 30 = .ok (.getfield 22, 3) := by decide +kernel
theorem dX7_does_33 : decode cX7_does 33 = .ok (.iload_n 1, 1) := by decide +kernel
theorem dX7_does_34 : decode cX7_does 34 = .ok (.iaload, 1) := by decide +kernel
theorem dX7_does_35 : decode cX7_does 35 = .ok (.invokevirtual 158, 3) := by decide +kernel
theorem dX7_does_38 : decode cX7_does 38 = .ok (.lstore_n 2, 1) := by decide +kernel
theorem dX7_does_39 : decode cX7_does 39 = .ok (.aload_n 0, 1) := by decide +kernel
theorem dX7_does_40 : decode cX7_does 40 = .ok (.aload_n 0, 1) := by decide +kernel
theorem dX7_does_41 : decode cX7_does 41 = .ok (.getfield 25, 3) := by decide +kernel
theorem dX7_does_44 : decode cX7_does 44 = .ok (.iload_n 1, 1) := by decide +kernel
theorem dX7_does_45 : decode cX7_does 45 = .ok (.iaload, 1) := by decide +kernel
theorem dX7_does_46 : decode cX7_does 46 = .ok (.invokevirtual 158, 3) := by decide +kernel
theorem dX7_does_49 : decode cX7_does 49 = .ok (.lstore 4, 2) := by decide +kernel
theorem dX7_does_51 : decode cX7_does 51 = .ok (.aload_n 0, 1) := by decide +kernel
theorem dX7_does_52 : decode cX7_does 52 = .ok (.getfield 19, 3) := by decide +kernel
theorem dX7_does_55 : decode cX7_does 55 = .ok (.iload_n 1, 1) := by decide +kernel
theorem dX7_does_56 : decode cX7_does 56 = .ok (.iaload, 1) := by decide +kernel
theorem dX7_does_57 : decode cX7_does 57 = .ok (.iconst 3, 1) := by decide +kernel
theorem dX7_does_58 : decode cX7_does 58 = .ok (.if_icmp .ne 12, 3) := by decide +kernel
theorem dX7_does_61 : decode cX7_does 61 = .ok (.lload 4, 2) := by decide +kernel
theorem dX7_does_63 : decode cX7_does 63 = .ok (.lconst 0, 1) := by decide +kernel
theorem dX7_does_64 : decode cX7_does 64 = .ok (.lcmp, 1) := by decide +kernel
theorem dX7_does_65 : decode cX7_does 65 = .ok (.ifCond .ne 5, 3) := by decide +kernel
theorem dX7_does_68 : decode cX7_does 68 = .ok (.iconst 0, 1) := by decide +kernel
theorem dX7_does_69 : decode cX7_does 69 = .ok (.ireturn, 1) := by decide +kernel
theorem dX7_does_70 : decode cX7_does 70 = .ok (.aload_n 0, 1) := by decide +kernel
theorem dX7_does_71 : decode cX7_does 71 = .ok (.getfield 19, 3) := by decide +kernel
theorem dX7_does_74 : decode cX7_does 74 = .ok (.iload_n 1, 1) := by decide +kernel
theorem dX7_does_75 : decode cX7_does 75 = .ok (.iaload, 1) := by decide +kernel
theorem dX7_does_76 : decode cX7_does 76 = .ok (.istore 6, 2) := by decide +kernel
theorem dX7_does_78 : decode cX7_does 78 = .ok (.iload 6, 2) := by decide +kernel
theorem dX7_does_80 : decode cX7_does 80 = .ok (.ifCond .ne 10, 3) := by decide +kernel
theorem dX7_does_83 : decode cX7_does 83 = .ok (.lload_n 2, 1) := by decide +kernel
theorem dX7_does_84 : decode cX7_does 84 = .ok (.lload 4, 2) := by decide +kernel
theorem dX7_does_86 : decode cX7_does 86 = .ok (.ladd, 1) := by decide +kernel
theorem dX7_does_87 : decode cX7_does 87 = .ok (.goto 33, 3) := by decide +kernel
theorem dX7_does_90 : decode cX7_does 90 = .ok (.iload 6, 2) := by decide +kernel
theorem dX7_does_92 : decode cX7_does 92 = .ok (.iconst 1, 1) := by decide +kernel
theorem dX7_does_93 : decode cX7_does 93 = .ok (.if_icmp .ne 10, 3) := by decide +kernel
theorem dX7_does_96 : decode cX7_does 96 = .ok (.lload_n 2, 1) := by decide +kernel
theorem dX7_does_97 : decode cX7_does 97 = .ok (.lload 4, 2) := by decide +kernel
theorem dX7_does_99 : decode cX7_does 99 = .ok (.lsub, 1) := by decide +kernel
theorem dX7_does_100 : decode cX7_does 100 = .ok (.goto 20, 3) := by decide +kernel
theorem dX7_does_103 : decode cX7_does 103 = .ok (.iload 6, 2) := by decide +kernel
theorem dX7_does_105 : decode cX7_does 105 = .ok (.iconst 2, 1) := by decide +kernel
theorem dX7_does_106 : decode cX7_does 106 = .ok (.if_icmp .ne 10, 3) := by decide +kernel
theorem dX7_does_109 : decode cX7_does 109 = .ok (.lload_n 2, 1) := by decide +kernel
theorem dX7_does_110 : decode cX7_does 110 = .ok (.lload 4, 2) := by decide +kernel
theorem dX7_does_112 : decode cX7_does 112 = .ok (.lmul, 1) := by decide +kernel
theorem dX7_does_113 : decode cX7_does 113 = .ok (.goto 7, 3) := by decide +kernel
theorem dX7_does_116 : decode cX7_does 116 = .ok (.lload_n 2, 1) := by decide +kernel
theorem dX7_does_117 : decode cX7_does 117 = .ok (.lload 4, 2) := by decide +kernel
theorem dX7_does_119 : decode cX7_does 119 = .ok (.ldiv, 1) := by decide +kernel
theorem dX7_does_120 : decode cX7_does 120 = .ok (.lstore 7, 2) := by decide +kernel
theorem dX7_does_122 : decode cX7_does 122 = .ok (.lload 7, 2) := by decide +kernel
theorem dX7_does_124 : decode cX7_does 124 = .ok (.ldc2_w 162, 3) := by decide +kernel
theorem dX7_does_127 : decode cX7_does 127 = .ok (.lcmp, 1) := by decide +kernel
theorem dX7_does_128 : decode cX7_does 128 = .ok (.ifCond .gt 12, 3) := by decide +kernel
theorem dX7_does_131 : decode cX7_does 131 = .ok (.lload 7, 2) := by decide +kernel
theorem dX7_does_133 : decode cX7_does 133 = .ok (.ldc2_w 164, 3) := by decide +kernel
theorem dX7_does_136 : decode cX7_does 136 = .ok (.lcmp, 1) := by decide +kernel
theorem dX7_does_137 : decode cX7_does 137 = .ok (.ifCond .ge 5, 3) := by decide +kernel
theorem dX7_does_140 : decode cX7_does 140 = .ok (.iconst 0, 1) := by decide +kernel
theorem dX7_does_141 : decode cX7_does 141 = .ok (.ireturn, 1) := by decide +kernel
theorem dX7_does_142 : decode cX7_does 142 = .ok (.aload_n 0, 1) := by decide +kernel
theorem dX7_does_143 : decode cX7_does 143 = .ok (.getfield 77, 3) := by decide +kernel
theorem dX7_does_146 : decode cX7_does 146 = .ok (.aload_n 0, 1) := by decide +kernel
theorem dX7_does_147 : decode cX7_does 147 = .ok (.getfield 16, 3) := by decide +kernel
theorem dX7_does_150 : decode cX7_does 150 = .ok (.iload_n 1, 1) := by decide +kernel
theorem dX7_does_151 : decode cX7_does 151 = .ok (.iaload, 1) := by decide +kernel
theorem dX7_does_152 : decode cX7_does 152 = .ok (.lload 7, 2) := by decide +kernel
theorem dX7_does_154 : decode cX7_does 154 = .ok (.l2i, 1) := by decide +kernel
theorem dX7_does_155 : decode cX7_does 155 = .ok (.iastore, 1) := by decide +kernel
theorem dX7_does_156 : decode cX7_does 156 = .ok (.aload_n 0, 1) := by decide +kernel
theorem dX7_does_157 : decode cX7_does 157 = .ok (.dup, 1) := by decide +kernel
theorem dX7_does_158 : decode cX7_does 158 = .ok (.getfield 145, 3) := by decide +kernel
theorem dX7_does_161 : decode cX7_does 161 = .ok (.iconst 1, 1) := by decide +kernel
theorem dX7_does_162 : decode cX7_does 162 = .ok (.aload_n 0, 1) := by decide +kernel
theorem dX7_does_163 : decode cX7_does 163 = .ok (.getfield 16, 3) := by decide +kernel
theorem dX7_does_166 : decode cX7_does 166 = .ok (.iload_n 1, 1) := by decide +kernel
theorem dX7_does_167 : decode cX7_does 167 = .ok (.iaload, 1) := by decide +kernel
theorem dX7_does_168 : decode cX7_does 168 = .ok (.ishl, 1) := by decide +kernel
theorem dX7_does_169 : decode cX7_does 169 = .ok (.ior, 1) := by decide +kernel
theorem dX7_does_170 : decode cX7_does 170 = .ok (.putfield 145, 3) := by decide +kernel
theorem dX7_does_173 : decode cX7_does 173 = .ok (.aload_n 0, 1) := by decide +kernel
theorem dX7_does_174 : decode cX7_does 174 = .ok (.lload 7, 2) := by decide +kernel
theorem dX7_does_176 : decode cX7_does 176 = .ok (.l2i, 1) := by decide +kernel
theorem dX7_does_177 : decode cX7_does 177 = .ok (.putfield 166, 3) := by decide +kernel
theorem dX7_does_180 : decode cX7_does 180 = .ok (.iconst 1, 1) := by decide +kernel
theorem dX7_does_181 : decode cX7_does 181 = .ok (.ireturn, 1) := by decide +kernel
set_option maxRecDepth 20000 in
theorem ggX7_doesAll_X7_does : GoodIn wsX7_doesAll wsX7_does := goodIn_r _ [8, 9, 10, 11, 12, 13, 14, 15, 1, 16, 17, 18, 19, 7, 20, 2, 21, 22, 23, 24, 25, 26, 27, 28, 29, 30, 31, 32, 33, 34, 35, 36, 37, 38, 39, 40, 41, 42, 43, 44, 45, 46, 47, 48, 49, 50, 51, 52, 53, 54, 55, 56, 57, 58, 59, 60, 61, 62, 63, 64, 65, 66] (by decide +kernel) (by decide +kernel)
set_option maxRecDepth 20000 in
theorem gX7_doesAll_X7_does : GoodIn wsX7_doesAll (wsV RX7 169 RX7 yX7_does wsX7_does) := goodIn_app (goodIn_of _ (by decide +kernel)) ggX7_doesAll_X7_does
theorem dX7_doesAll_0 : decode cX7_doesAll 0 = .ok (.aload_n 0, 1) := by decide +kernel
theorem dX7_doesAll_1 : decode cX7_doesAll 1 = .ok (.iconst 0, 1) := by decide +kernel
theorem dX7_doesAll_2 : decode cX7_doesAll 2 = .ok (.putfield 145, 3) := by decide +kernel
theorem dX7_doesAll_5 : decode cX7_doesAll 5 = .ok (.aload_n 0, 1) := by decide +kernel
theorem dX7_doesAll_6 : decode cX7_doesAll 6 = .ok (.iconst 0, 1) := by decide +kernel
theorem dX7_doesAll_7 : decode cX7_doesAll 7 = .ok (.putfield 142, 3) := by decide +kernel
theorem dX7_doesAll_10 : decode cX7_doesAll 10 = .ok (.iconst 1, 1) := by decide +kernel
theorem dX7_doesAll_11 : decode cX7_doesAll 11 = .ok (.istore_n 2, 1) := by decide +kernel
theorem dX7_doesAll_12 : decode cX7_doesAll 12 = .ok (.iconst 0, 1) := by decide +kernel
theorem dX7_doesAll_13 : decode cX7_doesAll 13 = .ok (.istore_n 3, 1) := by decide +kernel
theorem dX7_doesAll_14 : decode cX7_doesAll 14 = .ok (.iload_n 3, 1) := by decide +kernel
theorem dX7_doesAll_15 : decode cX7_doesAll 15 = .ok (.aload_n 0, 1) := by decide +kernel
theorem dX7_doesAll_16 : decode cX7_doesAll 16 = .ok (.getfield 13, 3) := by decide +kernel
theorem dX7_doesAll_19 : decode cX7_doesAll 19 = .ok (.iload_n 1, 1) := by decide +kernel
theorem dX7_doesAll_20 : decode cX7_doesAll 20 = .ok (.iaload, 1) := by decide +kernel
theorem dX7_doesAll_21 : decode cX7_doesAll 21 = .ok (.if_icmp .ge 24, 3) := by decide +kernel
theorem dX7_doesAll_24 : decode cX7_doesAll 24 = .ok (.iload_n 2, 1) := by decide +kernel
theorem dX7_doesAll_25 : decode cX7_doesAll 25 = .ok (.ifCond .eq 20, 3) := by decide +kernel
theorem dX7_doesAll_28 : decode cX7_doesAll 28 = .ok (.aload_n 0, 1) := by decide +kernel
theorem dX7_doesAll_29 : decode cX7_doesAll 29 = .ok (.bipush 6, 2) := by decide +kernel
theorem dX7_doesAll_31 : decode cX7_doesAll 31 = .ok (.iload_n 1, 1) := by decide +kernel
theorem dX7_doesAll_32 : decode cX7_doesAll 32 = .ok (.imul, 1) := by decide +kernel
theorem dX7_doesAll_33 : decode cX7_doesAll 33 = .ok (.iload_n 3, 1) := by decide +kernel
theorem dX7_doesAll_34 : decode cX7_doesAll 34 = .ok (.iadd, 1) := by decide +kernel
theorem dX7_doesAll_35 : decode cX7_doesAll 35 = .ok (.invokevirtual 169, 3) := by decide +kernel
theorem dX7_doesAll_38 : decode cX7_doesAll 38 = .ok (.istore_n 2, 1) := by decide +kernel
theorem dX7_doesAll_39 : decode cX7_doesAll 39 = .ok (.iinc 3 1, 3) := by decide +kernel
theorem dX7_doesAll_42 : decode cX7_doesAll 42 = .ok (.goto (-28), 3) := by decide +kernel
theorem dX7_doesAll_45 : decode cX7_doesAll 45 = .ok (.iload_n 2, 1) := by decide +kernel
theorem dX7_doesAll_46 : decode cX7_doesAll 46 = .ok (.ireturn, 1) := by decide +kernel
theorem dX7_laysNow_0 : decode cX7_laysNow 0 = .ok (.aload_n 0, 1) := by decide +kernel
theorem dX7_laysNow_1 : decode cX7_laysNow 1 = .ok (.iconst 0, 1) := by decide +kernel
theorem dX7_laysNow_2 : decode cX7_laysNow 2 = .ok (.putfield 152, 3) := by decide +kernel
theorem dX7_laysNow_5 : decode cX7_laysNow 5 = .ok (.iconst 0, 1) := by decide +kernel
theorem dX7_laysNow_6 : decode cX7_laysNow 6 = .ok (.istore_n 1, 1) := by decide +kernel
theorem dX7_laysNow_7 : decode cX7_laysNow 7 = .ok (.iload_n 1, 1) := by decide +kernel
theorem dX7_laysNow_8 : decode cX7_laysNow 8 = .ok (.bipush 8, 2) := by decide +kernel
theorem dX7_laysNow_10 : decode cX7_laysNow 10 = .ok (.if_icmp .ge 46, 3) := by decide +kernel
theorem dX7_laysNow_13 : decode cX7_laysNow 13 = .ok (.aload_n 0, 1) := by decide +kernel
theorem dX7_laysNow_14 : decode cX7_laysNow 14 = .ok (.getfield 77, 3) := by decide +kernel
theorem dX7_laysNow_17 : decode cX7_laysNow 17 = .ok (.iload_n 1, 1) := by decide +kernel
theorem dX7_laysNow_18 : decode cX7_laysNow 18 = .ok (.aload_n 0, 1) := by decide +kernel
theorem dX7_laysNow_19 : decode cX7_laysNow 19 = .ok (.getfield 37, 3) := by decide +kernel
theorem dX7_laysNow_22 : decode cX7_laysNow 22 = .ok (.iload_n 1, 1) := by decide +kernel
theorem dX7_laysNow_23 : decode cX7_laysNow 23 = .ok (.iaload, 1) := by decide +kernel
theorem dX7_laysNow_24 : decode cX7_laysNow 24 = .ok (.iastore, 1) := by decide +kernel
theorem dX7_laysNow_25 : decode cX7_laysNow 25 = .ok (.aload_n 0, 1) := by decide +kernel
theorem dX7_laysNow_26 : decode cX7_laysNow 26 = .ok (.dup, 1) := by decide +kernel
theorem dX7_laysNow_27 : decode cX7_laysNow 27 = .ok (.getfield 152, 3) := by decide +kernel
theorem dX7_laysNow_30 : decode cX7_laysNow 30 = .ok (.aload_n 0, 1) := by decide +kernel
theorem dX7_laysNow_31 : decode cX7_laysNow 31 = .ok (.getfield 40, 3) := by decide +kernel
theorem dX7_laysNow_34 : decode cX7_laysNow 34 = .ok (.iload_n 1, 1) := by decide +kernel
theorem dX7_laysNow_35 : decode cX7_laysNow 35 = .ok (.iaload, 1) := by decide +kernel
theorem dX7_laysNow_36 : decode cX7_laysNow 36 = .ok (.ifCond .le 9, 3) := by decide +kernel
theorem dX7_laysNow_39 : decode cX7_laysNow 39 = .ok (.iconst 1, 1) := by decide +kernel
theorem dX7_laysNow_40 : decode cX7_laysNow 40 = .ok (.iload_n 1, 1) := by decide +kernel
theorem dX7_laysNow_41 : decode cX7_laysNow 41 = .ok (.ishl, 1) := by decide +kernel
theorem dX7_laysNow_42 : decode cX7_laysNow 42 = .ok (.goto 4, 3) := by decide +kernel
theorem dX7_laysNow_45 : decode cX7_laysNow 45 = .ok (.iconst 0, 1) := by decide +kernel
theorem dX7_laysNow_46 : decode cX7_laysNow 46 = .ok (.ior, 1) := by decide +kernel
theorem dX7_laysNow_47 : decode cX7_laysNow 47 = .ok (.putfield 152, 3) := by decide +kernel
theorem dX7_laysNow_50 : decode cX7_laysNow 50 = .ok (.iinc 1 1, 3) := by decide +kernel
theorem dX7_laysNow_53 : decode cX7_laysNow 53 = .ok (.goto (-46), 3) := by decide +kernel
theorem dX7_laysNow_56 : decode cX7_laysNow 56 = .ok (.return_, 1) := by decide +kernel
set_option maxRecDepth 20000 in
theorem ggX7_runs_X7_laysNow : GoodIn wsX7_runs wsX7_laysNow := goodIn_r _ [21, 22, 15, 14, 11, 54, 55, 56, 57, 58, 59, 60, 61, 62, 63, 64, 65, 66, 67, 68, 69, 70, 71, 72, 73, 74, 75, 76, 77, 78, 79, 80, 81, 82, 83, 84, 85] (by decide +kernel) (by decide +kernel)
set_option maxRecDepth 20000 in
theorem gX7_runs_X7_laysNow : GoodIn wsX7_runs (wsV RX7 172 RX7 yX7_laysNow wsX7_laysNow) := goodIn_app (goodIn_of _ (by decide +kernel)) ggX7_runs_X7_laysNow
set_option maxRecDepth 20000 in
theorem ggX7_runs_X7_doesAll : GoodIn wsX7_runs wsX7_doesAll := goodIn_r _ [26, 13, 5, 7, 27, 28, 29, 20, 30, 31, 32, 33, 34, 35, 15, 36, 9, 37, 38, 39, 40, 22, 41, 42, 43, 44, 45, 46, 47, 48, 49, 50, 51, 52, 53, 54, 55, 56, 57, 58, 59, 60, 61, 62, 63, 64, 65, 66, 67, 68, 69, 70, 71, 72, 73, 74, 75, 76, 77, 78, 79, 80, 81, 82, 83, 84, 85] (by decide +kernel) (by decide +kernel)
set_option maxRecDepth 20000 in
theorem gX7_runs_X7_doesAll : GoodIn wsX7_runs (wsV RX7 175 RX7 yX7_doesAll wsX7_doesAll) := goodIn_app (goodIn_of _ (by decide +kernel)) ggX7_runs_X7_doesAll
set_option maxRecDepth 20000 in
theorem ggX7_runs_X7_has : GoodIn wsX7_runs wsX7_has := goodIn_r _ [49] (by decide +kernel) (by decide +kernel)
set_option maxRecDepth 20000 in
theorem gX7_runs_X7_has : GoodIn wsX7_runs (va_wsS RX7 148 yX7_has wsX7_has) := goodIn_app (goodIn_of _ (by decide +kernel)) ggX7_runs_X7_has
theorem dX7_runs_0 : decode cX7_runs 0 = .ok (.aload_n 0, 1) := by decide +kernel
theorem dX7_runs_1 : decode cX7_runs 1 = .ok (.invokevirtual 172, 3) := by decide +kernel
theorem dX7_runs_4 : decode cX7_runs 4 = .ok (.aload_n 0, 1) := by decide +kernel
theorem dX7_runs_5 : decode cX7_runs 5 = .ok (.iload_n 2, 1) := by decide +kernel
theorem dX7_runs_6 : decode cX7_runs 6 = .ok (.invokevirtual 175, 3) := by decide +kernel
theorem dX7_runs_9 : decode cX7_runs 9 = .ok (.istore_n 3, 1) := by decide +kernel
theorem dX7_runs_10 : decode cX7_runs 10 = .ok (.aload_n 0, 1) := by decide +kernel
theorem dX7_runs_11 : decode cX7_runs 11 = .ok (.dup, 1) := by decide +kernel
theorem dX7_runs_12 : decode cX7_runs 12 = .ok (.getfield 115, 3) := by decide +kernel
theorem dX7_runs_15 : decode cX7_runs 15 = .ok (.iconst 1, 1) := by decide +kernel
theorem dX7_runs_16 : decode cX7_runs 16 = .ok (.iadd, 1) := by decide +kernel
theorem dX7_runs_17 : decode cX7_runs 17 = .ok (.putfield 115, 3) := by decide +kernel
theorem dX7_runs_20 : decode cX7_runs 20 = .ok (.aload_n 0, 1) := by decide +kernel
theorem dX7_runs_21 : decode cX7_runs 21 = .ok (.getfield 46, 3) := by decide +kernel
theorem dX7_runs_24 : decode cX7_runs 24 = .ok (.aload_n 0, 1) := by decide +kernel
theorem dX7_runs_25 : decode cX7_runs 25 = .ok (.getfield 115, 3) := by decide +kernel
theorem dX7_runs_28 : decode cX7_runs 28 = .ok (.iload_n 2, 1) := by decide +kernel
theorem dX7_runs_29 : decode cX7_runs 29 = .ok (.iastore, 1) := by decide +kernel
theorem dX7_runs_30 : decode cX7_runs 30 = .ok (.aload_n 0, 1) := by decide +kernel
theorem dX7_runs_31 : decode cX7_runs 31 = .ok (.getfield 49, 3) := by decide +kernel
theorem dX7_runs_34 : decode cX7_runs 34 = .ok (.aload_n 0, 1) := by decide +kernel
theorem dX7_runs_35 : decode cX7_runs 35 = .ok (.getfield 115, 3) := by decide +kernel
theorem dX7_runs_38 : decode cX7_runs 38 = .ok (.iload_n 1, 1) := by decide +kernel
theorem dX7_runs_39 : decode cX7_runs 39 = .ok (.iastore, 1) := by decide +kernel
theorem dX7_runs_40 : decode cX7_runs 40 = .ok (.aload_n 0, 1) := by decide +kernel
theorem dX7_runs_41 : decode cX7_runs 41 = .ok (.getfield 52, 3) := by decide +kernel
theorem dX7_runs_44 : decode cX7_runs 44 = .ok (.aload_n 0, 1) := by decide +kernel
theorem dX7_runs_45 : decode cX7_runs 45 = .ok (.getfield 115, 3) := by decide +kernel
theorem dX7_runs_48 : decode cX7_runs 48 = .ok (.aload_n 0, 1) := by decide +kernel
theorem dX7_runs_49 : decode cX7_runs 49 = .ok (.getfield 142, 3) := by decide +kernel
theorem dX7_runs_52 : decode cX7_runs 52 = .ok (.iastore, 1) := by decide +kernel
theorem dX7_runs_53 : decode cX7_runs 53 = .ok (.aload_n 0, 1) := by decide +kernel
theorem dX7_runs_54 : decode cX7_runs 54 = .ok (.getfield 58, 3) := by decide +kernel
theorem dX7_runs_57 : decode cX7_runs 57 = .ok (.aload_n 0, 1) := by decide +kernel
theorem dX7_runs_58 : decode cX7_runs 58 = .ok (.getfield 115, 3) := by decide +kernel
theorem dX7_runs_61 : decode cX7_runs 61 = .ok (.iload_n 3, 1) := by decide +kernel
theorem dX7_runs_62 : decode cX7_runs 62 = .ok (.ifCond .eq 16, 3) := by decide +kernel
theorem dX7_runs_65 : decode cX7_runs 65 = .ok (.aload_n 0, 1) := by decide +kernel
theorem dX7_runs_66 : decode cX7_runs 66 = .ok (.getfield 13, 3) := by decide +kernel
theorem dX7_runs_69 : decode cX7_runs 69 = .ok (.iload_n 2, 1) := by decide +kernel
theorem dX7_runs_70 : decode cX7_runs 70 = .ok (.iaload, 1) := by decide +kernel
theorem dX7_runs_71 : decode cX7_runs 71 = .ok (.ifCond .le 7, 3) := by decide +kernel
theorem dX7_runs_74 : decode cX7_runs 74 = .ok (.iconst 1, 1) := by decide +kernel
theorem dX7_runs_75 : decode cX7_runs 75 = .ok (.goto 4, 3) := by decide +kernel
theorem dX7_runs_78 : decode cX7_runs 78 = .ok (.iconst 0, 1) := by decide +kernel
theorem dX7_runs_79 : decode cX7_runs 79 = .ok (.bastore, 1) := by decide +kernel
theorem dX7_runs_80 : decode cX7_runs 80 = .ok (.aload_n 0, 1) := by decide +kernel
theorem dX7_runs_81 : decode cX7_runs 81 = .ok (.getfield 55, 3) := by decide +kernel
theorem dX7_runs_84 : decode cX7_runs 84 = .ok (.aload_n 0, 1) := by decide +kernel
theorem dX7_runs_85 : decode cX7_runs 85 = .ok (.getfield 115, 3) := by decide +kernel
theorem dX7_runs_88 : decode cX7_runs 88 = .ok (.aload_n 0, 1) := by decide +kernel
theorem dX7_runs_89 : decode cX7_runs 89 = .ok (.getfield 166, 3) := by decide +kernel
theorem dX7_runs_92 : decode cX7_runs 92 = .ok (.iastore, 1) := by decide +kernel
theorem dX7_runs_93 : decode cX7_runs 93 = .ok (.iconst 0, 1) := by decide +kernel
theorem dX7_runs_94 : decode cX7_runs 94 = .ok (.istore 4, 2) := by decide +kernel
theorem dX7_runs_96 : decode cX7_runs 96 = .ok (.iload 4, 2) := by decide +kernel
theorem dX7_runs_98 : decode cX7_runs 98 = .ok (.bipush 8, 2) := by decide +kernel
theorem dX7_runs_100 : decode cX7_runs 100 = .ok (.if_icmp .ge 91, 3) := by decide +kernel
theorem dX7_runs_103 : decode cX7_runs 103 = .ok (.aload_n 0, 1) := by decide +kernel
theorem dX7_runs_104 : decode cX7_runs 104 = .ok (.getfield 65, 3) := by decide +kernel
theorem dX7_runs_107 : decode cX7_runs 107 = .ok (.bipush 8, 2) := by decide +kernel
theorem dX7_runs_109 : decode cX7_runs 109 = .ok (.aload_n 0, 1) := by decide +kernel
theorem dX7_runs_110 : decode cX7_runs 110 = .ok (.getfield 115, 3) := by decide +kernel
theorem dX7_runs_113 : decode cX7_runs 113 = .ok (.imul, 1) := by decide +kernel
theorem dX7_runs_114 : decode cX7_runs 114 = .ok (.iload 4, 2) := by decide +kernel
theorem dX7_runs_116 : decode cX7_runs 116 = .ok (.iadd, 1) := by decide +kernel
theorem dX7_runs_117 : decode cX7_runs 117 = .ok (.aload_n 0, 1) := by decide +kernel
theorem dX7_runs_118 : decode cX7_runs 118 = .ok (.getfield 40, 3) := by decide +kernel
theorem dX7_runs_121 : decode cX7_runs 121 = .ok (.iload 4, 2) := by decide +kernel
theorem dX7_runs_123 : decode cX7_runs 123 = .ok (.iaload, 1) := by decide +kernel
theorem dX7_runs_124 : decode cX7_runs 124 = .ok (.iastore, 1) := by decide +kernel
theorem dX7_runs_125 : decode cX7_runs 125 = .ok (.aload_n 0, 1) := by decide +kernel
theorem dX7_runs_126 : decode cX7_runs 126 = .ok (.getfield 43, 3) := by decide +kernel
theorem dX7_runs_129 : decode cX7_runs 129 = .ok (.iload 4, 2) := by decide +kernel
theorem dX7_runs_131 : decode cX7_runs 131 = .ok (.dup2, 1) := by decide +kernel
theorem dX7_runs_132 : decode cX7_runs 132 = .ok (.iaload, 1) := by decide +kernel
theorem dX7_runs_133 : decode cX7_runs 133 = .ok (.aload_n 0, 1) := by decide +kernel
theorem dX7_runs_134 : decode cX7_runs 134 = .ok (.getfield 142, 3) := by decide +kernel
theorem dX7_runs_137 : decode cX7_runs 137 = .ok (.iload 4, 2) := by decide +kernel
theorem dX7_runs_139 : decode cX7_runs 139 = .ok (.ishr, 1) := by decide +kernel
theorem dX7_runs_140 : decode cX7_runs 140 = .ok (.iconst 1, 1) := by decide +kernel
theorem dX7_runs_141 : decode cX7_runs 141 = .ok (.iand, 1) := by decide +kernel
theorem dX7_runs_142 : decode cX7_runs 142 = .ok (.iadd, 1) := by decide +kernel
theorem dX7_runs_143 : decode cX7_runs 143 = .ok (.iastore, 1) := by decide +kernel
theorem dX7_runs_144 : decode cX7_runs 144 = .ok (.iload_n 3, 1) := by decide +kernel
theorem dX7_runs_145 : decode cX7_runs 145 = .ok (.ifCond .eq 40, 3) := by decide +kernel
theorem dX7_runs_148 : decode cX7_runs 148 = .ok (.aload_n 0, 1) := by decide +kernel
theorem dX7_runs_149 : decode cX7_runs 149 = .ok (.getfield 145, 3) := by decide +kernel
theorem dX7_runs_152 : decode cX7_runs 152 = .ok (.iload 4, 2) := by decide +kernel
theorem dX7_runs_154 : decode cX7_runs 154 = .ok (.invokestatic 148, 3) := by decide +kernel
theorem dX7_runs_157 : decode cX7_runs 157 = .ok (.ifCond .eq 28, 3) := by decide +kernel
theorem dX7_runs_160 : decode cX7_runs 160 = .ok (.aload_n 0, 1) := by decide +kernel
theorem dX7_runs_161 : decode cX7_runs 161 = .ok (.getfield 37, 3) := by decide +kernel
theorem dX7_runs_164 : decode cX7_runs 164 = .ok (.iload 4, 2) := by decide +kernel
theorem dX7_runs_166 : decode cX7_runs 166 = .ok (.aload_n 0, 1) := by decide +kernel
theorem dX7_runs_167 : decode cX7_runs 167 = .ok (.getfield 77, 3) := by decide +kernel
theorem dX7_runs_170 : decode cX7_runs 170 = .ok (.iload 4, 2) := by decide +kernel
theorem dX7_runs_172 : decode cX7_runs 172 = .ok (.iaload, 1) := by decide +kernel
theorem dX7_runs_173 : decode cX7_runs 173 = .ok (.iastore, 1) := by decide +kernel
theorem dX7_runs_174 : decode cX7_runs 174 = .ok (.aload_n 0, 1) := by decide +kernel
theorem dX7_runs_175 : decode cX7_runs 175 = .ok (.getfield 40, 3) := by decide +kernel
theorem dX7_runs_178 : decode cX7_runs 178 = .ok (.iload 4, 2) := by decide +kernel
theorem dX7_runs_180 : decode cX7_runs 180 = .ok (.aload_n 0, 1) := by decide +kernel
theorem dX7_runs_181 : decode cX7_runs 181 = .ok (.getfield 115, 3) := by decide +kernel
theorem dX7_runs_184 : decode cX7_runs 184 = .ok (.iastore, 1) := by decide +kernel
theorem dX7_runs_185 : decode cX7_runs 185 = .ok (.iinc 4 1, 3) := by decide +kernel
theorem dX7_runs_188 : decode cX7_runs 188 = .ok (.goto (-92), 3) := by decide +kernel
theorem dX7_runs_191 : decode cX7_runs 191 = .ok (.aload_n 0, 1) := by decide +kernel
theorem dX7_runs_192 : decode cX7_runs 192 = .ok (.getfield 31, 3) := by decide +kernel
theorem dX7_runs_195 : decode cX7_runs 195 = .ok (.iload_n 2, 1) := by decide +kernel
theorem dX7_runs_196 : decode cX7_runs 196 = .ok (.aload_n 0, 1) := by decide +kernel
theorem dX7_runs_197 : decode cX7_runs 197 = .ok (.getfield 115, 3) := by decide +kernel
theorem dX7_runs_200 : decode cX7_runs 200 = .ok (.iastore, 1) := by decide +kernel
theorem dX7_runs_201 : decode cX7_runs 201 = .ok (.iload_n 3, 1) := by decide +kernel
theorem dX7_runs_202 : decode cX7_runs 202 = .ok (.ireturn, 1) := by decide +kernel
set_option maxRecDepth 20000 in
theorem ggX7_run_X7_isUser : GoodIn wsX7_run wsX7_isUser := goodIn_r _ [5, 6, 7, 4, 8] (by decide +kernel) (by decide +kernel)
set_option maxRecDepth 20000 in
theorem gX7_run_X7_isUser : GoodIn wsX7_run (va_wsS RX7 102 yX7_isUser wsX7_isUser) := goodIn_app (goodIn_of _ (by decide +kernel)) ggX7_run_X7_isUser
set_option maxRecDepth 20000 in
theorem ggX7_run_X7_isCell : GoodIn wsX7_run wsX7_isCell := goodIn_r _ [12, 13, 6, 7, 4, 8, 76, 77, 78, 79, 80, 81, 82, 83, 84, 85, 86, 87, 88, 89, 90, 91, 92, 93, 94, 95, 96, 97, 98, 99, 100, 101, 102, 103, 104, 105, 106, 107] (by decide +kernel) (by decide +kernel)
set_option maxRecDepth 20000 in
theorem gX7_run_X7_isCell : GoodIn wsX7_run (wsV RX7 105 RX7 yX7_isCell wsX7_isCell) := goodIn_app (goodIn_of _ (by decide +kernel)) ggX7_run_X7_isCell
set_option maxRecDepth 20000 in
theorem ggX7_run_X7_rightOf : GoodIn wsX7_run wsX7_rightOf := goodIn_r _ [17, 18, 76, 77, 78, 79, 80, 81, 82, 83, 84, 85, 86, 87, 88, 89, 90, 91, 92, 93, 94, 95, 96, 97, 98, 99, 100, 101, 102, 103, 104, 105, 106, 107] (by decide +kernel) (by decide +kernel)
set_option maxRecDepth 20000 in
theorem gX7_run_X7_rightOf : GoodIn wsX7_run (wsV RX7 111 RX7 yX7_rightOf wsX7_rightOf) := goodIn_app (goodIn_of _ (by decide +kernel)) ggX7_run_X7_rightOf
set_option maxRecDepth 20000 in
theorem ggX7_run_X7_goes : GoodIn wsX7_run wsX7_goes := goodIn_r _ [22, 23, 76, 77, 78, 79, 80, 81, 82, 83, 84, 85, 86, 87, 88, 89, 90, 91, 92, 93, 94, 95, 96, 97, 98, 99, 100, 101, 102, 103, 104, 105, 106, 107] (by decide +kernel) (by decide +kernel)
set_option maxRecDepth 20000 in
theorem gX7_run_X7_goes : GoodIn wsX7_run (wsV RX7 98 RX7 yX7_goes wsX7_goes) := goodIn_app (goodIn_of _ (by decide +kernel)) ggX7_run_X7_goes
set_option maxRecDepth 20000 in
theorem ggX7_run_X7_runs : GoodIn wsX7_run wsX7_runs := goodIn_r _ [27, 1, 28, 29, 30, 31, 32, 33, 34, 35, 36, 37, 38, 39, 40, 41, 42, 43, 44, 45, 4, 46, 47, 48, 49, 50, 51, 52, 53, 54, 55, 56, 57, 58, 59, 60, 61, 62, 63, 64, 65, 66, 67, 68, 6, 7, 8, 69, 70, 71, 72, 73, 74, 75, 76, 77, 78, 79, 80, 81, 82, 83, 84, 85, 86, 87, 88, 89, 90, 91, 92, 93, 94, 95, 96, 97, 98, 99, 100, 101, 102, 103, 104, 105, 106, 107] (by decide +kernel) (by decide +kernel)
set_option maxRecDepth 20000 in
theorem gX7_run_X7_runs : GoodIn wsX7_run (wsV RX7 178 RX7 yX7_runs wsX7_runs) := goodIn_app (goodIn_of _ (by decide +kernel)) ggX7_run_X7_runs
theorem dX7_run_0 : decode cX7_run 0 = .ok (.iload_n 1, 1) := by decide +kernel
theorem dX7_run_1 : decode cX7_run 1 = .ok (.invokestatic 102, 3) := by decide +kernel
theorem dX7_run_4 : decode cX7_run 4 = .ok (.ifCond .eq 15, 3) := by decide +kernel
theorem dX7_run_7 : decode cX7_run 7 = .ok (.aload_n 0, 1) := by decide +kernel
theorem dX7_run_8 : decode cX7_run 8 = .ok (.iload_n 2, 1) := by decide +kernel
theorem dX7_run_9 : decode cX7_run 9 = .ok (.invokevirtual 105, 3) := by decide +kernel
theorem dX7_run_12 : decode cX7_run 12 = .ok (.ifCond .eq 7, 3) := by decide +kernel
theorem dX7_run_15 : decode cX7_run 15 = .ok (.iconst 1, 1) := by decide +kernel
theorem dX7_run_16 : decode cX7_run 16 = .ok (.goto 4, 3) := by decide +kernel
theorem dX7_run_19 : decode cX7_run 19 = .ok (.iconst 0, 1) := by decide +kernel
theorem dX7_run_20 : decode cX7_run 20 = .ok (.istore_n 3, 1) := by decide +kernel
theorem dX7_run_21 : decode cX7_run 21 = .ok (.aload_n 0, 1) := by decide +kernel
theorem dX7_run_22 : decode cX7_run 22 = .ok (.iload_n 3, 1) := by decide +kernel
theorem dX7_run_23 : decode cX7_run 23 = .ok (.iload_n 3, 1) := by decide +kernel
theorem dX7_run_24 : decode cX7_run 24 = .ok (.ifCond .eq 27, 3) := by decide +kernel
theorem dX7_run_27 : decode cX7_run 27 = .ok (.aload_n 0, 1) := by decide +kernel
theorem dX7_run_28 : decode cX7_run 28 = .ok (.iload_n 1, 1) := by decide +kernel
theorem dX7_run_29 : decode cX7_run 29 = .ok (.iload_n 2, 1) := by decide +kernel
theorem dX7_run_30 : decode cX7_run 30 = .ok (.invokevirtual 111, 3) := by decide +kernel
theorem dX7_run_33 : decode cX7_run 33 = .ok (.iconst 2, 1) := by decide +kernel
theorem dX7_run_34 : decode cX7_run 34 = .ok (.if_icmp .lt 17, 3) := by decide +kernel
theorem dX7_run_37 : decode cX7_run 37 = .ok (.aload_n 0, 1) := by decide +kernel
theorem dX7_run_38 : decode cX7_run 38 = .ok (.getfield 115, 3) := by decide +kernel
theorem dX7_run_41 : decode cX7_run 41 = .ok (.sipush 400, 3) := by decide +kernel
theorem dX7_run_44 : decode cX7_run 44 = .ok (.if_icmp .ge 7, 3) := by decide +kernel
theorem dX7_run_47 : decode cX7_run 47 = .ok (.iconst 1, 1) := by decide +kernel
theorem dX7_run_48 : decode cX7_run 48 = .ok (.goto 4, 3) := by decide +kernel
theorem dX7_run_51 : decode cX7_run 51 = .ok (.iconst 0, 1) := by decide +kernel
theorem dX7_run_52 : decode cX7_run 52 = .ok (.iconst 1, 1) := by decide +kernel
theorem dX7_run_53 : decode cX7_run 53 = .ok (.invokevirtual 98, 3) := by decide +kernel
theorem dX7_run_56 : decode cX7_run 56 = .ok (.ifCond .eq 16, 3) := by decide +kernel
theorem dX7_run_59 : decode cX7_run 59 = .ok (.aload_n 0, 1) := by decide +kernel
theorem dX7_run_60 : decode cX7_run 60 = .ok (.iload_n 1, 1) := by decide +kernel
theorem dX7_run_61 : decode cX7_run 61 = .ok (.iload_n 2, 1) := by decide +kernel
theorem dX7_run_62 : decode cX7_run 62 = .ok (.invokevirtual 178, 3) := by decide +kernel
theorem dX7_run_65 : decode cX7_run 65 = .ok (.ifCond .eq 7, 3) := by decide +kernel
theorem dX7_run_68 : decode cX7_run 68 = .ok (.iconst 1, 1) := by decide +kernel
theorem dX7_run_69 : decode cX7_run 69 = .ok (.goto 4, 3) := by decide +kernel
theorem dX7_run_72 : decode cX7_run 72 = .ok (.iconst 0, 1) := by decide +kernel
theorem dX7_run_73 : decode cX7_run 73 = .ok (.ireturn, 1) := by decide +kernel
set_option maxRecDepth 20000 in
theorem ggX7_refresh_X7_isUser : GoodIn wsX7_refresh wsX7_isUser := goodIn_r _ [9, 10, 11, 8, 12] (by decide +kernel) (by decide +kernel)
set_option maxRecDepth 20000 in
theorem gX7_refresh_X7_isUser : GoodIn wsX7_refresh (va_wsS RX7 102 yX7_isUser wsX7_isUser) := goodIn_app (goodIn_of _ (by decide +kernel)) ggX7_refresh_X7_isUser
set_option maxRecDepth 20000 in
theorem ggX7_refresh_X7_goes : GoodIn wsX7_refresh wsX7_goes := goodIn_r _ [16, 17, 87, 88, 89, 90, 91, 92, 93, 94, 95, 96, 97, 98, 99, 100, 101, 102, 103, 104, 105, 106, 107, 108, 109, 110, 111, 112, 113, 114, 115, 116, 117, 118] (by decide +kernel) (by decide +kernel)
set_option maxRecDepth 20000 in
theorem gX7_refresh_X7_goes : GoodIn wsX7_refresh (wsV RX7 98 RX7 yX7_goes wsX7_goes) := goodIn_app (goodIn_of _ (by decide +kernel)) ggX7_refresh_X7_goes
set_option maxRecDepth 20000 in
theorem ggX7_refresh_X7_reasons : GoodIn wsX7_refresh wsX7_reasons := goodIn_r _ [21, 2, 5, 4, 22, 23, 24, 8, 25, 26, 27, 28, 29, 30, 31, 32, 33, 34, 35, 36, 37, 87, 88, 89, 90, 91, 92, 93, 94, 95, 96, 97, 98, 99, 100, 101, 102, 103, 104, 105, 106, 107, 108, 109, 110, 111, 112, 113, 114, 115, 116, 117, 118] (by decide +kernel) (by decide +kernel)
set_option maxRecDepth 20000 in
theorem gX7_refresh_X7_reasons : GoodIn wsX7_refresh (wsV RX7 180 RX7 yX7_reasons wsX7_reasons) := goodIn_app (goodIn_of _ (by decide +kernel)) ggX7_refresh_X7_reasons
set_option maxRecDepth 20000 in
theorem ggX7_refresh_X7_rightOf : GoodIn wsX7_refresh wsX7_rightOf := goodIn_r _ [41, 42, 87, 88, 89, 90, 91, 92, 93, 94, 95, 96, 97, 98, 99, 100, 101, 102, 103, 104, 105, 106, 107, 108, 109, 110, 111, 112, 113, 114, 115, 116, 117, 118] (by decide +kernel) (by decide +kernel)
set_option maxRecDepth 20000 in
theorem gX7_refresh_X7_rightOf : GoodIn wsX7_refresh (wsV RX7 111 RX7 yX7_rightOf wsX7_rightOf) := goodIn_app (goodIn_of _ (by decide +kernel)) ggX7_refresh_X7_rightOf
set_option maxRecDepth 20000 in
theorem ggX7_refresh_X7_runs : GoodIn wsX7_refresh wsX7_runs := goodIn_r _ [46, 1, 37, 47, 27, 48, 49, 50, 51, 52, 28, 29, 53, 54, 55, 56, 4, 57, 58, 59, 8, 60, 61, 62, 63, 64, 65, 66, 67, 68, 69, 70, 71, 72, 73, 74, 75, 76, 77, 78, 79, 80, 81, 82, 10, 11, 12, 30, 31, 32, 83, 84, 85, 86, 87, 88, 89, 90, 91, 92, 93, 94, 95, 96, 97, 98, 99, 100, 101, 102, 103, 104, 105, 106, 107, 108, 109, 110, 111, 112, 113, 114, 115, 116, 117, 118] (by decide +kernel) (by decide +kernel)
set_option maxRecDepth 20000 in
theorem gX7_refresh_X7_runs : GoodIn wsX7_refresh (wsV RX7 178 RX7 yX7_runs wsX7_runs) := goodIn_app (goodIn_of _ (by decide +kernel)) ggX7_refresh_X7_runs
theorem dX7_refresh_0 : decode cX7_refresh 0 = .ok (.aload_n 0, 1) := by decide +kernel
theorem dX7_refresh_1 : decode cX7_refresh 1 = .ok (.iload_n 1, 1) := by decide +kernel
theorem dX7_refresh_2 : decode cX7_refresh 2 = .ok (.invokestatic 102, 3) := by decide +kernel
theorem dX7_refresh_5 : decode cX7_refresh 5 = .ok (.aload_n 0, 1) := by decide +kernel
theorem dX7_refresh_6 : decode cX7_refresh 6 = .ok (.getfield 115, 3) := by decide +kernel
theorem dX7_refresh_9 : decode cX7_refresh 9 = .ok (.sipush 380, 3) := by decide +kernel
theorem dX7_refresh_12 : decode cX7_refresh 12 = .ok (.if_icmp .gt 7, 3) := by decide +kernel
theorem dX7_refresh_15 : decode cX7_refresh 15 = .ok (.iconst 1, 1) := by decide +kernel
theorem dX7_refresh_16 : decode cX7_refresh 16 = .ok (.goto 4, 3) := by decide +kernel
theorem dX7_refresh_19 : decode cX7_refresh 19 = .ok (.iconst 0, 1) := by decide +kernel
theorem dX7_refresh_20 : decode cX7_refresh 20 = .ok (.iconst 1, 1) := by decide +kernel
theorem dX7_refresh_21 : decode cX7_refresh 21 = .ok (.invokevirtual 98, 3) := by decide +kernel
theorem dX7_refresh_24 : decode cX7_refresh 24 = .ok (.ifCond .ne 5, 3) := by decide +kernel
theorem dX7_refresh_27 : decode cX7_refresh 27 = .ok (.iconst 0, 1) := by decide +kernel
theorem dX7_refresh_28 : decode cX7_refresh 28 = .ok (.ireturn, 1) := by decide +kernel
theorem dX7_refresh_29 : decode cX7_refresh 29 = .ok (.iconst 0, 1) := by decide +kernel
theorem dX7_refresh_30 : decode cX7_refresh 30 = .ok (.istore_n 2, 1) := by decide +kernel
theorem dX7_refresh_31 : decode cX7_refresh 31 = .ok (.iconst 0, 1) := by decide +kernel
theorem dX7_refresh_32 : decode cX7_refresh 32 = .ok (.istore_n 3, 1) := by decide +kernel
theorem dX7_refresh_33 : decode cX7_refresh 33 = .ok (.iload_n 3, 1) := by decide +kernel
theorem dX7_refresh_34 : decode cX7_refresh 34 = .ok (.aload_n 0, 1) := by decide +kernel
theorem dX7_refresh_35 : decode cX7_refresh 35 = .ok (.getfield 87, 3) := by decide +kernel
theorem dX7_refresh_38 : decode cX7_refresh 38 = .ok (.if_icmp .ge 64, 3) := by decide +kernel
theorem dX7_refresh_41 : decode cX7_refresh 41 = .ok (.aload_n 0, 1) := by decide +kernel
theorem dX7_refresh_42 : decode cX7_refresh 42 = .ok (.getfield 7, 3) := by decide +kernel
theorem dX7_refresh_45 : decode cX7_refresh 45 = .ok (.iload_n 3, 1) := by decide +kernel
theorem dX7_refresh_46 : decode cX7_refresh 46 = .ok (.iaload, 1) := by decide +kernel
theorem dX7_refresh_47 : decode cX7_refresh 47 = .ok (.istore 4, 2) := by decide +kernel
theorem dX7_refresh_49 : decode cX7_refresh 49 = .ok (.aload_n 0, 1) := by decide +kernel
theorem dX7_refresh_50 : decode cX7_refresh 50 = .ok (.invokevirtual 180, 3) := by decide +kernel
theorem dX7_refresh_53 : decode cX7_refresh 53 = .ok (.aload_n 0, 1) := by decide +kernel
theorem dX7_refresh_54 : decode cX7_refresh 54 = .ok (.iload_n 1, 1) := by decide +kernel
theorem dX7_refresh_55 : decode cX7_refresh 55 = .ok (.iload 4, 2) := by decide +kernel
theorem dX7_refresh_57 : decode cX7_refresh 57 = .ok (.invokevirtual 111, 3) := by decide +kernel
theorem dX7_refresh_60 : decode cX7_refresh 60 = .ok (.iconst 2, 1) := by decide +kernel
theorem dX7_refresh_61 : decode cX7_refresh 61 = .ok (.if_icmp .lt 35, 3) := by decide +kernel
theorem dX7_refresh_64 : decode cX7_refresh 64 = .ok (.aload_n 0, 1) := by decide +kernel
theorem dX7_refresh_65 : decode cX7_refresh 65 = .ok (.getfield 31, 3) := by decide +kernel
theorem dX7_refresh_68 : decode cX7_refresh 68 = .ok (.iload 4, 2) := by decide +kernel
theorem dX7_refresh_70 : decode cX7_refresh 70 = .ok (.iaload, 1) := by decide +kernel
theorem dX7_refresh_71 : decode cX7_refresh 71 = .ok (.ifCond .eq 13, 3) := by decide +kernel
theorem dX7_refresh_74 : decode cX7_refresh 74 = .ok (.aload_n 0, 1) := by decide +kernel
theorem dX7_refresh_75 : decode cX7_refresh 75 = .ok (.getfield 80, 3) := by decide +kernel
theorem dX7_refresh_78 : decode cX7_refresh 78 = .ok (.iload 4, 2) := by decide +kernel
theorem dX7_refresh_80 : decode cX7_refresh 80 = .ok (.iaload, 1) := by decide +kernel
theorem dX7_refresh_81 : decode cX7_refresh 81 = .ok (.ifCond .le 15, 3) := by decide +kernel
theorem dX7_refresh_84 : decode cX7_refresh 84 = .ok (.aload_n 0, 1) := by decide +kernel
theorem dX7_refresh_85 : decode cX7_refresh 85 = .ok (.iload_n 1, 1) := by decide +kernel
theorem dX7_refresh_86 : decode cX7_refresh 86 = .ok (.iload 4, 2) := by decide +kernel
theorem dX7_refresh_88 : decode cX7_refresh 88 = .ok (.invokevirtual 178, 3) := by decide +kernel
theorem dX7_refresh_91 : decode cX7_refresh 91 = .ok (.istore 5, 2) := by decide +kernel
theorem dX7_refresh_93 : decode cX7_refresh 93 = .ok (.iinc 2 1, 3) := by decide +kernel
theorem dX7_refresh_96 : decode cX7_refresh 96 = .ok (.iinc 3 1, 3) := by decide +kernel
theorem dX7_refresh_99 : decode cX7_refresh 99 = .ok (.goto (-66), 3) := by decide +kernel
theorem dX7_refresh_102 : decode cX7_refresh 102 = .ok (.iload_n 2, 1) := by decide +kernel
theorem dX7_refresh_103 : decode cX7_refresh 103 = .ok (.ireturn, 1) := by decide +kernel
set_option maxRecDepth 20000 in
theorem ggX7_isSet_X7_isName : GoodIn wsX7_isSet wsX7_isName := goodIn_r _ [5, 6, 7, 4, 8] (by decide +kernel) (by decide +kernel)
set_option maxRecDepth 20000 in
theorem gX7_isSet_X7_isName : GoodIn wsX7_isSet (va_wsS RX7 94 yX7_isName wsX7_isName) := goodIn_app (goodIn_of _ (by decide +kernel)) ggX7_isSet_X7_isName
set_option maxRecDepth 20000 in
theorem ggX7_isSet_X7_goes : GoodIn wsX7_isSet wsX7_goes := goodIn_r _ [12, 13, 14, 15, 16, 17, 18, 19, 20, 21, 22, 23, 24, 25, 26, 27, 28, 29, 30, 31, 32, 33, 34, 35, 36, 37, 38, 39, 40, 41, 42, 43, 44, 45] (by decide +kernel) (by decide +kernel)
set_option maxRecDepth 20000 in
theorem gX7_isSet_X7_goes : GoodIn wsX7_isSet (wsV RX7 98 RX7 yX7_goes wsX7_goes) := goodIn_app (goodIn_of _ (by decide +kernel)) ggX7_isSet_X7_goes
theorem dX7_isSet_0 : decode cX7_isSet 0 = .ok (.aload_n 0, 1) := by decide +kernel
theorem dX7_isSet_1 : decode cX7_isSet 1 = .ok (.iload_n 1, 1) := by decide +kernel
theorem dX7_isSet_2 : decode cX7_isSet 2 = .ok (.invokestatic 94, 3) := by decide +kernel
theorem dX7_isSet_5 : decode cX7_isSet 5 = .ok (.iconst 1, 1) := by decide +kernel
theorem dX7_isSet_6 : decode cX7_isSet 6 = .ok (.iconst 1, 1) := by decide +kernel
theorem dX7_isSet_7 : decode cX7_isSet 7 = .ok (.invokevirtual 98, 3) := by decide +kernel
theorem dX7_isSet_10 : decode cX7_isSet 10 = .ok (.ifCond .eq 16, 3) := by decide +kernel
theorem dX7_isSet_13 : decode cX7_isSet 13 = .ok (.aload_n 0, 1) := by decide +kernel
theorem dX7_isSet_14 : decode cX7_isSet 14 = .ok (.getfield 40, 3) := by decide +kernel
theorem dX7_isSet_17 : decode cX7_isSet 17 = .ok (.iload_n 1, 1) := by decide +kernel
theorem dX7_isSet_18 : decode cX7_isSet 18 = .ok (.iaload, 1) := by decide +kernel
theorem dX7_isSet_19 : decode cX7_isSet 19 = .ok (.ifCond .le 7, 3) := by decide +kernel
theorem dX7_isSet_22 : decode cX7_isSet 22 = .ok (.iconst 1, 1) := by decide +kernel
theorem dX7_isSet_23 : decode cX7_isSet 23 = .ok (.goto 4, 3) := by decide +kernel
theorem dX7_isSet_26 : decode cX7_isSet 26 = .ok (.iconst 0, 1) := by decide +kernel
theorem dX7_isSet_27 : decode cX7_isSet 27 = .ok (.ireturn, 1) := by decide +kernel
set_option maxRecDepth 20000 in
theorem ggX7_value_X7_isName : GoodIn wsX7_value wsX7_isName := goodIn_r _ [6, 7, 8, 5, 9] (by decide +kernel) (by decide +kernel)
set_option maxRecDepth 20000 in
theorem gX7_value_X7_isName : GoodIn wsX7_value (va_wsS RX7 94 yX7_isName wsX7_isName) := goodIn_app (goodIn_of _ (by decide +kernel)) ggX7_value_X7_isName
set_option maxRecDepth 20000 in
theorem ggX7_value_X7_goes : GoodIn wsX7_value wsX7_goes := goodIn_r _ [13, 14, 15, 16, 17, 18, 19, 20, 21, 22, 23, 24, 25, 26, 27, 28, 29, 30, 31, 32, 33, 34, 35, 36, 37, 38, 39, 40, 41, 42, 43, 44, 45, 46] (by decide +kernel) (by decide +kernel)
set_option maxRecDepth 20000 in
theorem gX7_value_X7_goes : GoodIn wsX7_value (wsV RX7 98 RX7 yX7_goes wsX7_goes) := goodIn_app (goodIn_of _ (by decide +kernel)) ggX7_value_X7_goes
theorem dX7_value_0 : decode cX7_value 0 = .ok (.iload_n 1, 1) := by decide +kernel
theorem dX7_value_1 : decode cX7_value 1 = .ok (.invokestatic 94, 3) := by decide +kernel
theorem dX7_value_4 : decode cX7_value 4 = .ok (.istore_n 2, 1) := by decide +kernel
theorem dX7_value_5 : decode cX7_value 5 = .ok (.aload_n 0, 1) := by decide +kernel
theorem dX7_value_6 : decode cX7_value 6 = .ok (.iload_n 2, 1) := by decide +kernel
theorem dX7_value_7 : decode cX7_value 7 = .ok (.iload_n 2, 1) := by decide +kernel
theorem dX7_value_8 : decode cX7_value 8 = .ok (.ifCond .eq 16, 3) := by decide +kernel
theorem dX7_value_11 : decode cX7_value 11 = .ok (.aload_n 0, 1) := by decide +kernel
theorem dX7_value_12 : decode cX7_value 12 = .ok (.getfield 40, 3) := by decide +kernel
theorem dX7_value_15 : decode cX7_value 15 = .ok (.iload_n 1, 1) := by decide +kernel
theorem dX7_value_16 : decode cX7_value 16 = .ok (.iaload, 1) := by decide +kernel
theorem dX7_value_17 : decode cX7_value 17 = .ok (.ifCond .le 7, 3) := by decide +kernel
theorem dX7_value_20 : decode cX7_value 20 = .ok (.iconst 1, 1) := by decide +kernel
theorem dX7_value_21 : decode cX7_value 21 = .ok (.goto 4, 3) := by decide +kernel
theorem dX7_value_24 : decode cX7_value 24 = .ok (.iconst 0, 1) := by decide +kernel
theorem dX7_value_25 : decode cX7_value 25 = .ok (.iconst 1, 1) := by decide +kernel
theorem dX7_value_26 : decode cX7_value 26 = .ok (.invokevirtual 98, 3) := by decide +kernel
theorem dX7_value_29 : decode cX7_value 29 = .ok (.ifCond .eq 12, 3) := by decide +kernel
theorem dX7_value_32 : decode cX7_value 32 = .ok (.aload_n 0, 1) := by decide +kernel
theorem dX7_value_33 : decode cX7_value 33 = .ok (.getfield 37, 3) := by decide +kernel
theorem dX7_value_36 : decode cX7_value 36 = .ok (.iload_n 1, 1) := by decide +kernel
theorem dX7_value_37 : decode cX7_value 37 = .ok (.iaload, 1) := by decide +kernel
theorem dX7_value_38 : decode cX7_value 38 = .ok (.goto 4, 3) := by decide +kernel
theorem dX7_value_41 : decode cX7_value 41 = .ok (.iconst 0, 1) := by decide +kernel
theorem dX7_value_42 : decode cX7_value 42 = .ok (.ireturn, 1) := by decide +kernel
set_option maxRecDepth 20000 in
theorem ggX7_stamp_X7_isName : GoodIn wsX7_stamp wsX7_isName := goodIn_r _ [5, 6, 7, 4, 8] (by decide +kernel) (by decide +kernel)
set_option maxRecDepth 20000 in
theorem gX7_stamp_X7_isName : GoodIn wsX7_stamp (va_wsS RX7 94 yX7_isName wsX7_isName) := goodIn_app (goodIn_of _ (by decide +kernel)) ggX7_stamp_X7_isName
set_option maxRecDepth 20000 in
theorem ggX7_stamp_X7_goes : GoodIn wsX7_stamp wsX7_goes := goodIn_r _ [12, 13, 14, 15, 16, 17, 18, 19, 20, 21, 22, 23, 24, 25, 26, 27, 28, 29, 30, 31, 32, 33, 34, 35, 36, 37, 38, 39, 40, 41, 42, 43, 44, 45] (by decide +kernel) (by decide +kernel)
set_option maxRecDepth 20000 in
theorem gX7_stamp_X7_goes : GoodIn wsX7_stamp (wsV RX7 98 RX7 yX7_goes wsX7_goes) := goodIn_app (goodIn_of _ (by decide +kernel)) ggX7_stamp_X7_goes
theorem dX7_stamp_0 : decode cX7_stamp 0 = .ok (.aload_n 0, 1) := by decide +kernel
theorem dX7_stamp_1 : decode cX7_stamp 1 = .ok (.iload_n 1, 1) := by decide +kernel
theorem dX7_stamp_2 : decode cX7_stamp 2 = .ok (.invokestatic 94, 3) := by decide +kernel
theorem dX7_stamp_5 : decode cX7_stamp 5 = .ok (.iconst 1, 1) := by decide +kernel
theorem dX7_stamp_6 : decode cX7_stamp 6 = .ok (.iconst 1, 1) := by decide +kernel
theorem dX7_stamp_7 : decode cX7_stamp 7 = .ok (.invokevirtual 98, 3) := by decide +kernel
theorem dX7_stamp_10 : decode cX7_stamp 10 = .ok (.ifCond .eq 12, 3) := by decide +kernel
theorem dX7_stamp_13 : decode cX7_stamp 13 = .ok (.aload_n 0, 1) := by decide +kernel
theorem dX7_stamp_14 : decode cX7_stamp 14 = .ok (.getfield 40, 3) := by decide +kernel
theorem dX7_stamp_17 : decode cX7_stamp 17 = .ok (.iload_n 1, 1) := by decide +kernel
theorem dX7_stamp_18 : decode cX7_stamp 18 = .ok (.iaload, 1) := by decide +kernel
theorem dX7_stamp_19 : decode cX7_stamp 19 = .ok (.goto 4, 3) := by decide +kernel
theorem dX7_stamp_22 : decode cX7_stamp 22 = .ok (.iconst 0, 1) := by decide +kernel
theorem dX7_stamp_23 : decode cX7_stamp 23 = .ok (.ireturn, 1) := by decide +kernel
set_option maxRecDepth 20000 in
theorem ggX7_lastRun_X7_isCell : GoodIn wsX7_lastRun wsX7_isCell := goodIn_r _ [6, 7, 8, 9, 5, 10, 16, 17, 18, 19, 20, 21, 22, 23, 24, 25, 26, 27, 28, 29, 30, 31, 32, 33, 34, 35, 36, 37, 38, 39, 40, 41, 42, 43, 44, 45, 46, 47] (by decide +kernel) (by decide +kernel)
set_option maxRecDepth 20000 in
theorem gX7_lastRun_X7_isCell : GoodIn wsX7_lastRun (wsV RX7 105 RX7 yX7_isCell wsX7_isCell) := goodIn_app (goodIn_of _ (by decide +kernel)) ggX7_lastRun_X7_isCell
set_option maxRecDepth 20000 in
theorem ggX7_lastRun_X7_goes : GoodIn wsX7_lastRun wsX7_goes := goodIn_r _ [14, 15, 16, 17, 18, 19, 20, 21, 22, 23, 24, 25, 26, 27, 28, 29, 30, 31, 32, 33, 34, 35, 36, 37, 38, 39, 40, 41, 42, 43, 44, 45, 46, 47] (by decide +kernel) (by decide +kernel)
set_option maxRecDepth 20000 in
theorem gX7_lastRun_X7_goes : GoodIn wsX7_lastRun (wsV RX7 98 RX7 yX7_goes wsX7_goes) := goodIn_app (goodIn_of _ (by decide +kernel)) ggX7_lastRun_X7_goes
theorem dX7_lastRun_0 : decode cX7_lastRun 0 = .ok (.aload_n 0, 1) := by decide +kernel
theorem dX7_lastRun_1 : decode cX7_lastRun 1 = .ok (.aload_n 0, 1) := by decide +kernel
theorem dX7_lastRun_2 : decode cX7_lastRun 2 = .ok (.iload_n 1, 1) := by decide +kernel
theorem dX7_lastRun_3 : decode cX7_lastRun 3 = .ok (.invokevirtual 105, 3) := by decide +kernel
theorem dX7_lastRun_6 : decode cX7_lastRun 6 = .ok (.iconst 1, 1) := by decide +kernel
theorem dX7_lastRun_7 : decode cX7_lastRun 7 = .ok (.iconst 1, 1) := by decide +kernel
theorem dX7_lastRun_8 : decode cX7_lastRun 8 = .ok (.invokevirtual 98, 3) := by decide +kernel
theorem dX7_lastRun_11 : decode cX7_lastRun 11 = .ok (.ifCond .eq 12, 3) := by decide +kernel
theorem dX7_lastRun_14 : decode cX7_lastRun 14 = .ok (.aload_n 0, 1) := by decide +kernel
theorem dX7_lastRun_15 : decode cX7_lastRun 15 = .ok (.getfield 31, 3) := by decide +kernel
theorem dX7_lastRun_18 : decode cX7_lastRun 18 = .ok (.iload_n 1, 1) := by decide +kernel
theorem dX7_lastRun_19 : decode cX7_lastRun 19 = .ok (.iaload, 1) := by decide +kernel
theorem dX7_lastRun_20 : decode cX7_lastRun 20 = .ok (.goto 4, 3) := by decide +kernel
theorem dX7_lastRun_23 : decode cX7_lastRun 23 = .ok (.iconst 0, 1) := by decide +kernel
theorem dX7_lastRun_24 : decode cX7_lastRun 24 = .ok (.ireturn, 1) := by decide +kernel
set_option maxRecDepth 20000 in
theorem ggX7_hasResult_X7_isCell : GoodIn wsX7_hasResult wsX7_isCell := goodIn_r _ [7, 8, 9, 10, 6, 11, 17, 18, 19, 20, 21, 22, 23, 24, 25, 26, 27, 28, 29, 30, 31, 32, 33, 34, 35, 36, 37, 38, 39, 40, 41, 42, 43, 44, 45, 46, 47, 48] (by decide +kernel) (by decide +kernel)
set_option maxRecDepth 20000 in
theorem gX7_hasResult_X7_isCell : GoodIn wsX7_hasResult (wsV RX7 105 RX7 yX7_isCell wsX7_isCell) := goodIn_app (goodIn_of _ (by decide +kernel)) ggX7_hasResult_X7_isCell
set_option maxRecDepth 20000 in
theorem ggX7_hasResult_X7_goes : GoodIn wsX7_hasResult wsX7_goes := goodIn_r _ [15, 16, 17, 18, 19, 20, 21, 22, 23, 24, 25, 26, 27, 28, 29, 30, 31, 32, 33, 34, 35, 36, 37, 38, 39, 40, 41, 42, 43, 44, 45, 46, 47, 48] (by decide +kernel) (by decide +kernel)
set_option maxRecDepth 20000 in
theorem gX7_hasResult_X7_goes : GoodIn wsX7_hasResult (wsV RX7 98 RX7 yX7_goes wsX7_goes) := goodIn_app (goodIn_of _ (by decide +kernel)) ggX7_hasResult_X7_goes
theorem dX7_hasResult_0 : decode cX7_hasResult 0 = .ok (.aload_n 0, 1) := by decide +kernel
theorem dX7_hasResult_1 : decode cX7_hasResult 1 = .ok (.aload_n 0, 1) := by decide +kernel
theorem dX7_hasResult_2 : decode cX7_hasResult 2 = .ok (.iload_n 1, 1) := by decide +kernel
theorem dX7_hasResult_3 : decode cX7_hasResult 3 = .ok (.invokevirtual 105, 3) := by decide +kernel
theorem dX7_hasResult_6 : decode cX7_hasResult 6 = .ok (.iconst 1, 1) := by decide +kernel
theorem dX7_hasResult_7 : decode cX7_hasResult 7 = .ok (.iconst 1, 1) := by decide +kernel
theorem dX7_hasResult_8 : decode cX7_hasResult 8 = .ok (.invokevirtual 98, 3) := by decide +kernel
theorem dX7_hasResult_11 : decode cX7_hasResult 11 = .ok (.ifCond .eq 21, 3) := by decide +kernel
theorem dX7_hasResult_14 : decode cX7_hasResult 14 = .ok (.aload_n 0, 1) := by decide +kernel
theorem dX7_hasResult_15 : decode cX7_hasResult 15 = .ok (.getfield 58, 3) := by decide +kernel
theorem dX7_hasResult_18 : decode cX7_hasResult 18 = .ok (.aload_n 0, 1) := by decide +kernel
theorem dX7_hasResult_19 : decode cX7_hasResult 19 = .ok (.getfield 31, 3) := by decide +kernel
theorem dX7_hasResult_22 : decode cX7_hasResult 22 = .ok (.iload_n 1, 1) := by decide +kernel
theorem dX7_hasResult_23 : decode cX7_hasResult 23 = .ok (.iaload, 1) := by decide +kernel
theorem dX7_hasResult_24 : decode cX7_hasResult 24 = .ok (.baload, 1) := by decide +kernel
theorem dX7_hasResult_25 : decode cX7_hasResult 25 = .ok (.ifCond .eq 7, 3) := by decide +kernel
theorem dX7_hasResult_28 : decode cX7_hasResult 28 = .ok (.iconst 1, 1) := by decide +kernel
theorem dX7_hasResult_29 : decode cX7_hasResult 29 = .ok (.goto 4, 3) := by decide +kernel
theorem dX7_hasResult_32 : decode cX7_hasResult 32 = .ok (.iconst 0, 1) := by decide +kernel
theorem dX7_hasResult_33 : decode cX7_hasResult 33 = .ok (.ireturn, 1) := by decide +kernel
set_option maxRecDepth 20000 in
theorem ggX7_result_X7_isUser : GoodIn wsX7_result wsX7_isUser := goodIn_r _ [7, 8, 9, 6, 10] (by decide +kernel) (by decide +kernel)
set_option maxRecDepth 20000 in
theorem gX7_result_X7_isUser : GoodIn wsX7_result (va_wsS RX7 102 yX7_isUser wsX7_isUser) := goodIn_app (goodIn_of _ (by decide +kernel)) ggX7_result_X7_isUser
set_option maxRecDepth 20000 in
theorem ggX7_result_X7_isCell : GoodIn wsX7_result wsX7_isCell := goodIn_r _ [14, 15, 8, 9, 6, 10, 26, 27, 28, 29, 30, 31, 32, 33, 34, 35, 36, 37, 38, 39, 40, 41, 42, 43, 44, 45, 46, 47, 48, 49, 50, 51, 52, 53, 54, 55, 56, 57] (by decide +kernel) (by decide +kernel)
set_option maxRecDepth 20000 in
theorem gX7_result_X7_isCell : GoodIn wsX7_result (wsV RX7 105 RX7 yX7_isCell wsX7_isCell) := goodIn_app (goodIn_of _ (by decide +kernel)) ggX7_result_X7_isCell
set_option maxRecDepth 20000 in
theorem ggX7_result_X7_rightOf : GoodIn wsX7_result wsX7_rightOf := goodIn_r _ [19, 20, 26, 27, 28, 29, 30, 31, 32, 33, 34, 35, 36, 37, 38, 39, 40, 41, 42, 43, 44, 45, 46, 47, 48, 49, 50, 51, 52, 53, 54, 55, 56, 57] (by decide +kernel) (by decide +kernel)
set_option maxRecDepth 20000 in
theorem gX7_result_X7_rightOf : GoodIn wsX7_result (wsV RX7 111 RX7 yX7_rightOf wsX7_rightOf) := goodIn_app (goodIn_of _ (by decide +kernel)) ggX7_result_X7_rightOf
set_option maxRecDepth 20000 in
theorem ggX7_result_X7_goes : GoodIn wsX7_result wsX7_goes := goodIn_r _ [24, 25, 26, 27, 28, 29, 30, 31, 32, 33, 34, 35, 36, 37, 38, 39, 40, 41, 42, 43, 44, 45, 46, 47, 48, 49, 50, 51, 52, 53, 54, 55, 56, 57] (by decide +kernel) (by decide +kernel)
set_option maxRecDepth 20000 in
theorem gX7_result_X7_goes : GoodIn wsX7_result (wsV RX7 98 RX7 yX7_goes wsX7_goes) := goodIn_app (goodIn_of _ (by decide +kernel)) ggX7_result_X7_goes
theorem dX7_result_0 : decode cX7_result 0 = .ok (.iload_n 1, 1) := by decide +kernel
theorem dX7_result_1 : decode cX7_result 1 = .ok (.invokestatic 102, 3) := by decide +kernel
theorem dX7_result_4 : decode cX7_result 4 = .ok (.ifCond .eq 15, 3) := by decide +kernel
theorem dX7_result_7 : decode cX7_result 7 = .ok (.aload_n 0, 1) := by decide +kernel
theorem dX7_result_8 : decode cX7_result 8 = .ok (.iload_n 2, 1) := by decide +kernel
theorem dX7_result_9 : decode cX7_result 9 = .ok (.invokevirtual 105, 3) := by decide +kernel
theorem dX7_result_12 : decode cX7_result 12 = .ok (.ifCond .eq 7, 3) := by decide +kernel
theorem dX7_result_15 : decode cX7_result 15 = .ok (.iconst 1, 1) := by decide +kernel
theorem dX7_result_16 : decode cX7_result 16 = .ok (.goto 4, 3) := by decide +kernel
theorem dX7_result_19 : decode cX7_result 19 = .ok (.iconst 0, 1) := by decide +kernel
theorem dX7_result_20 : decode cX7_result 20 = .ok (.istore_n 3, 1) := by decide +kernel
theorem dX7_result_21 : decode cX7_result 21 = .ok (.aload_n 0, 1) := by decide +kernel
theorem dX7_result_22 : decode cX7_result 22 = .ok (.iload_n 3, 1) := by decide +kernel
theorem dX7_result_23 : decode cX7_result 23 = .ok (.iload_n 3, 1) := by decide +kernel
theorem dX7_result_24 : decode cX7_result 24 = .ok (.ifCond .eq 31, 3) := by decide +kernel
theorem dX7_result_27 : decode cX7_result 27 = .ok (.aload_n 0, 1) := by decide +kernel
theorem dX7_result_28 : decode cX7_result 28 = .ok (.iload_n 1, 1) := by decide +kernel
theorem dX7_result_29 : decode cX7_result 29 = .ok (.iload_n 2, 1) := by decide +kernel
theorem dX7_result_30 : decode cX7_result 30 = .ok (.invokevirtual 111, 3) := by decide +kernel
theorem dX7_result_33 : decode cX7_result 33 = .ok (.iconst 1, 1) := by decide +kernel
theorem dX7_result_34 : decode cX7_result 34 = .ok (.if_icmp .lt 21, 3) := by decide +kernel
theorem dX7_result_37 : decode cX7_result 37 = .ok (.aload_n 0, 1) := by decide +kernel
theorem dX7_result_38 : decode cX7_result 38 = .ok (.getfield 58, 3) := by decide +kernel
theorem dX7_result_41 : decode cX7_result 41 = .ok (.aload_n 0, 1) := by decide +kernel
theorem dX7_result_42 : decode cX7_result 42 = .ok (.getfield 31, 3) := by decide +kernel
theorem dX7_result_45 : decode cX7_result 45 = .ok (.iload_n 2, 1) := by decide +kernel
theorem dX7_result_46 : decode cX7_result 46 = .ok (.iaload, 1) := by decide +kernel
theorem dX7_result_47 : decode cX7_result 47 = .ok (.baload, 1) := by decide +kernel
theorem dX7_result_48 : decode cX7_result 48 = .ok (.ifCond .eq 7, 3) := by decide +kernel
theorem dX7_result_51 : decode cX7_result 51 = .ok (.iconst 1, 1) := by decide +kernel
theorem dX7_result_52 : decode cX7_result 52 = .ok (.goto 4, 3) := by decide +kernel
theorem dX7_result_55 : decode cX7_result 55 = .ok (.iconst 0, 1) := by decide +kernel
theorem dX7_result_56 : decode cX7_result 56 = .ok (.iconst 1, 1) := by decide +kernel
theorem dX7_result_57 : decode cX7_result 57 = .ok (.invokevirtual 98, 3) := by decide +kernel
theorem dX7_result_60 : decode cX7_result 60 = .ok (.ifCond .eq 17, 3) := by decide +kernel
theorem dX7_result_63 : decode cX7_result 63 = .ok (.aload_n 0, 1) := by decide +kernel
theorem dX7_result_64 : decode cX7_result 64 = .ok (.getfield 55, 3) := by decide +kernel
theorem dX7_result_67 : decode cX7_result 67 = .ok (.aload_n 0, 1) := by decide +kernel
theorem dX7_result_68 : decode cX7_result 68 = .ok (.getfield 31, 3) := by decide +kernel
theorem dX7_result_71 : decode cX7_result 71 = .ok (.iload_n 2, 1) := by decide +kernel
theorem dX7_result_72 : decode cX7_result 72 = .ok (.iaload, 1) := by decide +kernel
theorem dX7_result_73 : decode cX7_result 73 = .ok (.iaload, 1) := by decide +kernel
theorem dX7_result_74 : decode cX7_result 74 = .ok (.goto 4, 3) := by decide +kernel
theorem dX7_result_77 : decode cX7_result 77 = .ok (.iconst 0, 1) := by decide +kernel
theorem dX7_result_78 : decode cX7_result 78 = .ok (.ireturn, 1) := by decide +kernel
set_option maxRecDepth 20000 in
theorem ggX7_seen_X7_isCell : GoodIn wsX7_seen wsX7_isCell := goodIn_r _ [7, 8, 9, 10, 6, 11, 17, 18, 19, 20, 21, 22, 23, 24, 25, 26, 27, 28, 29, 30, 31, 32, 33, 34, 35, 36, 37, 38, 39, 40, 41, 42, 43, 44, 45, 46, 47, 48] (by decide +kernel) (by decide +kernel)
set_option maxRecDepth 20000 in
theorem gX7_seen_X7_isCell : GoodIn wsX7_seen (wsV RX7 105 RX7 yX7_isCell wsX7_isCell) := goodIn_app (goodIn_of _ (by decide +kernel)) ggX7_seen_X7_isCell
set_option maxRecDepth 20000 in
theorem ggX7_seen_X7_goes : GoodIn wsX7_seen wsX7_goes := goodIn_r _ [15, 16, 17, 18, 19, 20, 21, 22, 23, 24, 25, 26, 27, 28, 29, 30, 31, 32, 33, 34, 35, 36, 37, 38, 39, 40, 41, 42, 43, 44, 45, 46, 47, 48] (by decide +kernel) (by decide +kernel)
set_option maxRecDepth 20000 in
theorem gX7_seen_X7_goes : GoodIn wsX7_seen (wsV RX7 98 RX7 yX7_goes wsX7_goes) := goodIn_app (goodIn_of _ (by decide +kernel)) ggX7_seen_X7_goes
theorem dX7_seen_0 : decode cX7_seen 0 = .ok (.aload_n 0, 1) := by decide +kernel
theorem dX7_seen_1 : decode cX7_seen 1 = .ok (.aload_n 0, 1) := by decide +kernel
theorem dX7_seen_2 : decode cX7_seen 2 = .ok (.iload_n 1, 1) := by decide +kernel
theorem dX7_seen_3 : decode cX7_seen 3 = .ok (.invokevirtual 105, 3) := by decide +kernel
theorem dX7_seen_6 : decode cX7_seen 6 = .ok (.iconst 1, 1) := by decide +kernel
theorem dX7_seen_7 : decode cX7_seen 7 = .ok (.iconst 1, 1) := by decide +kernel
theorem dX7_seen_8 : decode cX7_seen 8 = .ok (.invokevirtual 98, 3) := by decide +kernel
theorem dX7_seen_11 : decode cX7_seen 11 = .ok (.ifCond .eq 17, 3) := by decide +kernel
theorem dX7_seen_14 : decode cX7_seen 14 = .ok (.aload_n 0, 1) := by decide +kernel
theorem dX7_seen_15 : decode cX7_seen 15 = .ok (.getfield 52, 3) := by decide +kernel
theorem dX7_seen_18 : decode cX7_seen 18 = .ok (.aload_n 0, 1) := by decide +kernel
theorem dX7_seen_19 : decode cX7_seen 19 = .ok (.getfield 31, 3) := by decide +kernel
theorem dX7_seen_22 : decode cX7_seen 22 = .ok (.iload_n 1, 1) := by decide +kernel
theorem dX7_seen_23 : decode cX7_seen 23 = .ok (.iaload, 1) := by decide +kernel
theorem dX7_seen_24 : decode cX7_seen 24 = .ok (.iaload, 1) := by decide +kernel
theorem dX7_seen_25 : decode cX7_seen 25 = .ok (.goto 4, 3) := by decide +kernel
theorem dX7_seen_28 : decode cX7_seen 28 = .ok (.iconst 0, 1) := by decide +kernel
theorem dX7_seen_29 : decode cX7_seen 29 = .ok (.ireturn, 1) := by decide +kernel
set_option maxRecDepth 20000 in
theorem ggX7_timesSeen_X7_isName : GoodIn wsX7_timesSeen wsX7_isName := goodIn_r _ [5, 6, 7, 4, 8] (by decide +kernel) (by decide +kernel)
set_option maxRecDepth 20000 in
theorem gX7_timesSeen_X7_isName : GoodIn wsX7_timesSeen (va_wsS RX7 94 yX7_isName wsX7_isName) := goodIn_app (goodIn_of _ (by decide +kernel)) ggX7_timesSeen_X7_isName
set_option maxRecDepth 20000 in
theorem ggX7_timesSeen_X7_goes : GoodIn wsX7_timesSeen wsX7_goes := goodIn_r _ [12, 13, 14, 15, 16, 17, 18, 19, 20, 21, 22, 23, 24, 25, 26, 27, 28, 29, 30, 31, 32, 33, 34, 35, 36, 37, 38, 39, 40, 41, 42, 43, 44, 45] (by decide +kernel) (by decide +kernel)
set_option maxRecDepth 20000 in
theorem gX7_timesSeen_X7_goes : GoodIn wsX7_timesSeen (wsV RX7 98 RX7 yX7_goes wsX7_goes) := goodIn_app (goodIn_of _ (by decide +kernel)) ggX7_timesSeen_X7_goes
theorem dX7_timesSeen_0 : decode cX7_timesSeen 0 = .ok (.aload_n 0, 1) := by decide +kernel
theorem dX7_timesSeen_1 : decode cX7_timesSeen 1 = .ok (.iload_n 1, 1) := by decide +kernel
theorem dX7_timesSeen_2 : decode cX7_timesSeen 2 = .ok (.invokestatic 94, 3) := by decide +kernel
theorem dX7_timesSeen_5 : decode cX7_timesSeen 5 = .ok (.iconst 1, 1) := by decide +kernel
theorem dX7_timesSeen_6 : decode cX7_timesSeen 6 = .ok (.iconst 1, 1) := by decide +kernel
theorem dX7_timesSeen_7 : decode cX7_timesSeen 7 = .ok (.invokevirtual 98, 3) := by decide +kernel
theorem dX7_timesSeen_10 : decode cX7_timesSeen 10 = .ok (.ifCond .eq 12, 3) := by decide +kernel
theorem dX7_timesSeen_13 : decode cX7_timesSeen 13 = .ok (.aload_n 0, 1) := by decide +kernel
theorem dX7_timesSeen_14 : decode cX7_timesSeen 14 = .ok (.getfield 43, 3) := by decide +kernel
theorem dX7_timesSeen_17 : decode cX7_timesSeen 17 = .ok (.iload_n 1, 1) := by decide +kernel
theorem dX7_timesSeen_18 : decode cX7_timesSeen 18 = .ok (.iaload, 1) := by decide +kernel
theorem dX7_timesSeen_19 : decode cX7_timesSeen 19 = .ok (.goto 4, 3) := by decide +kernel
theorem dX7_timesSeen_22 : decode cX7_timesSeen 22 = .ok (.iconst 0, 1) := by decide +kernel
theorem dX7_timesSeen_23 : decode cX7_timesSeen 23 = .ok (.ireturn, 1) := by decide +kernel
set_option maxRecDepth 20000 in
theorem ggX7_ownReason_X7_has : GoodIn wsX7_ownReason wsX7_has := goodIn_r _ [9] (by decide +kernel) (by decide +kernel)
set_option maxRecDepth 20000 in
theorem gX7_ownReason_X7_has : GoodIn wsX7_ownReason (va_wsS RX7 148 yX7_has wsX7_has) := goodIn_app (goodIn_of _ (by decide +kernel)) ggX7_ownReason_X7_has
theorem dX7_ownReason_0 : decode cX7_ownReason 0 = .ok (.aload_n 0, 1) := by decide +kernel
theorem dX7_ownReason_1 : decode cX7_ownReason 1 = .ok (.getfield 31, 3) := by decide +kernel
theorem dX7_ownReason_4 : decode cX7_ownReason 4 = .ok (.iload_n 1, 1) := by decide +kernel
theorem dX7_ownReason_5 : decode cX7_ownReason 5 = .ok (.iaload, 1) := by decide +kernel
theorem dX7_ownReason_6 : decode cX7_ownReason 6 = .ok (.istore_n 2, 1) := by decide +kernel
theorem dX7_ownReason_7 : decode cX7_ownReason 7 = .ok (.aload_n 0, 1) := by decide +kernel
theorem dX7_ownReason_8 : decode cX7_ownReason 8 = .ok (.getfield 28, 3) := by decide +kernel
theorem dX7_ownReason_11 : decode cX7_ownReason 11 = .ok (.iload_n 1, 1) := by decide +kernel
theorem dX7_ownReason_12 : decode cX7_ownReason 12 = .ok (.iaload, 1) := by decide +kernel
theorem dX7_ownReason_13 : decode cX7_ownReason 13 = .ok (.iload_n 2, 1) := by decide +kernel
theorem dX7_ownReason_14 : decode cX7_ownReason 14 = .ok (.if_icmp .lt 7, 3) := by decide +kernel
theorem dX7_ownReason_17 : decode cX7_ownReason 17 = .ok (.iconst 1, 1) := by decide +kernel
theorem dX7_ownReason_18 : decode cX7_ownReason 18 = .ok (.goto 4, 3) := by decide +kernel
theorem dX7_ownReason_21 : decode cX7_ownReason 21 = .ok (.iconst 0, 1) := by decide +kernel
theorem dX7_ownReason_22 : decode cX7_ownReason 22 = .ok (.istore_n 3, 1) := by decide +kernel
theorem dX7_ownReason_23 : decode cX7_ownReason 23 = .ok (.iconst 0, 1) := by decide +kernel
theorem dX7_ownReason_24 : decode cX7_ownReason 24 = .ok (.istore 4, 2) := by decide +kernel
theorem dX7_ownReason_26 : decode cX7_ownReason 26 = .ok (.iload 4, 2) := by decide +kernel
theorem dX7_ownReason_28 : decode cX7_ownReason 28 = .ok (.bipush 8, 2) := by decide +kernel
theorem dX7_ownReason_30 : decode cX7_ownReason 30 = .ok (.if_icmp .ge 53, 3) := by decide +kernel
theorem dX7_ownReason_33 : decode cX7_ownReason 33 = .ok (.iload_n 3, 1) := by decide +kernel
theorem dX7_ownReason_34 : decode cX7_ownReason 34 = .ok (.aload_n 0, 1) := by decide +kernel
theorem dX7_ownReason_35 : decode cX7_ownReason 35 = .ok (.getfield 52, 3) := by decide +kernel
theorem dX7_ownReason_38 : decode cX7_ownReason 38 = .ok (.iload_n 2, 1) := by decide +kernel
theorem dX7_ownReason_39 : decode cX7_ownReason 39 = .ok (.iaload, 1) := by decide +kernel
theorem dX7_ownReason_40 : decode cX7_ownReason 40 = .ok (.iload 4, 2) := by decide +kernel
theorem dX7_ownReason_42 : decode cX7_ownReason 42 = .ok (.invokestatic 148, 3) := by decide +kernel
theorem dX7_ownReason_45 : decode cX7_ownReason 45 = .ok (.ifCond .eq 29, 3) := by decide +kernel
theorem dX7_ownReason_48 : decode cX7_ownReason 48 = .ok (.aload_n 0, 1) := by decide +kernel
theorem dX7_ownReason_49 : decode cX7_ownReason 49 = .ok (.getfield 65, 3) := by decide +kernel
theorem dX7_ownReason_52 : decode cX7_ownReason 52 = .ok (.bipush 8, 2) := by decide +kernel
theorem dX7_ownReason_54 : decode cX7_ownReason 54 = .ok (.iload_n 2, 1) := by decide +kernel
theorem dX7_ownReason_55 : decode cX7_ownReason 55 = .ok (.imul, 1) := by decide +kernel
theorem dX7_ownReason_56 : decode cX7_ownReason 56 = .ok (.iload 4, 2) := by decide +kernel
theorem dX7_ownReason_58 : decode cX7_ownReason 58 = .ok (.iadd, 1) := by decide +kernel
theorem dX7_ownReason_59 : decode cX7_ownReason 59 = .ok (.iaload, 1) := by decide +kernel
theorem dX7_ownReason_60 : decode cX7_ownReason 60 = .ok (.aload_n 0, 1) := by decide +kernel
theorem dX7_ownReason_61 : decode cX7_ownReason 61 = .ok (.getfield 40, 3) := by decide +kernel
theorem dX7_ownReason_64 : decode cX7_ownReason 64 = .ok (.iload 4, 2) := by decide +kernel
theorem dX7_ownReason_66 : decode cX7_ownReason 66 = .ok (.iaload, 1) := by decide +kernel
theorem dX7_ownReason_67 : decode cX7_ownReason 67 = .ok (.if_icmp .eq 7, 3) := by decide +kernel
theorem dX7_ownReason_70 : decode cX7_ownReason 70 = .ok (.iconst 2, 1) := by decide +kernel
theorem dX7_ownReason_71 : decode cX7_ownReason 71 = .ok (.goto 4, 3) := by decide +kernel
theorem dX7_ownReason_74 : decode cX7_ownReason 74 = .ok (.iconst 0, 1) := by decide +kernel
theorem dX7_ownReason_75 : decode cX7_ownReason 75 = .ok (.ior, 1) := by decide +kernel
theorem dX7_ownReason_76 : decode cX7_ownReason 76 = .ok (.istore_n 3, 1) := by decide +kernel
theorem dX7_ownReason_77 : decode cX7_ownReason 77 = .ok (.iinc 4 1, 3) := by decide +kernel
theorem dX7_ownReason_80 : decode cX7_ownReason 80 = .ok (.goto (-54), 3) := by decide +kernel
theorem dX7_ownReason_83 : decode cX7_ownReason 83 = .ok (.iload_n 3, 1) := by decide +kernel
theorem dX7_ownReason_84 : decode cX7_ownReason 84 = .ok (.ireturn, 1) := by decide +kernel
set_option maxRecDepth 20000 in
theorem ggX7_rests_X7_has : GoodIn wsX7_rests wsX7_has := goodIn_r _ [9] (by decide +kernel) (by decide +kernel)
set_option maxRecDepth 20000 in
theorem gX7_rests_X7_has : GoodIn wsX7_rests (va_wsS RX7 148 yX7_has wsX7_has) := goodIn_app (goodIn_of _ (by decide +kernel)) ggX7_rests_X7_has
theorem dX7_rests_0 : decode cX7_rests 0 = .ok (.aload_n 0, 1) := by decide +kernel
theorem dX7_rests_1 : decode cX7_rests 1 = .ok (.getfield 31, 3) := by decide +kernel
theorem dX7_rests_4 : decode cX7_rests 4 = .ok (.iload_n 1, 1) := by decide +kernel
theorem dX7_rests_5 : decode cX7_rests 5 = .ok (.iaload, 1) := by decide +kernel
theorem dX7_rests_6 : decode cX7_rests 6 = .ok (.istore_n 2, 1) := by decide +kernel
theorem dX7_rests_7 : decode cX7_rests 7 = .ok (.iconst 0, 1) := by decide +kernel
theorem dX7_rests_8 : decode cX7_rests 8 = .ok (.istore_n 3, 1) := by decide +kernel
theorem dX7_rests_9 : decode cX7_rests 9 = .ok (.iconst 0, 1) := by decide +kernel
theorem dX7_rests_10 : decode cX7_rests 10 = .ok (.istore 4, 2) := by decide +kernel
theorem dX7_rests_12 : decode cX7_rests 12 = .ok (.iload 4, 2) := by decide +kernel
theorem dX7_rests_14 : decode cX7_rests 14 = .ok (.bipush 8, 2) := by decide +kernel
theorem dX7_rests_16 : decode cX7_rests 16 = .ok (.if_icmp .ge 99, 3) := by decide +kernel
theorem dX7_rests_19 : decode cX7_rests 19 = .ok (.aload_n 0, 1) := by decide +kernel
theorem dX7_rests_20 : decode cX7_rests 20 = .ok (.getfield 52, 3) := by decide +kernel
theorem dX7_rests_23 : decode cX7_rests 23 = .ok (.iload_n 2, 1) := by decide +kernel
theorem dX7_rests_24 : decode cX7_rests 24 = .ok (.iaload, 1) := by decide +kernel
theorem dX7_rests_25 : decode cX7_rests 25 = .ok (.iload 4, 2) := by decide +kernel
theorem dX7_rests_27 : decode cX7_rests 27 = .ok (.invokestatic 148, 3) := by decide +kernel
theorem dX7_rests_30 : decode cX7_rests 30 = .ok (.ifCond .eq 18, 3) := by decide +kernel
theorem dX7_rests_33 : decode cX7_rests 33 = .ok (.aload_n 0, 1) := by decide +kernel
theorem dX7_rests_34 : decode cX7_rests 34 = .ok (.getfield 65, 3) := by decide +kernel
theorem dX7_rests_37 : decode cX7_rests 37 = .ok (.bipush 8, 2) := by decide +kernel
theorem dX7_rests_39 : decode cX7_rests 39 = .ok (.iload_n 2, 1) := by decide +kernel
theorem dX7_rests_40 : decode cX7_rests 40 = .ok (.imul, 1) := by decide +kernel
theorem dX7_rests_41 : decode cX7_rests 41 = .ok (.iload 4, 2) := by decide +kernel
theorem dX7_rests_43 : decode cX7_rests 43 = .ok (.iadd, 1) := by decide +kernel
theorem dX7_rests_44 : decode cX7_rests 44 = .ok (.iaload, 1) := by decide +kernel
theorem dX7_rests_45 : decode cX7_rests 45 = .ok (.goto 4, 3) := by decide +kernel
theorem dX7_rests_48 : decode cX7_rests 48 = .ok (.iconst 0, 1) := by decide +kernel
theorem dX7_rests_49 : decode cX7_rests 49 = .ok (.istore 5, 2) := by decide +kernel
theorem dX7_rests_51 : decode cX7_rests 51 = .ok (.iload_n 3, 1) := by decide +kernel
theorem dX7_rests_52 : decode cX7_rests 52 = .ok (.ifCond .ne 51, 3) := by decide +kernel
theorem dX7_rests_55 : decode cX7_rests 55 = .ok (.iload 5, 2) := by decide +kernel
theorem dX7_rests_57 : decode cX7_rests 57 = .ok (.ifCond .le 50, 3) := by decide +kernel
theorem dX7_rests_60 : decode cX7_rests 60 = .ok (.aload_n 0, 1) := by decide +kernel
theorem dX7_rests_61 : decode cX7_rests 61 = .ok (.getfield 46, 3) := by decide +kernel
theorem dX7_rests_64 : decode cX7_rests 64 = .ok (.iload 5, 2) := by decide +kernel
theorem dX7_rests_66 : decode cX7_rests 66 = .ok (.iaload, 1) := by decide +kernel
theorem dX7_rests_67 : decode cX7_rests 67 = .ok (.iload_n 1, 1) := by decide +kernel
theorem dX7_rests_68 : decode cX7_rests 68 = .ok (.if_icmp .eq 39, 3) := by decide +kernel
theorem dX7_rests_71 : decode cX7_rests 71 = .ok (.aload_n 0, 1) := by decide +kernel
theorem dX7_rests_72 : decode cX7_rests 72 = .ok (.getfield 31, 3) := by decide +kernel
theorem dX7_rests_75 : decode cX7_rests 75 = .ok (.aload_n 0, 1) := by decide +kernel
theorem dX7_rests_76 : decode cX7_rests 76 = .ok (.getfield 46, 3) := by decide +kernel
theorem dX7_rests_79 : decode cX7_rests 79 = .ok (.iload 5, 2) := by decide +kernel
theorem dX7_rests_81 : decode cX7_rests 81 = .ok (.iaload, 1) := by decide +kernel
theorem dX7_rests_82 : decode cX7_rests 82 = .ok (.iaload, 1) := by decide +kernel
theorem dX7_rests_83 : decode cX7_rests 83 = .ok (.iload 5, 2) := by decide +kernel
theorem dX7_rests_85 : decode cX7_rests 85 = .ok (.if_icmp .ne 18, 3) := by decide +kernel
theorem dX7_rests_88 : decode cX7_rests 88 = .ok (.aload_n 0, 1) := by decide +kernel
theorem dX7_rests_89 : decode cX7_rests 89 = .ok (.getfield 80, 3) := by decide +kernel
theorem dX7_rests_92 : decode cX7_rests 92 = .ok (.aload_n 0, 1) := by decide +kernel
theorem dX7_rests_93 : decode cX7_rests 93 = .ok (.getfield 46, 3) := by decide +kernel
theorem dX7_rests_96 : decode cX7_rests 96 = .ok (.iload 5, 2) := by decide +kernel
theorem dX7_rests_98 : decode cX7_rests 98 = .ok (.iaload, 1) := by decide +kernel
theorem dX7_rests_99 : decode cX7_rests 99 = .ok (.iaload, 1) := by decide +kernel
theorem dX7_rests_100 : decode cX7_rests 100 = .ok (.ifCond .le 7, 3) := by decide +kernel
theorem dX7_rests_103 : decode cX7_rests 103 = .ok (.iconst 1, 1) := by decide +kernel
theorem dX7_rests_104 : decode cX7_rests 104 = .ok (.goto 4, 3) := by decide +kernel
theorem dX7_rests_107 : decode cX7_rests 107 = .ok (.iconst 0, 1) := by decide +kernel
theorem dX7_rests_108 : decode cX7_rests 108 = .ok (.istore_n 3, 1) := by decide +kernel
theorem dX7_rests_109 : decode cX7_rests 109 = .ok (.iinc 4 1, 3) := by decide +kernel
theorem dX7_rests_112 : decode cX7_rests 112 = .ok (.goto (-100), 3) := by decide +kernel
theorem dX7_rests_115 : decode cX7_rests 115 = .ok (.iload_n 3, 1) := by decide +kernel
theorem dX7_rests_116 : decode cX7_rests 116 = .ok (.ireturn, 1) := by decide +kernel
set_option maxRecDepth 20000 in
theorem ggX7_reasons_X7_ownReason : GoodIn wsX7_reasons wsX7_ownReason := goodIn_r _ [8, 3, 9, 10, 11, 12, 13, 14, 7, 15, 21, 22, 23, 24, 25, 26, 27, 28, 29, 30, 31, 32, 33, 34, 35, 36, 37, 38, 39, 40, 41, 42, 43, 44, 45, 46, 47, 48, 49, 50, 51, 52] (by decide +kernel) (by decide +kernel)
set_option maxRecDepth 20000 in
theorem gX7_reasons_X7_ownReason : GoodIn wsX7_reasons (wsV RX7 183 RX7 yX7_ownReason wsX7_ownReason) := goodIn_app (goodIn_of _ (by decide +kernel)) ggX7_reasons_X7_ownReason
set_option maxRecDepth 20000 in
theorem ggX7_reasons_X7_rests : GoodIn wsX7_reasons wsX7_rests := goodIn_r _ [19, 3, 10, 11, 20, 2, 13, 14, 7, 15, 21, 22, 23, 24, 25, 26, 27, 28, 29, 30, 31, 32, 33, 34, 35, 36, 37, 38, 39, 40, 41, 42, 43, 44, 45, 46, 47, 48, 49, 50, 51, 52] (by decide +kernel) (by decide +kernel)
set_option maxRecDepth 20000 in
theorem gX7_reasons_X7_rests : GoodIn wsX7_reasons (wsV RX7 186 RX7 yX7_rests wsX7_rests) := goodIn_app (goodIn_of _ (by decide +kernel)) ggX7_reasons_X7_rests
theorem dX7_reasons_0 : decode cX7_reasons 0 = .ok (.iconst 0, 1) := by decide +kernel
theorem dX7_reasons_1 : decode cX7_reasons 1 = .ok (.istore_n 1, 1) := by decide +kernel
theorem dX7_reasons_2 : decode cX7_reasons 2 = .ok (.iload_n 1, 1) := by decide +kernel
theorem dX7_reasons_3 : decode cX7_reasons 3 = .ok (.aload_n 0, 1) := by decide +kernel
theorem dX7_reasons_4 : decode cX7_reasons 4 = .ok (.getfield 87, 3) := by decide +kernel
theorem dX7_reasons_7 : decode cX7_reasons 7 = .ok (.if_icmp .ge 33, 3) := by decide +kernel
theorem dX7_reasons_10 : decode cX7_reasons 10 = .ok (.aload_n 0, 1) := by decide +kernel
theorem dX7_reasons_11 : decode cX7_reasons 11 = .ok (.getfield 80, 3) := by decide +kernel
theorem dX7_reasons_14 : decode cX7_reasons 14 = .ok (.iload_n 1, 1) := by decide +kernel
theorem dX7_reasons_15 : decode cX7_reasons 15 = .ok (.aload_n 0, 1) := by decide +kernel
theorem dX7_reasons_16 : decode cX7_reasons 16 = .ok (.getfield 31, 3) := by decide +kernel
theorem dX7_reasons_19 : decode cX7_reasons 19 = .ok (.iload_n 1, 1) := by decide +kernel
theorem dX7_reasons_20 : decode cX7_reasons 20 = .ok (.iaload, 1) := by decide +kernel
theorem dX7_reasons_21 : decode cX7_reasons 21 = .ok (.ifCond .ne 7, 3) := by decide +kernel
theorem dX7_reasons_24 : decode cX7_reasons 24 = .ok (.iconst 0, 1) := by decide +kernel
theorem dX7_reasons_25 : decode cX7_reasons 25 = .ok (.goto 8, 3) := by decide +kernel
theorem dX7_reasons_28 : decode cX7_reasons 28 = .ok (.aload_n 0, 1) := by decide +kernel
theorem dX7_reasons_29 : decode cX7_reasons 29 = .ok (.iload_n 1, 1) := by decide +kernel
theorem dX7_reasons_30 : decode cX7_reasons 30 = .ok (.invokevirtual 183, 3) := by decide +kernel
theorem dX7_reasons_33 : decode cX7_reasons 33 = .ok (.iastore, 1) := by decide +kernel
theorem dX7_reasons_34 : decode cX7_reasons 34 = .ok (.iinc 1 1, 3) := by decide +kernel
theorem dX7_reasons_37 : decode cX7_reasons 37 = .ok (.goto (-35), 3) := by decide +kernel
theorem dX7_reasons_40 : decode cX7_reasons 40 = .ok (.iconst 0, 1) := by decide +kernel
theorem dX7_reasons_41 : decode cX7_reasons 41 = .ok (.istore_n 1, 1) := by decide +kernel
theorem dX7_reasons_42 : decode cX7_reasons 42 = .ok (.iload_n 1, 1) := by decide +kernel
theorem dX7_reasons_43 : decode cX7_reasons 43 = .ok (.bipush 16, 2) := by decide +kernel
theorem dX7_reasons_45 : decode cX7_reasons 45 = .ok (.if_icmp .ge 56, 3) := by decide +kernel
theorem dX7_reasons_48 : decode cX7_reasons 48 = .ok (.iconst 0, 1) := by decide +kernel
theorem dX7_reasons_49 : decode cX7_reasons 49 = .ok (.istore_n 2, 1) := by decide +kernel
theorem dX7_reasons_50 : decode cX7_reasons 50 = .ok (.iload_n 2, 1) := by decide +kernel
theorem dX7_reasons_51 : decode cX7_reasons 51 = .ok (.aload_n 0, 1) := by decide +kernel
theorem dX7_reasons_52 : decode cX7_reasons 52 = .ok (.getfield 87, 3) := by decide +kernel
theorem dX7_reasons_55 : decode cX7_reasons 55 = .ok (.if_icmp .ge 40, 3) := by decide +kernel
theorem dX7_reasons_58 : decode cX7_reasons 58 = .ok (.aload_n 0, 1) := by decide +kernel
theorem dX7_reasons_59 : decode cX7_reasons 59 = .ok (.getfield 80, 3) := by decide +kernel
theorem dX7_reasons_62 : decode cX7_reasons 62 = .ok (.iload_n 2, 1) := by decide +kernel
theorem dX7_reasons_63 : decode cX7_reasons 63 = .ok (.dup2, 1) := by decide +kernel
theorem dX7_reasons_64 : decode cX7_reasons 64 = .ok (.iaload, 1) := by decide +kernel
theorem dX7_reasons_65 : decode cX7_reasons 65 = .ok (.aload_n 0, 1) := by decide +kernel
theorem dX7_reasons_66 : decode cX7_reasons 66 = .ok (.getfield 31, 3) := by decide +kernel
theorem dX7_reasons_69 : decode cX7_reasons 69 = .ok (.iload_n 2, 1) := by decide +kernel
theorem dX7_reasons_70 : decode cX7_reasons 70 = .ok (.iaload, 1) := by decide +kernel
theorem dX7_reasons_71 : decode cX7_reasons 71 = .ok (.ifCond .le 15, 3) := by decide +kernel
theorem dX7_reasons_74 : decode cX7_reasons 74 = .ok (.aload_n 0, 1) := by decide +kernel
theorem dX7_reasons_75 : decode cX7_reasons 75 = .ok (.iload_n 2, 1) := by decide +kernel
theorem dX7_reasons_76 : decode cX7_reasons 76 = .ok (.invokevirtual 186, 3) := by decide +kernel
theorem dX7_reasons_79 : decode cX7_reasons 79 = .ok (.ifCond .eq 7, 3) := by decide +kernel
theorem dX7_reasons_82 : decode cX7_reasons 82 = .ok (.iconst 4, 1) := by decide +kernel
theorem dX7_reasons_83 : decode cX7_reasons 83 = .ok (.goto 4, 3) := by decide +kernel
theorem dX7_reasons_86 : decode cX7_reasons 86 = .ok (.iconst 0, 1) := by decide +kernel
theorem dX7_reasons_87 : decode cX7_reasons 87 = .ok (.ior, 1) := by decide +kernel
theorem dX7_reasons_88 : decode cX7_reasons 88 = .ok (.iastore, 1) := by decide +kernel
theorem dX7_reasons_89 : decode cX7_reasons 89 = .ok (.iinc 2 1, 3) := by decide +kernel
theorem dX7_reasons_92 : decode cX7_reasons 92 = .ok (.goto (-42), 3) := by decide +kernel
theorem dX7_reasons_95 : decode cX7_reasons 95 = .ok (.iinc 1 1, 3) := by decide +kernel
theorem dX7_reasons_98 : decode cX7_reasons 98 = .ok (.goto (-56), 3) := by decide +kernel
theorem dX7_reasons_101 : decode cX7_reasons 101 = .ok (.return_, 1) := by decide +kernel
set_option maxRecDepth 20000 in
theorem ggX7_why_X7_reasons : GoodIn wsX7_why wsX7_reasons := goodIn_r _ [6, 7, 1, 8, 9, 10, 11, 5, 12, 13, 14, 15, 16, 17, 18, 19, 20, 21, 22, 23, 24, 37, 38, 39, 40, 41, 42, 43, 44, 45, 46, 47, 48, 49, 50, 51, 52, 53, 54, 55, 56, 57, 58, 59, 60, 61, 62, 63, 64, 65, 66, 67, 68] (by decide +kernel) (by decide +kernel)
set_option maxRecDepth 20000 in
theorem gX7_why_X7_reasons : GoodIn wsX7_why (wsV RX7 180 RX7 yX7_reasons wsX7_reasons) := goodIn_app (goodIn_of _ (by decide +kernel)) ggX7_why_X7_reasons
set_option maxRecDepth 20000 in
theorem ggX7_why_X7_isCell : GoodIn wsX7_why wsX7_isCell := goodIn_r _ [28, 7, 29, 30, 5, 31, 37, 38, 39, 40, 41, 42, 43, 44, 45, 46, 47, 48, 49, 50, 51, 52, 53, 54, 55, 56, 57, 58, 59, 60, 61, 62, 63, 64, 65, 66, 67, 68] (by decide +kernel) (by decide +kernel)
set_option maxRecDepth 20000 in
theorem gX7_why_X7_isCell : GoodIn wsX7_why (wsV RX7 105 RX7 yX7_isCell wsX7_isCell) := goodIn_app (goodIn_of _ (by decide +kernel)) ggX7_why_X7_isCell
set_option maxRecDepth 20000 in
theorem ggX7_why_X7_goes : GoodIn wsX7_why wsX7_goes := goodIn_r _ [35, 36, 37, 38, 39, 40, 41, 42, 43, 44, 45, 46, 47, 48, 49, 50, 51, 52, 53, 54, 55, 56, 57, 58, 59, 60, 61, 62, 63, 64, 65, 66, 67, 68] (by decide +kernel) (by decide +kernel)
set_option maxRecDepth 20000 in
theorem gX7_why_X7_goes : GoodIn wsX7_why (wsV RX7 98 RX7 yX7_goes wsX7_goes) := goodIn_app (goodIn_of _ (by decide +kernel)) ggX7_why_X7_goes
theorem dX7_why_0 : decode cX7_why 0 = .ok (.aload_n 0, 1) := by decide +kernel
theorem dX7_why_1 : decode cX7_why 1 = .ok (.invokevirtual 180, 3) := by decide +kernel
theorem dX7_why_4 : decode cX7_why 4 = .ok (.aload_n 0, 1) := by decide +kernel
theorem dX7_why_5 : decode cX7_why 5 = .ok (.aload_n 0, 1) := by decide +kernel
theorem dX7_why_6 : decode cX7_why 6 = .ok (.iload_n 1, 1) := by decide +kernel
theorem dX7_why_7 : decode cX7_why 7 = .ok (.invokevirtual 105, 3) := by decide +kernel
theorem dX7_why_10 : decode cX7_why 10 = .ok (.iconst 1, 1) := by decide +kernel
theorem dX7_why_11 : decode cX7_why 11 = .ok (.iconst 1, 1) := by decide +kernel
theorem dX7_why_12 : decode cX7_why 12 = .ok (.invokevirtual 98, 3) := by decide +kernel
theorem dX7_why_15 : decode cX7_why 15 = .ok (.ifCond .eq 12, 3) := by decide +kernel
theorem dX7_why_18 : decode cX7_why 18 = .ok (.aload_n 0, 1) := by decide +kernel
theorem dX7_why_19 : decode cX7_why 19 = .ok (.getfield 80, 3) := by decide +kernel
theorem dX7_why_22 : decode cX7_why 22 = .ok (.iload_n 1, 1) := by decide +kernel
theorem dX7_why_23 : decode cX7_why 23 = .ok (.iaload, 1) := by decide +kernel
theorem dX7_why_24 : decode cX7_why 24 = .ok (.goto 4, 3) := by decide +kernel
theorem dX7_why_27 : decode cX7_why 27 = .ok (.iconst 0, 1) := by decide +kernel
theorem dX7_why_28 : decode cX7_why 28 = .ok (.ireturn, 1) := by decide +kernel
set_option maxRecDepth 20000 in
theorem ggX7_staleOnes_X7_reasons : GoodIn wsX7_staleOnes wsX7_reasons := goodIn_r _ [7, 1, 2, 8, 9, 10, 11, 6, 12, 13, 14, 15, 16, 17, 18, 19, 20, 21, 22, 23, 24, 25, 26, 27, 28, 29, 30, 31, 32, 33, 34, 35, 36, 37, 38, 39, 40, 41, 42, 43, 44, 45, 46, 47, 48, 49, 50, 51, 52, 53, 54, 55, 56] (by decide +kernel) (by decide +kernel)
set_option maxRecDepth 20000 in
theorem gX7_staleOnes_X7_reasons : GoodIn wsX7_staleOnes (wsV RX7 180 RX7 yX7_reasons wsX7_reasons) := goodIn_app (goodIn_of _ (by decide +kernel)) ggX7_staleOnes_X7_reasons
theorem dX7_staleOnes_0 : decode cX7_staleOnes 0 = .ok (.aload_n 0, 1) := by decide +kernel
theorem dX7_staleOnes_1 : decode cX7_staleOnes 1 = .ok (.invokevirtual 180, 3) := by decide +kernel
theorem dX7_staleOnes_4 : decode cX7_staleOnes 4 = .ok (.iconst 0, 1) := by decide +kernel
theorem dX7_staleOnes_5 : decode cX7_staleOnes 5 = .ok (.istore_n 1, 1) := by decide +kernel
theorem dX7_staleOnes_6 : decode cX7_staleOnes 6 = .ok (.iconst 0, 1) := by decide +kernel
theorem dX7_staleOnes_7 : decode cX7_staleOnes 7 = .ok (.istore_n 2, 1) := by decide +kernel
theorem dX7_staleOnes_8 : decode cX7_staleOnes 8 = .ok (.iload_n 2, 1) := by decide +kernel
theorem dX7_staleOnes_9 : decode cX7_staleOnes 9 = .ok (.aload_n 0, 1) := by decide +kernel
theorem dX7_staleOnes_10 : decode cX7_staleOnes 10 = .ok (.getfield 87, 3) := by decide +kernel
theorem dX7_staleOnes_13 : decode cX7_staleOnes 13 = .ok (.if_icmp .ge 28, 3) := by decide +kernel
theorem dX7_staleOnes_16 : decode cX7_staleOnes 16 = .ok (.iload_n 1, 1) := by decide +kernel
theorem dX7_staleOnes_17 : decode cX7_staleOnes 17 = .ok (.aload_n 0, 1) := by decide +kernel
theorem dX7_staleOnes_18 : decode cX7_staleOnes 18 = .ok (.getfield 80, 3) := by decide +kernel
theorem dX7_staleOnes_21 : decode cX7_staleOnes 21 = .ok (.iload_n 2, 1) := by decide +kernel
theorem dX7_staleOnes_22 : decode cX7_staleOnes 22 = .ok (.iaload, 1) := by decide +kernel
theorem dX7_staleOnes_23 : decode cX7_staleOnes 23 = .ok (.ifCond .le 9, 3) := by decide +kernel
theorem dX7_staleOnes_26 : decode cX7_staleOnes 26 = .ok (.iconst 1, 1) := by decide +kernel
theorem dX7_staleOnes_27 : decode cX7_staleOnes 27 = .ok (.iload_n 2, 1) := by decide +kernel
theorem dX7_staleOnes_28 : decode cX7_staleOnes 28 = .ok (.ishl, 1) := by decide +kernel
theorem dX7_staleOnes_29 : decode cX7_staleOnes 29 = .ok (.goto 4, 3) := by decide +kernel
theorem dX7_staleOnes_32 : decode cX7_staleOnes 32 = .ok (.iconst 0, 1) := by decide +kernel
theorem dX7_staleOnes_33 : decode cX7_staleOnes 33 = .ok (.ior, 1) := by decide +kernel
theorem dX7_staleOnes_34 : decode cX7_staleOnes 34 = .ok (.istore_n 1, 1) := by decide +kernel
theorem dX7_staleOnes_35 : decode cX7_staleOnes 35 = .ok (.iinc 2 1, 3) := by decide +kernel
theorem dX7_staleOnes_38 : decode cX7_staleOnes 38 = .ok (.goto (-30), 3) := by decide +kernel
