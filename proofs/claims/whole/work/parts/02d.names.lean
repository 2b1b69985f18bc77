theorem dX6_runNumbered_7 : decode cX6_runNumbered 7 = .ok (.getfield 19, 3) := by decide +kernel
theorem dX6_runNumbered_10 : decode cX6_runNumbered 10 = .ok (.invokevirtual 49, 3) := by decide +kernel
theorem dX6_runNumbered_13 : decode cX6_runNumbered 13 = .ok (.if_icmp .gt 19, 3) := by decide +kernel
theorem dX6_runNumbered_16 : decode cX6_runNumbered 16 = .ok (.aload_n 0, 1) := by decide +kernel
theorem dX6_runNumbered_17 : decode cX6_runNumbered 17 = .ok (.getfield 19, 3) := by decide +kernel
theorem dX6_runNumbered_20 : decode cX6_runNumbered 20 = .ok (.iload_n 1, 1) := by decide +kernel
theorem dX6_runNumbered_21 : decode cX6_runNumbered 21 = .ok (.iconst 1, 1) := by decide +kernel
theorem dX6_runNumbered_22 : decode cX6_runNumbered 22 = .ok (.isub, 1) := by decide +kernel
theorem dX6_runNumbered_23 : decode cX6_runNumbered 23 = .ok (.invokevirtual 125, 3) := by decide +kernel
theorem dX6_runNumbered_26 : decode cX6_runNumbered 26 = .ok (.checkcast 198, 3) := by decide +kernel
theorem dX6_runNumbered_29 : decode cX6_runNumbered 29 = .ok (.goto 4, 3) := by decide +kernel
theorem dX6_runNumbered_32 : decode cX6_runNumbered 32 = .ok (.aconst_null, 1) := by decide +kernel
theorem dX6_runNumbered_33 : decode cX6_runNumbered 33 = .ok (.areturn, 1) := by decide +kernel
set_option maxRecDepth 20000 in
theorem ggX6_lastRunMadeOf_X4_lastRunOf : GoodIn wsX6_lastRunMadeOf wsX4_lastRunOf := goodIn_r _ [7, 8, 51, 52] (by decide +kernel) (by decide +kernel)
set_option maxRecDepth 20000 in
theorem gX6_lastRunMadeOf_X4_lastRunOf : GoodIn wsX6_lastRunMadeOf (wsV RX6 190 RX4 yX4_lastRunOf wsX4_lastRunOf) := goodIn_app (goodIn_of _ (by decide +kernel)) ggX6_lastRunMadeOf_X4_lastRunOf
set_option maxRecDepth 20000 in
theorem ggX6_lastRunMadeOf_X6_runNumbered : GoodIn wsX6_lastRunMadeOf wsX6_runNumbered := goodIn_r _ [13, 14, 15, 16, 17, 18, 19, 20, 21, 22, 23, 24, 25, 26, 27, 28, 29, 30, 31, 32, 33, 34, 35, 36, 37, 38, 39, 40, 41, 42, 43, 44, 45, 46, 53, 54, 55] (by decide +kernel) (by decide +kernel)
set_option maxRecDepth 20000 in
theorem gX6_lastRunMadeOf_X6_runNumbered : GoodIn wsX6_lastRunMadeOf (wsV RX6 283 RX6 yX6_runNumbered wsX6_runNumbered) := goodIn_app (goodIn_of _ (by decide +kernel)) ggX6_lastRunMadeOf_X6_runNumbered
theorem dX6_lastRunMadeOf_0 : decode cX6_lastRunMadeOf 0 = .ok (.aload_n 0, 1) := by decide +kernel
theorem dX6_lastRunMadeOf_1 : decode cX6_lastRunMadeOf 1 = .ok (.aload_n 0, 1) := by decide +kernel
theorem dX6_lastRunMadeOf_2 : decode cX6_lastRunMadeOf 2 = .ok (.getfield 31, 3) := by decide +kernel
theorem dX6_lastRunMadeOf_5 : decode cX6_lastRunMadeOf 5 = .ok (.aload_n 1, 1) := by decide +kernel
theorem dX6_lastRunMadeOf_6 : decode cX6_lastRunMadeOf 6 = .ok (.getfield 128, 3) := by decide +kernel
theorem dX6_lastRunMadeOf_9 : decode cX6_lastRunMadeOf 9 = .ok (.invokevirtual 190, 3) := by decide +kernel
theorem dX6_lastRunMadeOf_12 : decode cX6_lastRunMadeOf 12 = .ok (.invokevirtual 283, 3) := by decide +kernel
theorem dX6_lastRunMadeOf_15 : decode cX6_lastRunMadeOf 15 = .ok (.areturn, 1) := by decide +kernel
set_option maxRecDepth 20000 in
theorem ggX6_isLastRun_X4_lastRunOf : GoodIn wsX6_isLastRun wsX4_lastRunOf := goodIn_r _ [9, 10, 30, 31] (by decide +kernel) (by decide +kernel)
set_option maxRecDepth 20000 in
theorem gX6_isLastRun_X4_lastRunOf : GoodIn wsX6_isLastRun (wsV RX6 190 RX4 yX4_lastRunOf wsX4_lastRunOf) := goodIn_app (goodIn_of _ (by decide +kernel)) ggX6_isLastRun_X4_lastRunOf
theorem dX6_isLastRun_0 : decode cX6_isLastRun 0 = .ok (.aload_n 0, 1) := by decide +kernel
theorem dX6_isLastRun_1 : decode cX6_isLastRun 1 = .ok (.getfield 31, 3) := by decide +kernel
theorem dX6_isLastRun_4 : decode cX6_isLastRun 4 = .ok (.aload_n 1, 1) := by decide +kernel
theorem dX6_isLastRun_5 : decode cX6_isLastRun 5 = .ok (.getfield 244, 3) := by decide +kernel
theorem dX6_isLastRun_8 : decode cX6_isLastRun 8 = .ok (.getfield 128, 3) := by decide +kernel
theorem dX6_isLastRun_11 : decode cX6_isLastRun 11 = .ok (.invokevirtual 190, 3) := by decide +kernel
theorem dX6_isLastRun_14 : decode cX6_isLastRun 14 = .ok (.aload_n 1, 1) := by decide +kernel
theorem dX6_isLastRun_15 : decode cX6_isLastRun 15 = .ok (.getfield 243, 3) := by decide +kernel
theorem dX6_isLastRun_18 : decode cX6_isLastRun 18 = .ok (.if_icmp .ne 7, 3) := by decide +kernel
theorem dX6_isLastRun_21 : decode cX6_isLastRun 21 = .ok (.iconst 1, 1) := by decide +kernel
theorem dX6_isLastRun_22 : decode cX6_isLastRun 22 = .ok (.goto 4, 3) := by decide +kernel
theorem dX6_isLastRun_25 : decode cX6_isLastRun 25 = .ok (.iconst 0, 1) := by decide +kernel
theorem dX6_isLastRun_26 : decode cX6_isLastRun 26 = .ok (.ireturn, 1) := by decide +kernel
set_option maxRecDepth 20000 in
theorem ggX6_staleCells_Jx4a65c_size_8abf5 : GoodIn wsX6_staleCells wsJx4a65c_size_8abf5 := goodIn_r _ [9, 10, 93, 94, 95] (by decide +kernel) (by decide +kernel)
set_option maxRecDepth 20000 in
theorem gX6_staleCells_Jx4a65c_size_8abf5 : GoodIn wsX6_staleCells (wsV RX6 49 RJx4a65c yJx4a65c_size_8abf5 wsJx4a65c_size_8abf5) := goodIn_app (goodIn_of _ (by decide +kernel)) ggX6_staleCells_Jx4a65c_size_8abf5
set_option maxRecDepth 20000 in
theorem ggX6_staleCells_Jx4a65c_get_915e3 : GoodIn wsX6_staleCells wsJx4a65c_get_915e3 := goodIn_r _ [14, 10, 15, 16, 17, 18, 19, 20, 21, 22, 23, 24, 25, 8, 26, 27, 93, 94, 95] (by decide +kernel) (by decide +kernel)
set_option maxRecDepth 20000 in
theorem gX6_staleCells_Jx4a65c_get_915e3 : GoodIn wsX6_staleCells (wsV RX6 125 RJx4a65c yJx4a65c_get_915e3 wsJx4a65c_get_915e3) := goodIn_app (goodIn_of _ (by decide +kernel)) ggX6_staleCells_Jx4a65c_get_915e3
set_option maxRecDepth 20000 in
theorem ggX6_staleCells_X6_isLastRun : GoodIn wsX6_staleCells wsX6_isLastRun := goodIn_r _ [32, 33, 3, 4, 34, 35, 36, 37, 38, 39, 40, 74, 75, 76, 77, 78, 79, 80, 81, 82, 83, 84, 85, 86, 87, 88, 89, 90, 91, 92, 96, 97] (by decide +kernel) (by decide +kernel)
set_option maxRecDepth 20000 in
theorem gX6_staleCells_X6_isLastRun : GoodIn wsX6_staleCells (wsV RX6 251 RX6 yX6_isLastRun wsX6_isLastRun) := goodIn_app (goodIn_of _ (by decide +kernel)) ggX6_staleCells_X6_isLastRun
set_option maxRecDepth 20000 in
theorem ggX6_staleCells_X6_reasons : GoodIn wsX6_staleCells wsX6_reasons := goodIn_r _ [44, 3, 45, 34, 33, 46, 47, 48, 49, 50, 51, 52, 53, 31, 54, 55, 56, 57, 58, 59, 60, 61, 62, 63, 64, 65, 66, 67, 68, 69, 4, 70, 71, 72, 73, 1, 2, 5, 6, 7, 8, 9, 10, 11, 12, 13, 14, 15, 16, 17, 18, 19, 20, 21, 22, 23, 24, 25, 26, 27, 28, 29, 30, 32, 35, 36, 37, 38, 39, 40, 82, 83, 84, 85, 86, 87, 88, 89, 90, 91, 92, 74, 75, 76, 77, 78, 79, 80, 81, 96, 97, 98, 99, 93, 94, 95] (by decide +kernel) (by decide +kernel)
set_option maxRecDepth 20000 in
theorem gX6_staleCells_X6_reasons : GoodIn wsX6_staleCells (wsV RX6 217 RX6 yX6_reasons wsX6_reasons) := goodIn_app (goodIn_of _ (by decide +kernel)) ggX6_staleCells_X6_reasons
theorem dX6_staleCells_0 : decode cX6_staleCells 0 = .ok (.iconst 0, 1) := by decide +kernel
theorem dX6_staleCells_1 : decode cX6_staleCells 1 = .ok (.istore_n 2, 1) := by decide +kernel
theorem dX6_staleCells_2 : decode cX6_staleCells 2 = .ok (.iconst 0, 1) := by decide +kernel
theorem dX6_staleCells_3 : decode cX6_staleCells 3 = .ok (.istore_n 3, 1) := by decide +kernel
theorem dX6_staleCells_4 : decode cX6_staleCells 4 = .ok (.iload_n 3, 1) := by decide +kernel
theorem dX6_staleCells_5 : decode cX6_staleCells 5 = .ok (.aload_n 0, 1) := by decide +kernel
theorem dX6_staleCells_6 : decode cX6_staleCells 6 = .ok (.getfield 19, 3) := by decide +kernel
theorem dX6_staleCells_9 : decode cX6_staleCells 9 = .ok (.invokevirtual 49, 3) := by decide +kernel
theorem dX6_staleCells_12 : decode cX6_staleCells 12 = .ok (.if_icmp .ge 55, 3) := by decide +kernel
theorem dX6_staleCells_15 : decode cX6_staleCells 15 = .ok (.aload_n 0, 1) := by decide +kernel
theorem dX6_staleCells_16 : decode cX6_staleCells 16 = .ok (.getfield 19, 3) := by decide +kernel
theorem dX6_staleCells_19 : decode cX6_staleCells 19 = .ok (.iload_n 3, 1) := by decide +kernel
theorem dX6_staleCells_20 : decode cX6_staleCells 20 = .ok (.invokevirtual 125, 3) := by decide +kernel
theorem dX6_staleCells_23 : decode cX6_staleCells 23 = .ok (.checkcast 198, 3) := by decide +kernel
theorem dX6_staleCells_26 : decode cX6_staleCells 26 = .ok (.astore 4, 2) := by decide +kernel
theorem dX6_staleCells_28 : decode cX6_staleCells 28 = .ok (.aload_n 0, 1) := by decide +kernel
theorem dX6_staleCells_29 : decode cX6_staleCells 29 = .ok (.aload 4, 2) := by decide +kernel
theorem dX6_staleCells_31 : decode cX6_staleCells 31 = .ok (.invokevirtual 251, 3) := by decide +kernel
theorem dX6_staleCells_34 : decode cX6_staleCells 34 = .ok (.ifCond .eq 27, 3) := by decide +kernel
theorem dX6_staleCells_37 : decode cX6_staleCells 37 = .ok (.aload_n 0, 1) := by decide +kernel
theorem dX6_staleCells_38 : decode cX6_staleCells 38 = .ok (.aload 4, 2) := by decide +kernel
theorem dX6_staleCells_40 : decode cX6_staleCells 40 = .ok (.iload_n 1, 1) := by decide +kernel
theorem dX6_staleCells_41 : decode cX6_staleCells 41 = .ok (.iload_n 2, 1) := by decide +kernel
theorem dX6_staleCells_42 : decode cX6_staleCells 42 = .ok (.invokevirtual 217, 3) := by decide +kernel
theorem dX6_staleCells_45 : decode cX6_staleCells 45 = .ok (.ifCond .eq 16, 3) := by decide +kernel
theorem dX6_staleCells_48 : decode cX6_staleCells 48 = .ok (.iload_n 2, 1) := by decide +kernel
theorem dX6_staleCells_49 : decode cX6_staleCells 49 = .ok (.iconst 1, 1) := by decide +kernel
theorem dX6_staleCells_50 : decode cX6_staleCells 50 = .ok (.aload 4, 2) := by decide +kernel
theorem dX6_staleCells_52 : decode cX6_staleCells 52 = .ok (.getfield 244, 3) := by decide +kernel
theorem dX6_staleCells_55 : decode cX6_staleCells 55 = .ok (.getfield 128, 3) := by decide +kernel
theorem dX6_staleCells_58 : decode cX6_staleCells 58 = .ok (.ishl, 1) := by decide +kernel
theorem dX6_staleCells_59 : decode cX6_staleCells 59 = .ok (.ior, 1) := by decide +kernel
theorem dX6_staleCells_60 : decode cX6_staleCells 60 = .ok (.istore_n 2, 1) := by decide +kernel
theorem dX6_staleCells_61 : decode cX6_staleCells 61 = .ok (.iinc 3 1, 3) := by decide +kernel
theorem dX6_staleCells_64 : decode cX6_staleCells 64 = .ok (.goto (-60), 3) := by decide +kernel
theorem dX6_staleCells_67 : decode cX6_staleCells 67 = .ok (.iload_n 2, 1) := by decide +kernel
theorem dX6_staleCells_68 : decode cX6_staleCells 68 = .ok (.ireturn, 1) := by decide +kernel
set_option maxRecDepth 20000 in
theorem ggX6_reasons_X3_sawName : GoodIn wsX6_reasons wsX3_sawName := goodIn_r _ [10, 11, 12, 13, 14, 70, 71, 72, 73, 74, 75, 76] (by decide +kernel) (by decide +kernel)
set_option maxRecDepth 20000 in
theorem gX6_reasons_X3_sawName : GoodIn wsX6_reasons (wsV RX6 211 RX3 yX3_sawName wsX3_sawName) := goodIn_app (goodIn_of _ (by decide +kernel)) ggX6_reasons_X3_sawName
set_option maxRecDepth 20000 in
theorem ggX6_reasons_X2_stampOf : GoodIn wsX6_reasons wsX2_stampOf := goodIn_r _ [19, 20, 12, 13, 14, 91, 92] (by decide +kernel) (by decide +kernel)
set_option maxRecDepth 20000 in
theorem gX6_reasons_X2_stampOf : GoodIn wsX6_reasons (wsV RX6 187 RX2 yX2_stampOf wsX2_stampOf) := goodIn_app (goodIn_of _ (by decide +kernel)) ggX6_reasons_X2_stampOf
set_option maxRecDepth 20000 in
theorem ggX6_reasons_X3_stampSeen : GoodIn wsX6_reasons wsX3_stampSeen := goodIn_r _ [24, 25, 12, 13, 14, 70, 71, 72, 73, 74, 75, 76] (by decide +kernel) (by decide +kernel)
set_option maxRecDepth 20000 in
theorem gX6_reasons_X3_stampSeen : GoodIn wsX6_reasons (wsV RX6 287 RX3 yX3_stampSeen wsX3_stampSeen) := goodIn_app (goodIn_of _ (by decide +kernel)) ggX6_reasons_X3_stampSeen
set_option maxRecDepth 20000 in
theorem ggX6_reasons_X6_restsOnOther : GoodIn wsX6_reasons wsX6_restsOnOther := goodIn_r _ [29, 1, 30, 21, 22, 23, 9, 24, 25, 12, 13, 14, 31, 32, 33, 34, 35, 36, 37, 38, 39, 40, 41, 42, 43, 44, 45, 46, 47, 48, 49, 50, 51, 52, 53, 54, 55, 56, 57, 58, 59, 60, 61, 62, 63, 4, 3, 64, 65, 66, 67, 68, 69, 70, 71, 72, 73, 74, 75, 76, 77, 78, 79, 80, 81, 82, 83, 84, 85, 86, 87, 88, 93, 94, 95, 89, 90] (by decide +kernel) (by decide +kernel)
set_option maxRecDepth 20000 in
theorem gX6_reasons_X6_restsOnOther : GoodIn wsX6_reasons (wsV RX6 290 RX6 yX6_restsOnOther wsX6_restsOnOther) := goodIn_app (goodIn_of _ (by decide +kernel)) ggX6_reasons_X6_restsOnOther
theorem dX6_reasons_0 : decode cX6_reasons 0 = .ok (.aload_n 1, 1) := by decide +kernel
theorem dX6_reasons_1 : decode cX6_reasons 1 = .ok (.getfield 244, 3) := by decide +kernel
theorem dX6_reasons_4 : decode cX6_reasons 4 = .ok (.getfield 104, 3) := by decide +kernel
theorem dX6_reasons_7 : decode cX6_reasons 7 = .ok (.aload_n 1, 1) := by decide +kernel
theorem dX6_reasons_8 : decode cX6_reasons 8 = .ok (.getfield 243, 3) := by decide +kernel
theorem dX6_reasons_11 : decode cX6_reasons 11 = .ok (.if_icmp .lt 7, 3) := by decide +kernel
theorem dX6_reasons_14 : decode cX6_reasons 14 = .ok (.iconst 1, 1) := by decide +kernel
theorem dX6_reasons_15 : decode cX6_reasons 15 = .ok (.goto 4, 3) := by decide +kernel
theorem dX6_reasons_18 : decode cX6_reasons 18 = .ok (.iconst 0, 1) := by decide +kernel
theorem dX6_reasons_19 : decode cX6_reasons 19 = .ok (.istore 4, 2) := by decide +kernel
theorem dX6_reasons_21 : decode cX6_reasons 21 = .ok (.iconst 0, 1) := by decide +kernel
theorem dX6_reasons_22 : decode cX6_reasons 22 = .ok (.istore 5, 2) := by decide +kernel
theorem dX6_reasons_24 : decode cX6_reasons 24 = .ok (.iload 5, 2) := by decide +kernel
theorem dX6_reasons_26 : decode cX6_reasons 26 = .ok (.bipush 8, 2) := by decide +kernel
theorem dX6_reasons_28 : decode cX6_reasons 28 = .ok (.if_icmp .ge 68, 3) := by decide +kernel
theorem dX6_reasons_31 : decode cX6_reasons 31 = .ok (.aload_n 1, 1) := by decide +kernel
theorem dX6_reasons_32 : decode cX6_reasons 32 = .ok (.iload 5, 2) := by decide +kernel
theorem dX6_reasons_34 : decode cX6_reasons 34 = .ok (.invokevirtual 211, 3) := by decide +kernel
theorem dX6_reasons_37 : decode cX6_reasons 37 = .ok (.ifCond .eq 53, 3) := by decide +kernel
theorem dX6_reasons_40 : decode cX6_reasons 40 = .ok (.iload 5, 2) := by decide +kernel
theorem dX6_reasons_42 : decode cX6_reasons 42 = .ok (.iload_n 2, 1) := by decide +kernel
theorem dX6_reasons_43 : decode cX6_reasons 43 = .ok (.if_icmp .eq 24, 3) := by decide +kernel
theorem dX6_reasons_46 : decode cX6_reasons 46 = .ok (.aload_n 0, 1) := by decide +kernel
theorem dX6_reasons_47 : decode cX6_reasons 47 = .ok (.getfield 31, 3) := by decide +kernel
theorem dX6_reasons_50 : decode cX6_reasons 50 = .ok (.getfield 177, 3) := by decide +kernel
theorem dX6_reasons_53 : decode cX6_reasons 53 = .ok (.iload 5, 2) := by decide +kernel
theorem dX6_reasons_55 : decode cX6_reasons 55 = .ok (.invokevirtual 187, 3) := by decide +kernel
theorem dX6_reasons_58 : decode cX6_reasons 58 = .ok (.aload_n 1, 1) := by decide +kernel
theorem dX6_reasons_59 : decode cX6_reasons 59 = .ok (.iload 5, 2) := by decide +kernel
theorem dX6_reasons_61 : decode cX6_reasons 61 = .ok (.invokevirtual 287, 3) := by decide +kernel
theorem dX6_reasons_64 : decode cX6_reasons 64 = .ok (.if_icmp .eq 9, 3) := by decide +kernel
theorem dX6_reasons_67 : decode cX6_reasons 67 = .ok (.iload 4, 2) := by decide +kernel
theorem dX6_reasons_69 : decode cX6_reasons 69 = .ok (.iconst 2, 1) := by decide +kernel
theorem dX6_reasons_70 : decode cX6_reasons 70 = .ok (.ior, 1) := by decide +kernel
theorem dX6_reasons_71 : decode cX6_reasons 71 = .ok (.istore 4, 2) := by decide +kernel
theorem dX6_reasons_73 : decode cX6_reasons 73 = .ok (.aload_n 0, 1) := by decide +kernel
theorem dX6_reasons_74 : decode cX6_reasons 74 = .ok (.aload_n 1, 1) := by decide +kernel
theorem dX6_reasons_75 : decode cX6_reasons 75 = .ok (.iload 5, 2) := by decide +kernel
theorem dX6_reasons_77 : decode cX6_reasons 77 = .ok (.iload_n 3, 1) := by decide +kernel
theorem dX6_reasons_78 : decode cX6_reasons 78 = .ok (.invokevirtual 290, 3) := by decide +kernel
theorem dX6_reasons_81 : decode cX6_reasons 81 = .ok (.ifCond .eq 9, 3) := by decide +kernel
theorem dX6_reasons_84 : decode cX6_reasons 84 = .ok (.iload 4, 2) := by decide +kernel
theorem dX6_reasons_86 : decode cX6_reasons 86 = .ok (.iconst 4, 1) := by decide +kernel
theorem dX6_reasons_87 : decode cX6_reasons 87 = .ok (.ior, 1) := by decide +kernel
theorem dX6_reasons_88 : decode cX6_reasons 88 = .ok (.istore 4, 2) := by decide +kernel
theorem dX6_reasons_90 : decode cX6_reasons 90 = .ok (.iinc 5 1, 3) := by decide +kernel
theorem dX6_reasons_93 : decode cX6_reasons 93 = .ok (.goto (-69), 3) := by decide +kernel
theorem dX6_reasons_96 : decode cX6_reasons 96 = .ok (.iload 4, 2) := by decide +kernel
theorem dX6_reasons_98 : decode cX6_reasons 98 = .ok (.ireturn, 1) := by decide +kernel
set_option maxRecDepth 20000 in
theorem ggX6_restsOnOther_X3_stampSeen : GoodIn wsX6_restsOnOther wsX3_stampSeen := goodIn_r _ [7, 8, 9, 10, 11, 53, 54, 55, 56, 57, 58, 59] (by decide +kernel) (by decide +kernel)
set_option maxRecDepth 20000 in
theorem gX6_restsOnOther_X3_stampSeen : GoodIn wsX6_restsOnOther (wsV RX6 287 RX3 yX3_stampSeen wsX3_stampSeen) := goodIn_app (goodIn_of _ (by decide +kernel)) ggX6_restsOnOther_X3_stampSeen
set_option maxRecDepth 20000 in
theorem ggX6_restsOnOther_X6_runNumbered : GoodIn wsX6_restsOnOther wsX6_runNumbered := goodIn_r _ [15, 16, 17, 18, 19, 20, 21, 22, 23, 24, 25, 26, 27, 28, 29, 30, 31, 32, 33, 34, 35, 36, 37, 38, 39, 40, 64, 65, 66, 67, 68, 69, 70, 71, 72, 73, 74] (by decide +kernel) (by decide +kernel)
set_option maxRecDepth 20000 in
theorem gX6_restsOnOther_X6_runNumbered : GoodIn wsX6_restsOnOther (wsV RX6 283 RX6 yX6_runNumbered wsX6_runNumbered) := goodIn_app (goodIn_of _ (by decide +kernel)) ggX6_restsOnOther_X6_runNumbered
set_option maxRecDepth 20000 in
theorem ggX6_restsOnOther_X6_isLastRun : GoodIn wsX6_restsOnOther wsX6_isLastRun := goodIn_r _ [44, 45, 1, 2, 46, 47, 48, 49, 50, 51, 52, 64, 65, 66, 67, 68, 69, 70, 71, 53, 54, 55, 56, 57, 58, 59, 60, 61, 62, 63, 75, 76] (by decide +kernel) (by decide +kernel)
set_option maxRecDepth 20000 in
theorem gX6_restsOnOther_X6_isLastRun : GoodIn wsX6_restsOnOther (wsV RX6 251 RX6 yX6_isLastRun wsX6_isLastRun) := goodIn_app (goodIn_of _ (by decide +kernel)) ggX6_restsOnOther_X6_isLastRun
theorem dX6_restsOnOther_0 : decode cX6_restsOnOther 0 = .ok (.aload_n 0, 1) := by decide +kernel
theorem dX6_restsOnOther_1 : decode cX6_restsOnOther 1 = .ok (.aload_n 1, 1) := by decide +kernel
theorem dX6_restsOnOther_2 : decode cX6_restsOnOther 2 = .ok (.iload_n 2, 1) := by decide +kernel
theorem dX6_restsOnOther_3 : decode cX6_restsOnOther 3 = .ok (.invokevirtual 287, 3) := by decide +kernel
theorem dX6_restsOnOther_6 : decode cX6_restsOnOther 6 = .ok (.invokevirtual 283, 3) := by decide +kernel
theorem dX6_restsOnOther_9 : decode cX6_restsOnOther 9 = .ok (.astore 4, 2) := by decide +kernel
theorem dX6_restsOnOther_11 : decode cX6_restsOnOther 11 = .ok (.aload 4, 2) := by decide +kernel
theorem dX6_restsOnOther_13 : decode cX6_restsOnOther 13 = .ok (.ifnull 15, 3) := by decide +kernel
theorem dX6_restsOnOther_16 : decode cX6_restsOnOther 16 = .ok (.aload 4, 2) := by decide +kernel
theorem dX6_restsOnOther_18 : decode cX6_restsOnOther 18 = .ok (.getfield 244, 3) := by decide +kernel
theorem dX6_restsOnOther_21 : decode cX6_restsOnOther 21 = .ok (.aload_n 1, 1) := by decide +kernel
theorem dX6_restsOnOther_22 : decode cX6_restsOnOther 22 = .ok (.getfield 244, 3) := by decide +kernel
theorem dX6_restsOnOther_25 : decode cX6_restsOnOther 25 = .ok (.if_acmp .ne 5, 3) := by decide +kernel
theorem dX6_restsOnOther_28 : decode cX6_restsOnOther 28 = .ok (.iconst 0, 1) := by decide +kernel
theorem dX6_restsOnOther_29 : decode cX6_restsOnOther 29 = .ok (.ireturn, 1) := by decide +kernel
theorem dX6_restsOnOther_30 : decode cX6_restsOnOther 30 = .ok (.aload_n 0, 1) := by decide +kernel
theorem dX6_restsOnOther_31 : decode cX6_restsOnOther 31 = .ok (.aload 4, 2) := by decide +kernel
theorem dX6_restsOnOther_33 : decode cX6_restsOnOther 33 = .ok (.invokevirtual 251, 3) := by decide +kernel
theorem dX6_restsOnOther_36 : decode cX6_restsOnOther 36 = .ok (.ifCond .eq 18, 3) := by decide +kernel
theorem dX6_restsOnOther_39 : decode cX6_restsOnOther 39 = .ok (.iload_n 3, 1) := by decide +kernel
theorem dX6_restsOnOther_40 : decode cX6_restsOnOther 40 = .ok (.iconst 1, 1) := by decide +kernel
theorem dX6_restsOnOther_41 : decode cX6_restsOnOther 41 = .ok (.aload 4, 2) := by decide +kernel
theorem dX6_restsOnOther_43 : decode cX6_restsOnOther 43 = .ok (.getfield 244, 3) := by decide +kernel
theorem dX6_restsOnOther_46 : decode cX6_restsOnOther 46 = .ok (.getfield 128, 3) := by decide +kernel
theorem dX6_restsOnOther_49 : decode cX6_restsOnOther 49 = .ok (.ishl, 1) := by decide +kernel
theorem dX6_restsOnOther_50 : decode cX6_restsOnOther 50 = .ok (.iand, 1) := by decide +kernel
theorem dX6_restsOnOther_51 : decode cX6_restsOnOther 51 = .ok (.ifCond .eq 7, 3) := by decide +kernel
theorem dX6_restsOnOther_54 : decode cX6_restsOnOther 54 = .ok (.iconst 1, 1) := by decide +kernel
theorem dX6_restsOnOther_55 : decode cX6_restsOnOther 55 = .ok (.goto 4, 3) := by decide +kernel
theorem dX6_restsOnOther_58 : decode cX6_restsOnOther 58 = .ok (.iconst 0, 1) := by decide +kernel
theorem dX6_restsOnOther_59 : decode cX6_restsOnOther 59 = .ok (.ireturn, 1) := by decide +kernel
theorem dX7_init_0 : decode cX7_init 0 = .ok (.aload_n 0, 1) := by decide +kernel
theorem dX7_init_1 : decode cX7_init 1 = .ok (.invokespecial 1, 3) := by decide +kernel
theorem dX7_init_4 : decode cX7_init 4 = .ok (.aload_n 0, 1) := by decide +kernel
theorem dX7_init_5 : decode cX7_init 5 = .ok (.bipush 16, 2) := by decide +kernel
theorem dX7_init_7 : decode cX7_init 7 = .ok (.newarray .int, 2) := by decide +kernel
theorem dX7_init_9 : decode cX7_init 9 = .ok (.putfield 7, 3) := by decide +kernel
theorem dX7_init_12 : decode cX7_init 12 = .ok (.aload_n 0, 1) := by decide +kernel
theorem dX7_init_13 : decode cX7_init 13 = .ok (.bipush 16, 2) := by decide +kernel
theorem dX7_init_15 : decode cX7_init 15 = .ok (.newarray .int, 2) := by decide +kernel
theorem dX7_init_17 : decode cX7_init 17 = .ok (.putfield 13, 3) := by decide +kernel
theorem dX7_init_20 : decode cX7_init 20 = .ok (.aload_n 0, 1) := by decide +kernel
theorem dX7_init_21 : decode cX7_init 21 = .ok (.bipush 96, 2) := by decide +kernel
theorem dX7_init_23 : decode cX7_init 23 = .ok (.newarray .int, 2) := by decide +kernel
theorem dX7_init_25 : decode cX7_init 25 = .ok (.putfield 16, 3) := by decide +kernel
theorem dX7_init_28 : decode cX7_init 28 = .ok (.aload_n 0, 1) := by decide +kernel
theorem dX7_init_29 : decode cX7_init 29 = .ok (.bipush 96, 2) := by decide +kernel
theorem dX7_init_31 : decode cX7_init 31 = .ok (.newarray .int, 2) := by decide +kernel
theorem dX7_init_33 : decode cX7_init 33 = .ok (.putfield 19, 3) := by decide +kernel
theorem dX7_init_36 : decode cX7_init 36 = .ok (.aload_n 0, 1) := by decide +kernel
theorem dX7_init_37 : decode cX7_init 37 = .ok (.bipush 96, 2) := by decide +kernel
theorem dX7_init_39 : decode cX7_init 39 = .ok (.newarray .int, 2) := by decide +kernel
theorem dX7_init_41 : decode cX7_init 41 = .ok (.putfield 22, 3) := by decide +kernel
theorem dX7_init_44 : decode cX7_init 44 = .ok (.aload_n 0, 1) := by decide +kernel
theorem dX7_init_45 : decode cX7_init 45 = .ok (.bipush 96, 2) := by decide +kernel
theorem dX7_init_47 : decode cX7_init 47 = .ok (.newarray .int, 2) := by decide +kernel
theorem dX7_init_49 : decode cX7_init 49 = .ok (.putfield 25, 3) := by decide +kernel
theorem dX7_init_52 : decode cX7_init 52 = .ok (.aload_n 0, 1) := by decide +kernel
theorem dX7_init_53 : decode cX7_init 53 = .ok (.bipush 16, 2) := by decide +kernel
theorem dX7_init_55 : decode cX7_init 55 = .ok (.newarray .int, 2) := by decide +kernel
theorem dX7_init_57 : decode cX7_init 57 = .ok (.putfield 28, 3) := by decide +kernel
theorem dX7_init_60 : decode cX7_init 60 = .ok (.aload_n 0, 1) := by decide +kernel
theorem dX7_init_61 : decode cX7_init 61 = .ok (.bipush 16, 2) := by decide +kernel
theorem dX7_init_63 : decode cX7_init 63 = .ok (.newarray .int, 2) := by decide +kernel
theorem dX7_init_65 : decode cX7_init 65 = .ok (.putfield 31, 3) := by decide +kernel
theorem dX7_init_68 : decode cX7_init 68 = .ok (.aload_n 0, 1) := by decide +kernel
theorem dX7_init_69 : decode cX7_init 69 = .ok (.bipush 80, 2) := by decide +kernel
theorem dX7_init_71 : decode cX7_init 71 = .ok (.newarray .int, 2) := by decide +kernel
theorem dX7_init_73 : decode cX7_init 73 = .ok (.putfield 34, 3) := by decide +kernel
theorem dX7_init_76 : decode cX7_init 76 = .ok (.aload_n 0, 1) := by decide +kernel
theorem dX7_init_77 : decode cX7_init 77 = .ok (.bipush 8, 2) := by decide +kernel
theorem dX7_init_79 : decode cX7_init 79 = .ok (.newarray .int, 2) := by decide +kernel
theorem dX7_init_81 : decode cX7_init 81 = .ok (.putfield 37, 3) := by decide +kernel
theorem dX7_init_84 : decode cX7_init 84 = .ok (.aload_n 0, 1) := by decide +kernel
theorem dX7_init_85 : decode cX7_init 85 = .ok (.bipush 8, 2) := by decide +kernel
theorem dX7_init_87 : decode cX7_init 87 = .ok (.newarray .int, 2) := by decide +kernel
theorem dX7_init_89 : decode cX7_init 89 = .ok (.putfield 40, 3) := by decide +kernel
theorem dX7_init_92 : decode cX7_init 92 = .ok (.aload_n 0, 1) := by decide +kernel
theorem dX7_init_93 : decode cX7_init 93 = .ok (.bipush 8, 2) := by decide +kernel
theorem dX7_init_95 : decode cX7_init 95 = .ok (.newarray .int, 2) := by decide +kernel
theorem dX7_init_97 : decode cX7_init 97 = .ok (.putfield 43, 3) := by decide +kernel
theorem dX7_init_100 : decode cX7_init 100 = .ok (.aload_n 0, 1) := by decide +kernel
theorem dX7_init_101 : decode cX7_init 101 = .ok (.sipush 401, 3) := by decide +kernel
theorem dX7_init_104 : decode cX7_init 104 = .ok (.newarray .int, 2) := by decide +kernel
theorem dX7_init_106 : decode cX7_init 106 = .ok (.putfield 46, 3) := by decide +kernel
theorem dX7_init_109 : decode cX7_init 109 = .ok (.aload_n 0, 1) := by decide +kernel
theorem dX7_init_110 : decode cX7_init 110 = .ok (.sipush 401, 3) := by decide +kernel
theorem dX7_init_113 : decode cX7_init 113 = .ok (.newarray .int, 2) := by decide +kernel
theorem dX7_init_115 : decode cX7_init 115 = .ok (.putfield 49, 3) := by decide +kernel
theorem dX7_init_118 : decode cX7_init 118 = .ok (.aload_n 0, 1) := by decide +kernel
theorem dX7_init_119 : decode cX7_init 119 = .ok (.sipush 401, 3) := by decide +kernel
theorem dX7_init_122 : decode cX7_init 122 = .ok (.newarray .int, 2) := by decide +kernel
theorem dX7_init_124 : decode cX7_init 124 = .ok (.putfield 52, 3) := by decide +kernel
theorem dX7_init_127 : decode cX7_init 127 = .ok (.aload_n 0, 1) := by decide +kernel
theorem dX7_init_128 : decode cX7_init 128 = .ok (.sipush 401, 3) := by decide +kernel
theorem dX7_init_131 : decode cX7_init 131 = .ok (.newarray .int, 2) := by decide +kernel
theorem dX7_init_133 : decode cX7_init 133 = .ok (.putfield 55, 3) := by decide +kernel
theorem dX7_init_136 : decode cX7_init 136 = .ok (.aload_n 0, 1) := by decide +kernel
theorem dX7_init_137 : decode cX7_init 137 = .ok (.sipush 401, 3) := by decide +kernel
theorem dX7_init_140 : decode cX7_init 140 = .ok (.newarray .boolean, 2) := by decide +kernel
theorem dX7_init_142 : decode cX7_init 142 = .ok (.putfield 58, 3) := by decide +kernel
theorem dX7_init_145 : decode cX7_init 145 = .ok (.aload_n 0, 1) := by decide +kernel
theorem dX7_init_146 : decode cX7_init 146 = .ok (.sipush 401, 3) := by decide +kernel
theorem dX7_init_149 : decode cX7_init 149 = .ok (.newarray .boolean, 2) := by decide +kernel
theorem dX7_init_151 : decode cX7_init 151 = .ok (.putfield 62, 3) := by decide +kernel
theorem dX7_init_154 : decode cX7_init 154 = .ok (.aload_n 0, 1) := by decide +kernel
theorem dX7_init_155 : decode cX7_init 155 = .ok (.sipush 3208, 3) := by decide +kernel
theorem dX7_init_158 : decode cX7_init 158 = .ok (.newarray .int, 2) := by decide +kernel
theorem dX7_init_160 : decode cX7_init 160 = .ok (.putfield 65, 3) := by decide +kernel
theorem dX7_init_163 : decode cX7_init 163 = .ok (.aload_n 0, 1) := by decide +kernel
theorem dX7_init_164 : decode cX7_init 164 = .ok (.bipush 80, 2) := by decide +kernel
theorem dX7_init_166 : decode cX7_init 166 = .ok (.newarray .int, 2) := by decide +kernel
theorem dX7_init_168 : decode cX7_init 168 = .ok (.putfield 68, 3) := by decide +kernel
theorem dX7_init_171 : decode cX7_init 171 = .ok (.aload_n 0, 1) := by decide +kernel
theorem dX7_init_172 : decode cX7_init 172 = .ok (.bipush 80, 2) := by decide +kernel
theorem dX7_init_174 : decode cX7_init 174 = .ok (.newarray .int, 2) := by decide +kernel
theorem dX7_init_176 : decode cX7_init 176 = .ok (.putfield 71, 3) := by decide +kernel
theorem dX7_init_179 : decode cX7_init 179 = .ok (.aload_n 0, 1) := by decide +kernel
theorem dX7_init_180 : decode cX7_init 180 = .ok (.sipush 160, 3) := by decide +kernel
theorem dX7_init_183 : decode cX7_init 183 = .ok (.newarray .int, 2) := by decide +kernel
theorem dX7_init_185 : decode cX7_init 185 = .ok (.putfield 74, 3) := by decide +kernel
theorem dX7_init_188 : decode cX7_init 188 = .ok (.aload_n 0, 1) := by decide +kernel
theorem dX7_init_189 : decode cX7_init 189 = .ok (.bipush 8, 2) := by decide +kernel
theorem dX7_init_191 : decode cX7_init 191 = .ok (.newarray .int, 2) := by decide +kernel
theorem dX7_init_193 : decode cX7_init 193 = .ok (.putfield 77, 3) := by decide +kernel
theorem dX7_init_196 : decode cX7_init 196 = .ok (.aload_n 0, 1) := by decide +kernel
theorem dX7_init_197 : decode cX7_init 197 = .ok (.bipush 16, 2) := by decide +kernel
theorem dX7_init_199 : decode cX7_init 199 = .ok (.newarray .int, 2) := by decide +kernel
theorem dX7_init_201 : decode cX7_init 201 = .ok (.putfield 80, 3) := by decide +kernel
theorem dX7_init_204 : decode cX7_init 204 = .ok (.return_, 1) := by decide +kernel
theorem dX7_thrown_0 : decode cX7_thrown 0 = .ok (.aload_n 0, 1) := by decide +kernel
theorem dX7_thrown_1 : decode cX7_thrown 1 = .ok (.getfield 83, 3) := by decide +kernel
theorem dX7_thrown_4 : decode cX7_thrown 4 = .ok (.ireturn, 1) := by decide +kernel
theorem dX7_in_0 : decode cX7_in 0 = .ok (.iload_n 0, 1) := by decide +kernel
theorem dX7_in_1 : decode cX7_in 1 = .ok (.iload_n 1, 1) := by decide +kernel
theorem dX7_in_2 : decode cX7_in 2 = .ok (.if_icmp .lt 12, 3) := by decide +kernel
theorem dX7_in_5 : decode cX7_in 5 = .ok (.iload_n 0, 1) := by decide +kernel
theorem dX7_in_6 : decode cX7_in 6 = .ok (.iload_n 2, 1) := by decide +kernel
theorem dX7_in_7 : decode cX7_in 7 = .ok (.if_icmp .gt 7, 3) := by decide +kernel
theorem dX7_in_10 : decode cX7_in 10 = .ok (.iconst 1, 1) := by decide +kernel
theorem dX7_in_11 : decode cX7_in 11 = .ok (.goto 4, 3) := by decide +kernel
theorem dX7_in_14 : decode cX7_in 14 = .ok (.iconst 0, 1) := by decide +kernel
theorem dX7_in_15 : decode cX7_in 15 = .ok (.ireturn, 1) := by decide +kernel
theorem dX7_goes_0 : decode cX7_goes 0 = .ok (.aload_n 0, 1) := by decide +kernel
theorem dX7_goes_1 : decode cX7_goes 1 = .ok (.iload_n 1, 1) := by decide +kernel
theorem dX7_goes_2 : decode cX7_goes 2 = .ok (.ifCond .ne 7, 3) := by decide +kernel
theorem dX7_goes_5 : decode cX7_goes 5 = .ok (.iconst 1, 1) := by decide +kernel
theorem dX7_goes_6 : decode cX7_goes 6 = .ok (.goto 20, 3) := by decide +kernel
theorem dX7_goes_9 : decode cX7_goes 9 = .ok (.iload_n 2, 1) := by decide +kernel
theorem dX7_goes_10 : decode cX7_goes 10 = .ok (.ifCond .ne 7, 3) := by decide +kernel
theorem dX7_goes_13 : decode cX7_goes 13 = .ok (.iconst 2, 1) := by decide +kernel
theorem dX7_goes_14 : decode cX7_goes 14 = .ok (.goto 12, 3) := by decide +kernel
theorem dX7_goes_17 : decode cX7_goes 17 = .ok (.iload_n 3, 1) := by decide +kernel
theorem dX7_goes_18 : decode cX7_goes 18 = .ok (.ifCond .ne 7, 3) := by decide +kernel
theorem dX7_goes_21 : decode cX7_goes 21 = .ok (.iconst 3, 1) := by decide +kernel
theorem dX7_goes_22 : decode cX7_goes 22 = .ok (.goto 4, 3) := by decide +kernel
theorem dX7_goes_25 : decode cX7_goes 25 = .ok (.iconst 0, 1) := by decide +kernel
theorem dX7_goes_26 : decode cX7_goes 26 = .ok (.putfield 83, 3) := by decide +kernel
theorem dX7_goes_29 : decode cX7_goes 29 = .ok (.aload_n 0, 1) := by decide +kernel
theorem dX7_goes_30 : decode cX7_goes 30 = .ok (.getfield 83, 3) := by decide +kernel
theorem dX7_goes_33 : decode cX7_goes 33 = .ok (.ifCond .ne 7, 3) := by decide +kernel
theorem dX7_goes_36 : decode cX7_goes 36 = .ok (.iconst 1, 1) := by decide +kernel
theorem dX7_goes_37 : decode cX7_goes 37 = .ok (.goto 4, 3) := by decide +kernel
theorem dX7_goes_40 : decode cX7_goes 40 = .ok (.iconst 0, 1) := by decide +kernel
theorem dX7_goes_41 : decode cX7_goes 41 = .ok (.ireturn, 1) := by decide +kernel
theorem dX7_told_0 : decode cX7_told 0 = .ok (.aload_n 0, 1) := by decide +kernel
theorem dX7_told_1 : decode cX7_told 1 = .ok (.iconst 0, 1) := by decide +kernel
theorem dX7_told_2 : decode cX7_told 2 = .ok (.putfield 83, 3) := by decide +kernel
theorem dX7_told_5 : decode cX7_told 5 = .ok (.iload_n 1, 1) := by decide +kernel
theorem dX7_told_6 : decode cX7_told 6 = .ok (.ireturn, 1) := by decide +kernel
set_option maxRecDepth 20000 in
theorem ggX7_isCell_X7_in : GoodIn wsX7_isCell wsX7_in := goodIn_r _ [5] (by decide +kernel) (by decide +kernel)
set_option maxRecDepth 20000 in
theorem gX7_isCell_X7_in : GoodIn wsX7_isCell (va_wsS RX7 90 yX7_in wsX7_in) := goodIn_app (goodIn_of _ (by decide +kernel)) ggX7_isCell_X7_in
theorem dX7_isCell_0 : decode cX7_isCell 0 = .ok (.iload_n 1, 1) := by decide +kernel
theorem dX7_isCell_1 : decode cX7_isCell 1 = .ok (.iconst 0, 1) := by decide +kernel
theorem dX7_isCell_2 : decode cX7_isCell 2 = .ok (.aload_n 0, 1) := by decide +kernel
theorem dX7_isCell_3 : decode cX7_isCell 3 = .ok (.getfield 87, 3) := by decide +kernel
theorem dX7_isCell_6 : decode cX7_isCell 6 = .ok (.iconst 1, 1) := by decide +kernel
theorem dX7_isCell_7 : decode cX7_isCell 7 = .ok (.isub, 1) := by decide +kernel
theorem dX7_isCell_8 : decode cX7_isCell 8 = .ok (.invokestatic 90, 3) := by decide +kernel
theorem dX7_isCell_11 : decode cX7_isCell 11 = .ok (.ireturn, 1) := by decide +kernel
set_option maxRecDepth 20000 in
theorem ggX7_isName_X7_in : GoodIn wsX7_isName wsX7_in := goodIn_r _ [4] (by decide +kernel) (by decide +kernel)
set_option maxRecDepth 20000 in
theorem gX7_isName_X7_in : GoodIn wsX7_isName (va_wsS RX7 90 yX7_in wsX7_in) := goodIn_app (goodIn_of _ (by decide +kernel)) ggX7_isName_X7_in
theorem dX7_isName_0 : decode cX7_isName 0 = .ok (.iload_n 0, 1) := by decide +kernel
theorem dX7_isName_1 : decode cX7_isName 1 = .ok (.iconst 0, 1) := by decide +kernel
theorem dX7_isName_2 : decode cX7_isName 2 = .ok (.bipush 7, 2) := by decide +kernel
theorem dX7_isName_4 : decode cX7_isName 4 = .ok (.invokestatic 90, 3) := by decide +kernel
theorem dX7_isName_7 : decode cX7_isName 7 = .ok (.ireturn, 1) := by decide +kernel
set_option maxRecDepth 20000 in
theorem ggX7_isUser_X7_in : GoodIn wsX7_isUser wsX7_in := goodIn_r _ [4] (by decide +kernel) (by decide +kernel)
set_option maxRecDepth 20000 in
theorem gX7_isUser_X7_in : GoodIn wsX7_isUser (va_wsS RX7 90 yX7_in wsX7_in) := goodIn_app (goodIn_of _ (by decide +kernel)) ggX7_isUser_X7_in
theorem dX7_isUser_0 : decode cX7_isUser 0 = .ok (.iload_n 0, 1) := by decide +kernel
theorem dX7_isUser_1 : decode cX7_isUser 1 = .ok (.iconst 0, 1) := by decide +kernel
theorem dX7_isUser_2 : decode cX7_isUser 2 = .ok (.iconst 4, 1) := by decide +kernel
theorem dX7_isUser_3 : decode cX7_isUser 3 = .ok (.invokestatic 90, 3) := by decide +kernel
theorem dX7_isUser_6 : decode cX7_isUser 6 = .ok (.ireturn, 1) := by decide +kernel
set_option maxRecDepth 20000 in
theorem ggX7_isOperand_X7_isName : GoodIn wsX7_isOperand wsX7_isName := goodIn_r _ [4, 5, 6, 3, 7] (by decide +kernel) (by decide +kernel)
set_option maxRecDepth 20000 in
theorem gX7_isOperand_X7_isName : GoodIn wsX7_isOperand (va_wsS RX7 94 yX7_isName wsX7_isName) := goodIn_app (goodIn_of _ (by decide +kernel)) ggX7_isOperand_X7_isName
set_option maxRecDepth 20000 in
theorem ggX7_isOperand_X7_in : GoodIn wsX7_isOperand wsX7_in := goodIn_r _ [7] (by decide +kernel) (by decide +kernel)
set_option maxRecDepth 20000 in
theorem gX7_isOperand_X7_in : GoodIn wsX7_isOperand (va_wsS RX7 90 yX7_in wsX7_in) := goodIn_app (goodIn_of _ (by decide +kernel)) ggX7_isOperand_X7_in
theorem dX7_isOperand_0 : decode cX7_isOperand 0 = .ok (.iload_n 0, 1) := by decide +kernel
theorem dX7_isOperand_1 : decode cX7_isOperand 1 = .ok (.invokestatic 94, 3) := by decide +kernel
theorem dX7_isOperand_4 : decode cX7_isOperand 4 = .ok (.ifCond .ne 15, 3) := by decide +kernel
theorem dX7_isOperand_7 : decode cX7_isOperand 7 = .ok (.iload_n 0, 1) := by decide +kernel
theorem dX7_isOperand_8 : decode cX7_isOperand 8 = .ok (.bipush 100, 2) := by decide +kernel
theorem dX7_isOperand_10 : decode cX7_isOperand 10 = .ok (.sipush 1100, 3) := by decide +kernel
theorem dX7_isOperand_13 : decode cX7_isOperand 13 = .ok (.invokestatic 90, 3) := by decide +kernel
theorem dX7_isOperand_16 : decode cX7_isOperand 16 = .ok (.ifCond .eq 7, 3) := by decide +kernel
theorem dX7_isOperand_19 : decode cX7_isOperand 19 = .ok (.iconst 1, 1) := by decide +kernel
theorem dX7_isOperand_20 : decode cX7_isOperand 20 = .ok (.goto 4, 3) := by decide +kernel
theorem dX7_isOperand_23 : decode cX7_isOperand 23 = .ok (.iconst 0, 1) := by decide +kernel
theorem dX7_isOperand_24 : decode cX7_isOperand 24 = .ok (.ireturn, 1) := by decide +kernel
theorem dX7_has_0 : decode cX7_has 0 = .ok (.iload_n 0, 1) := by decide +kernel
theorem dX7_has_1 : decode cX7_has 1 = .ok (.iload_n 1, 1) := by decide +kernel
theorem dX7_has_2 : decode cX7_has 2 = .ok (.ishr, 1) := by decide +kernel
theorem dX7_has_3 : decode cX7_has 3 = .ok (.iconst 1, 1) := by decide +kernel
theorem dX7_has_4 : decode cX7_has 4 = .ok (.iand, 1) := by decide +kernel
theorem dX7_has_5 : decode cX7_has 5 = .ok (.iconst 1, 1) := by decide +kernel
theorem dX7_has_6 : decode cX7_has 6 = .ok (.if_icmp .ne 7, 3) := by decide +kernel
theorem dX7_has_9 : decode cX7_has 9 = .ok (.iconst 1, 1) := by decide +kernel
theorem dX7_has_10 : decode cX7_has 10 = .ok (.goto 4, 3) := by decide +kernel
theorem dX7_has_13 : decode cX7_has 13 = .ok (.iconst 0, 1) := by decide +kernel
theorem dX7_has_14 : decode cX7_has 14 = .ok (.ireturn, 1) := by decide +kernel
set_option maxRecDepth 20000 in
theorem ggX7_addCell_X7_goes : GoodIn wsX7_addCell wsX7_goes := goodIn_r _ [7, 8, 9, 10, 11, 12, 13, 14, 15, 16, 17, 18, 19, 20, 21, 22, 23, 24, 25, 26, 27, 28, 29, 30, 31, 32, 33, 34, 35, 36, 37, 38, 39, 40] (by decide +kernel) (by decide +kernel)
set_option maxRecDepth 20000 in
theorem gX7_addCell_X7_goes : GoodIn wsX7_addCell (wsV RX7 98 RX7 yX7_goes wsX7_goes) := goodIn_app (goodIn_of _ (by decide +kernel)) ggX7_addCell_X7_goes
theorem dX7_addCell_0 : decode cX7_addCell 0 = .ok (.aload_n 0, 1) := by decide +kernel
theorem dX7_addCell_1 : decode cX7_addCell 1 = .ok (.aload_n 0, 1) := by decide +kernel
theorem dX7_addCell_2 : decode cX7_addCell 2 = .ok (.getfield 87, 3) := by decide +kernel
theorem dX7_addCell_5 : decode cX7_addCell 5 = .ok (.bipush 16, 2) := by decide +kernel
theorem dX7_addCell_7 : decode cX7_addCell 7 = .ok (.if_icmp .ge 7, 3) := by decide +kernel
theorem dX7_addCell_10 : decode cX7_addCell 10 = .ok (.iconst 1, 1) := by decide +kernel
theorem dX7_addCell_11 : decode cX7_addCell 11 = .ok (.goto 4, 3) := by decide +kernel
theorem dX7_addCell_14 : decode cX7_addCell 14 = .ok (.iconst 0, 1) := by decide +kernel
theorem dX7_addCell_15 : decode cX7_addCell 15 = .ok (.iconst 1, 1) := by decide +kernel
theorem dX7_addCell_16 : decode cX7_addCell 16 = .ok (.iconst 1, 1) := by decide +kernel
theorem dX7_addCell_17 : decode cX7_addCell 17 = .ok (.invokevirtual 98, 3) := by decide +kernel
theorem dX7_addCell_20 : decode cX7_addCell 20 = .ok (.ifCond .ne 5, 3) := by decide +kernel
theorem dX7_addCell_23 : decode cX7_addCell 23 = .ok (.iconst 0, 1) := by decide +kernel
theorem dX7_addCell_24 : decode cX7_addCell 24 = .ok (.ireturn, 1) := by decide +kernel
theorem dX7_addCell_25 : decode cX7_addCell 25 = .ok (.aload_n 0, 1) := by decide +kernel
theorem dX7_addCell_26 : decode cX7_addCell 26 = .ok (.getfield 7, 3) := by decide +kernel
theorem dX7_addCell_29 : decode cX7_addCell 29 = .ok (.aload_n 0, 1) := by decide +kernel
theorem dX7_addCell_30 : decode cX7_addCell 30 = .ok (.getfield 87, 3) := by decide +kernel
theorem dX7_addCell_33 : decode cX7_addCell 33 = .ok (.aload_n 0, 1) := by decide +kernel
theorem dX7_addCell_34 : decode cX7_addCell 34 = .ok (.getfield 87, 3) := by decide +kernel
theorem dX7_addCell_37 : decode cX7_addCell 37 = .ok (.iastore, 1) := by decide +kernel
theorem dX7_addCell_38 : decode cX7_addCell 38 = .ok (.aload_n 0, 1) := by decide +kernel
theorem dX7_addCell_39 : decode cX7_addCell 39 = .ok (.dup, 1) := by decide +kernel
theorem dX7_addCell_40 : decode cX7_addCell 40 = .ok (.getfield 87, 3) := by decide +kernel
theorem dX7_addCell_43 : decode cX7_addCell 43 = .ok (.iconst 1, 1) := by decide +kernel
theorem dX7_addCell_44 : decode cX7_addCell 44 = .ok (.iadd, 1) := by decide +kernel
theorem dX7_addCell_45 : decode cX7_addCell 45 = .ok (.putfield 87, 3) := by decide +kernel
theorem dX7_addCell_48 : decode cX7_addCell 48 = .ok (.aload_n 0, 1) := by decide +kernel
theorem dX7_addCell_49 : decode cX7_addCell 49 = .ok (.getfield 87, 3) := by decide +kernel
theorem dX7_addCell_52 : decode cX7_addCell 52 = .ok (.iconst 1, 1) := by decide +kernel
theorem dX7_addCell_53 : decode cX7_addCell 53 = .ok (.isub, 1) := by decide +kernel
theorem dX7_addCell_54 : decode cX7_addCell 54 = .ok (.ireturn, 1) := by decide +kernel
theorem dX7_rightOf_0 : decode cX7_rightOf 0 = .ok (.iload_n 1, 1) := by decide +kernel
theorem dX7_rightOf_1 : decode cX7_rightOf 1 = .ok (.ifCond .ne 7, 3) := by decide +kernel
theorem dX7_rightOf_4 : decode cX7_rightOf 4 = .ok (.iconst 3, 1) := by decide +kernel
theorem dX7_rightOf_5 : decode cX7_rightOf 5 = .ok (.goto 14, 3) := by decide +kernel
theorem dX7_rightOf_8 : decode cX7_rightOf 8 = .ok (.aload_n 0, 1) := by decide +kernel
theorem dX7_rightOf_9 : decode cX7_rightOf 9 = .ok (.getfield 34, 3) := by decide +kernel
theorem dX7_rightOf_12 : decode cX7_rightOf 12 = .ok (.bipush 16, 2) := by decide +kernel
theorem dX7_rightOf_14 : decode cX7_rightOf 14 = .ok (.iload_n 1, 1) := by decide +kernel
theorem dX7_rightOf_15 : decode cX7_rightOf 15 = .ok (.imul, 1) := by decide +kernel
theorem dX7_rightOf_16 : decode cX7_rightOf 16 = .ok (.iload_n 2, 1) := by decide +kernel
theorem dX7_rightOf_17 : decode cX7_rightOf 17 = .ok (.iadd, 1) := by decide +kernel
theorem dX7_rightOf_18 : decode cX7_rightOf 18 = .ok (.iaload, 1) := by decide +kernel
theorem dX7_rightOf_19 : decode cX7_rightOf 19 = .ok (.ireturn, 1) := by decide +kernel
set_option maxRecDepth 20000 in
theorem ggX7_write_X7_isUser : GoodIn wsX7_write wsX7_isUser := goodIn_r _ [11, 12, 13, 10, 14] (by decide +kernel) (by decide +kernel)
set_option maxRecDepth 20000 in
theorem gX7_write_X7_isUser : GoodIn wsX7_write (va_wsS RX7 102 yX7_isUser wsX7_isUser) := goodIn_app (goodIn_of _ (by decide +kernel)) ggX7_write_X7_isUser
set_option maxRecDepth 20000 in
theorem ggX7_write_X7_isCell : GoodIn wsX7_write wsX7_isCell := goodIn_r _ [18, 19, 12, 13, 10, 14, 36, 37, 38, 39, 40, 41, 42, 43, 44, 45, 46, 47, 48, 49, 50, 51, 52, 53, 54, 55, 56, 57, 58, 59, 60, 61, 62, 63, 64, 65, 66, 67] (by decide +kernel) (by decide +kernel)
set_option maxRecDepth 20000 in
theorem gX7_write_X7_isCell : GoodIn wsX7_write (wsV RX7 105 RX7 yX7_isCell wsX7_isCell) := goodIn_app (goodIn_of _ (by decide +kernel)) ggX7_write_X7_isCell
set_option maxRecDepth 20000 in
theorem ggX7_write_X7_isName : GoodIn wsX7_write wsX7_isName := goodIn_r _ [22, 12, 13, 10, 14] (by decide +kernel) (by decide +kernel)
set_option maxRecDepth 20000 in
theorem gX7_write_X7_isName : GoodIn wsX7_write (va_wsS RX7 94 yX7_isName wsX7_isName) := goodIn_app (goodIn_of _ (by decide +kernel)) ggX7_write_X7_isName
set_option maxRecDepth 20000 in
theorem ggX7_write_X7_in : GoodIn wsX7_write wsX7_in := goodIn_r _ [14] (by decide +kernel) (by decide +kernel)
set_option maxRecDepth 20000 in
theorem gX7_write_X7_in : GoodIn wsX7_write (va_wsS RX7 90 yX7_in wsX7_in) := goodIn_app (goodIn_of _ (by decide +kernel)) ggX7_write_X7_in
set_option maxRecDepth 20000 in
theorem ggX7_write_X7_isOperand : GoodIn wsX7_write wsX7_isOperand := goodIn_r _ [25, 20, 21, 10, 22, 12, 13, 14] (by decide +kernel) (by decide +kernel)
set_option maxRecDepth 20000 in
theorem gX7_write_X7_isOperand : GoodIn wsX7_write (va_wsS RX7 108 yX7_isOperand wsX7_isOperand) := goodIn_app (goodIn_of _ (by decide +kernel)) ggX7_write_X7_isOperand
set_option maxRecDepth 20000 in
theorem ggX7_write_X7_rightOf : GoodIn wsX7_write wsX7_rightOf := goodIn_r _ [29, 30, 36, 37, 38, 39, 40, 41, 42, 43, 44, 45, 46, 47, 48, 49, 50, 51, 52, 53, 54, 55, 56, 57, 58, 59, 60, 61, 62, 63, 64, 65, 66, 67] (by decide +kernel) (by decide +kernel)
set_option maxRecDepth 20000 in
theorem gX7_write_X7_rightOf : GoodIn wsX7_write (wsV RX7 111 RX7 yX7_rightOf wsX7_rightOf) := goodIn_app (goodIn_of _ (by decide +kernel)) ggX7_write_X7_rightOf
set_option maxRecDepth 20000 in
theorem ggX7_write_X7_goes : GoodIn wsX7_write wsX7_goes := goodIn_r _ [34, 35, 36, 37, 38, 39, 40, 41, 42, 43, 44, 45, 46, 47, 48, 49, 50, 51, 52, 53, 54, 55, 56, 57, 58, 59, 60, 61, 62, 63, 64, 65, 66, 67] (by decide +kernel) (by decide +kernel)
set_option maxRecDepth 20000 in
theorem gX7_write_X7_goes : GoodIn wsX7_write (wsV RX7 98 RX7 yX7_goes wsX7_goes) := goodIn_app (goodIn_of _ (by decide +kernel)) ggX7_write_X7_goes
theorem dX7_write_0 : decode cX7_write 0 = .ok (.iload_n 1, 1) := by decide +kernel
theorem dX7_write_1 : decode cX7_write 1 = .ok (.invokestatic 102, 3) := by decide +kernel
theorem dX7_write_4 : decode cX7_write 4 = .ok (.ifCond .eq 22, 3) := by decide +kernel
theorem dX7_write_7 : decode cX7_write 7 = .ok (.aload_n 0, 1) := by decide +kernel
theorem dX7_write_8 : decode cX7_write 8 = .ok (.iload_n 2, 1) := by decide +kernel
theorem dX7_write_9 : decode cX7_write 9 = .ok (.invokevirtual 105, 3) := by decide +kernel
theorem dX7_write_12 : decode cX7_write 12 = .ok (.ifCond .eq 14, 3) := by decide +kernel
theorem dX7_write_15 : decode cX7_write 15 = .ok (.iload_n 3, 1) := by decide +kernel
theorem dX7_write_16 : decode cX7_write 16 = .ok (.invokestatic 94, 3) := by decide +kernel
theorem dX7_write_19 : decode cX7_write 19 = .ok (.ifCond .eq 7, 3) := by decide +kernel
theorem dX7_write_22 : decode cX7_write 22 = .ok (.iconst 1, 1) := by decide +kernel
theorem dX7_write_23 : decode cX7_write 23 = .ok (.goto 4, 3) := by decide +kernel
theorem dX7_write_26 : decode cX7_write 26 = .ok (.iconst 0, 1) := by decide +kernel
theorem dX7_write_27 : decode cX7_write 27 = .ok (.istore 7, 2) := by decide +kernel
theorem dX7_write_29 : decode cX7_write 29 = .ok (.iload 4, 2) := by decide +kernel
theorem dX7_write_31 : decode cX7_write 31 = .ok (.iconst 0, 1) := by decide +kernel
theorem dX7_write_32 : decode cX7_write 32 = .ok (.iconst 3, 1) := by decide +kernel
theorem dX7_write_33 : decode cX7_write 33 = .ok (.invokestatic 90, 3) := by decide +kernel
theorem dX7_write_36 : decode cX7_write 36 = .ok (.ifCond .eq 23, 3) := by decide +kernel
theorem dX7_write_39 : decode cX7_write 39 = .ok (.iload 5, 2) := by decide +kernel
theorem dX7_write_41 : decode cX7_write 41 = .ok (.invokestatic 108, 3) := by decide +kernel
theorem dX7_write_44 : decode cX7_write 44 = .ok (.ifCond .eq 15, 3) := by decide +kernel
theorem dX7_write_47 : decode cX7_write 47 = .ok (.iload 6, 2) := by decide +kernel
theorem dX7_write_49 : decode cX7_write 49 = .ok (.invokestatic 108, 3) := by decide +kernel
theorem dX7_write_52 : decode cX7_write 52 = .ok (.ifCond .eq 7, 3) := by decide +kernel
theorem dX7_write_55 : decode cX7_write 55 = .ok (.iconst 1, 1) := by decide +kernel
theorem dX7_write_56 : decode cX7_write 56 = .ok (.goto 4, 3) := by decide +kernel
theorem dX7_write_59 : decode cX7_write 59 = .ok (.iconst 0, 1) := by decide +kernel
theorem dX7_write_60 : decode cX7_write 60 = .ok (.istore 8, 2) := by decide +kernel
theorem dX7_write_62 : decode cX7_write 62 = .ok (.aload_n 0, 1) := by decide +kernel
theorem dX7_write_63 : decode cX7_write 63 = .ok (.iload 7, 2) := by decide +kernel
theorem dX7_write_65 : decode cX7_write 65 = .ok (.iload 8, 2) := by decide +kernel
theorem dX7_write_67 : decode cX7_write 67 = .ok (.iload 7, 2) := by decide +kernel
theorem dX7_write_69 : decode cX7_write 69 = .ok (.ifCond .eq 28, 3) := by decide +kernel
theorem dX7_write_72 : decode cX7_write 72 = .ok (.aload_n 0, 1) := by decide +kernel
theorem dX7_write_73 : decode cX7_write 73 = .ok (.iload_n 1, 1) := by decide +kernel
theorem dX7_write_74 : decode cX7_write 74 = .ok (.iload_n 2, 1) := by decide +kernel
theorem dX7_write_75 : decode cX7_write 75 = .ok (.invokevirtual 111, 3) := by decide +kernel
theorem dX7_write_78 : decode cX7_write 78 = .ok (.iconst 3, 1) := by decide +kernel
theorem dX7_write_79 : decode cX7_write 79 = .ok (.if_icmp .ne 18, 3) := by decide +kernel
theorem dX7_write_82 : decode cX7_write 82 = .ok (.aload_n 0, 1) := by decide +kernel
theorem dX7_write_83 : decode cX7_write 83 = .ok (.getfield 13, 3) := by decide +kernel
theorem dX7_write_86 : decode cX7_write 86 = .ok (.iload_n 2, 1) := by decide +kernel
theorem dX7_write_87 : decode cX7_write 87 = .ok (.iaload, 1) := by decide +kernel
theorem dX7_write_88 : decode cX7_write 88 = .ok (.bipush 6, 2) := by decide +kernel
theorem dX7_write_90 : decode cX7_write 90 = .ok (.if_icmp .ge 7, 3) := by decide +kernel
theorem dX7_write_93 : decode cX7_write 93 = .ok (.iconst 1, 1) := by decide +kernel
theorem dX7_write_94 : decode cX7_write 94 = .ok (.goto 4, 3) := by decide +kernel
theorem dX7_write_97 : decode cX7_write 97 = .ok (.iconst 0, 1) := by decide +kernel
theorem dX7_write_98 : decode cX7_write 98 = .ok (.invokevirtual 98, 3) := by decide +kernel
theorem dX7_write_101 : decode cX7_write 101 = .ok (.ifCond .ne 5, 3) := by decide +kernel
theorem dX7_write_104 : decode cX7_write 104 = .ok (.iconst 0, 1) := by decide +kernel
theorem dX7_write_105 : decode cX7_write 105 = .ok (.ireturn, 1) := by decide +kernel
theorem dX7_write_106 : decode cX7_write 106 = .ok (.bipush 6, 2) := by decide +kernel
theorem dX7_write_108 : decode cX7_write 108 = .ok (.iload_n 2, 1) := by decide +kernel
theorem dX7_write_109 : decode cX7_write 109 = .ok (.imul, 1) := by decide +kernel
theorem dX7_write_110 : decode cX7_write 110 = .ok (.aload_n 0, 1) := by decide +kernel
theorem dX7_write_111 : decode cX7_write 111 = .ok (.getfield 13, 3) := by decide +kernel
theorem dX7_write_114 : decode cX7_write 114 = .ok (.iload_n 2, 1) := by decide +kernel
theorem dX7_write_115 : decode cX7_write 115 = .ok (.iaload, 1) := by decide +kernel
theorem dX7_write_116 : decode cX7_write 116 = .ok (.iadd, 1) := by decide +kernel
theorem dX7_write_117 : decode cX7_write 117 = .ok (.istore 9, 2) := by decide +kernel
theorem dX7_write_119 : decode cX7_write 119 = .ok (.aload_n 0, 1) := by decide +kernel
theorem dX7_write_120 : decode cX7_write 120 = .ok (.getfield 16, 3) := by decide +kernel
theorem dX7_write_123 : decode cX7_write 123 = .ok (.iload 9, 2) := by decide +kernel
theorem dX7_write_125 : decode cX7_write 125 = .ok (.iload_n 3, 1) := by decide +kernel
theorem dX7_write_126 : decode cX7_write 126 = .ok (.iastore, 1) := by decide +kernel
theorem dX7_write_127 : decode cX7_write 127 = .ok (.aload_n 0, 1) := by decide +kernel
theorem dX7_write_128 : decode cX7_write 128 = .ok (.getfield 19, 3) := by decide +kernel
theorem dX7_write_131 : decode cX7_write 131 = .ok (.iload 9, 2) := by decide +kernel
theorem dX7_write_133 : decode cX7_write 133 = .ok (.iload 4, 2) := by decide +kernel
theorem dX7_write_135 : decode cX7_write 135 = .ok (.iastore, 1) := by decide +kernel
theorem dX7_write_136 : decode cX7_write 136 = .ok (.aload_n 0, 1) := by decide +kernel
theorem dX7_write_137 : decode cX7_write 137 = .ok (.getfield 22, 3) := by decide +kernel
theorem dX7_write_140 : decode cX7_write 140 = .ok (.iload 9, 2) := by decide +kernel
theorem dX7_write_142 : decode cX7_write 142 = .ok (.iload 5, 2) := by decide +kernel
theorem dX7_write_144 : decode cX7_write 144 = .ok (.iastore, 1) := by decide +kernel
theorem dX7_write_145 : decode cX7_write 145 = .ok (.aload_n 0, 1) := by decide +kernel
theorem dX7_write_146 : decode cX7_write 146 = .ok (.getfield 25, 3) := by decide +kernel
theorem dX7_write_149 : decode cX7_write 149 = .ok (.iload 9, 2) := by decide +kernel
theorem dX7_write_151 : decode cX7_write 151 = .ok (.iload 6, 2) := by decide +kernel
theorem dX7_write_153 : decode cX7_write 153 = .ok (.iastore, 1) := by decide +kernel
theorem dX7_write_154 : decode cX7_write 154 = .ok (.aload_n 0, 1) := by decide +kernel
theorem dX7_write_155 : decode cX7_write 155 = .ok (.getfield 13, 3) := by decide +kernel
theorem dX7_write_158 : decode cX7_write 158 = .ok (.iload_n 2, 1) := by decide +kernel
theorem dX7_write_159 : decode cX7_write 159 = .ok (.dup2, 1) := by decide +kernel
theorem dX7_write_160 : decode cX7_write 160 = .ok (.iaload, 1) := by decide +kernel
theorem dX7_write_161 : decode cX7_write 161 = .ok (.iconst 1, 1) := by decide +kernel
theorem dX7_write_162 : decode cX7_write 162 = .ok (.iadd, 1) := by decide +kernel
theorem dX7_write_163 : decode cX7_write 163 = .ok (.iastore, 1) := by decide +kernel
theorem dX7_write_164 : decode cX7_write 164 = .ok (.aload_n 0, 1) := by decide +kernel
theorem dX7_write_165 : decode cX7_write 165 = .ok (.getfield 28, 3) := by decide +kernel
theorem dX7_write_168 : decode cX7_write 168 = .ok (.iload_n 2, 1) := by decide +kernel
theorem dX7_write_169 : decode cX7_write 169 = .ok (.aload_n 0, 1) := by decide +kernel
theorem dX7_write_170 : decode cX7_write 170 = .ok (.getfield 115, 3) := by decide +kernel
theorem dX7_write_173 : decode cX7_write 173 = .ok (.iastore, 1) := by decide +kernel
theorem dX7_write_174 : decode cX7_write 174 = .ok (.aload_n 0, 1) := by decide +kernel
theorem dX7_write_175 : decode cX7_write 175 = .ok (.getfield 13, 3) := by decide +kernel
theorem dX7_write_178 : decode cX7_write 178 = .ok (.iload_n 2, 1) := by decide +kernel
theorem dX7_write_179 : decode cX7_write 179 = .ok (.iaload, 1) := by decide +kernel
theorem dX7_write_180 : decode cX7_write 180 = .ok (.ireturn, 1) := by decide +kernel
set_option maxRecDepth 20000 in
theorem ggX7_clear_X7_isUser : GoodIn wsX7_clear wsX7_isUser := goodIn_r _ [7, 8, 9, 6, 10] (by decide +kernel) (by decide +kernel)
set_option maxRecDepth 20000 in
theorem gX7_clear_X7_isUser : GoodIn wsX7_clear (va_wsS RX7 102 yX7_isUser wsX7_isUser) := goodIn_app (goodIn_of _ (by decide +kernel)) ggX7_clear_X7_isUser
set_option maxRecDepth 20000 in
theorem ggX7_clear_X7_isCell : GoodIn wsX7_clear wsX7_isCell := goodIn_r _ [14, 15, 8, 9, 6, 10, 26, 27, 28, 29, 30, 31, 32, 33, 34, 35, 36, 37, 38, 39, 40, 41, 42, 43, 44, 45, 46, 47, 48, 49, 50, 51, 52, 53, 54, 55, 56, 57] (by decide +kernel) (by decide +kernel)
set_option maxRecDepth 20000 in
theorem gX7_clear_X7_isCell : GoodIn wsX7_clear (wsV RX7 105 RX7 yX7_isCell wsX7_isCell) := goodIn_app (goodIn_of _ (by decide +kernel)) ggX7_clear_X7_isCell
set_option maxRecDepth 20000 in
theorem ggX7_clear_X7_rightOf : GoodIn wsX7_clear wsX7_rightOf := goodIn_r _ [19, 20, 26, 27, 28, 29, 30, 31, 32, 33, 34, 35, 36, 37, 38, 39, 40, 41, 42, 43, 44, 45, 46, 47, 48, 49, 50, 51, 52, 53, 54, 55, 56, 57] (by decide +kernel) (by decide +kernel)
set_option maxRecDepth 20000 in
theorem gX7_clear_X7_rightOf : GoodIn wsX7_clear (wsV RX7 111 RX7 yX7_rightOf wsX7_rightOf) := goodIn_app (goodIn_of _ (by decide +kernel)) ggX7_clear_X7_rightOf
set_option maxRecDepth 20000 in
theorem ggX7_clear_X7_goes : GoodIn wsX7_clear wsX7_goes := goodIn_r _ [24, 25, 26, 27, 28, 29, 30, 31, 32, 33, 34, 35, 36, 37, 38, 39, 40, 41, 42, 43, 44, 45, 46, 47, 48, 49, 50, 51, 52, 53, 54, 55, 56, 57] (by decide +kernel) (by decide +kernel)
set_option maxRecDepth 20000 in
theorem gX7_clear_X7_goes : GoodIn wsX7_clear (wsV RX7 98 RX7 yX7_goes wsX7_goes) := goodIn_app (goodIn_of _ (by decide +kernel)) ggX7_clear_X7_goes
theorem dX7_clear_0 : decode cX7_clear 0 = .ok (.iload_n 1, 1) := by decide +kernel
theorem dX7_clear_1 : decode cX7_clear 1 = .ok (.invokestatic 102, 3) := by decide +kernel
theorem dX7_clear_4 : decode cX7_clear 4 = .ok (.ifCond .eq 15, 3) := by decide +kernel
theorem dX7_clear_7 : decode cX7_clear 7 = .ok (.aload_n 0, 1) := by decide +kernel
theorem dX7_clear_8 : decode cX7_clear 8 = .ok (.iload_n 2, 1) := by decide +kernel
theorem dX7_clear_9 : decode cX7_clear 9 = .ok (.invokevirtual 105, 3) := by decide +kernel
theorem dX7_clear_12 : decode cX7_clear 12 = .ok (.ifCond .eq 7, 3) := by decide +kernel
theorem dX7_clear_15 : decode cX7_clear 15 = .ok (.iconst 1, 1) := by decide +kernel
theorem dX7_clear_16 : decode cX7_clear 16 = .ok (.goto 4, 3) := by decide +kernel
theorem dX7_clear_19 : decode cX7_clear 19 = .ok (.iconst 0, 1) := by decide +kernel
theorem dX7_clear_20 : decode cX7_clear 20 = .ok (.istore_n 3, 1) := by decide +kernel
theorem dX7_clear_21 : decode cX7_clear 21 = .ok (.aload_n 0, 1) := by decide +kernel
theorem dX7_clear_22 : decode cX7_clear 22 = .ok (.iload_n 3, 1) := by decide +kernel
theorem dX7_clear_23 : decode cX7_clear 23 = .ok (.iload_n 3, 1) := by decide +kernel
theorem dX7_clear_24 : decode cX7_clear 24 = .ok (.ifCond .eq 17, 3) := by decide +kernel
theorem dX7_clear_27 : decode cX7_clear 27 = .ok (.aload_n 0, 1) := by decide +kernel
theorem dX7_clear_28 : decode cX7_clear 28 = .ok (.iload_n 1, 1) := by decide +kernel
theorem dX7_clear_29 : decode cX7_clear 29 = .ok (.iload_n 2, 1) := by decide +kernel
theorem dX7_clear_30 : decode cX7_clear 30 = .ok (.invokevirtual 111, 3) := by decide +kernel
theorem dX7_clear_33 : decode cX7_clear 33 = .ok (.iconst 3, 1) := by decide +kernel
theorem dX7_clear_34 : decode cX7_clear 34 = .ok (.if_icmp .ne 7, 3) := by decide +kernel
theorem dX7_clear_37 : decode cX7_clear 37 = .ok (.iconst 1, 1) := by decide +kernel
theorem dX7_clear_38 : decode cX7_clear 38 = .ok (.goto 4, 3) := by decide +kernel
theorem dX7_clear_41 : decode cX7_clear 41 = .ok (.iconst 0, 1) := by decide +kernel
theorem dX7_clear_42 : decode cX7_clear 42 = .ok (.iconst 1, 1) := by decide +kernel
theorem dX7_clear_43 : decode cX7_clear 43 = .ok (.invokevirtual 98, 3) := by decide +kernel
theorem dX7_clear_46 : decode cX7_clear 46 = .ok (.ifCond .ne 5, 3) := by decide +kernel
theorem dX7_clear_49 : decode cX7_clear 49 = .ok (.iconst 0, 1) := by decide +kernel
theorem dX7_clear_50 : decode cX7_clear 50 = .ok (.ireturn, 1) := by decide +kernel
theorem dX7_clear_51 : decode cX7_clear 51 = .ok (.aload_n 0, 1) := by decide +kernel
theorem dX7_clear_52 : decode cX7_clear 52 = .ok (.getfield 13, 3) := by decide +kernel
theorem dX7_clear_55 : decode cX7_clear 55 = .ok (.iload_n 2, 1) := by decide +kernel
theorem dX7_clear_56 : decode cX7_clear 56 = .ok (.iaload, 1) := by decide +kernel
theorem dX7_clear_57 : decode cX7_clear 57 = .ok (.istore 4, 2) := by decide +kernel
theorem dX7_clear_59 : decode cX7_clear 59 = .ok (.aload_n 0, 1) := by decide +kernel
theorem dX7_clear_60 : decode cX7_clear 60 = .ok (.getfield 13, 3) := by decide +kernel
theorem dX7_clear_63 : decode cX7_clear 63 = .ok (.iload_n 2, 1) := by decide +kernel
theorem dX7_clear_64 : decode cX7_clear 64 = .ok (.iconst 0, 1) := by decide +kernel
theorem dX7_clear_65 : decode cX7_clear 65 = .ok (.iastore, 1) := by decide +kernel
theorem dX7_clear_66 : decode cX7_clear 66 = .ok (.aload_n 0, 1) := by decide +kernel
theorem dX7_clear_67 : decode cX7_clear 67 = .ok (.getfield 28, 3) := by decide +kernel
theorem dX7_clear_70 : decode cX7_clear 70 = .ok (.iload_n 2, 1) := by decide +kernel
theorem dX7_clear_71 : decode cX7_clear 71 = .ok (.iload 4, 2) := by decide +kernel
theorem dX7_clear_73 : decode cX7_clear 73 = .ok (.ifCond .le 10, 3) := by decide +kernel
theorem dX7_clear_76 : decode cX7_clear 76 = .ok (.aload_n 0, 1) := by decide +kernel
theorem dX7_clear_77 : decode cX7_clear 77 = .ok (.getfield 115, 3) := by decide +kernel
theorem dX7_clear_80 : decode cX7_clear 80 = .ok (.goto 9, 3) := by decide +kernel
theorem dX7_clear_83 : decode cX7_clear 83 = .ok (.aload_n 0, 1) := by decide +kernel
theorem dX7_clear_84 : decode cX7_clear 84 = .ok (.getfield 28, 3) := by decide +kernel
theorem dX7_clear_87 : decode cX7_clear 87 = .ok (.iload_n 2, 1) := by decide +kernel
theorem dX7_clear_88 : decode cX7_clear 88 = .ok (.iaload, 1) := by decide +kernel
theorem dX7_clear_89 : decode cX7_clear 89 = .ok (.iastore, 1) := by decide +kernel
theorem dX7_clear_90 : decode cX7_clear 90 = .ok (.iload 4, 2) := by decide +kernel
theorem dX7_clear_92 : decode cX7_clear 92 = .ok (.ireturn, 1) := by decide +kernel
set_option maxRecDepth 20000 in
theorem ggX7_move_X7_isCell : GoodIn wsX7_move wsX7_isCell := goodIn_r _ [7, 1, 8, 9, 6, 10, 16, 17, 18, 19, 20, 21, 22, 23, 24, 25, 26, 27, 28, 29, 30, 31, 32, 33, 34, 35, 36, 37, 38, 39, 40, 41, 42, 43, 44, 45, 46, 47] (by decide +kernel) (by decide +kernel)
set_option maxRecDepth 20000 in
theorem gX7_move_X7_isCell : GoodIn wsX7_move (wsV RX7 105 RX7 yX7_isCell wsX7_isCell) := goodIn_app (goodIn_of _ (by decide +kernel)) ggX7_move_X7_isCell
set_option maxRecDepth 20000 in
theorem ggX7_move_X7_in : GoodIn wsX7_move wsX7_in := goodIn_r _ [10] (by decide +kernel) (by decide +kernel)
set_option maxRecDepth 20000 in
theorem gX7_move_X7_in : GoodIn wsX7_move (va_wsS RX7 90 yX7_in wsX7_in) := goodIn_app (goodIn_of _ (by decide +kernel)) ggX7_move_X7_in
set_option maxRecDepth 20000 in
theorem ggX7_move_X7_goes : GoodIn wsX7_move wsX7_goes := goodIn_r _ [14, 15, 16, 17, 18, 19, 20, 21, 22, 23, 24, 25, 26, 27, 28, 29, 30, 31, 32, 33, 34, 35, 36, 37, 38, 39, 40, 41, 42, 43, 44, 45, 46, 47] (by decide +kernel) (by decide +kernel)
set_option maxRecDepth 20000 in
theorem gX7_move_X7_goes : GoodIn wsX7_move (wsV RX7 98 RX7 yX7_goes wsX7_goes) := goodIn_app (goodIn_of _ (by decide +kernel)) ggX7_move_X7_goes
theorem dX7_move_0 : decode cX7_move 0 = .ok (.aload_n 0, 1) := by decide +kernel
theorem dX7_move_1 : decode cX7_move 1 = .ok (.aload_n 0, 1) := by decide +kernel
theorem dX7_move_2 : decode cX7_move 2 = .ok (.iload_n 1, 1) := by decide +kernel
theorem dX7_move_3 : decode cX7_move 3 = .ok (.invokevirtual 105, 3) := by decide +kernel
theorem dX7_move_6 : decode cX7_move 6 = .ok (.ifCond .eq 21, 3) := by decide +kernel
theorem dX7_move_9 : decode cX7_move 9 = .ok (.iload_n 2, 1) := by decide +kernel
theorem dX7_move_10 : decode cX7_move 10 = .ok (.iconst 0, 1) := by decide +kernel
theorem dX7_move_11 : decode cX7_move 11 = .ok (.aload_n 0, 1) := by decide +kernel
theorem dX7_move_12 : decode cX7_move 12 = .ok (.getfield 87, 3) := by decide +kernel
theorem dX7_move_15 : decode cX7_move 15 = .ok (.iconst 1, 1) := by decide +kernel
theorem dX7_move_16 : decode cX7_move 16 = .ok (.isub, 1) := by decide +kernel
theorem dX7_move_17 : decode cX7_move 17 = .ok (.invokestatic 90, 3) := by decide +kernel
theorem dX7_move_20 : decode cX7_move 20 = .ok (.ifCond .eq 7, 3) := by decide +kernel
theorem dX7_move_23 : decode cX7_move 23 = .ok (.iconst 1, 1) := by decide +kernel
theorem dX7_move_24 : decode cX7_move 24 = .ok (.goto 4, 3) := by decide +kernel
theorem dX7_move_27 : decode cX7_move 27 = .ok (.iconst 0, 1) := by decide +kernel
theorem dX7_move_28 : decode cX7_move 28 = .ok (.iconst 1, 1) := by decide +kernel
theorem dX7_move_29 : decode cX7_move 29 = .ok (.iconst 1, 1) := by decide +kernel
theorem dX7_move_30 : decode cX7_move 30 = .ok (.invokevirtual 98, 3) := by decide +kernel
theorem dX7_move_33 : decode cX7_move 33 = .ok (.ifCond .ne 5, 3) := by decide +kernel
theorem dX7_move_36 : decode cX7_move 36 = .ok (.iconst 0, 1) := by decide +kernel
theorem dX7_move_37 : decode cX7_move 37 = .ok (.ireturn, 1) := by decide +kernel
theorem dX7_move_38 : decode cX7_move 38 = .ok (.iconst 0, 1) := by decide +kernel
theorem dX7_move_39 : decode cX7_move 39 = .ok (.istore_n 3, 1) := by decide +kernel
theorem dX7_move_40 : decode cX7_move 40 = .ok (.aload_n 0, 1) := by decide +kernel
theorem dX7_move_41 : decode cX7_move 41 = .ok (.getfield 7, 3) := by decide +kernel
theorem dX7_move_44 : decode cX7_move 44 = .ok (.iload_n 3, 1) := by decide +kernel
theorem dX7_move_45 : decode cX7_move 45 = .ok (.iaload, 1) := by decide +kernel
theorem dX7_move_46 : decode cX7_move 46 = .ok (.iload_n 1, 1) := by decide +kernel
theorem dX7_move_47 : decode cX7_move 47 = .ok (.if_icmp .eq 9, 3) := by decide +kernel
theorem dX7_move_50 : decode cX7_move 50 = .ok (.iinc 3 1, 3) := by decide +kernel
theorem dX7_move_53 : decode cX7_move 53 = .ok (.goto (-13), 3) := by decide +kernel
theorem dX7_move_56 : decode cX7_move 56 = .ok (.iload_n 3, 1) := by decide +kernel
theorem dX7_move_57 : decode cX7_move 57 = .ok (.istore 4, 2) := by decide +kernel
theorem dX7_move_59 : decode cX7_move 59 = .ok (.iload 4, 2) := by decide +kernel
theorem dX7_move_61 : decode cX7_move 61 = .ok (.iload_n 2, 1) := by decide +kernel
theorem dX7_move_62 : decode cX7_move 62 = .ok (.if_icmp .ge 25, 3) := by decide +kernel
theorem dX7_move_65 : decode cX7_move 65 = .ok (.aload_n 0, 1) := by decide +kernel
theorem dX7_move_66 : decode cX7_move 66 = .ok (.getfield 7, 3) := by decide +kernel
theorem dX7_move_69 : decode cX7_move 69 = .ok (.iload 4, 2) := by decide +kernel
theorem dX7_move_71 : decode cX7_move 71 = .ok (.aload_n 0, 1) := by decide +kernel
theorem dX7_move_72 : decode cX7_move 72 = .ok (.getfield 7, 3) := by decide +kernel
theorem dX7_move_75 : decode cX7_move 75 = .ok (.iload 4, 2) := by decide +kernel
theorem dX7_move_77 : decode cX7_move 77 = .ok (.iconst 1, 1) := by decide +kernel
theorem dX7_move_78 : decode cX7_move 78 = .ok (.iadd, 1) := by decide +kernel
theorem dX7_move_79 : decode cX7_move 79 = .ok (.iaload, 1) := by decide +kernel
theorem dX7_move_80 : decode cX7_move 80 = .ok (.iastore, 1) := by decide +kernel
theorem dX7_move_81 : decode cX7_move 81 = .ok (.iinc 4 1, 3) := by decide +kernel
theorem dX7_move_84 : decode cX7_move 84 = .ok (.goto (-25), 3) := by decide +kernel
theorem dX7_move_87 : decode cX7_move 87 = .ok (.iload_n 3, 1) := by decide +kernel
theorem dX7_move_88 : decode cX7_move 88 = .ok (.istore 4, 2) := by decide +kernel
theorem dX7_move_90 : decode cX7_move 90 = .ok (.iload 4, 2) := by decide +kernel
theorem dX7_move_92 : decode cX7_move 92 = .ok (.iload_n 2, 1) := by decide +kernel
theorem dX7_move_93 : decode cX7_move 93 = .ok (.if_icmp .le 25, 3) := by decide +kernel
theorem dX7_move_96 : decode cX7_move 96 = .ok (.aload_n 0, 1) := by decide +kernel
theorem dX7_move_97 : decode cX7_move 97 = .ok (.getfield 7, 3) := by decide +kernel
theorem dX7_move_100 : decode cX7_move 100 = .ok (.iload 4, 2) := by decide +kernel
theorem dX7_move_102 : decode cX7_move 102 = .ok (.aload_n 0, 1) := by decide +kernel
theorem dX7_move_103 : decode cX7_move 103 = .ok (.getfield 7, 3) := by decide +kernel
theorem dX7_move_106 : decode cX7_move 106 = .ok (.iload 4, 2) := by decide +kernel
theorem dX7_move_108 : decode cX7_move 108 = .ok (.iconst 1, 1) := by decide +kernel
theorem dX7_move_109 : decode cX7_move 109 = .ok (.isub, 1) := by decide +kernel
theorem dX7_move_110 : decode cX7_move 110 = .ok (.iaload, 1) := by decide +kernel
theorem dX7_move_111 : decode cX7_move 111 = .ok (.iastore, 1) := by decide +kernel
theorem dX7_move_112 : decode cX7_move 112 = .ok (.iinc 4 (-1), 3) := by decide +kernel
theorem dX7_move_115 : decode cX7_move 115 = .ok (.goto (-25), 3) := by decide +kernel
theorem dX7_move_118 : decode cX7_move 118 = .ok (.aload_n 0, 1) := by decide +kernel
theorem dX7_move_119 : decode cX7_move 119 = .ok (.getfield 7, 3) := by decide +kernel
theorem dX7_move_122 : decode cX7_move 122 = .ok (.iload_n 2, 1) := by decide +kernel
theorem dX7_move_123 : decode cX7_move 123 = .ok (.iload_n 1, 1) := by decide +kernel
theorem dX7_move_124 : decode cX7_move 124 = .ok (.iastore, 1) := by decide +kernel
theorem dX7_move_125 : decode cX7_move 125 = .ok (.iload_n 3, 1) := by decide +kernel
theorem dX7_move_126 : decode cX7_move 126 = .ok (.ireturn, 1) := by decide +kernel
set_option maxRecDepth 20000 in
theorem ggX7_cellCount_X7_told : GoodIn wsX7_cellCount wsX7_told := goodIn_r _ [6, 7, 8, 9, 10, 11, 12, 13, 14, 15, 16, 17, 18, 19, 20, 21, 22, 23, 24, 25, 26, 27, 28, 29, 30, 31, 32, 33, 34, 35, 36, 37, 38, 39] (by decide +kernel) (by decide +kernel)
set_option maxRecDepth 20000 in
theorem gX7_cellCount_X7_told : GoodIn wsX7_cellCount (wsV RX7 118 RX7 yX7_told wsX7_told) := goodIn_app (goodIn_of _ (by decide +kernel)) ggX7_cellCount_X7_told
theorem dX7_cellCount_0 : decode cX7_cellCount 0 = .ok (.aload_n 0, 1) := by decide +kernel
theorem dX7_cellCount_1 : decode cX7_cellCount 1 = .ok (.aload_n 0, 1) := by decide +kernel
theorem dX7_cellCount_2 : decode cX7_cellCount 2 = .ok (.getfield 87, 3) := by decide +kernel
theorem dX7_cellCount_5 : decode cX7_cellCount 5 = .ok (.invokevirtual 118, 3) := by decide +kernel
theorem dX7_cellCount_8 : decode cX7_cellCount 8 = .ok (.ireturn, 1) := by decide +kernel
set_option maxRecDepth 20000 in
theorem ggX7_cellAt_X7_in : GoodIn wsX7_cellAt wsX7_in := goodIn_r _ [6] (by decide +kernel) (by decide +kernel)
set_option maxRecDepth 20000 in
theorem gX7_cellAt_X7_in : GoodIn wsX7_cellAt (va_wsS RX7 90 yX7_in wsX7_in) := goodIn_app (goodIn_of _ (by decide +kernel)) ggX7_cellAt_X7_in
set_option maxRecDepth 20000 in
theorem ggX7_cellAt_X7_goes : GoodIn wsX7_cellAt wsX7_goes := goodIn_r _ [10, 11, 12, 13, 14, 15, 16, 17, 18, 19, 20, 21, 22, 23, 24, 25, 26, 27, 28, 29, 30, 31, 32, 33, 34, 35, 36, 37, 38, 39, 40, 41, 42, 43] (by decide +kernel) (by decide +kernel)
set_option maxRecDepth 20000 in
theorem gX7_cellAt_X7_goes : GoodIn wsX7_cellAt (wsV RX7 98 RX7 yX7_goes wsX7_goes) := goodIn_app (goodIn_of _ (by decide +kernel)) ggX7_cellAt_X7_goes
theorem dX7_cellAt_0 : decode cX7_cellAt 0 = .ok (.aload_n 0, 1) := by decide +kernel
theorem dX7_cellAt_1 : decode cX7_cellAt 1 = .ok (.iload_n 1, 1) := by decide +kernel
theorem dX7_cellAt_2 : decode cX7_cellAt 2 = .ok (.iconst 0, 1) := by decide +kernel
theorem dX7_cellAt_3 : decode cX7_cellAt 3 = .ok (.aload_n 0, 1) := by decide +kernel
theorem dX7_cellAt_4 : decode cX7_cellAt 4 = .ok (.getfield 87, 3) := by decide +kernel
theorem dX7_cellAt_7 : decode cX7_cellAt 7 = .ok (.iconst 1, 1) := by decide +kernel
theorem dX7_cellAt_8 : decode cX7_cellAt 8 = .ok (.isub, 1) := by decide +kernel
theorem dX7_cellAt_9 : decode cX7_cellAt 9 = .ok (.invokestatic 90, 3) := by decide +kernel
theorem dX7_cellAt_12 : decode cX7_cellAt 12 = .ok (.iconst 1, 1) := by decide +kernel
theorem dX7_cellAt_13 : decode cX7_cellAt 13 = .ok (.iconst 1, 1) := by decide +kernel
theorem dX7_cellAt_14 : decode cX7_cellAt 14 = .ok (.invokevirtual 98, 3) := by decide +kernel
theorem dX7_cellAt_17 : decode cX7_cellAt 17 = .ok (.ifCond .eq 12, 3) := by decide +kernel
theorem dX7_cellAt_20 : decode cX7_cellAt 20 = .ok (.aload_n 0, 1) := by decide +kernel
theorem dX7_cellAt_21 : decode cX7_cellAt 21 = .ok (.getfield 7, 3) := by decide +kernel
theorem dX7_cellAt_24 : decode cX7_cellAt 24 = .ok (.iload_n 1, 1) := by decide +kernel
theorem dX7_cellAt_25 : decode cX7_cellAt 25 = .ok (.iaload, 1) := by decide +kernel
theorem dX7_cellAt_26 : decode cX7_cellAt 26 = .ok (.goto 4, 3) := by decide +kernel
theorem dX7_cellAt_29 : decode cX7_cellAt 29 = .ok (.iconst 0, 1) := by decide +kernel
theorem dX7_cellAt_30 : decode cX7_cellAt 30 = .ok (.ireturn, 1) := by decide +kernel
set_option maxRecDepth 20000 in
theorem ggX7_sized_X7_isName : GoodIn wsX7_sized wsX7_isName := goodIn_r _ [4, 5, 6, 3, 7] (by decide +kernel) (by decide +kernel)
set_option maxRecDepth 20000 in
theorem gX7_sized_X7_isName : GoodIn wsX7_sized (va_wsS RX7 94 yX7_isName wsX7_isName) := goodIn_app (goodIn_of _ (by decide +kernel)) ggX7_sized_X7_isName
theorem dX7_sized_0 : decode cX7_sized 0 = .ok (.iload_n 0, 1) := by decide +kernel
theorem dX7_sized_1 : decode cX7_sized 1 = .ok (.sipush 600, 3) := by decide +kernel
theorem dX7_sized_4 : decode cX7_sized 4 = .ok (.isub, 1) := by decide +kernel
theorem dX7_sized_5 : decode cX7_sized 5 = .ok (.istore_n 1, 1) := by decide +kernel
theorem dX7_sized_6 : decode cX7_sized 6 = .ok (.iload_n 1, 1) := by decide +kernel
theorem dX7_sized_7 : decode cX7_sized 7 = .ok (.ifCond .ge 8, 3) := by decide +kernel
theorem dX7_sized_10 : decode cX7_sized 10 = .ok (.iload_n 1, 1) := by decide +kernel
theorem dX7_sized_11 : decode cX7_sized 11 = .ok (.ineg, 1) := by decide +kernel
theorem dX7_sized_12 : decode cX7_sized 12 = .ok (.goto 4, 3) := by decide +kernel
theorem dX7_sized_15 : decode cX7_sized 15 = .ok (.iload_n 1, 1) := by decide +kernel
theorem dX7_sized_16 : decode cX7_sized 16 = .ok (.istore_n 2, 1) := by decide +kernel
theorem dX7_sized_17 : decode cX7_sized 17 = .ok (.iload_n 0, 1) := by decide +kernel
theorem dX7_sized_18 : decode cX7_sized 18 = .ok (.invokestatic 94, 3) := by decide +kernel
theorem dX7_sized_21 : decode cX7_sized 21 = .ok (.ifCond .eq 7, 3) := by decide +kernel
theorem dX7_sized_24 : decode cX7_sized 24 = .ok (.iconst 1, 1) := by decide +kernel
theorem dX7_sized_25 : decode cX7_sized 25 = .ok (.goto 34, 3) := by decide +kernel
theorem dX7_sized_28 : decode cX7_sized 28 = .ok (.iload_n 1, 1) := by decide +kernel
theorem dX7_sized_29 : decode cX7_sized 29 = .ok (.ifCond .ge 7, 3) := by decide +kernel
theorem dX7_sized_32 : decode cX7_sized 32 = .ok (.iconst 1, 1) := by decide +kernel
theorem dX7_sized_33 : decode cX7_sized 33 = .ok (.goto 4, 3) := by decide +kernel
theorem dX7_sized_36 : decode cX7_sized 36 = .ok (.iconst 0, 1) := by decide +kernel
theorem dX7_sized_37 : decode cX7_sized 37 = .ok (.iload_n 2, 1) := by decide +kernel
theorem dX7_sized_38 : decode cX7_sized 38 = .ok (.bipush 10, 2) := by decide +kernel
theorem dX7_sized_40 : decode cX7_sized 40 = .ok (.if_icmp .ge 7, 3) := by decide +kernel
theorem dX7_sized_43 : decode cX7_sized 43 = .ok (.iconst 1, 1) := by decide +kernel
theorem dX7_sized_44 : decode cX7_sized 44 = .ok (.goto 14, 3) := by decide +kernel
theorem dX7_sized_47 : decode cX7_sized 47 = .ok (.iload_n 2, 1) := by decide +kernel
theorem dX7_sized_48 : decode cX7_sized 48 = .ok (.bipush 100, 2) := by decide +kernel
theorem dX7_sized_50 : decode cX7_sized 50 = .ok (.if_icmp .ge 7, 3) := by decide +kernel
theorem dX7_sized_53 : decode cX7_sized 53 = .ok (.iconst 2, 1) := by decide +kernel
theorem dX7_sized_54 : decode cX7_sized 54 = .ok (.goto 4, 3) := by decide +kernel
theorem dX7_sized_57 : decode cX7_sized 57 = .ok (.iconst 3, 1) := by decide +kernel
theorem dX7_sized_58 : decode cX7_sized 58 = .ok (.iadd, 1) := by decide +kernel
theorem dX7_sized_59 : decode cX7_sized 59 = .ok (.ireturn, 1) := by decide +kernel
set_option maxRecDepth 20000 in
theorem ggX7_written_X7_isName : GoodIn wsX7_written wsX7_isName := goodIn_r _ [4, 5, 6, 3, 7] (by decide +kernel) (by decide +kernel)
set_option maxRecDepth 20000 in
theorem gX7_written_X7_isName : GoodIn wsX7_written (va_wsS RX7 94 yX7_isName wsX7_isName) := goodIn_app (goodIn_of _ (by decide +kernel)) ggX7_written_X7_isName
set_option maxRecDepth 20000 in
theorem ggX7_written_X7_sized : GoodIn wsX7_written wsX7_sized := goodIn_r _ [10, 1, 2, 3, 4, 5, 6, 7] (by decide +kernel) (by decide +kernel)
set_option maxRecDepth 20000 in
theorem gX7_written_X7_sized : GoodIn wsX7_written (va_wsS RX7 122 yX7_sized wsX7_sized) := goodIn_app (goodIn_of _ (by decide +kernel)) ggX7_written_X7_sized
theorem dX7_written_0 : decode cX7_written 0 = .ok (.iload_n 0, 1) := by decide +kernel
theorem dX7_written_1 : decode cX7_written 1 = .ok (.invokestatic 94, 3) := by decide +kernel
theorem dX7_written_4 : decode cX7_written 4 = .ok (.ifCond .eq 9, 3) := by decide +kernel
theorem dX7_written_7 : decode cX7_written 7 = .ok (.bipush 97, 2) := by decide +kernel
theorem dX7_written_9 : decode cX7_written 9 = .ok (.iload_n 0, 1) := by decide +kernel
theorem dX7_written_10 : decode cX7_written 10 = .ok (.iadd, 1) := by decide +kernel
theorem dX7_written_11 : decode cX7_written 11 = .ok (.i2c, 1) := by decide +kernel
theorem dX7_written_12 : decode cX7_written 12 = .ok (.ireturn, 1) := by decide +kernel
theorem dX7_written_13 : decode cX7_written 13 = .ok (.iload_n 0, 1) := by decide +kernel
theorem dX7_written_14 : decode cX7_written 14 = .ok (.sipush 600, 3) := by decide +kernel
theorem dX7_written_17 : decode cX7_written 17 = .ok (.isub, 1) := by decide +kernel
theorem dX7_written_18 : decode cX7_written 18 = .ok (.istore_n 2, 1) := by decide +kernel
theorem dX7_written_19 : decode cX7_written 19 = .ok (.iload_n 2, 1) := by decide +kernel
theorem dX7_written_20 : decode cX7_written 20 = .ok (.ifCond .ge 10, 3) := by decide +kernel
theorem dX7_written_23 : decode cX7_written 23 = .ok (.iload_n 1, 1) := by decide +kernel
theorem dX7_written_24 : decode cX7_written 24 = .ok (.ifCond .ne 6, 3) := by decide +kernel
theorem dX7_written_27 : decode cX7_written 27 = .ok (.bipush 45, 2) := by decide +kernel
theorem dX7_written_29 : decode cX7_written 29 = .ok (.ireturn, 1) := by decide +kernel
theorem dX7_written_30 : decode cX7_written 30 = .ok (.iload_n 2, 1) := by decide +kernel
theorem dX7_written_31 : decode cX7_written 31 = .ok (.ifCond .ge 8, 3) := by decide +kernel
theorem dX7_written_34 : decode cX7_written 34 = .ok (.iload_n 2, 1) := by decide +kernel
theorem dX7_written_35 : decode cX7_written 35 = .ok (.ineg, 1) := by decide +kernel
theorem dX7_written_36 : decode cX7_written 36 = .ok (.goto 4, 3) := by decide +kernel
theorem dX7_written_39 : decode cX7_written 39 = .ok (.iload_n 2, 1) := by decide +kernel
theorem dX7_written_40 : decode cX7_written 40 = .ok (.istore_n 3, 1) := by decide +kernel
theorem dX7_written_41 : decode cX7_written 41 = .ok (.iload_n 0, 1) := by decide +kernel
theorem dX7_written_42 : decode cX7_written 42 = .ok (.invokestatic 122, 3) := by decide +kernel
theorem dX7_written_45 : decode cX7_written 45 = .ok (.iconst 1, 1) := by decide +kernel
theorem dX7_written_46 : decode cX7_written 46 = .ok (.isub, 1) := by decide +kernel
theorem dX7_written_47 : decode cX7_written 47 = .ok (.istore 4, 2) := by decide +kernel
theorem dX7_written_49 : decode cX7_written 49 = .ok (.iload 4, 2) := by decide +kernel
theorem dX7_written_51 : decode cX7_written 51 = .ok (.iload_n 1, 1) := by decide +kernel
theorem dX7_written_52 : decode cX7_written 52 = .ok (.if_icmp .le 14, 3) := by decide +kernel
theorem dX7_written_55 : decode cX7_written 55 = .ok (.iload_n 3, 1) := by decide +kernel
theorem dX7_written_56 : decode cX7_written 56 = .ok (.bipush 10, 2) := by decide +kernel
theorem dX7_written_58 : decode cX7_written 58 = .ok (.idiv, 1) := by decide +kernel
theorem dX7_written_59 : decode cX7_written 59 = .ok (.istore_n 3, 1) := by decide +kernel
theorem dX7_written_60 : decode cX7_written 60 = .ok (.iinc 4 (-1), 3) := by decide +kernel
theorem dX7_written_63 : decode cX7_written 63 = .ok (.goto (-14), 3) := by decide +kernel
theorem dX7_written_66 : decode cX7_written 66 = .ok (.bipush 48, 2) := by decide +kernel
theorem dX7_written_68 : decode cX7_written 68 = .ok (.iload_n 3, 1) := by decide +kernel
theorem dX7_written_69 : decode cX7_written 69 = .ok (.bipush 10, 2) := by decide +kernel
theorem dX7_written_71 : decode cX7_written 71 = .ok (.irem, 1) := by decide +kernel
theorem dX7_written_72 : decode cX7_written 72 = .ok (.iadd, 1) := by decide +kernel
theorem dX7_written_73 : decode cX7_written 73 = .ok (.i2c, 1) := by decide +kernel
theorem dX7_written_74 : decode cX7_written 74 = .ok (.ireturn, 1) := by decide +kernel
set_option maxRecDepth 20000 in
theorem ggX7_length_X7_sized : GoodIn wsX7_length wsX7_sized := goodIn_r _ [6, 7, 8, 5, 9, 10, 11, 12] (by decide +kernel) (by decide +kernel)
set_option maxRecDepth 20000 in
theorem gX7_length_X7_sized : GoodIn wsX7_length (va_wsS RX7 122 yX7_sized wsX7_sized) := goodIn_app (goodIn_of _ (by decide +kernel)) ggX7_length_X7_sized
theorem dX7_length_0 : decode cX7_length 0 = .ok (.iconst 4, 1) := by decide +kernel
theorem dX7_length_1 : decode cX7_length 1 = .ok (.aload_n 0, 1) := by decide +kernel
theorem dX7_length_2 : decode cX7_length 2 = .ok (.getfield 22, 3) := by decide +kernel
theorem dX7_length_5 : decode cX7_length 5 = .ok (.iload_n 1, 1) := by decide +kernel
theorem dX7_length_6 : decode cX7_length 6 = .ok (.iaload, 1) := by decide +kernel
theorem dX7_length_7 : decode cX7_length 7 = .ok (.invokestatic 122, 3) := by decide +kernel
theorem dX7_length_10 : decode cX7_length 10 = .ok (.iadd, 1) := by decide +kernel
theorem dX7_length_11 : decode cX7_length 11 = .ok (.aload_n 0, 1) := by decide +kernel
theorem dX7_length_12 : decode cX7_length 12 = .ok (.getfield 25, 3) := by decide +kernel
theorem dX7_length_15 : decode cX7_length 15 = .ok (.iload_n 1, 1) := by decide +kernel
theorem dX7_length_16 : decode cX7_length 16 = .ok (.iaload, 1) := by decide +kernel
theorem dX7_length_17 : decode cX7_length 17 = .ok (.invokestatic 122, 3) := by decide +kernel
theorem dX7_length_20 : decode cX7_length 20 = .ok (.iadd, 1) := by decide +kernel
theorem dX7_length_21 : decode cX7_length 21 = .ok (.ireturn, 1) := by decide +kernel
set_option maxRecDepth 20000 in
theorem ggX7_lengthOf_X7_length : GoodIn wsX7_lengthOf wsX7_length := goodIn_r _ [6, 7, 8, 9, 10, 5, 11, 12, 13, 14, 15, 16, 17, 18, 19, 20, 21, 22, 23, 24, 25, 26, 27, 28, 29, 30, 31, 32, 33, 34, 35, 36, 37, 38, 39, 40, 41, 42, 43, 44, 45, 46, 47, 48, 49] (by decide +kernel) (by decide +kernel)
set_option maxRecDepth 20000 in
theorem gX7_lengthOf_X7_length : GoodIn wsX7_lengthOf (wsV RX7 125 RX7 yX7_length wsX7_length) := goodIn_app (goodIn_of _ (by decide +kernel)) ggX7_lengthOf_X7_length
theorem dX7_lengthOf_0 : decode cX7_lengthOf 0 = .ok (.iconst 0, 1) := by decide +kernel
theorem dX7_lengthOf_1 : decode cX7_lengthOf 1 = .ok (.istore_n 2, 1) := by decide +kernel
theorem dX7_lengthOf_2 : decode cX7_lengthOf 2 = .ok (.iconst 0, 1) := by decide +kernel
theorem dX7_lengthOf_3 : decode cX7_lengthOf 3 = .ok (.istore_n 3, 1) := by decide +kernel
theorem dX7_lengthOf_4 : decode cX7_lengthOf 4 = .ok (.iload_n 3, 1) := by decide +kernel
theorem dX7_lengthOf_5 : decode cX7_lengthOf 5 = .ok (.aload_n 0, 1) := by decide +kernel
theorem dX7_lengthOf_6 : decode cX7_lengthOf 6 = .ok (.getfield 13, 3) := by decide +kernel
theorem dX7_lengthOf_9 : decode cX7_lengthOf 9 = .ok (.iload_n 1, 1) := by decide +kernel
theorem dX7_lengthOf_10 : decode cX7_lengthOf 10 = .ok (.iaload, 1) := by decide +kernel
theorem dX7_lengthOf_11 : decode cX7_lengthOf 11 = .ok (.if_icmp .ge 22, 3) := by decide +kernel
theorem dX7_lengthOf_14 : decode cX7_lengthOf 14 = .ok (.iload_n 2, 1) := by decide +kernel
theorem dX7_lengthOf_15 : decode cX7_lengthOf 15 = .ok (.aload_n 0, 1) := by decide +kernel
theorem dX7_lengthOf_16 : decode cX7_lengthOf 16 = .ok (.bipush 6, 2) := by decide +kernel
theorem dX7_lengthOf_18 : decode cX7_lengthOf 18 = .ok (.iload_n 1, 1) := by decide +kernel
theorem dX7_lengthOf_19 : decode cX7_lengthOf 19 = .ok (.imul, 1) := by decide +kernel
theorem dX7_lengthOf_20 : decode cX7_lengthOf 20 = .ok (.iload_n 3, 1) := by decide +kernel
theorem dX7_lengthOf_21 : decode cX7_lengthOf 21 = .ok (.iadd, 1) := by decide +kernel
theorem dX7_lengthOf_22 : decode cX7_lengthOf 22 = .ok (.invokevirtual 125, 3) := by decide +kernel
theorem dX7_lengthOf_25 : decode cX7_lengthOf 25 = .ok (.iadd, 1) := by decide +kernel
theorem dX7_lengthOf_26 : decode cX7_lengthOf 26 = .ok (.istore_n 2, 1) := by decide +kernel
theorem dX7_lengthOf_27 : decode cX7_lengthOf 27 = .ok (.iinc 3 1, 3) := by decide +kernel
theorem dX7_lengthOf_30 : decode cX7_lengthOf 30 = .ok (.goto (-26), 3) := by decide +kernel
theorem dX7_lengthOf_33 : decode cX7_lengthOf 33 = .ok (.iload_n 2, 1) := by decide +kernel
theorem dX7_lengthOf_34 : decode cX7_lengthOf 34 = .ok (.ireturn, 1) := by decide +kernel
set_option maxRecDepth 20000 in
theorem ggX7_source_X7_isCell : GoodIn wsX7_source wsX7_isCell := goodIn_r _ [5, 6, 7, 8, 4, 9, 32, 33, 34, 35, 36, 37, 38, 39, 40, 41, 42, 43, 44, 45, 46, 47, 48, 49, 50, 51, 52, 53, 54, 55, 56, 57, 58, 59, 60, 61, 62, 63] (by decide +kernel) (by decide +kernel)
set_option maxRecDepth 20000 in
theorem gX7_source_X7_isCell : GoodIn wsX7_source (wsV RX7 105 RX7 yX7_isCell wsX7_isCell) := goodIn_app (goodIn_of _ (by decide +kernel)) ggX7_source_X7_isCell
set_option maxRecDepth 20000 in
theorem ggX7_source_X7_goes : GoodIn wsX7_source wsX7_goes := goodIn_r _ [13, 14, 32, 33, 34, 35, 36, 37, 38, 39, 40, 41, 42, 43, 44, 45, 46, 47, 48, 49, 50, 51, 52, 53, 54, 55, 56, 57, 58, 59, 60, 61, 62, 63] (by decide +kernel) (by decide +kernel)
set_option maxRecDepth 20000 in
theorem gX7_source_X7_goes : GoodIn wsX7_source (wsV RX7 98 RX7 yX7_goes wsX7_goes) := goodIn_app (goodIn_of _ (by decide +kernel)) ggX7_source_X7_goes
set_option maxRecDepth 20000 in
theorem ggX7_source_X7_lengthOf : GoodIn wsX7_source wsX7_lengthOf := goodIn_r _ [18, 19, 20, 21, 22, 4, 23, 24, 25, 26, 27, 28, 29, 30, 31, 7, 8, 9, 32, 33, 34, 35, 36, 37, 38, 39, 40, 41, 42, 43, 44, 45, 46, 47, 48, 49, 50, 51, 52, 53, 54, 55, 56, 57, 58, 59, 60, 61, 62, 63] (by decide +kernel) (by decide +kernel)
set_option maxRecDepth 20000 in
theorem gX7_source_X7_lengthOf : GoodIn wsX7_source (wsV RX7 128 RX7 yX7_lengthOf wsX7_lengthOf) := goodIn_app (goodIn_of _ (by decide +kernel)) ggX7_source_X7_lengthOf
theorem dX7_source_0 : decode cX7_source 0 = .ok (.aload_n 0, 1) := by decide +kernel
theorem dX7_source_1 : decode cX7_source 1 = .ok (.aload_n 0, 1) := by decide +kernel
theorem dX7_source_2 : decode cX7_source 2 = .ok (.iload_n 1, 1) := by decide +kernel
theorem dX7_source_3 : decode cX7_source 3 = .ok (.invokevirtual 105, 3) := by decide +kernel
theorem dX7_source_6 : decode cX7_source 6 = .ok (.iconst 1, 1) := by decide +kernel
theorem dX7_source_7 : decode cX7_source 7 = .ok (.iconst 1, 1) := by decide +kernel
theorem dX7_source_8 : decode cX7_source 8 = .ok (.invokevirtual 98, 3) := by decide +kernel
theorem dX7_source_11 : decode cX7_source 11 = .ok (.ifCond .eq 11, 3) := by decide +kernel
theorem dX7_source_14 : decode cX7_source 14 = .ok (.aload_n 0, 1) := by decide +kernel
theorem dX7_source_15 : decode cX7_source 15 = .ok (.iload_n 1, 1) := by decide +kernel
theorem dX7_source_16 : decode cX7_source 16 = .ok (.invokevirtual 128, 3) := by decide +kernel
theorem dX7_source_19 : decode cX7_source 19 = .ok (.goto 4, 3) := by decide +kernel
theorem dX7_source_22 : decode cX7_source 22 = .ok (.iconst 0, 1) := by decide +kernel
theorem dX7_source_23 : decode cX7_source 23 = .ok (.ireturn, 1) := by decide +kernel
theorem dX7_sign_0 : decode cX7_sign 0 = .ok (.iload_n 0, 1) := by decide +kernel
theorem dX7_sign_1 : decode cX7_sign 1 = .ok (.ifCond .ne 8, 3) := by decide +kernel
theorem dX7_sign_4 : decode cX7_sign 4 = .ok (.bipush 43, 2) := by decide +kernel
theorem dX7_sign_6 : decode cX7_sign 6 = .ok (.goto 25, 3) := by decide +kernel
theorem dX7_sign_9 : decode cX7_sign 9 = .ok (.iload_n 0, 1) := by decide +kernel
theorem dX7_sign_10 : decode cX7_sign 10 = .ok (.iconst 1, 1) := by decide +kernel
theorem dX7_sign_11 : decode cX7_sign 11 = .ok (.if_icmp .ne 8, 3) := by decide +kernel
theorem dX7_sign_14 : decode cX7_sign 14 = .ok (.bipush 45, 2) := by decide +kernel
theorem dX7_sign_16 : decode cX7_sign 16 = .ok (.goto 15, 3) := by decide +kernel
theorem dX7_sign_19 : decode cX7_sign 19 = .ok (.iload_n 0, 1) := by decide +kernel
theorem dX7_sign_20 : decode cX7_sign 20 = .ok (.iconst 2, 1) := by decide +kernel
theorem dX7_sign_21 : decode cX7_sign 21 = .ok (.if_icmp .ne 8, 3) := by decide +kernel
theorem dX7_sign_24 : decode cX7_sign 24 = .ok (.bipush 42, 2) := by decide +kernel
theorem dX7_sign_26 : decode cX7_sign 26 = .ok (.goto 5, 3) := by decide +kernel
theorem dX7_sign_29 : decode cX7_sign 29 = .ok (.bipush 47, 2) := by decide +kernel
theorem dX7_sign_31 : decode cX7_sign 31 = .ok (.ireturn, 1) := by decide +kernel
set_option maxRecDepth 20000 in
theorem ggX7_charOf_X7_sized : GoodIn wsX7_charOf wsX7_sized := goodIn_r _ [8, 9, 10, 7, 11, 12, 13, 14] (by decide +kernel) (by decide +kernel)
set_option maxRecDepth 20000 in
theorem gX7_charOf_X7_sized : GoodIn wsX7_charOf (va_wsS RX7 122 yX7_sized wsX7_sized) := goodIn_app (goodIn_of _ (by decide +kernel)) ggX7_charOf_X7_sized
set_option maxRecDepth 20000 in
theorem ggX7_charOf_X7_sign : GoodIn wsX7_charOf wsX7_sign := goodIn_r _ [17] (by decide +kernel) (by decide +kernel)
set_option maxRecDepth 20000 in
theorem gX7_charOf_X7_sign : GoodIn wsX7_charOf (va_wsS RX7 131 yX7_sign wsX7_sign) := goodIn_app (goodIn_of _ (by decide +kernel)) ggX7_charOf_X7_sign
set_option maxRecDepth 20000 in
theorem ggX7_charOf_X7_written : GoodIn wsX7_charOf wsX7_written := goodIn_r _ [20, 9, 10, 7, 11, 12, 13, 14, 5, 6, 8] (by decide +kernel) (by decide +kernel)
set_option maxRecDepth 20000 in
theorem gX7_charOf_X7_written : GoodIn wsX7_charOf (va_wsS RX7 135 yX7_written wsX7_written) := goodIn_app (goodIn_of _ (by decide +kernel)) ggX7_charOf_X7_written
set_option maxRecDepth 20000 in
theorem ggX7_charOf_X7_length : GoodIn wsX7_charOf wsX7_length := goodIn_r _ [24, 1, 4, 5, 6, 7, 8, 9, 10, 11, 12, 13, 14, 25, 26, 27, 28, 29, 30, 31, 32, 33, 34, 35, 36, 37, 38, 39, 40, 41, 42, 43, 44, 45, 46, 47, 48, 49, 50, 51, 52, 53, 54, 55, 56] (by decide +kernel) (by decide +kernel)
set_option maxRecDepth 20000 in
theorem gX7_charOf_X7_length : GoodIn wsX7_charOf (wsV RX7 125 RX7 yX7_length wsX7_length) := goodIn_app (goodIn_of _ (by decide +kernel)) ggX7_charOf_X7_length
theorem dX7_charOf_0 : decode cX7_charOf 0 = .ok (.iconst 2, 1) := by decide +kernel
theorem dX7_charOf_1 : decode cX7_charOf 1 = .ok (.aload_n 0, 1) := by decide +kernel
theorem dX7_charOf_2 : decode cX7_charOf 2 = .ok (.getfield 22, 3) := by decide +kernel
theorem dX7_charOf_5 : decode cX7_charOf 5 = .ok (.iload_n 1, 1) := by decide +kernel
theorem dX7_charOf_6 : decode cX7_charOf 6 = .ok (.iaload, 1) := by decide +kernel
theorem dX7_charOf_7 : decode cX7_charOf 7 = .ok (.invokestatic 122, 3) := by decide +kernel
theorem dX7_charOf_10 : decode cX7_charOf 10 = .ok (.iadd, 1) := by decide +kernel
theorem dX7_charOf_11 : decode cX7_charOf 11 = .ok (.istore_n 3, 1) := by decide +kernel
theorem dX7_charOf_12 : decode cX7_charOf 12 = .ok (.iload_n 2, 1) := by decide +kernel
theorem dX7_charOf_13 : decode cX7_charOf 13 = .ok (.iconst 2, 1) := by decide +kernel
theorem dX7_charOf_14 : decode cX7_charOf 14 = .ok (.if_icmp .ge 23, 3) := by decide +kernel
theorem dX7_charOf_17 : decode cX7_charOf 17 = .ok (.iload_n 2, 1) := by decide +kernel
theorem dX7_charOf_18 : decode cX7_charOf 18 = .ok (.ifCond .ne 16, 3) := by decide +kernel
theorem dX7_charOf_21 : decode cX7_charOf 21 = .ok (.bipush 97, 2) := by decide +kernel
theorem dX7_charOf_23 : decode cX7_charOf 23 = .ok (.aload_n 0, 1) := by decide +kernel
theorem dX7_charOf_24 : decode cX7_charOf 24 = .ok (.getfield 16, 3) := by decide +kernel
theorem dX7_charOf_27 : decode cX7_charOf 27 = .ok (.iload_n 1, 1) := by decide +kernel
theorem dX7_charOf_28 : decode cX7_charOf 28 = .ok (.iaload, 1) := by decide +kernel
theorem dX7_charOf_29 : decode cX7_charOf 29 = .ok (.iadd, 1) := by decide +kernel
theorem dX7_charOf_30 : decode cX7_charOf 30 = .ok (.i2c, 1) := by decide +kernel
theorem dX7_charOf_31 : decode cX7_charOf 31 = .ok (.goto 5, 3) := by decide +kernel
theorem dX7_charOf_34 : decode cX7_charOf 34 = .ok (.bipush 61, 2) := by decide +kernel
theorem dX7_charOf_36 : decode cX7_charOf 36 = .ok (.ireturn, 1) := by decide +kernel
theorem dX7_charOf_37 : decode cX7_charOf 37 = .ok (.iload_n 2, 1) := by decide +kernel
theorem dX7_charOf_38 : decode cX7_charOf 38 = .ok (.iload_n 3, 1) := by decide +kernel
theorem dX7_charOf_39 : decode cX7_charOf 39 = .ok (.if_icmp .gt 33, 3) := by decide +kernel
theorem dX7_charOf_42 : decode cX7_charOf 42 = .ok (.iload_n 2, 1) := by decide +kernel
theorem dX7_charOf_43 : decode cX7_charOf 43 = .ok (.iload_n 3, 1) := by decide +kernel
theorem dX7_charOf_44 : decode cX7_charOf 44 = .ok (.if_icmp .ne 15, 3) := by decide +kernel
theorem dX7_charOf_47 : decode cX7_charOf 47 = .ok (.aload_n 0, 1) := by decide +kernel
theorem dX7_charOf_48 : decode cX7_charOf 48 = .ok (.getfield 19, 3) := by decide +kernel
theorem dX7_charOf_51 : decode cX7_charOf 51 = .ok (.iload_n 1, 1) := by decide +kernel
theorem dX7_charOf_52 : decode cX7_charOf 52 = .ok (.iaload, 1) := by decide +kernel
theorem dX7_charOf_53 : decode cX7_charOf 53 = .ok (.invokestatic 131, 3) := by decide +kernel
theorem dX7_charOf_56 : decode cX7_charOf 56 = .ok (.goto 15, 3) := by decide +kernel
theorem dX7_charOf_59 : decode cX7_charOf 59 = .ok (.aload_n 0, 1) := by decide +kernel
theorem dX7_charOf_60 : decode cX7_charOf 60 = .ok (.getfield 22, 3) := by decide +kernel
theorem dX7_charOf_63 : decode cX7_charOf 63 = .ok (.iload_n 1, 1) := by decide +kernel
theorem dX7_charOf_64 : decode cX7_charOf 64 = .ok (.iaload, 1) := by decide +kernel
theorem dX7_charOf_65 : decode cX7_charOf 65 = .ok (.iload_n 2, 1) := by decide +kernel
theorem dX7_charOf_66 : decode cX7_charOf 66 = .ok (.iconst 2, 1) := by decide +kernel
theorem dX7_charOf_67 : decode cX7_charOf 67 = .ok (.isub, 1) := by decide +kernel
theorem dX7_charOf_68 : decode cX7_charOf 68 = .ok (.invokestatic 135, 3) := by decide +kernel
theorem dX7_charOf_71 : decode cX7_charOf 71 = .ok (.ireturn, 1) := by decide +kernel
theorem dX7_charOf_72 : decode cX7_charOf 72 = .ok (.iload_n 2, 1) := by decide +kernel
theorem dX7_charOf_73 : decode cX7_charOf 73 = .ok (.aload_n 0, 1) := by decide +kernel
theorem dX7_charOf_74 : decode cX7_charOf 74 = .ok (.iload_n 1, 1) := by decide +kernel
theorem dX7_charOf_75 : decode cX7_charOf 75 = .ok (.invokevirtual 125, 3) := by decide +kernel
theorem dX7_charOf_78 : decode cX7_charOf 78 = .ok (.iconst 1, 1) := by decide +kernel
theorem dX7_charOf_79 : decode cX7_charOf 79 = .ok (.isub, 1) := by decide +kernel
theorem dX7_charOf_80 : decode cX7_charOf 80 = .ok (.if_icmp .ne 8, 3) := by decide +kernel
theorem dX7_charOf_83 : decode cX7_charOf 83 = .ok (.bipush 10, 2) := by decide +kernel
theorem dX7_charOf_85 : decode cX7_charOf 85 = .ok (.goto 17, 3) := by decide +kernel
theorem dX7_charOf_88 : decode cX7_charOf 88 = .ok (.aload_n 0, 1) := by decide +kernel
theorem dX7_charOf_89 : decode cX7_charOf 89 = .ok (.getfield 25, 3) := by decide +kernel
theorem dX7_charOf_92 : decode cX7_charOf 92 = .ok (.iload_n 1, 1) := by decide +kernel
theorem dX7_charOf_93 : decode cX7_charOf 93 = .ok (.iaload, 1) := by decide +kernel
theorem dX7_charOf_94 : decode cX7_charOf 94 = .ok (.iload_n 2, 1) := by decide +kernel
theorem dX7_charOf_95 : decode cX7_charOf 95 = .ok (.iload_n 3, 1) := by decide +kernel
theorem dX7_charOf_96 : decode cX7_charOf 96 = .ok (.isub, 1) := by decide +kernel
theorem dX7_charOf_97 : decode cX7_charOf 97 = .ok (.iconst 1, 1) := by decide +kernel
theorem dX7_charOf_98 : decode cX7_charOf 98 = .ok (.isub, 1) := by decide +kernel
theorem dX7_charOf_99 : decode cX7_charOf 99 = .ok (.invokestatic 135, 3) := by decide +kernel
theorem dX7_charOf_102 : decode cX7_charOf 102 = .ok (.ireturn, 1) := by decide +kernel
set_option maxRecDepth 20000 in
theorem ggX7_sourceChar_X7_isCell : GoodIn wsX7_sourceChar wsX7_isCell := goodIn_r _ [5, 6, 7, 8, 4, 9, 44, 45, 46, 47, 48, 49, 50, 51, 52, 53, 54, 55, 56, 57, 58, 59, 60, 61, 62, 63, 64, 65, 66, 67, 68, 69, 70, 71, 72, 73, 74, 75] (by decide +kernel) (by decide +kernel)
set_option maxRecDepth 20000 in
theorem gX7_sourceChar_X7_isCell : GoodIn wsX7_sourceChar (wsV RX7 105 RX7 yX7_isCell wsX7_isCell) := goodIn_app (goodIn_of _ (by decide +kernel)) ggX7_sourceChar_X7_isCell
set_option maxRecDepth 20000 in
theorem ggX7_sourceChar_X7_lengthOf : GoodIn wsX7_sourceChar wsX7_lengthOf := goodIn_r _ [13, 14, 15, 16, 17, 4, 18, 19, 20, 21, 22, 23, 24, 25, 26, 7, 8, 9, 44, 45, 46, 47, 48, 49, 50, 51, 52, 53, 54, 55, 56, 57, 58, 59, 60, 61, 62, 63, 64, 65, 66, 67, 68, 69, 70, 71, 72, 73, 74, 75] (by decide +kernel) (by decide +kernel)
set_option maxRecDepth 20000 in
theorem gX7_sourceChar_X7_lengthOf : GoodIn wsX7_sourceChar (wsV RX7 128 RX7 yX7_lengthOf wsX7_lengthOf) := goodIn_app (goodIn_of _ (by decide +kernel)) ggX7_sourceChar_X7_lengthOf
set_option maxRecDepth 20000 in
theorem ggX7_sourceChar_X7_in : GoodIn wsX7_sourceChar wsX7_in := goodIn_r _ [9] (by decide +kernel) (by decide +kernel)
set_option maxRecDepth 20000 in
theorem gX7_sourceChar_X7_in : GoodIn wsX7_sourceChar (va_wsS RX7 90 yX7_in wsX7_in) := goodIn_app (goodIn_of _ (by decide +kernel)) ggX7_sourceChar_X7_in
set_option maxRecDepth 20000 in
theorem ggX7_sourceChar_X7_goes : GoodIn wsX7_sourceChar wsX7_goes := goodIn_r _ [30, 31, 44, 45, 46, 47, 48, 49, 50, 51, 52, 53, 54, 55, 56, 57, 58, 59, 60, 61, 62, 63, 64, 65, 66, 67, 68, 69, 70, 71, 72, 73, 74, 75] (by decide +kernel) (by decide +kernel)
set_option maxRecDepth 20000 in
theorem gX7_sourceChar_X7_goes : GoodIn wsX7_sourceChar (wsV RX7 98 RX7 yX7_goes wsX7_goes) := goodIn_app (goodIn_of _ (by decide +kernel)) ggX7_sourceChar_X7_goes
set_option maxRecDepth 20000 in
theorem ggX7_sourceChar_X7_length : GoodIn wsX7_sourceChar wsX7_length := goodIn_r _ [18, 19, 20, 21, 22, 4, 23, 24, 25, 26, 7, 8, 9, 44, 45, 46, 47, 48, 49, 50, 51, 52, 53, 54, 55, 56, 57, 58, 59, 60, 61, 62, 63, 64, 65, 66, 67, 68, 69, 70, 71, 72, 73, 74, 75] (by decide +kernel) (by decide +kernel)
set_option maxRecDepth 20000 in
theorem gX7_sourceChar_X7_length : GoodIn wsX7_sourceChar (wsV RX7 125 RX7 yX7_length wsX7_length) := goodIn_app (goodIn_of _ (by decide +kernel)) ggX7_sourceChar_X7_length
set_option maxRecDepth 20000 in
theorem ggX7_sourceChar_X7_charOf : GoodIn wsX7_sourceChar wsX7_charOf := goodIn_r _ [35, 19, 36, 37, 20, 21, 22, 4, 23, 24, 25, 26, 7, 8, 9, 38, 39, 40, 41, 42, 43, 15, 16, 17, 18, 44, 45, 46, 47, 48, 49, 50, 51, 52, 53, 54, 55, 56, 57, 58, 59, 60, 61, 62, 63, 64, 65, 66, 67, 68, 69, 70, 71, 72, 73, 74, 75] (by decide +kernel) (by decide +kernel)
set_option maxRecDepth 20000 in
theorem gX7_sourceChar_X7_charOf : GoodIn wsX7_sourceChar (wsV RX7 139 RX7 yX7_charOf wsX7_charOf) := goodIn_app (goodIn_of _ (by decide +kernel)) ggX7_sourceChar_X7_charOf
theorem dX7_sourceChar_0 : decode cX7_sourceChar 0 = .ok (.aload_n 0, 1) := by decide +kernel
theorem dX7_sourceChar_1 : decode cX7_sourceChar 1 = .ok (.iload_n 1, 1) := by decide +kernel
theorem dX7_sourceChar_2 : decode cX7_sourceChar 2 = .ok (.invokevirtual 105, 3) := by decide +kernel
theorem dX7_sourceChar_5 : decode cX7_sourceChar 5 = .ok (.istore_n 3, 1) := by decide +kernel
theorem dX7_sourceChar_6 : decode cX7_sourceChar 6 = .ok (.aload_n 0, 1) := by decide +kernel
theorem dX7_sourceChar_7 : decode cX7_sourceChar 7 = .ok (.iload_n 3, 1) := by decide +kernel
theorem dX7_sourceChar_8 : decode cX7_sourceChar 8 = .ok (.ifCond .eq 30, 3) := by decide +kernel
theorem dX7_sourceChar_11 : decode cX7_sourceChar 11 = .ok (.iload_n 2, 1) := by decide +kernel
theorem dX7_sourceChar_12 : decode cX7_sourceChar 12 = .ok (.iconst 0, 1) := by decide +kernel
theorem dX7_sourceChar_13 : decode cX7_sourceChar 13 = .ok (.aload_n 0, 1) := by decide +kernel
theorem dX7_sourceChar_14 : decode cX7_sourceChar 14 = .ok (.iload_n 3, 1) := by decide +kernel
theorem dX7_sourceChar_15 : decode cX7_sourceChar 15 = .ok (.ifCond .eq 7, 3) := by decide +kernel
theorem dX7_sourceChar_18 : decode cX7_sourceChar 18 = .ok (.iload_n 1, 1) := by decide +kernel
theorem dX7_sourceChar_19 : decode cX7_sourceChar 19 = .ok (.goto 4, 3) := by decide +kernel
theorem dX7_sourceChar_22 : decode cX7_sourceChar 22 = .ok (.iconst 0, 1) := by decide +kernel
theorem dX7_sourceChar_23 : decode cX7_sourceChar 23 = .ok (.invokevirtual 128, 3) := by decide +kernel
theorem dX7_sourceChar_26 : decode cX7_sourceChar 26 = .ok (.iconst 1, 1) := by decide +kernel
theorem dX7_sourceChar_27 : decode cX7_sourceChar 27 = .ok (.isub, 1) := by decide +kernel
theorem dX7_sourceChar_28 : decode cX7_sourceChar 28 = .ok (.invokestatic 90, 3) := by decide +kernel
theorem dX7_sourceChar_31 : decode cX7_sourceChar 31 = .ok (.ifCond .eq 7, 3) := by decide +kernel
theorem dX7_sourceChar_34 : decode cX7_sourceChar 34 = .ok (.iconst 1, 1) := by decide +kernel
theorem dX7_sourceChar_35 : decode cX7_sourceChar 35 = .ok (.goto 4, 3) := by decide +kernel
theorem dX7_sourceChar_38 : decode cX7_sourceChar 38 = .ok (.iconst 0, 1) := by decide +kernel
theorem dX7_sourceChar_39 : decode cX7_sourceChar 39 = .ok (.iconst 1, 1) := by decide +kernel
theorem dX7_sourceChar_40 : decode cX7_sourceChar 40 = .ok (.iconst 1, 1) := by decide +kernel
theorem dX7_sourceChar_41 : decode cX7_sourceChar 41 = .ok (.invokevirtual 98, 3) := by decide +kernel
theorem dX7_sourceChar_44 : decode cX7_sourceChar 44 = .ok (.ifCond .ne 6, 3) := by decide +kernel
theorem dX7_sourceChar_47 : decode cX7_sourceChar 47 = .ok (.bipush 32, 2) := by decide +kernel
theorem dX7_sourceChar_49 : decode cX7_sourceChar 49 = .ok (.ireturn, 1) := by decide +kernel
theorem dX7_sourceChar_50 : decode cX7_sourceChar 50 = .ok (.bipush 6, 2) := by decide +kernel
theorem dX7_sourceChar_52 : decode cX7_sourceChar 52 = .ok (.iload_n 1, 1) := by decide +kernel
theorem dX7_sourceChar_53 : decode cX7_sourceChar 53 = .ok (.imul, 1) := by decide +kernel
theorem dX7_sourceChar_54 : decode cX7_sourceChar 54 = .ok (.istore 4, 2) := by decide +kernel
theorem dX7_sourceChar_56 : decode cX7_sourceChar 56 = .ok (.iload_n 2, 1) := by decide +kernel
theorem dX7_sourceChar_57 : decode cX7_sourceChar 57 = .ok (.istore 5, 2) := by decide +kernel
theorem dX7_sourceChar_59 : decode cX7_sourceChar 59 = .ok (.iload 5, 2) := by decide +kernel
theorem dX7_sourceChar_61 : decode cX7_sourceChar 61 = .ok (.aload_n 0, 1) := by decide +kernel
theorem dX7_sourceChar_62 : decode cX7_sourceChar 62 = .ok (.iload 4, 2) := by decide +kernel
