theorem dX7_staleOnes_41 : decode cX7_staleOnes 41 = .ok (.iload_n 1, 1) := by decide +kernel
theorem dX7_staleOnes_42 : decode cX7_staleOnes 42 = .ok (.ireturn, 1) := by decide +kernel
set_option maxRecDepth 20000 in
theorem ggX7_stale_X7_staleOnes : GoodIn wsX7_stale wsX7_staleOnes := goodIn_r _ [5, 6, 7, 8, 9, 10, 4, 11, 12, 13, 14, 15, 16, 17, 18, 19, 20, 21, 22, 23, 24, 25, 26, 27, 28, 34, 35, 36, 37, 38, 39, 40, 41, 42, 43, 44, 45, 46, 47, 48, 49, 50, 51, 52, 53, 54, 55, 56, 57, 58, 59, 60, 61, 62, 63, 64, 65] (by decide +kernel) (by decide +kernel)
set_option maxRecDepth 20000 in
theorem gX7_stale_X7_staleOnes : GoodIn wsX7_stale (wsV RX7 189 RX7 yX7_staleOnes wsX7_staleOnes) := goodIn_app (goodIn_of _ (by decide +kernel)) ggX7_stale_X7_staleOnes
set_option maxRecDepth 20000 in
theorem ggX7_stale_X7_told : GoodIn wsX7_stale wsX7_told := goodIn_r _ [32, 33, 34, 35, 36, 37, 38, 39, 40, 41, 42, 43, 44, 45, 46, 47, 48, 49, 50, 51, 52, 53, 54, 55, 56, 57, 58, 59, 60, 61, 62, 63, 64, 65] (by decide +kernel) (by decide +kernel)
set_option maxRecDepth 20000 in
theorem gX7_stale_X7_told : GoodIn wsX7_stale (wsV RX7 118 RX7 yX7_told wsX7_told) := goodIn_app (goodIn_of _ (by decide +kernel)) ggX7_stale_X7_told
theorem dX7_stale_0 : decode cX7_stale 0 = .ok (.aload_n 0, 1) := by decide +kernel
theorem dX7_stale_1 : decode cX7_stale 1 = .ok (.aload_n 0, 1) := by decide +kernel
theorem dX7_stale_2 : decode cX7_stale 2 = .ok (.invokevirtual 189, 3) := by decide +kernel
theorem dX7_stale_5 : decode cX7_stale 5 = .ok (.invokevirtual 118, 3) := by decide +kernel
theorem dX7_stale_8 : decode cX7_stale 8 = .ok (.ireturn, 1) := by decide +kernel
set_option maxRecDepth 20000 in
theorem ggX7_wouldBeStale_X7_isName : GoodIn wsX7_wouldBeStale wsX7_isName := goodIn_r _ [5, 6, 7, 4, 8] (by decide +kernel) (by decide +kernel)
set_option maxRecDepth 20000 in
theorem gX7_wouldBeStale_X7_isName : GoodIn wsX7_wouldBeStale (va_wsS RX7 94 yX7_isName wsX7_isName) := goodIn_app (goodIn_of _ (by decide +kernel)) ggX7_wouldBeStale_X7_isName
set_option maxRecDepth 20000 in
theorem ggX7_wouldBeStale_X7_goes : GoodIn wsX7_wouldBeStale wsX7_goes := goodIn_r _ [12, 13, 40, 41, 42, 43, 44, 45, 46, 47, 48, 49, 50, 51, 52, 53, 54, 55, 56, 57, 58, 59, 60, 61, 62, 63, 64, 65, 66, 67, 68, 69, 70, 71] (by decide +kernel) (by decide +kernel)
set_option maxRecDepth 20000 in
theorem gX7_wouldBeStale_X7_goes : GoodIn wsX7_wouldBeStale (wsV RX7 98 RX7 yX7_goes wsX7_goes) := goodIn_app (goodIn_of _ (by decide +kernel)) ggX7_wouldBeStale_X7_goes
set_option maxRecDepth 20000 in
theorem ggX7_wouldBeStale_X7_staleOnes : GoodIn wsX7_wouldBeStale wsX7_staleOnes := goodIn_r _ [17, 18, 19, 20, 21, 22, 4, 23, 24, 25, 26, 27, 28, 29, 30, 31, 1, 32, 33, 34, 35, 36, 37, 38, 39, 40, 41, 42, 43, 44, 45, 46, 47, 48, 49, 50, 51, 52, 53, 54, 55, 56, 57, 58, 59, 60, 61, 62, 63, 64, 65, 66, 67, 68, 69, 70, 71] (by decide +kernel) (by decide +kernel)
set_option maxRecDepth 20000 in
theorem gX7_wouldBeStale_X7_staleOnes : GoodIn wsX7_wouldBeStale (wsV RX7 189 RX7 yX7_staleOnes wsX7_staleOnes) := goodIn_app (goodIn_of _ (by decide +kernel)) ggX7_wouldBeStale_X7_staleOnes
theorem dX7_wouldBeStale_0 : decode cX7_wouldBeStale 0 = .ok (.aload_n 0, 1) := by decide +kernel
theorem dX7_wouldBeStale_1 : decode cX7_wouldBeStale 1 = .ok (.iload_n 1, 1) := by decide +kernel
theorem dX7_wouldBeStale_2 : decode cX7_wouldBeStale 2 = .ok (.invokestatic 94, 3) := by decide +kernel
theorem dX7_wouldBeStale_5 : decode cX7_wouldBeStale 5 = .ok (.iconst 1, 1) := by decide +kernel
theorem dX7_wouldBeStale_6 : decode cX7_wouldBeStale 6 = .ok (.iconst 1, 1) := by decide +kernel
theorem dX7_wouldBeStale_7 : decode cX7_wouldBeStale 7 = .ok (.invokevirtual 98, 3) := by decide +kernel
theorem dX7_wouldBeStale_10 : decode cX7_wouldBeStale 10 = .ok (.ifCond .ne 5, 3) := by decide +kernel
theorem dX7_wouldBeStale_13 : decode cX7_wouldBeStale 13 = .ok (.iconst 0, 1) := by decide +kernel
theorem dX7_wouldBeStale_14 : decode cX7_wouldBeStale 14 = .ok (.ireturn, 1) := by decide +kernel
theorem dX7_wouldBeStale_15 : decode cX7_wouldBeStale 15 = .ok (.aload_n 0, 1) := by decide +kernel
theorem dX7_wouldBeStale_16 : decode cX7_wouldBeStale 16 = .ok (.invokevirtual 189, 3) := by decide +kernel
theorem dX7_wouldBeStale_19 : decode cX7_wouldBeStale 19 = .ok (.istore_n 2, 1) := by decide +kernel
theorem dX7_wouldBeStale_20 : decode cX7_wouldBeStale 20 = .ok (.aload_n 0, 1) := by decide +kernel
theorem dX7_wouldBeStale_21 : decode cX7_wouldBeStale 21 = .ok (.getfield 40, 3) := by decide +kernel
theorem dX7_wouldBeStale_24 : decode cX7_wouldBeStale 24 = .ok (.iload_n 1, 1) := by decide +kernel
theorem dX7_wouldBeStale_25 : decode cX7_wouldBeStale 25 = .ok (.iaload, 1) := by decide +kernel
theorem dX7_wouldBeStale_26 : decode cX7_wouldBeStale 26 = .ok (.istore_n 3, 1) := by decide +kernel
theorem dX7_wouldBeStale_27 : decode cX7_wouldBeStale 27 = .ok (.aload_n 0, 1) := by decide +kernel
theorem dX7_wouldBeStale_28 : decode cX7_wouldBeStale 28 = .ok (.getfield 40, 3) := by decide +kernel
theorem dX7_wouldBeStale_31 : decode cX7_wouldBeStale 31 = .ok (.iload_n 1, 1) := by decide +kernel
theorem dX7_wouldBeStale_32 : decode cX7_wouldBeStale 32 = .ok (.sipush 401, 3) := by decide +kernel
theorem dX7_wouldBeStale_35 : decode cX7_wouldBeStale 35 = .ok (.iastore, 1) := by decide +kernel
theorem dX7_wouldBeStale_36 : decode cX7_wouldBeStale 36 = .ok (.aload_n 0, 1) := by decide +kernel
theorem dX7_wouldBeStale_37 : decode cX7_wouldBeStale 37 = .ok (.invokevirtual 189, 3) := by decide +kernel
theorem dX7_wouldBeStale_40 : decode cX7_wouldBeStale 40 = .ok (.istore 4, 2) := by decide +kernel
theorem dX7_wouldBeStale_42 : decode cX7_wouldBeStale 42 = .ok (.aload_n 0, 1) := by decide +kernel
theorem dX7_wouldBeStale_43 : decode cX7_wouldBeStale 43 = .ok (.getfield 40, 3) := by decide +kernel
theorem dX7_wouldBeStale_46 : decode cX7_wouldBeStale 46 = .ok (.iload_n 1, 1) := by decide +kernel
theorem dX7_wouldBeStale_47 : decode cX7_wouldBeStale 47 = .ok (.iload_n 3, 1) := by decide +kernel
theorem dX7_wouldBeStale_48 : decode cX7_wouldBeStale 48 = .ok (.iastore, 1) := by decide +kernel
theorem dX7_wouldBeStale_49 : decode cX7_wouldBeStale 49 = .ok (.iload 4, 2) := by decide +kernel
theorem dX7_wouldBeStale_51 : decode cX7_wouldBeStale 51 = .ok (.iload_n 2, 1) := by decide +kernel
theorem dX7_wouldBeStale_52 : decode cX7_wouldBeStale 52 = .ok (.iconst (-1), 1) := by decide +kernel
theorem dX7_wouldBeStale_53 : decode cX7_wouldBeStale 53 = .ok (.ixor, 1) := by decide +kernel
theorem dX7_wouldBeStale_54 : decode cX7_wouldBeStale 54 = .ok (.iand, 1) := by decide +kernel
theorem dX7_wouldBeStale_55 : decode cX7_wouldBeStale 55 = .ok (.ireturn, 1) := by decide +kernel
set_option maxRecDepth 20000 in
theorem ggX7_keep_X7_goes : GoodIn wsX7_keep wsX7_goes := goodIn_r _ [12, 13, 14, 15, 16, 17, 18, 19, 20, 21, 22, 23, 24, 25, 26, 27, 28, 29, 30, 31, 32, 33, 34, 35, 36, 37, 38, 39, 40, 41, 42, 43, 44, 45] (by decide +kernel) (by decide +kernel)
set_option maxRecDepth 20000 in
theorem gX7_keep_X7_goes : GoodIn wsX7_keep (wsV RX7 98 RX7 yX7_goes wsX7_goes) := goodIn_app (goodIn_of _ (by decide +kernel)) ggX7_keep_X7_goes
theorem dX7_keep_0 : decode cX7_keep 0 = .ok (.aload_n 0, 1) := by decide +kernel
theorem dX7_keep_1 : decode cX7_keep 1 = .ok (.aload_n 0, 1) := by decide +kernel
theorem dX7_keep_2 : decode cX7_keep 2 = .ok (.getfield 193, 3) := by decide +kernel
theorem dX7_keep_5 : decode cX7_keep 5 = .ok (.bipush 10, 2) := by decide +kernel
theorem dX7_keep_7 : decode cX7_keep 7 = .ok (.if_icmp .ge 7, 3) := by decide +kernel
theorem dX7_keep_10 : decode cX7_keep 10 = .ok (.iconst 1, 1) := by decide +kernel
theorem dX7_keep_11 : decode cX7_keep 11 = .ok (.goto 4, 3) := by decide +kernel
theorem dX7_keep_14 : decode cX7_keep 14 = .ok (.iconst 0, 1) := by decide +kernel
theorem dX7_keep_15 : decode cX7_keep 15 = .ok (.iconst 1, 1) := by decide +kernel
theorem dX7_keep_16 : decode cX7_keep 16 = .ok (.iconst 1, 1) := by decide +kernel
theorem dX7_keep_17 : decode cX7_keep 17 = .ok (.invokevirtual 98, 3) := by decide +kernel
theorem dX7_keep_20 : decode cX7_keep 20 = .ok (.ifCond .ne 5, 3) := by decide +kernel
theorem dX7_keep_23 : decode cX7_keep 23 = .ok (.iconst 0, 1) := by decide +kernel
theorem dX7_keep_24 : decode cX7_keep 24 = .ok (.ireturn, 1) := by decide +kernel
theorem dX7_keep_25 : decode cX7_keep 25 = .ok (.iconst 0, 1) := by decide +kernel
theorem dX7_keep_26 : decode cX7_keep 26 = .ok (.istore_n 1, 1) := by decide +kernel
theorem dX7_keep_27 : decode cX7_keep 27 = .ok (.iload_n 1, 1) := by decide +kernel
theorem dX7_keep_28 : decode cX7_keep 28 = .ok (.bipush 8, 2) := by decide +kernel
theorem dX7_keep_30 : decode cX7_keep 30 = .ok (.if_icmp .ge 49, 3) := by decide +kernel
theorem dX7_keep_33 : decode cX7_keep 33 = .ok (.aload_n 0, 1) := by decide +kernel
theorem dX7_keep_34 : decode cX7_keep 34 = .ok (.getfield 68, 3) := by decide +kernel
theorem dX7_keep_37 : decode cX7_keep 37 = .ok (.bipush 8, 2) := by decide +kernel
theorem dX7_keep_39 : decode cX7_keep 39 = .ok (.aload_n 0, 1) := by decide +kernel
theorem dX7_keep_40 : decode cX7_keep 40 = .ok (.getfield 193, 3) := by decide +kernel
theorem dX7_keep_43 : decode cX7_keep 43 = .ok (.imul, 1) := by decide +kernel
theorem dX7_keep_44 : decode cX7_keep 44 = .ok (.iload_n 1, 1) := by decide +kernel
theorem dX7_keep_45 : decode cX7_keep 45 = .ok (.iadd, 1) := by decide +kernel
theorem dX7_keep_46 : decode cX7_keep 46 = .ok (.aload_n 0, 1) := by decide +kernel
theorem dX7_keep_47 : decode cX7_keep 47 = .ok (.getfield 37, 3) := by decide +kernel
theorem dX7_keep_50 : decode cX7_keep 50 = .ok (.iload_n 1, 1) := by decide +kernel
theorem dX7_keep_51 : decode cX7_keep 51 = .ok (.iaload, 1) := by decide +kernel
theorem dX7_keep_52 : decode cX7_keep 52 = .ok (.iastore, 1) := by decide +kernel
theorem dX7_keep_53 : decode cX7_keep 53 = .ok (.aload_n 0, 1) := by decide +kernel
theorem dX7_keep_54 : decode cX7_keep 54 = .ok (.getfield 71, 3) := by decide +kernel
theorem dX7_keep_57 : decode cX7_keep 57 = .ok (.bipush 8, 2) := by decide +kernel
theorem dX7_keep_59 : decode cX7_keep 59 = .ok (.aload_n 0, 1) := by decide +kernel
theorem dX7_keep_60 : decode cX7_keep 60 = .ok (.getfield 193, 3) := by decide +kernel
theorem dX7_keep_63 : decode cX7_keep 63 = .ok (.imul, 1) := by decide +kernel
theorem dX7_keep_64 : decode cX7_keep 64 = .ok (.iload_n 1, 1) := by decide +kernel
theorem dX7_keep_65 : decode cX7_keep 65 = .ok (.iadd, 1) := by decide +kernel
theorem dX7_keep_66 : decode cX7_keep 66 = .ok (.aload_n 0, 1) := by decide +kernel
theorem dX7_keep_67 : decode cX7_keep 67 = .ok (.getfield 40, 3) := by decide +kernel
theorem dX7_keep_70 : decode cX7_keep 70 = .ok (.iload_n 1, 1) := by decide +kernel
theorem dX7_keep_71 : decode cX7_keep 71 = .ok (.iaload, 1) := by decide +kernel
theorem dX7_keep_72 : decode cX7_keep 72 = .ok (.iastore, 1) := by decide +kernel
theorem dX7_keep_73 : decode cX7_keep 73 = .ok (.iinc 1 1, 3) := by decide +kernel
theorem dX7_keep_76 : decode cX7_keep 76 = .ok (.goto (-49), 3) := by decide +kernel
theorem dX7_keep_79 : decode cX7_keep 79 = .ok (.iconst 0, 1) := by decide +kernel
theorem dX7_keep_80 : decode cX7_keep 80 = .ok (.istore_n 1, 1) := by decide +kernel
theorem dX7_keep_81 : decode cX7_keep 81 = .ok (.iload_n 1, 1) := by decide +kernel
theorem dX7_keep_82 : decode cX7_keep 82 = .ok (.bipush 16, 2) := by decide +kernel
theorem dX7_keep_84 : decode cX7_keep 84 = .ok (.if_icmp .ge 29, 3) := by decide +kernel
theorem dX7_keep_87 : decode cX7_keep 87 = .ok (.aload_n 0, 1) := by decide +kernel
theorem dX7_keep_88 : decode cX7_keep 88 = .ok (.getfield 74, 3) := by decide +kernel
theorem dX7_keep_91 : decode cX7_keep 91 = .ok (.bipush 16, 2) := by decide +kernel
theorem dX7_keep_93 : decode cX7_keep 93 = .ok (.aload_n 0, 1) := by decide +kernel
theorem dX7_keep_94 : decode cX7_keep 94 = .ok (.getfield 193, 3) := by decide +kernel
theorem dX7_keep_97 : decode cX7_keep 97 = .ok (.imul, 1) := by decide +kernel
theorem dX7_keep_98 : decode cX7_keep 98 = .ok (.iload_n 1, 1) := by decide +kernel
theorem dX7_keep_99 : decode cX7_keep 99 = .ok (.iadd, 1) := by decide +kernel
theorem dX7_keep_100 : decode cX7_keep 100 = .ok (.aload_n 0, 1) := by decide +kernel
theorem dX7_keep_101 : decode cX7_keep 101 = .ok (.getfield 31, 3) := by decide +kernel
theorem dX7_keep_104 : decode cX7_keep 104 = .ok (.iload_n 1, 1) := by decide +kernel
theorem dX7_keep_105 : decode cX7_keep 105 = .ok (.iaload, 1) := by decide +kernel
theorem dX7_keep_106 : decode cX7_keep 106 = .ok (.iastore, 1) := by decide +kernel
theorem dX7_keep_107 : decode cX7_keep 107 = .ok (.iinc 1 1, 3) := by decide +kernel
theorem dX7_keep_110 : decode cX7_keep 110 = .ok (.goto (-29), 3) := by decide +kernel
theorem dX7_keep_113 : decode cX7_keep 113 = .ok (.aload_n 0, 1) := by decide +kernel
theorem dX7_keep_114 : decode cX7_keep 114 = .ok (.dup, 1) := by decide +kernel
theorem dX7_keep_115 : decode cX7_keep 115 = .ok (.getfield 193, 3) := by decide +kernel
theorem dX7_keep_118 : decode cX7_keep 118 = .ok (.iconst 1, 1) := by decide +kernel
theorem dX7_keep_119 : decode cX7_keep 119 = .ok (.iadd, 1) := by decide +kernel
theorem dX7_keep_120 : decode cX7_keep 120 = .ok (.putfield 193, 3) := by decide +kernel
theorem dX7_keep_123 : decode cX7_keep 123 = .ok (.aload_n 0, 1) := by decide +kernel
theorem dX7_keep_124 : decode cX7_keep 124 = .ok (.getfield 193, 3) := by decide +kernel
theorem dX7_keep_127 : decode cX7_keep 127 = .ok (.iconst 1, 1) := by decide +kernel
theorem dX7_keep_128 : decode cX7_keep 128 = .ok (.isub, 1) := by decide +kernel
theorem dX7_keep_129 : decode cX7_keep 129 = .ok (.ireturn, 1) := by decide +kernel
theorem dX7_setOnes_0 : decode cX7_setOnes 0 = .ok (.iconst 0, 1) := by decide +kernel
theorem dX7_setOnes_1 : decode cX7_setOnes 1 = .ok (.istore_n 1, 1) := by decide +kernel
theorem dX7_setOnes_2 : decode cX7_setOnes 2 = .ok (.iconst 0, 1) := by decide +kernel
theorem dX7_setOnes_3 : decode cX7_setOnes 3 = .ok (.istore_n 2, 1) := by decide +kernel
theorem dX7_setOnes_4 : decode cX7_setOnes 4 = .ok (.iload_n 2, 1) := by decide +kernel
theorem dX7_setOnes_5 : decode cX7_setOnes 5 = .ok (.bipush 8, 2) := by decide +kernel
theorem dX7_setOnes_7 : decode cX7_setOnes 7 = .ok (.if_icmp .ge 26, 3) := by decide +kernel
theorem dX7_setOnes_10 : decode cX7_setOnes 10 = .ok (.iload_n 1, 1) := by decide +kernel
theorem dX7_setOnes_11 : decode cX7_setOnes 11 = .ok (.aload_n 0, 1) := by decide +kernel
theorem dX7_setOnes_12 : decode cX7_setOnes 12 = .ok (.getfield 40, 3) := by decide +kernel
theorem dX7_setOnes_15 : decode cX7_setOnes 15 = .ok (.iload_n 2, 1) := by decide +kernel
theorem dX7_setOnes_16 : decode cX7_setOnes 16 = .ok (.iaload, 1) := by decide +kernel
theorem dX7_setOnes_17 : decode cX7_setOnes 17 = .ok (.ifCond .le 7, 3) := by decide +kernel
theorem dX7_setOnes_20 : decode cX7_setOnes 20 = .ok (.iconst 1, 1) := by decide +kernel
theorem dX7_setOnes_21 : decode cX7_setOnes 21 = .ok (.goto 4, 3) := by decide +kernel
theorem dX7_setOnes_24 : decode cX7_setOnes 24 = .ok (.iconst 0, 1) := by decide +kernel
theorem dX7_setOnes_25 : decode cX7_setOnes 25 = .ok (.iadd, 1) := by decide +kernel
theorem dX7_setOnes_26 : decode cX7_setOnes 26 = .ok (.istore_n 1, 1) := by decide +kernel
theorem dX7_setOnes_27 : decode cX7_setOnes 27 = .ok (.iinc 2 1, 3) := by decide +kernel
theorem dX7_setOnes_30 : decode cX7_setOnes 30 = .ok (.goto (-26), 3) := by decide +kernel
theorem dX7_setOnes_33 : decode cX7_setOnes 33 = .ok (.iload_n 1, 1) := by decide +kernel
theorem dX7_setOnes_34 : decode cX7_setOnes 34 = .ok (.ireturn, 1) := by decide +kernel
set_option maxRecDepth 20000 in
theorem ggX7_restore_X7_in : GoodIn wsX7_restore wsX7_in := goodIn_r _ [11] (by decide +kernel) (by decide +kernel)
set_option maxRecDepth 20000 in
theorem gX7_restore_X7_in : GoodIn wsX7_restore (va_wsS RX7 90 yX7_in wsX7_in) := goodIn_app (goodIn_of _ (by decide +kernel)) ggX7_restore_X7_in
set_option maxRecDepth 20000 in
theorem ggX7_restore_X7_goes : GoodIn wsX7_restore wsX7_goes := goodIn_r _ [15, 16, 21, 22, 23, 24, 25, 26, 27, 28, 29, 30, 31, 32, 33, 34, 35, 36, 37, 38, 39, 40, 41, 42, 43, 44, 45, 46, 47, 48, 49, 50, 51, 52] (by decide +kernel) (by decide +kernel)
set_option maxRecDepth 20000 in
theorem gX7_restore_X7_goes : GoodIn wsX7_restore (wsV RX7 98 RX7 yX7_goes wsX7_goes) := goodIn_app (goodIn_of _ (by decide +kernel)) ggX7_restore_X7_goes
set_option maxRecDepth 20000 in
theorem ggX7_restore_X7_setOnes : GoodIn wsX7_restore wsX7_setOnes := goodIn_r _ [20, 4, 21, 22, 23, 24, 25, 26, 27, 28, 29, 30, 31, 32, 33, 34, 35, 36, 37, 38, 39, 40, 41, 42, 43, 44, 45, 46, 47, 48, 49, 50, 51, 52] (by decide +kernel) (by decide +kernel)
set_option maxRecDepth 20000 in
theorem gX7_restore_X7_setOnes : GoodIn wsX7_restore (wsV RX7 196 RX7 yX7_setOnes wsX7_setOnes) := goodIn_app (goodIn_of _ (by decide +kernel)) ggX7_restore_X7_setOnes
theorem dX7_restore_0 : decode cX7_restore 0 = .ok (.aload_n 0, 1) := by decide +kernel
theorem dX7_restore_1 : decode cX7_restore 1 = .ok (.iload_n 1, 1) := by decide +kernel
theorem dX7_restore_2 : decode cX7_restore 2 = .ok (.iconst 0, 1) := by decide +kernel
theorem dX7_restore_3 : decode cX7_restore 3 = .ok (.aload_n 0, 1) := by decide +kernel
theorem dX7_restore_4 : decode cX7_restore 4 = .ok (.getfield 193, 3) := by decide +kernel
theorem dX7_restore_7 : decode cX7_restore 7 = .ok (.iconst 1, 1) := by decide +kernel
theorem dX7_restore_8 : decode cX7_restore 8 = .ok (.isub, 1) := by decide +kernel
theorem dX7_restore_9 : decode cX7_restore 9 = .ok (.invokestatic 90, 3) := by decide +kernel
theorem dX7_restore_12 : decode cX7_restore 12 = .ok (.iconst 1, 1) := by decide +kernel
theorem dX7_restore_13 : decode cX7_restore 13 = .ok (.iconst 1, 1) := by decide +kernel
theorem dX7_restore_14 : decode cX7_restore 14 = .ok (.invokevirtual 98, 3) := by decide +kernel
theorem dX7_restore_17 : decode cX7_restore 17 = .ok (.ifCond .ne 5, 3) := by decide +kernel
theorem dX7_restore_20 : decode cX7_restore 20 = .ok (.iconst 0, 1) := by decide +kernel
theorem dX7_restore_21 : decode cX7_restore 21 = .ok (.ireturn, 1) := by decide +kernel
theorem dX7_restore_22 : decode cX7_restore 22 = .ok (.iconst 0, 1) := by decide +kernel
theorem dX7_restore_23 : decode cX7_restore 23 = .ok (.istore_n 2, 1) := by decide +kernel
theorem dX7_restore_24 : decode cX7_restore 24 = .ok (.iload_n 2, 1) := by decide +kernel
theorem dX7_restore_25 : decode cX7_restore 25 = .ok (.bipush 8, 2) := by decide +kernel
theorem dX7_restore_27 : decode cX7_restore 27 = .ok (.if_icmp .ge 43, 3) := by decide +kernel
theorem dX7_restore_30 : decode cX7_restore 30 = .ok (.aload_n 0, 1) := by decide +kernel
theorem dX7_restore_31 : decode cX7_restore 31 = .ok (.getfield 37, 3) := by decide +kernel
theorem dX7_restore_34 : decode cX7_restore 34 = .ok (.iload_n 2, 1) := by decide +kernel
theorem dX7_restore_35 : decode cX7_restore 35 = .ok (.aload_n 0, 1) := by decide +kernel
theorem dX7_restore_36 : decode cX7_restore 36 = .ok (.getfield 68, 3) := by decide +kernel
theorem dX7_restore_39 : decode cX7_restore 39 = .ok (.bipush 8, 2) := by decide +kernel
theorem dX7_restore_41 : decode cX7_restore 41 = .ok (.iload_n 1, 1) := by decide +kernel
theorem dX7_restore_42 : decode cX7_restore 42 = .ok (.imul, 1) := by decide +kernel
theorem dX7_restore_43 : decode cX7_restore 43 = .ok (.iload_n 2, 1) := by decide +kernel
theorem dX7_restore_44 : decode cX7_restore 44 = .ok (.iadd, 1) := by decide +kernel
theorem dX7_restore_45 : decode cX7_restore 45 = .ok (.iaload, 1) := by decide +kernel
theorem dX7_restore_46 : decode cX7_restore 46 = .ok (.iastore, 1) := by decide +kernel
theorem dX7_restore_47 : decode cX7_restore 47 = .ok (.aload_n 0, 1) := by decide +kernel
theorem dX7_restore_48 : decode cX7_restore 48 = .ok (.getfield 40, 3) := by decide +kernel
theorem dX7_restore_51 : decode cX7_restore 51 = .ok (.iload_n 2, 1) := by decide +kernel
theorem dX7_restore_52 : decode cX7_restore 52 = .ok (.aload_n 0, 1) := by decide +kernel
theorem dX7_restore_53 : decode cX7_restore 53 = .ok (.getfield 71, 3) := by decide +kernel
theorem dX7_restore_56 : decode cX7_restore 56 = .ok (.bipush 8, 2) := by decide +kernel
theorem dX7_restore_58 : decode cX7_restore 58 = .ok (.iload_n 1, 1) := by decide +kernel
theorem dX7_restore_59 : decode cX7_restore 59 = .ok (.imul, 1) := by decide +kernel
theorem dX7_restore_60 : decode cX7_restore 60 = .ok (.iload_n 2, 1) := by decide +kernel
theorem dX7_restore_61 : decode cX7_restore 61 = .ok (.iadd, 1) := by decide +kernel
theorem dX7_restore_62 : decode cX7_restore 62 = .ok (.iaload, 1) := by decide +kernel
theorem dX7_restore_63 : decode cX7_restore 63 = .ok (.iastore, 1) := by decide +kernel
theorem dX7_restore_64 : decode cX7_restore 64 = .ok (.iinc 2 1, 3) := by decide +kernel
theorem dX7_restore_67 : decode cX7_restore 67 = .ok (.goto (-43), 3) := by decide +kernel
theorem dX7_restore_70 : decode cX7_restore 70 = .ok (.iconst 0, 1) := by decide +kernel
theorem dX7_restore_71 : decode cX7_restore 71 = .ok (.istore_n 2, 1) := by decide +kernel
theorem dX7_restore_72 : decode cX7_restore 72 = .ok (.iload_n 2, 1) := by decide +kernel
theorem dX7_restore_73 : decode cX7_restore 73 = .ok (.bipush 16, 2) := by decide +kernel
theorem dX7_restore_75 : decode cX7_restore 75 = .ok (.if_icmp .ge 26, 3) := by decide +kernel
theorem dX7_restore_78 : decode cX7_restore 78 = .ok (.aload_n 0, 1) := by decide +kernel
theorem dX7_restore_79 : decode cX7_restore 79 = .ok (.getfield 31, 3) := by decide +kernel
theorem dX7_restore_82 : decode cX7_restore 82 = .ok (.iload_n 2, 1) := by decide +kernel
theorem dX7_restore_83 : decode cX7_restore 83 = .ok (.aload_n 0, 1) := by decide +kernel
theorem dX7_restore_84 : decode cX7_restore 84 = .ok (.getfield 74, 3) := by decide +kernel
theorem dX7_restore_87 : decode cX7_restore 87 = .ok (.bipush 16, 2) := by decide +kernel
theorem dX7_restore_89 : decode cX7_restore 89 = .ok (.iload_n 1, 1) := by decide +kernel
theorem dX7_restore_90 : decode cX7_restore 90 = .ok (.imul, 1) := by decide +kernel
theorem dX7_restore_91 : decode cX7_restore 91 = .ok (.iload_n 2, 1) := by decide +kernel
theorem dX7_restore_92 : decode cX7_restore 92 = .ok (.iadd, 1) := by decide +kernel
theorem dX7_restore_93 : decode cX7_restore 93 = .ok (.iaload, 1) := by decide +kernel
theorem dX7_restore_94 : decode cX7_restore 94 = .ok (.iastore, 1) := by decide +kernel
theorem dX7_restore_95 : decode cX7_restore 95 = .ok (.iinc 2 1, 3) := by decide +kernel
theorem dX7_restore_98 : decode cX7_restore 98 = .ok (.goto (-26), 3) := by decide +kernel
theorem dX7_restore_101 : decode cX7_restore 101 = .ok (.aload_n 0, 1) := by decide +kernel
theorem dX7_restore_102 : decode cX7_restore 102 = .ok (.invokevirtual 196, 3) := by decide +kernel
theorem dX7_restore_105 : decode cX7_restore 105 = .ok (.ireturn, 1) := by decide +kernel
set_option maxRecDepth 20000 in
theorem ggX7_end_X7_setOnes : GoodIn wsX7_end wsX7_setOnes := goodIn_r _ [6, 1, 12, 13, 14, 15, 16, 17, 18, 19, 20, 21, 22, 23, 24, 25, 26, 27, 28, 29, 30, 31, 32, 33, 34, 35, 36, 37, 38, 39, 40, 41, 42, 43] (by decide +kernel) (by decide +kernel)
set_option maxRecDepth 20000 in
theorem gX7_end_X7_setOnes : GoodIn wsX7_end (wsV RX7 196 RX7 yX7_setOnes wsX7_setOnes) := goodIn_app (goodIn_of _ (by decide +kernel)) ggX7_end_X7_setOnes
set_option maxRecDepth 20000 in
theorem ggX7_end_X7_told : GoodIn wsX7_end wsX7_told := goodIn_r _ [10, 11, 12, 13, 14, 15, 16, 17, 18, 19, 20, 21, 22, 23, 24, 25, 26, 27, 28, 29, 30, 31, 32, 33, 34, 35, 36, 37, 38, 39, 40, 41, 42, 43] (by decide +kernel) (by decide +kernel)
set_option maxRecDepth 20000 in
theorem gX7_end_X7_told : GoodIn wsX7_end (wsV RX7 118 RX7 yX7_told wsX7_told) := goodIn_app (goodIn_of _ (by decide +kernel)) ggX7_end_X7_told
theorem dX7_end_0 : decode cX7_end 0 = .ok (.aload_n 0, 1) := by decide +kernel
theorem dX7_end_1 : decode cX7_end 1 = .ok (.invokevirtual 196, 3) := by decide +kernel
theorem dX7_end_4 : decode cX7_end 4 = .ok (.istore_n 1, 1) := by decide +kernel
theorem dX7_end_5 : decode cX7_end 5 = .ok (.iconst 0, 1) := by decide +kernel
theorem dX7_end_6 : decode cX7_end 6 = .ok (.istore_n 2, 1) := by decide +kernel
theorem dX7_end_7 : decode cX7_end 7 = .ok (.iload_n 2, 1) := by decide +kernel
theorem dX7_end_8 : decode cX7_end 8 = .ok (.bipush 8, 2) := by decide +kernel
theorem dX7_end_10 : decode cX7_end 10 = .ok (.if_icmp .ge 16, 3) := by decide +kernel
theorem dX7_end_13 : decode cX7_end 13 = .ok (.aload_n 0, 1) := by decide +kernel
theorem dX7_end_14 : decode cX7_end 14 = .ok (.getfield 40, 3) := by decide +kernel
theorem dX7_end_17 : decode cX7_end 17 = .ok (.iload_n 2, 1) := by decide +kernel
theorem dX7_end_18 : decode cX7_end 18 = .ok (.iconst 0, 1) := by decide +kernel
theorem dX7_end_19 : decode cX7_end 19 = .ok (.iastore, 1) := by decide +kernel
theorem dX7_end_20 : decode cX7_end 20 = .ok (.iinc 2 1, 3) := by decide +kernel
theorem dX7_end_23 : decode cX7_end 23 = .ok (.goto (-16), 3) := by decide +kernel
theorem dX7_end_26 : decode cX7_end 26 = .ok (.aload_n 0, 1) := by decide +kernel
theorem dX7_end_27 : decode cX7_end 27 = .ok (.iload_n 1, 1) := by decide +kernel
theorem dX7_end_28 : decode cX7_end 28 = .ok (.invokevirtual 118, 3) := by decide +kernel
theorem dX7_end_31 : decode cX7_end 31 = .ok (.ireturn, 1) := by decide +kernel
set_option maxRecDepth 20000 in
theorem ggX7_goesThrough_X7_doesAllApart : GoodIn wsX7_goesThrough wsX7_doesAllApart := goodIn_r _ [9, 10, 11, 12, 13, 14, 8, 15, 4, 16, 17, 18, 19, 20, 21, 22, 23, 24, 25, 26, 27, 28, 29, 30, 31, 32, 1, 33, 34, 35, 36, 37, 38, 39, 40, 41, 42, 43, 44, 45, 46, 47, 48, 49, 50, 51, 52, 53, 54, 55, 56, 57, 58, 59, 60, 61, 62, 63, 64, 65, 66, 67, 68, 69, 70, 71, 72, 73, 74, 75, 76, 77] (by decide +kernel) (by decide +kernel)
set_option maxRecDepth 20000 in
theorem gX7_goesThrough_X7_doesAllApart : GoodIn wsX7_goesThrough (wsV RX7 199 RX7 yX7_doesAllApart wsX7_doesAllApart) := goodIn_app (goodIn_of _ (by decide +kernel)) ggX7_goesThrough_X7_doesAllApart
theorem dX7_goesThrough_0 : decode cX7_goesThrough 0 = .ok (.aload_n 0, 1) := by decide +kernel
theorem dX7_goesThrough_1 : decode cX7_goesThrough 1 = .ok (.iconst 0, 1) := by decide +kernel
theorem dX7_goesThrough_2 : decode cX7_goesThrough 2 = .ok (.putfield 152, 3) := by decide +kernel
theorem dX7_goesThrough_5 : decode cX7_goesThrough 5 = .ok (.iconst 0, 1) := by decide +kernel
theorem dX7_goesThrough_6 : decode cX7_goesThrough 6 = .ok (.istore_n 1, 1) := by decide +kernel
theorem dX7_goesThrough_7 : decode cX7_goesThrough 7 = .ok (.iload_n 1, 1) := by decide +kernel
theorem dX7_goesThrough_8 : decode cX7_goesThrough 8 = .ok (.aload_n 0, 1) := by decide +kernel
theorem dX7_goesThrough_9 : decode cX7_goesThrough 9 = .ok (.getfield 87, 3) := by decide +kernel
theorem dX7_goesThrough_12 : decode cX7_goesThrough 12 = .ok (.if_icmp .ge 43, 3) := by decide +kernel
theorem dX7_goesThrough_15 : decode cX7_goesThrough 15 = .ok (.aload_n 0, 1) := by decide +kernel
theorem dX7_goesThrough_16 : decode cX7_goesThrough 16 = .ok (.getfield 152, 3) := by decide +kernel
theorem dX7_goesThrough_19 : decode cX7_goesThrough 19 = .ok (.istore_n 2, 1) := by decide +kernel
theorem dX7_goesThrough_20 : decode cX7_goesThrough 20 = .ok (.aload_n 0, 1) := by decide +kernel
theorem dX7_goesThrough_21 : decode cX7_goesThrough 21 = .ok (.aload_n 0, 1) := by decide +kernel
theorem dX7_goesThrough_22 : decode cX7_goesThrough 22 = .ok (.getfield 7, 3) := by decide +kernel
theorem dX7_goesThrough_25 : decode cX7_goesThrough 25 = .ok (.iload_n 1, 1) := by decide +kernel
theorem dX7_goesThrough_26 : decode cX7_goesThrough 26 = .ok (.iaload, 1) := by decide +kernel
theorem dX7_goesThrough_27 : decode cX7_goesThrough 27 = .ok (.invokevirtual 199, 3) := by decide +kernel
theorem dX7_goesThrough_30 : decode cX7_goesThrough 30 = .ok (.istore_n 3, 1) := by decide +kernel
theorem dX7_goesThrough_31 : decode cX7_goesThrough 31 = .ok (.aload_n 0, 1) := by decide +kernel
theorem dX7_goesThrough_32 : decode cX7_goesThrough 32 = .ok (.iload_n 3, 1) := by decide +kernel
theorem dX7_goesThrough_33 : decode cX7_goesThrough 33 = .ok (.ifCond .eq 12, 3) := by decide +kernel
theorem dX7_goesThrough_36 : decode cX7_goesThrough 36 = .ok (.iload_n 2, 1) := by decide +kernel
theorem dX7_goesThrough_37 : decode cX7_goesThrough 37 = .ok (.aload_n 0, 1) := by decide +kernel
theorem dX7_goesThrough_38 : decode cX7_goesThrough 38 = .ok (.getfield 145, 3) := by decide +kernel
theorem dX7_goesThrough_41 : decode cX7_goesThrough 41 = .ok (.ior, 1) := by decide +kernel
theorem dX7_goesThrough_42 : decode cX7_goesThrough 42 = .ok (.goto 4, 3) := by decide +kernel
theorem dX7_goesThrough_45 : decode cX7_goesThrough 45 = .ok (.iload_n 2, 1) := by decide +kernel
theorem dX7_goesThrough_46 : decode cX7_goesThrough 46 = .ok (.putfield 152, 3) := by decide +kernel
theorem dX7_goesThrough_49 : decode cX7_goesThrough 49 = .ok (.iinc 1 1, 3) := by decide +kernel
theorem dX7_goesThrough_52 : decode cX7_goesThrough 52 = .ok (.goto (-45), 3) := by decide +kernel
theorem dX7_goesThrough_55 : decode cX7_goesThrough 55 = .ok (.return_, 1) := by decide +kernel
set_option maxRecDepth 20000 in
theorem ggX7_doesAllApart_X7_doesAll : GoodIn wsX7_doesAllApart wsX7_doesAll := goodIn_r _ [7, 8, 9, 10, 11, 12, 13, 6, 14, 15, 16, 17, 18, 19, 2, 20, 21, 22, 23, 24, 25, 26, 27, 28, 29, 30, 31, 32, 33, 34, 35, 36, 37, 38, 39, 40, 41, 42, 43, 44, 45, 46, 47, 48, 49, 50, 51, 52, 53, 54, 55, 56, 57, 58, 59, 60, 61, 62, 63, 64, 65, 66, 67, 68, 69, 70, 71] (by decide +kernel) (by decide +kernel)
set_option maxRecDepth 20000 in
theorem gX7_doesAllApart_X7_doesAll : GoodIn wsX7_doesAllApart (wsV RX7 175 RX7 yX7_doesAll wsX7_doesAll) := goodIn_app (goodIn_of _ (by decide +kernel)) ggX7_doesAllApart_X7_doesAll
theorem dX7_doesAllApart_0 : decode cX7_doesAllApart 0 = .ok (.iconst 0, 1) := by decide +kernel
theorem dX7_doesAllApart_1 : decode cX7_doesAllApart 1 = .ok (.istore_n 2, 1) := by decide +kernel
theorem dX7_doesAllApart_2 : decode cX7_doesAllApart 2 = .ok (.iload_n 2, 1) := by decide +kernel
theorem dX7_doesAllApart_3 : decode cX7_doesAllApart 3 = .ok (.bipush 8, 2) := by decide +kernel
theorem dX7_doesAllApart_5 : decode cX7_doesAllApart 5 = .ok (.if_icmp .ge 21, 3) := by decide +kernel
theorem dX7_doesAllApart_8 : decode cX7_doesAllApart 8 = .ok (.aload_n 0, 1) := by decide +kernel
theorem dX7_doesAllApart_9 : decode cX7_doesAllApart 9 = .ok (.getfield 65, 3) := by decide +kernel
theorem dX7_doesAllApart_12 : decode cX7_doesAllApart 12 = .ok (.iload_n 2, 1) := by decide +kernel
theorem dX7_doesAllApart_13 : decode cX7_doesAllApart 13 = .ok (.aload_n 0, 1) := by decide +kernel
theorem dX7_doesAllApart_14 : decode cX7_doesAllApart 14 = .ok (.getfield 77, 3) := by decide +kernel
theorem dX7_doesAllApart_17 : decode cX7_doesAllApart 17 = .ok (.iload_n 2, 1) := by decide +kernel
theorem dX7_doesAllApart_18 : decode cX7_doesAllApart 18 = .ok (.iaload, 1) := by decide +kernel
theorem dX7_doesAllApart_19 : decode cX7_doesAllApart 19 = .ok (.iastore, 1) := by decide +kernel
theorem dX7_doesAllApart_20 : decode cX7_doesAllApart 20 = .ok (.iinc 2 1, 3) := by decide +kernel
theorem dX7_doesAllApart_23 : decode cX7_doesAllApart 23 = .ok (.goto (-21), 3) := by decide +kernel
theorem dX7_doesAllApart_26 : decode cX7_doesAllApart 26 = .ok (.aload_n 0, 1) := by decide +kernel
theorem dX7_doesAllApart_27 : decode cX7_doesAllApart 27 = .ok (.iload_n 1, 1) := by decide +kernel
theorem dX7_doesAllApart_28 : decode cX7_doesAllApart 28 = .ok (.invokevirtual 175, 3) := by decide +kernel
theorem dX7_doesAllApart_31 : decode cX7_doesAllApart 31 = .ok (.istore_n 2, 1) := by decide +kernel
theorem dX7_doesAllApart_32 : decode cX7_doesAllApart 32 = .ok (.iconst 0, 1) := by decide +kernel
theorem dX7_doesAllApart_33 : decode cX7_doesAllApart 33 = .ok (.istore_n 3, 1) := by decide +kernel
theorem dX7_doesAllApart_34 : decode cX7_doesAllApart 34 = .ok (.iload_n 3, 1) := by decide +kernel
theorem dX7_doesAllApart_35 : decode cX7_doesAllApart 35 = .ok (.bipush 8, 2) := by decide +kernel
theorem dX7_doesAllApart_37 : decode cX7_doesAllApart 37 = .ok (.if_icmp .ge 25, 3) := by decide +kernel
theorem dX7_doesAllApart_40 : decode cX7_doesAllApart 40 = .ok (.iload_n 2, 1) := by decide +kernel
theorem dX7_doesAllApart_41 : decode cX7_doesAllApart 41 = .ok (.ifCond .ne 21, 3) := by decide +kernel
theorem dX7_doesAllApart_44 : decode cX7_doesAllApart 44 = .ok (.aload_n 0, 1) := by decide +kernel
theorem dX7_doesAllApart_45 : decode cX7_doesAllApart 45 = .ok (.getfield 77, 3) := by decide +kernel
theorem dX7_doesAllApart_48 : decode cX7_doesAllApart 48 = .ok (.iload_n 3, 1) := by decide +kernel
theorem dX7_doesAllApart_49 : decode cX7_doesAllApart 49 = .ok (.aload_n 0, 1) := by decide +kernel
theorem dX7_doesAllApart_50 : decode cX7_doesAllApart 50 = .ok (.getfield 65, 3) := by decide +kernel
theorem dX7_doesAllApart_53 : decode cX7_doesAllApart 53 = .ok (.iload_n 3, 1) := by decide +kernel
theorem dX7_doesAllApart_54 : decode cX7_doesAllApart 54 = .ok (.iaload, 1) := by decide +kernel
theorem dX7_doesAllApart_55 : decode cX7_doesAllApart 55 = .ok (.iastore, 1) := by decide +kernel
theorem dX7_doesAllApart_56 : decode cX7_doesAllApart 56 = .ok (.iinc 3 1, 3) := by decide +kernel
theorem dX7_doesAllApart_59 : decode cX7_doesAllApart 59 = .ok (.goto (-25), 3) := by decide +kernel
theorem dX7_doesAllApart_62 : decode cX7_doesAllApart 62 = .ok (.iload_n 2, 1) := by decide +kernel
theorem dX7_doesAllApart_63 : decode cX7_doesAllApart 63 = .ok (.ireturn, 1) := by decide +kernel
set_option maxRecDepth 20000 in
theorem ggX7_isSetInOrder_X7_goesThrough : GoodIn wsX7_isSetInOrder wsX7_goesThrough := goodIn_r _ [6, 1, 7, 8, 9, 10, 11, 12, 5, 13, 14, 15, 16, 17, 18, 19, 20, 21, 22, 23, 24, 25, 26, 27, 28, 29, 30, 31, 32, 33, 34, 35, 36, 37, 38, 39, 40, 41, 42, 43, 44, 45, 46, 47, 48, 49, 55, 56, 57, 58, 59, 60, 61, 62, 63, 64, 65, 66, 67, 68, 69, 70, 71, 72, 73, 74, 75, 76, 77, 78, 79, 80, 81, 82, 83, 84, 85, 86] (by decide +kernel) (by decide +kernel)
set_option maxRecDepth 20000 in
theorem gX7_isSetInOrder_X7_goesThrough : GoodIn wsX7_isSetInOrder (wsV RX7 202 RX7 yX7_goesThrough wsX7_goesThrough) := goodIn_app (goodIn_of _ (by decide +kernel)) ggX7_isSetInOrder_X7_goesThrough
set_option maxRecDepth 20000 in
theorem ggX7_isSetInOrder_X7_isName : GoodIn wsX7_isSetInOrder wsX7_isName := goodIn_r _ [39, 40, 41, 5, 42] (by decide +kernel) (by decide +kernel)
set_option maxRecDepth 20000 in
theorem gX7_isSetInOrder_X7_isName : GoodIn wsX7_isSetInOrder (va_wsS RX7 94 yX7_isName wsX7_isName) := goodIn_app (goodIn_of _ (by decide +kernel)) ggX7_isSetInOrder_X7_isName
set_option maxRecDepth 20000 in
theorem ggX7_isSetInOrder_X7_goes : GoodIn wsX7_isSetInOrder wsX7_goes := goodIn_r _ [53, 54, 55, 56, 57, 58, 59, 60, 61, 62, 63, 64, 65, 66, 67, 68, 69, 70, 71, 72, 73, 74, 75, 76, 77, 78, 79, 80, 81, 82, 83, 84, 85, 86] (by decide +kernel) (by decide +kernel)
set_option maxRecDepth 20000 in
theorem gX7_isSetInOrder_X7_goes : GoodIn wsX7_isSetInOrder (wsV RX7 98 RX7 yX7_goes wsX7_goes) := goodIn_app (goodIn_of _ (by decide +kernel)) ggX7_isSetInOrder_X7_goes
set_option maxRecDepth 20000 in
theorem ggX7_isSetInOrder_X7_has : GoodIn wsX7_isSetInOrder wsX7_has := goodIn_r _ [45] (by decide +kernel) (by decide +kernel)
set_option maxRecDepth 20000 in
theorem gX7_isSetInOrder_X7_has : GoodIn wsX7_isSetInOrder (va_wsS RX7 148 yX7_has wsX7_has) := goodIn_app (goodIn_of _ (by decide +kernel)) ggX7_isSetInOrder_X7_has
theorem dX7_isSetInOrder_0 : decode cX7_isSetInOrder 0 = .ok (.aload_n 0, 1) := by decide +kernel
theorem dX7_isSetInOrder_1 : decode cX7_isSetInOrder 1 = .ok (.invokevirtual 202, 3) := by decide +kernel
theorem dX7_isSetInOrder_4 : decode cX7_isSetInOrder 4 = .ok (.aload_n 0, 1) := by decide +kernel
theorem dX7_isSetInOrder_5 : decode cX7_isSetInOrder 5 = .ok (.iload_n 1, 1) := by decide +kernel
theorem dX7_isSetInOrder_6 : decode cX7_isSetInOrder 6 = .ok (.invokestatic 94, 3) := by decide +kernel
theorem dX7_isSetInOrder_9 : decode cX7_isSetInOrder 9 = .ok (.iconst 1, 1) := by decide +kernel
theorem dX7_isSetInOrder_10 : decode cX7_isSetInOrder 10 = .ok (.iconst 1, 1) := by decide +kernel
theorem dX7_isSetInOrder_11 : decode cX7_isSetInOrder 11 = .ok (.invokevirtual 98, 3) := by decide +kernel
theorem dX7_isSetInOrder_14 : decode cX7_isSetInOrder 14 = .ok (.ifCond .eq 18, 3) := by decide +kernel
theorem dX7_isSetInOrder_17 : decode cX7_isSetInOrder 17 = .ok (.aload_n 0, 1) := by decide +kernel
theorem dX7_isSetInOrder_18 : decode cX7_isSetInOrder 18 = .ok (.getfield 152, 3) := by decide +kernel
theorem dX7_isSetInOrder_21 : decode cX7_isSetInOrder 21 = .ok (.iload_n 1, 1) := by decide +kernel
theorem dX7_isSetInOrder_22 : decode cX7_isSetInOrder 22 = .ok (.invokestatic 148, 3) := by decide +kernel
theorem dX7_isSetInOrder_25 : decode cX7_isSetInOrder 25 = .ok (.ifCond .eq 7, 3) := by decide +kernel
theorem dX7_isSetInOrder_28 : decode cX7_isSetInOrder 28 = .ok (.iconst 1, 1) := by decide +kernel
theorem dX7_isSetInOrder_29 : decode cX7_isSetInOrder 29 = .ok (.goto 4, 3) := by decide +kernel
theorem dX7_isSetInOrder_32 : decode cX7_isSetInOrder 32 = .ok (.iconst 0, 1) := by decide +kernel
theorem dX7_isSetInOrder_33 : decode cX7_isSetInOrder 33 = .ok (.ireturn, 1) := by decide +kernel
set_option maxRecDepth 20000 in
theorem ggX7_valueInOrder_X7_goesThrough : GoodIn wsX7_valueInOrder wsX7_goesThrough := goodIn_r _ [7, 1, 8, 9, 10, 11, 12, 13, 6, 14, 15, 2, 16, 17, 18, 19, 20, 21, 22, 23, 24, 25, 26, 27, 28, 29, 30, 31, 32, 33, 34, 35, 36, 37, 38, 39, 40, 41, 42, 43, 44, 45, 46, 47, 48, 49, 55, 56, 57, 58, 59, 60, 61, 62, 63, 64, 65, 66, 67, 68, 69, 70, 71, 72, 73, 74, 75, 76, 77, 78, 79, 80, 81, 82, 83, 84, 85, 86] (by decide +kernel) (by decide +kernel)
set_option maxRecDepth 20000 in
theorem gX7_valueInOrder_X7_goesThrough : GoodIn wsX7_valueInOrder (wsV RX7 202 RX7 yX7_goesThrough wsX7_goesThrough) := goodIn_app (goodIn_of _ (by decide +kernel)) ggX7_valueInOrder_X7_goesThrough
set_option maxRecDepth 20000 in
theorem ggX7_valueInOrder_X7_isName : GoodIn wsX7_valueInOrder wsX7_isName := goodIn_r _ [39, 40, 41, 6, 42] (by decide +kernel) (by decide +kernel)
set_option maxRecDepth 20000 in
theorem gX7_valueInOrder_X7_isName : GoodIn wsX7_valueInOrder (va_wsS RX7 94 yX7_isName wsX7_isName) := goodIn_app (goodIn_of _ (by decide +kernel)) ggX7_valueInOrder_X7_isName
set_option maxRecDepth 20000 in
theorem ggX7_valueInOrder_X7_has : GoodIn wsX7_valueInOrder wsX7_has := goodIn_r _ [45] (by decide +kernel) (by decide +kernel)
set_option maxRecDepth 20000 in
theorem gX7_valueInOrder_X7_has : GoodIn wsX7_valueInOrder (va_wsS RX7 148 yX7_has wsX7_has) := goodIn_app (goodIn_of _ (by decide +kernel)) ggX7_valueInOrder_X7_has
set_option maxRecDepth 20000 in
theorem ggX7_valueInOrder_X7_goes : GoodIn wsX7_valueInOrder wsX7_goes := goodIn_r _ [53, 54, 55, 56, 57, 58, 59, 60, 61, 62, 63, 64, 65, 66, 67, 68, 69, 70, 71, 72, 73, 74, 75, 76, 77, 78, 79, 80, 81, 82, 83, 84, 85, 86] (by decide +kernel) (by decide +kernel)
set_option maxRecDepth 20000 in
theorem gX7_valueInOrder_X7_goes : GoodIn wsX7_valueInOrder (wsV RX7 98 RX7 yX7_goes wsX7_goes) := goodIn_app (goodIn_of _ (by decide +kernel)) ggX7_valueInOrder_X7_goes
theorem dX7_valueInOrder_0 : decode cX7_valueInOrder 0 = .ok (.aload_n 0, 1) := by decide +kernel
theorem dX7_valueInOrder_1 : decode cX7_valueInOrder 1 = .ok (.invokevirtual 202, 3) := by decide +kernel
theorem dX7_valueInOrder_4 : decode cX7_valueInOrder 4 = .ok (.iload_n 1, 1) := by decide +kernel
theorem dX7_valueInOrder_5 : decode cX7_valueInOrder 5 = .ok (.invokestatic 94, 3) := by decide +kernel
theorem dX7_valueInOrder_8 : decode cX7_valueInOrder 8 = .ok (.istore_n 2, 1) := by decide +kernel
theorem dX7_valueInOrder_9 : decode cX7_valueInOrder 9 = .ok (.aload_n 0, 1) := by decide +kernel
theorem dX7_valueInOrder_10 : decode cX7_valueInOrder 10 = .ok (.iload_n 2, 1) := by decide +kernel
theorem dX7_valueInOrder_11 : decode cX7_valueInOrder 11 = .ok (.iload_n 2, 1) := by decide +kernel
theorem dX7_valueInOrder_12 : decode cX7_valueInOrder 12 = .ok (.ifCond .eq 18, 3) := by decide +kernel
theorem dX7_valueInOrder_15 : decode cX7_valueInOrder 15 = .ok (.aload_n 0, 1) := by decide +kernel
theorem dX7_valueInOrder_16 : decode cX7_valueInOrder 16 = .ok (.getfield 152, 3) := by decide +kernel
theorem dX7_valueInOrder_19 : decode cX7_valueInOrder 19 = .ok (.iload_n 1, 1) := by decide +kernel
theorem dX7_valueInOrder_20 : decode cX7_valueInOrder 20 = .ok (.invokestatic 148, 3) := by decide +kernel
theorem dX7_valueInOrder_23 : decode cX7_valueInOrder 23 = .ok (.ifCond .eq 7, 3) := by decide +kernel
theorem dX7_valueInOrder_26 : decode cX7_valueInOrder 26 = .ok (.iconst 1, 1) := by decide +kernel
theorem dX7_valueInOrder_27 : decode cX7_valueInOrder 27 = .ok (.goto 4, 3) := by decide +kernel
theorem dX7_valueInOrder_30 : decode cX7_valueInOrder 30 = .ok (.iconst 0, 1) := by decide +kernel
theorem dX7_valueInOrder_31 : decode cX7_valueInOrder 31 = .ok (.iconst 1, 1) := by decide +kernel
theorem dX7_valueInOrder_32 : decode cX7_valueInOrder 32 = .ok (.invokevirtual 98, 3) := by decide +kernel
theorem dX7_valueInOrder_35 : decode cX7_valueInOrder 35 = .ok (.ifCond .eq 12, 3) := by decide +kernel
theorem dX7_valueInOrder_38 : decode cX7_valueInOrder 38 = .ok (.aload_n 0, 1) := by decide +kernel
theorem dX7_valueInOrder_39 : decode cX7_valueInOrder 39 = .ok (.getfield 77, 3) := by decide +kernel
theorem dX7_valueInOrder_42 : decode cX7_valueInOrder 42 = .ok (.iload_n 1, 1) := by decide +kernel
theorem dX7_valueInOrder_43 : decode cX7_valueInOrder 43 = .ok (.iaload, 1) := by decide +kernel
theorem dX7_valueInOrder_44 : decode cX7_valueInOrder 44 = .ok (.goto 4, 3) := by decide +kernel
theorem dX7_valueInOrder_47 : decode cX7_valueInOrder 47 = .ok (.iconst 0, 1) := by decide +kernel
theorem dX7_valueInOrder_48 : decode cX7_valueInOrder 48 = .ok (.ireturn, 1) := by decide +kernel
set_option maxRecDepth 20000 in
theorem ggX7_unlikeInOrder_X7_goesThrough : GoodIn wsX7_unlikeInOrder wsX7_goesThrough := goodIn_r _ [9, 1, 10, 11, 12, 13, 14, 15, 8, 16, 17, 3, 18, 19, 20, 21, 22, 23, 24, 25, 26, 27, 28, 29, 30, 31, 32, 33, 34, 35, 36, 37, 38, 39, 40, 41, 42, 43, 44, 45, 46, 47, 48, 49, 50, 51, 57, 58, 59, 60, 61, 62, 63, 64, 65, 66, 67, 68, 69, 70, 71, 72, 73, 74, 75, 76, 77, 78, 79, 80, 81, 82, 83, 84, 85, 86, 87, 88] (by decide +kernel) (by decide +kernel)
set_option maxRecDepth 20000 in
theorem gX7_unlikeInOrder_X7_goesThrough : GoodIn wsX7_unlikeInOrder (wsV RX7 202 RX7 yX7_goesThrough wsX7_goesThrough) := goodIn_app (goodIn_of _ (by decide +kernel)) ggX7_unlikeInOrder_X7_goesThrough
set_option maxRecDepth 20000 in
theorem ggX7_unlikeInOrder_X7_has : GoodIn wsX7_unlikeInOrder wsX7_has := goodIn_r _ [47] (by decide +kernel) (by decide +kernel)
set_option maxRecDepth 20000 in
theorem gX7_unlikeInOrder_X7_has : GoodIn wsX7_unlikeInOrder (va_wsS RX7 148 yX7_has wsX7_has) := goodIn_app (goodIn_of _ (by decide +kernel)) ggX7_unlikeInOrder_X7_has
set_option maxRecDepth 20000 in
theorem ggX7_unlikeInOrder_X7_told : GoodIn wsX7_unlikeInOrder wsX7_told := goodIn_r _ [55, 56, 57, 58, 59, 60, 61, 62, 63, 64, 65, 66, 67, 68, 69, 70, 71, 72, 73, 74, 75, 76, 77, 78, 79, 80, 81, 82, 83, 84, 85, 86, 87, 88] (by decide +kernel) (by decide +kernel)
set_option maxRecDepth 20000 in
theorem gX7_unlikeInOrder_X7_told : GoodIn wsX7_unlikeInOrder (wsV RX7 118 RX7 yX7_told wsX7_told) := goodIn_app (goodIn_of _ (by decide +kernel)) ggX7_unlikeInOrder_X7_told
theorem dX7_unlikeInOrder_0 : decode cX7_unlikeInOrder 0 = .ok (.aload_n 0, 1) := by decide +kernel
theorem dX7_unlikeInOrder_1 : decode cX7_unlikeInOrder 1 = .ok (.invokevirtual 202, 3) := by decide +kernel
theorem dX7_unlikeInOrder_4 : decode cX7_unlikeInOrder 4 = .ok (.iconst 0, 1) := by decide +kernel
theorem dX7_unlikeInOrder_5 : decode cX7_unlikeInOrder 5 = .ok (.istore_n 1, 1) := by decide +kernel
theorem dX7_unlikeInOrder_6 : decode cX7_unlikeInOrder 6 = .ok (.iconst 0, 1) := by decide +kernel
theorem dX7_unlikeInOrder_7 : decode cX7_unlikeInOrder 7 = .ok (.istore_n 2, 1) := by decide +kernel
theorem dX7_unlikeInOrder_8 : decode cX7_unlikeInOrder 8 = .ok (.iload_n 2, 1) := by decide +kernel
theorem dX7_unlikeInOrder_9 : decode cX7_unlikeInOrder 9 = .ok (.bipush 8, 2) := by decide +kernel
theorem dX7_unlikeInOrder_11 : decode cX7_unlikeInOrder 11 = .ok (.if_icmp .ge 65, 3) := by decide +kernel
theorem dX7_unlikeInOrder_14 : decode cX7_unlikeInOrder 14 = .ok (.aload_n 0, 1) := by decide +kernel
theorem dX7_unlikeInOrder_15 : decode cX7_unlikeInOrder 15 = .ok (.getfield 152, 3) := by decide +kernel
theorem dX7_unlikeInOrder_18 : decode cX7_unlikeInOrder 18 = .ok (.iload_n 2, 1) := by decide +kernel
theorem dX7_unlikeInOrder_19 : decode cX7_unlikeInOrder 19 = .ok (.invokestatic 148, 3) := by decide +kernel
theorem dX7_unlikeInOrder_22 : decode cX7_unlikeInOrder 22 = .ok (.istore_n 3, 1) := by decide +kernel
theorem dX7_unlikeInOrder_23 : decode cX7_unlikeInOrder 23 = .ok (.iload_n 1, 1) := by decide +kernel
theorem dX7_unlikeInOrder_24 : decode cX7_unlikeInOrder 24 = .ok (.iload_n 3, 1) := by decide +kernel
theorem dX7_unlikeInOrder_25 : decode cX7_unlikeInOrder 25 = .ok (.aload_n 0, 1) := by decide +kernel
theorem dX7_unlikeInOrder_26 : decode cX7_unlikeInOrder 26 = .ok (.getfield 40, 3) := by decide +kernel
theorem dX7_unlikeInOrder_29 : decode cX7_unlikeInOrder 29 = .ok (.iload_n 2, 1) := by decide +kernel
theorem dX7_unlikeInOrder_30 : decode cX7_unlikeInOrder 30 = .ok (.iaload, 1) := by decide +kernel
theorem dX7_unlikeInOrder_31 : decode cX7_unlikeInOrder 31 = .ok (.ifCond .le 7, 3) := by decide +kernel
theorem dX7_unlikeInOrder_34 : decode cX7_unlikeInOrder 34 = .ok (.iconst 1, 1) := by decide +kernel
theorem dX7_unlikeInOrder_35 : decode cX7_unlikeInOrder 35 = .ok (.goto 4, 3) := by decide +kernel
theorem dX7_unlikeInOrder_38 : decode cX7_unlikeInOrder 38 = .ok (.iconst 0, 1) := by decide +kernel
theorem dX7_unlikeInOrder_39 : decode cX7_unlikeInOrder 39 = .ok (.if_icmp .ne 22, 3) := by decide +kernel
theorem dX7_unlikeInOrder_42 : decode cX7_unlikeInOrder 42 = .ok (.iload_n 3, 1) := by decide +kernel
theorem dX7_unlikeInOrder_43 : decode cX7_unlikeInOrder 43 = .ok (.ifCond .eq 24, 3) := by decide +kernel
theorem dX7_unlikeInOrder_46 : decode cX7_unlikeInOrder 46 = .ok (.aload_n 0, 1) := by decide +kernel
theorem dX7_unlikeInOrder_47 : decode cX7_unlikeInOrder 47 = .ok (.getfield 77, 3) := by decide +kernel
theorem dX7_unlikeInOrder_50 : decode cX7_unlikeInOrder 50 = .ok (.iload_n 2, 1) := by decide +kernel
theorem dX7_unlikeInOrder_51 : decode cX7_unlikeInOrder 51 = .ok (.iaload, 1) := by decide +kernel
theorem dX7_unlikeInOrder_52 : decode cX7_unlikeInOrder 52 = .ok (.aload_n 0, 1) := by decide +kernel
theorem dX7_unlikeInOrder_53 : decode cX7_unlikeInOrder 53 = .ok (.getfield 37, 3) := by decide +kernel
theorem dX7_unlikeInOrder_56 : decode cX7_unlikeInOrder 56 = .ok (.iload_n 2, 1) := by decide +kernel
theorem dX7_unlikeInOrder_57 : decode cX7_unlikeInOrder 57 = .ok (.iaload, 1) := by decide +kernel
theorem dX7_unlikeInOrder_58 : decode cX7_unlikeInOrder 58 = .ok (.if_icmp .eq 9, 3) := by decide +kernel
theorem dX7_unlikeInOrder_61 : decode cX7_unlikeInOrder 61 = .ok (.iconst 1, 1) := by decide +kernel
theorem dX7_unlikeInOrder_62 : decode cX7_unlikeInOrder 62 = .ok (.iload_n 2, 1) := by decide +kernel
theorem dX7_unlikeInOrder_63 : decode cX7_unlikeInOrder 63 = .ok (.ishl, 1) := by decide +kernel
theorem dX7_unlikeInOrder_64 : decode cX7_unlikeInOrder 64 = .ok (.goto 4, 3) := by decide +kernel
theorem dX7_unlikeInOrder_67 : decode cX7_unlikeInOrder 67 = .ok (.iconst 0, 1) := by decide +kernel
theorem dX7_unlikeInOrder_68 : decode cX7_unlikeInOrder 68 = .ok (.ior, 1) := by decide +kernel
theorem dX7_unlikeInOrder_69 : decode cX7_unlikeInOrder 69 = .ok (.istore_n 1, 1) := by decide +kernel
theorem dX7_unlikeInOrder_70 : decode cX7_unlikeInOrder 70 = .ok (.iinc 2 1, 3) := by decide +kernel
theorem dX7_unlikeInOrder_73 : decode cX7_unlikeInOrder 73 = .ok (.goto (-65), 3) := by decide +kernel
theorem dX7_unlikeInOrder_76 : decode cX7_unlikeInOrder 76 = .ok (.aload_n 0, 1) := by decide +kernel
theorem dX7_unlikeInOrder_77 : decode cX7_unlikeInOrder 77 = .ok (.iload_n 1, 1) := by decide +kernel
theorem dX7_unlikeInOrder_78 : decode cX7_unlikeInOrder 78 = .ok (.invokevirtual 118, 3) := by decide +kernel
theorem dX7_unlikeInOrder_81 : decode cX7_unlikeInOrder 81 = .ok (.ireturn, 1) := by decide +kernel
set_option maxRecDepth 20000 in
theorem ggX7_runs__X7_told : GoodIn wsX7_runs_ wsX7_told := goodIn_r _ [6, 7, 8, 9, 10, 11, 12, 13, 14, 15, 16, 17, 18, 19, 20, 21, 22, 23, 24, 25, 26, 27, 28, 29, 30, 31, 32, 33, 34, 35, 36, 37, 38, 39] (by decide +kernel) (by decide +kernel)
set_option maxRecDepth 20000 in
theorem gX7_runs__X7_told : GoodIn wsX7_runs_ (wsV RX7 118 RX7 yX7_told wsX7_told) := goodIn_app (goodIn_of _ (by decide +kernel)) ggX7_runs__X7_told
theorem dX7_runs__0 : decode cX7_runs_ 0 = .ok (.aload_n 0, 1) := by decide +kernel
theorem dX7_runs__1 : decode cX7_runs_ 1 = .ok (.aload_n 0, 1) := by decide +kernel
theorem dX7_runs__2 : decode cX7_runs_ 2 = .ok (.getfield 115, 3) := by decide +kernel
theorem dX7_runs__5 : decode cX7_runs_ 5 = .ok (.invokevirtual 118, 3) := by decide +kernel
theorem dX7_runs__8 : decode cX7_runs_ 8 = .ok (.ireturn, 1) := by decide +kernel
theorem dX7_inLog_0 : decode cX7_inLog 0 = .ok (.iconst 0, 1) := by decide +kernel
theorem dX7_inLog_1 : decode cX7_inLog 1 = .ok (.istore_n 1, 1) := by decide +kernel
theorem dX7_inLog_2 : decode cX7_inLog 2 = .ok (.iconst 1, 1) := by decide +kernel
theorem dX7_inLog_3 : decode cX7_inLog 3 = .ok (.istore_n 2, 1) := by decide +kernel
theorem dX7_inLog_4 : decode cX7_inLog 4 = .ok (.iload_n 2, 1) := by decide +kernel
theorem dX7_inLog_5 : decode cX7_inLog 5 = .ok (.aload_n 0, 1) := by decide +kernel
theorem dX7_inLog_6 : decode cX7_inLog 6 = .ok (.getfield 115, 3) := by decide +kernel
theorem dX7_inLog_9 : decode cX7_inLog 9 = .ok (.if_icmp .gt 26, 3) := by decide +kernel
theorem dX7_inLog_12 : decode cX7_inLog 12 = .ok (.iload_n 1, 1) := by decide +kernel
theorem dX7_inLog_13 : decode cX7_inLog 13 = .ok (.aload_n 0, 1) := by decide +kernel
theorem dX7_inLog_14 : decode cX7_inLog 14 = .ok (.getfield 62, 3) := by decide +kernel
theorem dX7_inLog_17 : decode cX7_inLog 17 = .ok (.iload_n 2, 1) := by decide +kernel
theorem dX7_inLog_18 : decode cX7_inLog 18 = .ok (.baload, 1) := by decide +kernel
theorem dX7_inLog_19 : decode cX7_inLog 19 = .ok (.ifCond .eq 7, 3) := by decide +kernel
theorem dX7_inLog_22 : decode cX7_inLog 22 = .ok (.iconst 0, 1) := by decide +kernel
theorem dX7_inLog_23 : decode cX7_inLog 23 = .ok (.goto 4, 3) := by decide +kernel
theorem dX7_inLog_26 : decode cX7_inLog 26 = .ok (.iconst 1, 1) := by decide +kernel
theorem dX7_inLog_27 : decode cX7_inLog 27 = .ok (.iadd, 1) := by decide +kernel
theorem dX7_inLog_28 : decode cX7_inLog 28 = .ok (.istore_n 1, 1) := by decide +kernel
theorem dX7_inLog_29 : decode cX7_inLog 29 = .ok (.iinc 2 1, 3) := by decide +kernel
theorem dX7_inLog_32 : decode cX7_inLog 32 = .ok (.goto (-28), 3) := by decide +kernel
theorem dX7_inLog_35 : decode cX7_inLog 35 = .ok (.iload_n 1, 1) := by decide +kernel
theorem dX7_inLog_36 : decode cX7_inLog 36 = .ok (.ireturn, 1) := by decide +kernel
set_option maxRecDepth 20000 in
theorem ggX7_logged_X7_inLog : GoodIn wsX7_logged wsX7_inLog := goodIn_r _ [5, 6, 7, 13, 14, 15, 16, 17, 18, 19, 20, 21, 22, 23, 24, 25, 26, 27, 28, 29, 30, 31, 32, 33, 34, 35, 36, 37, 38, 39, 40, 41, 42, 43, 44] (by decide +kernel) (by decide +kernel)
set_option maxRecDepth 20000 in
theorem gX7_logged_X7_inLog : GoodIn wsX7_logged (wsV RX7 205 RX7 yX7_inLog wsX7_inLog) := goodIn_app (goodIn_of _ (by decide +kernel)) ggX7_logged_X7_inLog
set_option maxRecDepth 20000 in
theorem ggX7_logged_X7_told : GoodIn wsX7_logged wsX7_told := goodIn_r _ [11, 12, 13, 14, 15, 16, 17, 18, 19, 20, 21, 22, 23, 24, 25, 26, 27, 28, 29, 30, 31, 32, 33, 34, 35, 36, 37, 38, 39, 40, 41, 42, 43, 44] (by decide +kernel) (by decide +kernel)
set_option maxRecDepth 20000 in
theorem gX7_logged_X7_told : GoodIn wsX7_logged (wsV RX7 118 RX7 yX7_told wsX7_told) := goodIn_app (goodIn_of _ (by decide +kernel)) ggX7_logged_X7_told
theorem dX7_logged_0 : decode cX7_logged 0 = .ok (.aload_n 0, 1) := by decide +kernel
theorem dX7_logged_1 : decode cX7_logged 1 = .ok (.aload_n 0, 1) := by decide +kernel
theorem dX7_logged_2 : decode cX7_logged 2 = .ok (.invokevirtual 205, 3) := by decide +kernel
theorem dX7_logged_5 : decode cX7_logged 5 = .ok (.invokevirtual 118, 3) := by decide +kernel
theorem dX7_logged_8 : decode cX7_logged 8 = .ok (.ireturn, 1) := by decide +kernel
set_option maxRecDepth 20000 in
theorem ggX7_logAt_X7_inLog : GoodIn wsX7_logAt wsX7_inLog := goodIn_r _ [8, 9, 1, 18, 19, 20, 21, 22, 23, 24, 25, 26, 27, 28, 29, 30, 31, 32, 33, 34, 35, 36, 37, 38, 39, 40, 41, 42, 43, 44, 45, 46, 47, 48, 49] (by decide +kernel) (by decide +kernel)
set_option maxRecDepth 20000 in
theorem gX7_logAt_X7_inLog : GoodIn wsX7_logAt (wsV RX7 205 RX7 yX7_inLog wsX7_inLog) := goodIn_app (goodIn_of _ (by decide +kernel)) ggX7_logAt_X7_inLog
set_option maxRecDepth 20000 in
theorem ggX7_logAt_X7_in : GoodIn wsX7_logAt wsX7_in := goodIn_r _ [12] (by decide +kernel) (by decide +kernel)
set_option maxRecDepth 20000 in
theorem gX7_logAt_X7_in : GoodIn wsX7_logAt (va_wsS RX7 90 yX7_in wsX7_in) := goodIn_app (goodIn_of _ (by decide +kernel)) ggX7_logAt_X7_in
set_option maxRecDepth 20000 in
theorem ggX7_logAt_X7_goes : GoodIn wsX7_logAt wsX7_goes := goodIn_r _ [16, 17, 18, 19, 20, 21, 22, 23, 24, 25, 26, 27, 28, 29, 30, 31, 32, 33, 34, 35, 36, 37, 38, 39, 40, 41, 42, 43, 44, 45, 46, 47, 48, 49] (by decide +kernel) (by decide +kernel)
set_option maxRecDepth 20000 in
theorem gX7_logAt_X7_goes : GoodIn wsX7_logAt (wsV RX7 98 RX7 yX7_goes wsX7_goes) := goodIn_app (goodIn_of _ (by decide +kernel)) ggX7_logAt_X7_goes
theorem dX7_logAt_0 : decode cX7_logAt 0 = .ok (.aload_n 0, 1) := by decide +kernel
theorem dX7_logAt_1 : decode cX7_logAt 1 = .ok (.iload_n 1, 1) := by decide +kernel
theorem dX7_logAt_2 : decode cX7_logAt 2 = .ok (.iconst 0, 1) := by decide +kernel
theorem dX7_logAt_3 : decode cX7_logAt 3 = .ok (.aload_n 0, 1) := by decide +kernel
theorem dX7_logAt_4 : decode cX7_logAt 4 = .ok (.invokevirtual 205, 3) := by decide +kernel
theorem dX7_logAt_7 : decode cX7_logAt 7 = .ok (.iconst 1, 1) := by decide +kernel
theorem dX7_logAt_8 : decode cX7_logAt 8 = .ok (.isub, 1) := by decide +kernel
theorem dX7_logAt_9 : decode cX7_logAt 9 = .ok (.invokestatic 90, 3) := by decide +kernel
theorem dX7_logAt_12 : decode cX7_logAt 12 = .ok (.iconst 1, 1) := by decide +kernel
theorem dX7_logAt_13 : decode cX7_logAt 13 = .ok (.iconst 1, 1) := by decide +kernel
theorem dX7_logAt_14 : decode cX7_logAt 14 = .ok (.invokevirtual 98, 3) := by decide +kernel
theorem dX7_logAt_17 : decode cX7_logAt 17 = .ok (.ifCond .ne 5, 3) := by decide +kernel
theorem dX7_logAt_20 : decode cX7_logAt 20 = .ok (.iconst 0, 1) := by decide +kernel
theorem dX7_logAt_21 : decode cX7_logAt 21 = .ok (.ireturn, 1) := by decide +kernel
theorem dX7_logAt_22 : decode cX7_logAt 22 = .ok (.iload_n 1, 1) := by decide +kernel
theorem dX7_logAt_23 : decode cX7_logAt 23 = .ok (.istore_n 2, 1) := by decide +kernel
theorem dX7_logAt_24 : decode cX7_logAt 24 = .ok (.iconst 1, 1) := by decide +kernel
theorem dX7_logAt_25 : decode cX7_logAt 25 = .ok (.istore_n 3, 1) := by decide +kernel
theorem dX7_logAt_26 : decode cX7_logAt 26 = .ok (.aload_n 0, 1) := by decide +kernel
theorem dX7_logAt_27 : decode cX7_logAt 27 = .ok (.getfield 62, 3) := by decide +kernel
theorem dX7_logAt_30 : decode cX7_logAt 30 = .ok (.iload_n 3, 1) := by decide +kernel
theorem dX7_logAt_31 : decode cX7_logAt 31 = .ok (.baload, 1) := by decide +kernel
theorem dX7_logAt_32 : decode cX7_logAt 32 = .ok (.ifCond .ne 7, 3) := by decide +kernel
theorem dX7_logAt_35 : decode cX7_logAt 35 = .ok (.iload_n 2, 1) := by decide +kernel
theorem dX7_logAt_36 : decode cX7_logAt 36 = .ok (.ifCond .le 26, 3) := by decide +kernel
theorem dX7_logAt_39 : decode cX7_logAt 39 = .ok (.iload_n 2, 1) := by decide +kernel
theorem dX7_logAt_40 : decode cX7_logAt 40 = .ok (.aload_n 0, 1) := by decide +kernel
theorem dX7_logAt_41 : decode cX7_logAt 41 = .ok (.getfield 62, 3) := by decide +kernel
theorem dX7_logAt_44 : decode cX7_logAt 44 = .ok (.iload_n 3, 1) := by decide +kernel
theorem dX7_logAt_45 : decode cX7_logAt 45 = .ok (.baload, 1) := by decide +kernel
theorem dX7_logAt_46 : decode cX7_logAt 46 = .ok (.ifCond .eq 7, 3) := by decide +kernel
theorem dX7_logAt_49 : decode cX7_logAt 49 = .ok (.iconst 0, 1) := by decide +kernel
theorem dX7_logAt_50 : decode cX7_logAt 50 = .ok (.goto 4, 3) := by decide +kernel
theorem dX7_logAt_53 : decode cX7_logAt 53 = .ok (.iconst 1, 1) := by decide +kernel
theorem dX7_logAt_54 : decode cX7_logAt 54 = .ok (.isub, 1) := by decide +kernel
theorem dX7_logAt_55 : decode cX7_logAt 55 = .ok (.istore_n 2, 1) := by decide +kernel
theorem dX7_logAt_56 : decode cX7_logAt 56 = .ok (.iinc 3 1, 3) := by decide +kernel
theorem dX7_logAt_59 : decode cX7_logAt 59 = .ok (.goto (-33), 3) := by decide +kernel
theorem dX7_logAt_62 : decode cX7_logAt 62 = .ok (.sipush 1000, 3) := by decide +kernel
theorem dX7_logAt_65 : decode cX7_logAt 65 = .ok (.iload_n 3, 1) := by decide +kernel
theorem dX7_logAt_66 : decode cX7_logAt 66 = .ok (.imul, 1) := by decide +kernel
theorem dX7_logAt_67 : decode cX7_logAt 67 = .ok (.bipush 10, 2) := by decide +kernel
theorem dX7_logAt_69 : decode cX7_logAt 69 = .ok (.aload_n 0, 1) := by decide +kernel
theorem dX7_logAt_70 : decode cX7_logAt 70 = .ok (.getfield 46, 3) := by decide +kernel
theorem dX7_logAt_73 : decode cX7_logAt 73 = .ok (.iload_n 3, 1) := by decide +kernel
theorem dX7_logAt_74 : decode cX7_logAt 74 = .ok (.iaload, 1) := by decide +kernel
theorem dX7_logAt_75 : decode cX7_logAt 75 = .ok (.imul, 1) := by decide +kernel
theorem dX7_logAt_76 : decode cX7_logAt 76 = .ok (.iadd, 1) := by decide +kernel
theorem dX7_logAt_77 : decode cX7_logAt 77 = .ok (.aload_n 0, 1) := by decide +kernel
theorem dX7_logAt_78 : decode cX7_logAt 78 = .ok (.getfield 49, 3) := by decide +kernel
theorem dX7_logAt_81 : decode cX7_logAt 81 = .ok (.iload_n 3, 1) := by decide +kernel
theorem dX7_logAt_82 : decode cX7_logAt 82 = .ok (.iaload, 1) := by decide +kernel
theorem dX7_logAt_83 : decode cX7_logAt 83 = .ok (.iadd, 1) := by decide +kernel
theorem dX7_logAt_84 : decode cX7_logAt 84 = .ok (.ireturn, 1) := by decide +kernel
set_option maxRecDepth 20000 in
theorem ggX7_forget_X7_isUser : GoodIn wsX7_forget wsX7_isUser := goodIn_r _ [9, 10, 11, 8, 12] (by decide +kernel) (by decide +kernel)
set_option maxRecDepth 20000 in
theorem gX7_forget_X7_isUser : GoodIn wsX7_forget (va_wsS RX7 102 yX7_isUser wsX7_isUser) := goodIn_app (goodIn_of _ (by decide +kernel)) ggX7_forget_X7_isUser
set_option maxRecDepth 20000 in
theorem ggX7_forget_X7_goes : GoodIn wsX7_forget wsX7_goes := goodIn_r _ [16, 17, 18, 19, 20, 21, 22, 23, 24, 25, 26, 27, 28, 29, 30, 31, 32, 33, 34, 35, 36, 37, 38, 39, 40, 41, 42, 43, 44, 45, 46, 47, 48, 49] (by decide +kernel) (by decide +kernel)
set_option maxRecDepth 20000 in
theorem gX7_forget_X7_goes : GoodIn wsX7_forget (wsV RX7 98 RX7 yX7_goes wsX7_goes) := goodIn_app (goodIn_of _ (by decide +kernel)) ggX7_forget_X7_goes
theorem dX7_forget_0 : decode cX7_forget 0 = .ok (.aload_n 0, 1) := by decide +kernel
theorem dX7_forget_1 : decode cX7_forget 1 = .ok (.iload_n 1, 1) := by decide +kernel
theorem dX7_forget_2 : decode cX7_forget 2 = .ok (.invokestatic 102, 3) := by decide +kernel
theorem dX7_forget_5 : decode cX7_forget 5 = .ok (.iconst 1, 1) := by decide +kernel
theorem dX7_forget_6 : decode cX7_forget 6 = .ok (.iconst 1, 1) := by decide +kernel
theorem dX7_forget_7 : decode cX7_forget 7 = .ok (.invokevirtual 98, 3) := by decide +kernel
theorem dX7_forget_10 : decode cX7_forget 10 = .ok (.ifCond .ne 5, 3) := by decide +kernel
theorem dX7_forget_13 : decode cX7_forget 13 = .ok (.iconst 0, 1) := by decide +kernel
theorem dX7_forget_14 : decode cX7_forget 14 = .ok (.ireturn, 1) := by decide +kernel
theorem dX7_forget_15 : decode cX7_forget 15 = .ok (.iconst 0, 1) := by decide +kernel
theorem dX7_forget_16 : decode cX7_forget 16 = .ok (.istore_n 2, 1) := by decide +kernel
theorem dX7_forget_17 : decode cX7_forget 17 = .ok (.iconst 1, 1) := by decide +kernel
theorem dX7_forget_18 : decode cX7_forget 18 = .ok (.istore_n 3, 1) := by decide +kernel
theorem dX7_forget_19 : decode cX7_forget 19 = .ok (.iload_n 3, 1) := by decide +kernel
theorem dX7_forget_20 : decode cX7_forget 20 = .ok (.aload_n 0, 1) := by decide +kernel
theorem dX7_forget_21 : decode cX7_forget 21 = .ok (.getfield 115, 3) := by decide +kernel
theorem dX7_forget_24 : decode cX7_forget 24 = .ok (.if_icmp .gt 53, 3) := by decide +kernel
theorem dX7_forget_27 : decode cX7_forget 27 = .ok (.aload_n 0, 1) := by decide +kernel
theorem dX7_forget_28 : decode cX7_forget 28 = .ok (.getfield 62, 3) := by decide +kernel
theorem dX7_forget_31 : decode cX7_forget 31 = .ok (.iload_n 3, 1) := by decide +kernel
theorem dX7_forget_32 : decode cX7_forget 32 = .ok (.baload, 1) := by decide +kernel
theorem dX7_forget_33 : decode cX7_forget 33 = .ok (.ifCond .ne 38, 3) := by decide +kernel
theorem dX7_forget_36 : decode cX7_forget 36 = .ok (.aload_n 0, 1) := by decide +kernel
theorem dX7_forget_37 : decode cX7_forget 37 = .ok (.getfield 49, 3) := by decide +kernel
theorem dX7_forget_40 : decode cX7_forget 40 = .ok (.iload_n 3, 1) := by decide +kernel
theorem dX7_forget_41 : decode cX7_forget 41 = .ok (.iaload, 1) := by decide +kernel
theorem dX7_forget_42 : decode cX7_forget 42 = .ok (.iload_n 1, 1) := by decide +kernel
theorem dX7_forget_43 : decode cX7_forget 43 = .ok (.if_icmp .ne 28, 3) := by decide +kernel
theorem dX7_forget_46 : decode cX7_forget 46 = .ok (.aload_n 0, 1) := by decide +kernel
theorem dX7_forget_47 : decode cX7_forget 47 = .ok (.getfield 31, 3) := by decide +kernel
theorem dX7_forget_50 : decode cX7_forget 50 = .ok (.aload_n 0, 1) := by decide +kernel
theorem dX7_forget_51 : decode cX7_forget 51 = .ok (.getfield 46, 3) := by decide +kernel
theorem dX7_forget_54 : decode cX7_forget 54 = .ok (.iload_n 3, 1) := by decide +kernel
theorem dX7_forget_55 : decode cX7_forget 55 = .ok (.iaload, 1) := by decide +kernel
theorem dX7_forget_56 : decode cX7_forget 56 = .ok (.iaload, 1) := by decide +kernel
theorem dX7_forget_57 : decode cX7_forget 57 = .ok (.iload_n 3, 1) := by decide +kernel
theorem dX7_forget_58 : decode cX7_forget 58 = .ok (.if_icmp .eq 13, 3) := by decide +kernel
theorem dX7_forget_61 : decode cX7_forget 61 = .ok (.aload_n 0, 1) := by decide +kernel
theorem dX7_forget_62 : decode cX7_forget 62 = .ok (.getfield 62, 3) := by decide +kernel
theorem dX7_forget_65 : decode cX7_forget 65 = .ok (.iload_n 3, 1) := by decide +kernel
theorem dX7_forget_66 : decode cX7_forget 66 = .ok (.iconst 1, 1) := by decide +kernel
theorem dX7_forget_67 : decode cX7_forget 67 = .ok (.bastore, 1) := by decide +kernel
theorem dX7_forget_68 : decode cX7_forget 68 = .ok (.iinc 2 1, 3) := by decide +kernel
theorem dX7_forget_71 : decode cX7_forget 71 = .ok (.iinc 3 1, 3) := by decide +kernel
theorem dX7_forget_74 : decode cX7_forget 74 = .ok (.goto (-55), 3) := by decide +kernel
theorem dX7_forget_77 : decode cX7_forget 77 = .ok (.iload_n 2, 1) := by decide +kernel
theorem dX7_forget_78 : decode cX7_forget 78 = .ok (.ireturn, 1) := by decide +kernel
set_option maxRecDepth 20000 in
theorem ggJ5_init_d00df_J2_newBytesFor_77867 : GoodIn wsJ5_init_d00df wsJ2_newBytesFor_77867 := goodIn_r _ [11, 5, 12, 13, 10, 14, 15] (by decide +kernel) (by decide +kernel)
set_option maxRecDepth 20000 in
theorem gJ5_init_d00df_J2_newBytesFor_77867 : GoodIn wsJ5_init_d00df (va_wsS RJ5 26 yJ2_newBytesFor_77867 wsJ2_newBytesFor_77867) := goodIn_app (goodIn_of _ (by decide +kernel)) ggJ5_init_d00df_J2_newBytesFor_77867
theorem dJ5_init_d00df_0 : decode cJ5_init_d00df 0 = .ok (.aload_n 0, 1) := by decide +kernel
theorem dJ5_init_d00df_1 : decode cJ5_init_d00df 1 = .ok (.invokespecial 3, 3) := by decide +kernel
theorem dJ5_init_d00df_4 : decode cJ5_init_d00df 4 = .ok (.getstatic 18, 3) := by decide +kernel
theorem dJ5_init_d00df_7 : decode cJ5_init_d00df 7 = .ok (.ifCond .eq 18, 3) := by decide +kernel
theorem dJ5_init_d00df_10 : decode cJ5_init_d00df 10 = .ok (.aload_n 0, 1) := by decide +kernel
theorem dJ5_init_d00df_11 : decode cJ5_init_d00df 11 = .ok (.iload_n 1, 1) := by decide +kernel
theorem dJ5_init_d00df_12 : decode cJ5_init_d00df 12 = .ok (.newarray .byte, 2) := by decide +kernel
theorem dJ5_init_d00df_14 : decode cJ5_init_d00df 14 = .ok (.putfield 15, 3) := by decide +kernel
theorem dJ5_init_d00df_17 : decode cJ5_init_d00df 17 = .ok (.aload_n 0, 1) := by decide +kernel
theorem dJ5_init_d00df_18 : decode cJ5_init_d00df 18 = .ok (.iconst 0, 1) := by decide +kernel
theorem dJ5_init_d00df_19 : decode cJ5_init_d00df 19 = .ok (.putfield 22, 3) := by decide +kernel
theorem dJ5_init_d00df_22 : decode cJ5_init_d00df 22 = .ok (.goto 16, 3) := by decide +kernel
theorem dJ5_init_d00df_25 : decode cJ5_init_d00df 25 = .ok (.aload_n 0, 1) := by decide +kernel
theorem dJ5_init_d00df_26 : decode cJ5_init_d00df 26 = .ok (.iload_n 1, 1) := by decide +kernel
theorem dJ5_init_d00df_27 : decode cJ5_init_d00df 27 = .ok (.invokestatic 26, 3) := by decide +kernel
theorem dJ5_init_d00df_30 : decode cJ5_init_d00df 30 = .ok (.putfield 15, 3) := by decide +kernel
theorem dJ5_init_d00df_33 : decode cJ5_init_d00df 33 = .ok (.aload_n 0, 1) := by decide +kernel
theorem dJ5_init_d00df_34 : decode cJ5_init_d00df 34 = .ok (.iconst 1, 1) := by decide +kernel
theorem dJ5_init_d00df_35 : decode cJ5_init_d00df 35 = .ok (.putfield 22, 3) := by decide +kernel
theorem dJ5_init_d00df_38 : decode cJ5_init_d00df 38 = .ok (.return_, 1) := by decide +kernel
theorem dJ5_length_8abf5_0 : decode cJ5_length_8abf5 0 = .ok (.aload_n 0, 1) := by decide +kernel
theorem dJ5_length_8abf5_1 : decode cJ5_length_8abf5 1 = .ok (.getfield 79, 3) := by decide +kernel
theorem dJ5_length_8abf5_4 : decode cJ5_length_8abf5 4 = .ok (.ireturn, 1) := by decide +kernel
set_option maxRecDepth 20000 in
theorem ggJ5_ensureCapacityInternal_d00df_J5_newCapacity_0f7a4 : GoodIn wsJ5_ensureCapacityInternal_d00df wsJ5_newCapacity_0f7a4 := goodIn_r _ [8, 1, 2, 9, 10, 11, 12, 13, 14, 15, 16, 17, 18, 19, 20, 21, 40, 41, 42, 43] (by decide +kernel) (by decide +kernel)
set_option maxRecDepth 20000 in
theorem gJ5_ensureCapacityInternal_d00df_J5_newCapacity_0f7a4_u104J4 : GoodIn wsJ5_ensureCapacityInternal_d00df (va_wsU RJ5 104 RJ4 "java/lang/AbstractStringBuilder" ⟨"java/lang/AbstractStringBuilder", "newCapacity", "(I)I"⟩ yJ5_newCapacity_0f7a4 wsJ5_newCapacity_0f7a4) := goodIn_app (goodIn_of _ (by decide +kernel)) ggJ5_ensureCapacityInternal_d00df_J5_newCapacity_0f7a4
set_option maxRecDepth 20000 in
theorem ggJ5_ensureCapacityInternal_d00df_J7_copyOf_9075b : GoodIn wsJ5_ensureCapacityInternal_d00df wsJ7_copyOf_9075b := goodIn_r _ [25, 26, 27, 28, 29, 30, 31, 32, 33, 34, 16, 35, 36, 37, 38, 39] (by decide +kernel) (by decide +kernel)
set_option maxRecDepth 20000 in
theorem gJ5_ensureCapacityInternal_d00df_J7_copyOf_9075b : GoodIn wsJ5_ensureCapacityInternal_d00df (va_wsS RJ5 108 yJ7_copyOf_9075b wsJ7_copyOf_9075b) := goodIn_app (goodIn_of _ (by decide +kernel)) ggJ5_ensureCapacityInternal_d00df_J7_copyOf_9075b
theorem dJ5_ensureCapacityInternal_d00df_0 : decode cJ5_ensureCapacityInternal_d00df 0 = .ok (.aload_n 0, 1) := by decide +kernel
theorem dJ5_ensureCapacityInternal_d00df_1 : decode cJ5_ensureCapacityInternal_d00df 1 = .ok (.getfield 15, 3) := by decide +kernel
theorem dJ5_ensureCapacityInternal_d00df_4 : decode cJ5_ensureCapacityInternal_d00df 4 = .ok (.arraylength, 1) := by decide +kernel
theorem dJ5_ensureCapacityInternal_d00df_5 : decode cJ5_ensureCapacityInternal_d00df 5 = .ok (.aload_n 0, 1) := by decide +kernel
theorem dJ5_ensureCapacityInternal_d00df_6 : decode cJ5_ensureCapacityInternal_d00df 6 = .ok (.getfield 22, 3) := by decide +kernel
theorem dJ5_ensureCapacityInternal_d00df_9 : decode cJ5_ensureCapacityInternal_d00df 9 = .ok (.ishr, 1) := by decide +kernel
theorem dJ5_ensureCapacityInternal_d00df_10 : decode cJ5_ensureCapacityInternal_d00df 10 = .ok (.istore_n 2, 1) := by decide +kernel
theorem dJ5_ensureCapacityInternal_d00df_11 : decode cJ5_ensureCapacityInternal_d00df 11 = .ok (.iload_n 1, 1) := by decide +kernel
theorem dJ5_ensureCapacityInternal_d00df_12 : decode cJ5_ensureCapacityInternal_d00df 12 = .ok (.iload_n 2, 1) := by decide +kernel
theorem dJ5_ensureCapacityInternal_d00df_13 : decode cJ5_ensureCapacityInternal_d00df 13 = .ok (.isub, 1) := by decide +kernel
theorem dJ5_ensureCapacityInternal_d00df_14 : decode cJ5_ensureCapacityInternal_d00df 14 = .ok (.ifCond .le 24, 3) := by decide +kernel
theorem dJ5_ensureCapacityInternal_d00df_17 : decode cJ5_ensureCapacityInternal_d00df 17 = .ok (.aload_n 0, 1) := by decide +kernel
theorem dJ5_ensureCapacityInternal_d00df_18 : decode cJ5_ensureCapacityInternal_d00df 18 = .ok (.aload_n 0, 1) := by decide +kernel
theorem dJ5_ensureCapacityInternal_d00df_19 : decode cJ5_ensureCapacityInternal_d00df 19 = .ok (.getfield 15, 3) := by decide +kernel
theorem dJ5_ensureCapacityInternal_d00df_22 : decode cJ5_ensureCapacityInternal_d00df 22 = .ok (.aload_n 0, 1) := by decide +kernel
theorem dJ5_ensureCapacityInternal_d00df_23 : decode cJ5_ensureCapacityInternal_d00df 23 = .ok (.iload_n 1, 1) := by decide +kernel
theorem dJ5_ensureCapacityInternal_d00df_24 : decode cJ5_ensureCapacityInternal_d00df 24 = .ok (.invokevirtual 104, 3) := by decide +kernel
theorem dJ5_ensureCapacityInternal_d00df_27 : decode cJ5_ensureCapacityInternal_d00df 27 = .ok (.aload_n 0, 1) := by decide +kernel
theorem dJ5_ensureCapacityInternal_d00df_28 : decode cJ5_ensureCapacityInternal_d00df 28 = .ok (.getfield 22, 3) := by decide +kernel
theorem dJ5_ensureCapacityInternal_d00df_31 : decode cJ5_ensureCapacityInternal_d00df 31 = .ok (.ishl, 1) := by decide +kernel
theorem dJ5_ensureCapacityInternal_d00df_32 : decode cJ5_ensureCapacityInternal_d00df 32 = .ok (.invokestatic 108, 3) := by decide +kernel
theorem dJ5_ensureCapacityInternal_d00df_35 : decode cJ5_ensureCapacityInternal_d00df 35 = .ok (.putfield 15, 3) := by decide +kernel
theorem dJ5_ensureCapacityInternal_d00df_38 : decode cJ5_ensureCapacityInternal_d00df 38 = .ok (.return_, 1) := by decide +kernel
set_option maxRecDepth 20000 in
theorem ggJ5_newCapacity_0f7a4_J8_newLength_cabcc : GoodIn wsJ5_newCapacity_0f7a4 wsJ8_newLength_cabcc := goodIn_r _ [7, 8, 9, 10, 11, 12, 13, 14, 6, 15] (by decide +kernel) (by decide +kernel)
set_option maxRecDepth 20000 in
theorem gJ5_newCapacity_0f7a4_J8_newLength_cabcc : GoodIn wsJ5_newCapacity_0f7a4 (va_wsS RJ5 114 yJ8_newLength_cabcc wsJ8_newLength_cabcc) := goodIn_app (goodIn_of _ (by decide +kernel)) ggJ5_newCapacity_0f7a4_J8_newLength_cabcc
theorem dJ5_newCapacity_0f7a4_0 : decode cJ5_newCapacity_0f7a4 0 = .ok (.aload_n 0, 1) := by decide +kernel
theorem dJ5_newCapacity_0f7a4_1 : decode cJ5_newCapacity_0f7a4 1 = .ok (.getfield 15, 3) := by decide +kernel
theorem dJ5_newCapacity_0f7a4_4 : decode cJ5_newCapacity_0f7a4 4 = .ok (.arraylength, 1) := by decide +kernel
theorem dJ5_newCapacity_0f7a4_5 : decode cJ5_newCapacity_0f7a4 5 = .ok (.istore_n 2, 1) := by decide +kernel
theorem dJ5_newCapacity_0f7a4_6 : decode cJ5_newCapacity_0f7a4 6 = .ok (.iload_n 1, 1) := by decide +kernel
theorem dJ5_newCapacity_0f7a4_7 : decode cJ5_newCapacity_0f7a4 7 = .ok (.aload_n 0, 1) := by decide +kernel
theorem dJ5_newCapacity_0f7a4_8 : decode cJ5_newCapacity_0f7a4 8 = .ok (.getfield 22, 3) := by decide +kernel
theorem dJ5_newCapacity_0f7a4_11 : decode cJ5_newCapacity_0f7a4 11 = .ok (.ishl, 1) := by decide +kernel
theorem dJ5_newCapacity_0f7a4_12 : decode cJ5_newCapacity_0f7a4 12 = .ok (.istore_n 3, 1) := by decide +kernel
theorem dJ5_newCapacity_0f7a4_13 : decode cJ5_newCapacity_0f7a4 13 = .ok (.iload_n 3, 1) := by decide +kernel
theorem dJ5_newCapacity_0f7a4_14 : decode cJ5_newCapacity_0f7a4 14 = .ok (.iload_n 2, 1) := by decide +kernel
theorem dJ5_newCapacity_0f7a4_15 : decode cJ5_newCapacity_0f7a4 15 = .ok (.isub, 1) := by decide +kernel
theorem dJ5_newCapacity_0f7a4_16 : decode cJ5_newCapacity_0f7a4 16 = .ok (.istore 4, 2) := by decide +kernel
theorem dJ5_newCapacity_0f7a4_18 : decode cJ5_newCapacity_0f7a4 18 = .ok (.iload_n 2, 1) := by decide +kernel
theorem dJ5_newCapacity_0f7a4_19 : decode cJ5_newCapacity_0f7a4 19 = .ok (.iload 4, 2) := by decide +kernel
theorem dJ5_newCapacity_0f7a4_21 : decode cJ5_newCapacity_0f7a4 21 = .ok (.iload_n 2, 1) := by decide +kernel
theorem dJ5_newCapacity_0f7a4_22 : decode cJ5_newCapacity_0f7a4 22 = .ok (.iconst 2, 1) := by decide +kernel
theorem dJ5_newCapacity_0f7a4_23 : decode cJ5_newCapacity_0f7a4 23 = .ok (.aload_n 0, 1) := by decide +kernel
theorem dJ5_newCapacity_0f7a4_24 : decode cJ5_newCapacity_0f7a4 24 = .ok (.getfield 22, 3) := by decide +kernel
theorem dJ5_newCapacity_0f7a4_27 : decode cJ5_newCapacity_0f7a4 27 = .ok (.ishl, 1) := by decide +kernel
theorem dJ5_newCapacity_0f7a4_28 : decode cJ5_newCapacity_0f7a4 28 = .ok (.iadd, 1) := by decide +kernel
theorem dJ5_newCapacity_0f7a4_29 : decode cJ5_newCapacity_0f7a4 29 = .ok (.invokestatic 114, 3) := by decide +kernel
theorem dJ5_newCapacity_0f7a4_32 : decode cJ5_newCapacity_0f7a4 32 = .ok (.istore 5, 2) := by decide +kernel
theorem dJ5_newCapacity_0f7a4_34 : decode cJ5_newCapacity_0f7a4 34 = .ok (.iload 5, 2) := by decide +kernel
theorem dJ5_newCapacity_0f7a4_36 : decode cJ5_newCapacity_0f7a4 36 = .ok (.ldc 39, 2) := by decide +kernel
theorem dJ5_newCapacity_0f7a4_38 : decode cJ5_newCapacity_0f7a4 38 = .ok (.if_icmp .ne 13, 3) := by decide +kernel
theorem dJ5_newCapacity_0f7a4_41 : decode cJ5_newCapacity_0f7a4 41 = .ok (.new 120, 3) := by decide +kernel
theorem dJ5_newCapacity_0f7a4_44 : decode cJ5_newCapacity_0f7a4 44 = .ok (.dup, 1) := by decide +kernel
theorem dJ5_newCapacity_0f7a4_45 : decode cJ5_newCapacity_0f7a4 45 = .ok (.ldc 122, 2) := by decide +kernel
theorem dJ5_newCapacity_0f7a4_47 : decode cJ5_newCapacity_0f7a4 47 = .ok (.invokespecial 124, 3) := by decide +kernel
theorem dJ5_newCapacity_0f7a4_50 : decode cJ5_newCapacity_0f7a4 50 = .ok (.athrow, 1) := by decide +kernel
theorem dJ5_newCapacity_0f7a4_51 : decode cJ5_newCapacity_0f7a4 51 = .ok (.iload 5, 2) := by decide +kernel
theorem dJ5_newCapacity_0f7a4_53 : decode cJ5_newCapacity_0f7a4 53 = .ok (.aload_n 0, 1) := by decide +kernel
theorem dJ5_newCapacity_0f7a4_54 : decode cJ5_newCapacity_0f7a4 54 = .ok (.getfield 22, 3) := by decide +kernel
theorem dJ5_newCapacity_0f7a4_57 : decode cJ5_newCapacity_0f7a4 57 = .ok (.ishr, 1) := by decide +kernel
theorem dJ5_newCapacity_0f7a4_58 : decode cJ5_newCapacity_0f7a4 58 = .ok (.ireturn, 1) := by decide +kernel
set_option maxRecDepth 20000 in
theorem ggJ5_inflate_da8c8_J5_isLatin1_aae02 : GoodIn wsJ5_inflate_da8c8 wsJ5_isLatin1_aae02 := goodIn_r _ [9, 10, 3, 48, 49, 50, 51] (by decide +kernel) (by decide +kernel)
set_option maxRecDepth 20000 in
theorem gJ5_inflate_da8c8_J5_isLatin1_aae02_u83J4 : GoodIn wsJ5_inflate_da8c8 (va_wsU RJ5 83 RJ4 "java/lang/AbstractStringBuilder" ⟨"java/lang/AbstractStringBuilder", "isLatin1", "()Z"⟩ yJ5_isLatin1_aae02 wsJ5_isLatin1_aae02) := goodIn_app (goodIn_of _ (by decide +kernel)) ggJ5_inflate_da8c8_J5_isLatin1_aae02
set_option maxRecDepth 20000 in
theorem ggJ5_inflate_da8c8_J2_newBytesFor_77867 : GoodIn wsJ5_inflate_da8c8 wsJ2_newBytesFor_77867 := goodIn_r _ [14, 15, 16, 17, 13, 18, 19] (by decide +kernel) (by decide +kernel)
set_option maxRecDepth 20000 in
theorem gJ5_inflate_da8c8_J2_newBytesFor_77867 : GoodIn wsJ5_inflate_da8c8 (va_wsS RJ5 26 yJ2_newBytesFor_77867 wsJ2_newBytesFor_77867) := goodIn_app (goodIn_of _ (by decide +kernel)) ggJ5_inflate_da8c8_J2_newBytesFor_77867
set_option maxRecDepth 20000 in
theorem ggJ5_inflate_da8c8_J1_inflate_0e8fd : GoodIn wsJ5_inflate_da8c8 wsJ1_inflate_0e8fd := goodIn_r _ [23, 24, 25, 13, 26, 27, 28, 29, 30, 31, 32, 33, 34, 35, 36, 37, 38, 39, 40, 41, 42, 43, 44, 45, 46, 47] (by decide +kernel) (by decide +kernel)
set_option maxRecDepth 20000 in
theorem gJ5_inflate_da8c8_J1_inflate_0e8fd : GoodIn wsJ5_inflate_da8c8 (va_wsS RJ5 125 yJ1_inflate_0e8fd wsJ1_inflate_0e8fd) := goodIn_app (goodIn_of _ (by decide +kernel)) ggJ5_inflate_da8c8_J1_inflate_0e8fd
theorem dJ5_inflate_da8c8_0 : decode cJ5_inflate_da8c8 0 = .ok (.aload_n 0, 1) := by decide +kernel
theorem dJ5_inflate_da8c8_1 : decode cJ5_inflate_da8c8 1 = .ok (.invokevirtual 83, 3) := by decide +kernel
theorem dJ5_inflate_da8c8_4 : decode cJ5_inflate_da8c8 4 = .ok (.ifCond .ne 4, 3) := by decide +kernel
theorem dJ5_inflate_da8c8_7 : decode cJ5_inflate_da8c8 7 = .ok (.return_, 1) := by decide +kernel
theorem dJ5_inflate_da8c8_8 : decode cJ5_inflate_da8c8 8 = .ok (.aload_n 0, 1) := by decide +kernel
theorem dJ5_inflate_da8c8_9 : decode cJ5_inflate_da8c8 9 = .ok (.getfield 15, 3) := by decide +kernel
theorem dJ5_inflate_da8c8_12 : decode cJ5_inflate_da8c8 12 = .ok (.arraylength, 1) := by decide +kernel
theorem dJ5_inflate_da8c8_13 : decode cJ5_inflate_da8c8 13 = .ok (.invokestatic 26, 3) := by decide +kernel
theorem dJ5_inflate_da8c8_16 : decode cJ5_inflate_da8c8 16 = .ok (.astore_n 1, 1) := by decide +kernel
theorem dJ5_inflate_da8c8_17 : decode cJ5_inflate_da8c8 17 = .ok (.aload_n 0, 1) := by decide +kernel
theorem dJ5_inflate_da8c8_18 : decode cJ5_inflate_da8c8 18 = .ok (.getfield 15, 3) := by decide +kernel
theorem dJ5_inflate_da8c8_21 : decode cJ5_inflate_da8c8 21 = .ok (.iconst 0, 1) := by decide +kernel
theorem dJ5_inflate_da8c8_22 : decode cJ5_inflate_da8c8 22 = .ok (.aload_n 1, 1) := by decide +kernel
theorem dJ5_inflate_da8c8_23 : decode cJ5_inflate_da8c8 23 = .ok (.iconst 0, 1) := by decide +kernel
theorem dJ5_inflate_da8c8_24 : decode cJ5_inflate_da8c8 24 = .ok (.aload_n 0, 1) := by decide +kernel
theorem dJ5_inflate_da8c8_25 : decode cJ5_inflate_da8c8 25 = .ok (.getfield 79, 3) := by decide +kernel
theorem dJ5_inflate_da8c8_28 : decode cJ5_inflate_da8c8 28 = .ok (.invokestatic 125, 3) := by decide +kernel
theorem dJ5_inflate_da8c8_31 : decode cJ5_inflate_da8c8 31 = .ok (.aload_n 0, 1) := by decide +kernel
theorem dJ5_inflate_da8c8_32 : decode cJ5_inflate_da8c8 32 = .ok (.aload_n 1, 1) := by decide +kernel
theorem dJ5_inflate_da8c8_33 : decode cJ5_inflate_da8c8 33 = .ok (.putfield 15, 3) := by decide +kernel
theorem dJ5_inflate_da8c8_36 : decode cJ5_inflate_da8c8 36 = .ok (.aload_n 0, 1) := by decide +kernel
theorem dJ5_inflate_da8c8_37 : decode cJ5_inflate_da8c8 37 = .ok (.iconst 1, 1) := by decide +kernel
theorem dJ5_inflate_da8c8_38 : decode cJ5_inflate_da8c8 38 = .ok (.putfield 22, 3) := by decide +kernel
theorem dJ5_inflate_da8c8_41 : decode cJ5_inflate_da8c8 41 = .ok (.return_, 1) := by decide +kernel
set_option maxRecDepth 20000 in
theorem ggJ5_charAt_5068e_J0_checkIndex_df160 : GoodIn wsJ5_charAt_5068e wsJ0_checkIndex_df160 := goodIn_r _ [11, 12, 13, 14, 15, 16] (by decide +kernel) (by decide +kernel)
set_option maxRecDepth 20000 in
theorem gJ5_charAt_5068e_J0_checkIndex_df160 : GoodIn wsJ5_charAt_5068e (va_wsS RJ5 144 yJ0_checkIndex_df160 wsJ0_checkIndex_df160) := goodIn_app (goodIn_of _ (by decide +kernel)) ggJ5_charAt_5068e_J0_checkIndex_df160
set_option maxRecDepth 20000 in
theorem ggJ5_charAt_5068e_J2_getChar_3b067 : GoodIn wsJ5_charAt_5068e wsJ2_getChar_3b067 := goodIn_r _ [20, 21, 22, 23, 24, 25, 19, 26] (by decide +kernel) (by decide +kernel)
set_option maxRecDepth 20000 in
theorem gJ5_charAt_5068e_J2_getChar_3b067 : GoodIn wsJ5_charAt_5068e (va_wsS RJ5 148 yJ2_getChar_3b067 wsJ2_getChar_3b067) := goodIn_app (goodIn_of _ (by decide +kernel)) ggJ5_charAt_5068e_J2_getChar_3b067
theorem dJ5_charAt_5068e_0 : decode cJ5_charAt_5068e 0 = .ok (.aload_n 0, 1) := by decide +kernel
theorem dJ5_charAt_5068e_1 : decode cJ5_charAt_5068e 1 = .ok (.getfield 22, 3) := by decide +kernel
theorem dJ5_charAt_5068e_4 : decode cJ5_charAt_5068e 4 = .ok (.istore_n 2, 1) := by decide +kernel
theorem dJ5_charAt_5068e_5 : decode cJ5_charAt_5068e 5 = .ok (.aload_n 0, 1) := by decide +kernel
theorem dJ5_charAt_5068e_6 : decode cJ5_charAt_5068e 6 = .ok (.getfield 15, 3) := by decide +kernel
theorem dJ5_charAt_5068e_9 : decode cJ5_charAt_5068e 9 = .ok (.astore_n 3, 1) := by decide +kernel
theorem dJ5_charAt_5068e_10 : decode cJ5_charAt_5068e 10 = .ok (.aload_n 0, 1) := by decide +kernel
theorem dJ5_charAt_5068e_11 : decode cJ5_charAt_5068e 11 = .ok (.getfield 79, 3) := by decide +kernel
theorem dJ5_charAt_5068e_14 : decode cJ5_charAt_5068e 14 = .ok (.aload_n 3, 1) := by decide +kernel
theorem dJ5_charAt_5068e_15 : decode cJ5_charAt_5068e 15 = .ok (.arraylength, 1) := by decide +kernel
theorem dJ5_charAt_5068e_16 : decode cJ5_charAt_5068e 16 = .ok (.iload_n 2, 1) := by decide +kernel
theorem dJ5_charAt_5068e_17 : decode cJ5_charAt_5068e 17 = .ok (.ishr, 1) := by decide +kernel
theorem dJ5_charAt_5068e_18 : decode cJ5_charAt_5068e 18 = .ok (.invokestatic 138, 3) := by decide +kernel
theorem dJ5_charAt_5068e_21 : decode cJ5_charAt_5068e 21 = .ok (.istore 4, 2) := by decide +kernel
theorem dJ5_charAt_5068e_23 : decode cJ5_charAt_5068e 23 = .ok (.iload_n 1, 1) := by decide +kernel
theorem dJ5_charAt_5068e_24 : decode cJ5_charAt_5068e 24 = .ok (.iload 4, 2) := by decide +kernel
theorem dJ5_charAt_5068e_26 : decode cJ5_charAt_5068e 26 = .ok (.invokestatic 144, 3) := by decide +kernel
theorem dJ5_charAt_5068e_29 : decode cJ5_charAt_5068e 29 = .ok (.iload_n 2, 1) := by decide +kernel
theorem dJ5_charAt_5068e_30 : decode cJ5_charAt_5068e 30 = .ok (.ifCond .ne 12, 3) := by decide +kernel
theorem dJ5_charAt_5068e_33 : decode cJ5_charAt_5068e 33 = .ok (.aload_n 3, 1) := by decide +kernel
theorem dJ5_charAt_5068e_34 : decode cJ5_charAt_5068e 34 = .ok (.iload_n 1, 1) := by decide +kernel
theorem dJ5_charAt_5068e_35 : decode cJ5_charAt_5068e 35 = .ok (.baload, 1) := by decide +kernel
theorem dJ5_charAt_5068e_36 : decode cJ5_charAt_5068e 36 = .ok (.sipush 255, 3) := by decide +kernel
theorem dJ5_charAt_5068e_39 : decode cJ5_charAt_5068e 39 = .ok (.iand, 1) := by decide +kernel
theorem dJ5_charAt_5068e_40 : decode cJ5_charAt_5068e 40 = .ok (.i2c, 1) := by decide +kernel
theorem dJ5_charAt_5068e_41 : decode cJ5_charAt_5068e 41 = .ok (.ireturn, 1) := by decide +kernel
theorem dJ5_charAt_5068e_42 : decode cJ5_charAt_5068e 42 = .ok (.aload_n 3, 1) := by decide +kernel
theorem dJ5_charAt_5068e_43 : decode cJ5_charAt_5068e 43 = .ok (.iload_n 1, 1) := by decide +kernel
theorem dJ5_charAt_5068e_44 : decode cJ5_charAt_5068e 44 = .ok (.invokestatic 148, 3) := by decide +kernel
theorem dJ5_charAt_5068e_47 : decode cJ5_charAt_5068e 47 = .ok (.ireturn, 1) := by decide +kernel
set_option maxRecDepth 20000 in
theorem ggJ5_append_cf1ce_J5_appendNull_278bc : GoodIn wsJ5_append_cf1ce wsJ5_appendNull_278bc := goodIn_r _ [7, 1, 8, 9, 10, 11, 12, 6, 13, 14, 15, 16, 17, 18, 19, 20, 21, 22, 23, 24, 25, 26, 27, 28, 29, 30, 31, 32, 33, 34, 35, 36, 37, 38, 39, 40, 41, 42, 43, 44, 45, 46, 47, 48, 49, 50, 51, 52, 53, 54, 55, 56, 57, 58, 59, 60, 61, 62, 63, 64, 65, 66, 67, 68, 69, 70, 71, 72, 73, 74, 75, 76, 77, 78, 79, 80, 81, 138, 139, 140, 141] (by decide +kernel) (by decide +kernel)
set_option maxRecDepth 20000 in
theorem gJ5_append_cf1ce_J5_appendNull_278bc_u204J4 : GoodIn wsJ5_append_cf1ce (va_wsU RJ5 204 RJ4 "java/lang/AbstractStringBuilder" ⟨"java/lang/AbstractStringBuilder", "appendNull", "()Ljava/lang/AbstractStringBuilder;"⟩ yJ5_appendNull_278bc wsJ5_appendNull_278bc) := goodIn_app (goodIn_of _ (by decide +kernel)) ggJ5_append_cf1ce_J5_appendNull_278bc
set_option maxRecDepth 20000 in
theorem ggJ5_append_cf1ce_J0_length_8abf5 : GoodIn wsJ5_append_cf1ce wsJ0_length_8abf5 := goodIn_r _ [85, 86, 87, 88, 89, 70, 90, 91, 92, 142, 143, 144, 145] (by decide +kernel) (by decide +kernel)
set_option maxRecDepth 20000 in
theorem gJ5_append_cf1ce_J0_length_8abf5 : GoodIn wsJ5_append_cf1ce (wsV RJ5 32 RJ0 yJ0_length_8abf5 wsJ0_length_8abf5) := goodIn_app (goodIn_of _ (by decide +kernel)) ggJ5_append_cf1ce_J0_length_8abf5
set_option maxRecDepth 20000 in
theorem ggJ5_append_cf1ce_J5_ensureCapacityInternal_d00df : GoodIn wsJ5_append_cf1ce wsJ5_ensureCapacityInternal_d00df := goodIn_r _ [13, 8, 14, 15, 16, 17, 18, 6, 19, 20, 21, 22, 23, 24, 25, 26, 27, 28, 29, 30, 31, 32, 33, 34, 35, 36, 37, 38, 39, 40, 41, 42, 43, 44, 45, 46, 47, 48, 49, 50, 138, 139, 140, 141] (by decide +kernel) (by decide +kernel)
set_option maxRecDepth 20000 in
theorem gJ5_append_cf1ce_J5_ensureCapacityInternal_d00df_u100J4 : GoodIn wsJ5_append_cf1ce (va_wsU RJ5 100 RJ4 "java/lang/AbstractStringBuilder" ⟨"java/lang/AbstractStringBuilder", "ensureCapacityInternal", "(I)V"⟩ yJ5_ensureCapacityInternal_d00df wsJ5_ensureCapacityInternal_d00df) := goodIn_app (goodIn_of _ (by decide +kernel)) ggJ5_append_cf1ce_J5_ensureCapacityInternal_d00df
set_option maxRecDepth 20000 in
theorem ggJ5_append_cf1ce_J5_putStringAt_47b60 : GoodIn wsJ5_append_cf1ce wsJ5_putStringAt_47b60 := goodIn_r _ [97, 8, 14, 98, 99, 100, 101, 6, 102, 56, 103, 88, 89, 70, 90, 91, 92, 104, 105, 106, 107, 108, 1, 51, 52, 53, 54, 55, 109, 110, 59, 111, 43, 112, 113, 114, 115, 116, 117, 118, 119, 120, 121, 122, 123, 124, 125, 65, 66, 67, 126, 127, 128, 72, 129, 130, 75, 131, 77, 78, 79, 61, 80, 81, 132, 133, 134, 135, 86, 136, 48, 49, 50, 87, 137, 138, 139, 140, 141, 142, 143, 144, 145] (by decide +kernel) (by decide +kernel)
set_option maxRecDepth 20000 in
theorem gJ5_append_cf1ce_J5_putStringAt_47b60_u208J4 : GoodIn wsJ5_append_cf1ce (va_wsU RJ5 208 RJ4 "java/lang/AbstractStringBuilder" ⟨"java/lang/AbstractStringBuilder", "putStringAt", "(ILjava/lang/String;)V"⟩ yJ5_putStringAt_47b60 wsJ5_putStringAt_47b60) := goodIn_app (goodIn_of _ (by decide +kernel)) ggJ5_append_cf1ce_J5_putStringAt_47b60
theorem dJ5_append_cf1ce_0 : decode cJ5_append_cf1ce 0 = .ok (.aload_n 1, 1) := by decide +kernel
theorem dJ5_append_cf1ce_1 : decode cJ5_append_cf1ce 1 = .ok (.ifnonnull 8, 3) := by decide +kernel
theorem dJ5_append_cf1ce_4 : decode cJ5_append_cf1ce 4 = .ok (.aload_n 0, 1) := by decide +kernel
theorem dJ5_append_cf1ce_5 : decode cJ5_append_cf1ce 5 = .ok (.invokevirtual 204, 3) := by decide +kernel
theorem dJ5_append_cf1ce_8 : decode cJ5_append_cf1ce 8 = .ok (.areturn, 1) := by decide +kernel
theorem dJ5_append_cf1ce_9 : decode cJ5_append_cf1ce 9 = .ok (.aload_n 1, 1) := by decide +kernel
theorem dJ5_append_cf1ce_10 : decode cJ5_append_cf1ce 10 = .ok (.invokevirtual 32, 3) := by decide +kernel
theorem dJ5_append_cf1ce_13 : decode cJ5_append_cf1ce 13 = .ok (.istore_n 2, 1) := by decide +kernel
theorem dJ5_append_cf1ce_14 : decode cJ5_append_cf1ce 14 = .ok (.aload_n 0, 1) := by decide +kernel
theorem dJ5_append_cf1ce_15 : decode cJ5_append_cf1ce 15 = .ok (.aload_n 0, 1) := by decide +kernel
theorem dJ5_append_cf1ce_16 : decode cJ5_append_cf1ce 16 = .ok (.getfield 79, 3) := by decide +kernel
theorem dJ5_append_cf1ce_19 : decode cJ5_append_cf1ce 19 = .ok (.iload_n 2, 1) := by decide +kernel
theorem dJ5_append_cf1ce_20 : decode cJ5_append_cf1ce 20 = .ok (.iadd, 1) := by decide +kernel
theorem dJ5_append_cf1ce_21 : decode cJ5_append_cf1ce 21 = .ok (.invokevirtual 100, 3) := by decide +kernel
theorem dJ5_append_cf1ce_24 : decode cJ5_append_cf1ce 24 = .ok (.aload_n 0, 1) := by decide +kernel
theorem dJ5_append_cf1ce_25 : decode cJ5_append_cf1ce 25 = .ok (.aload_n 0, 1) := by decide +kernel
theorem dJ5_append_cf1ce_26 : decode cJ5_append_cf1ce 26 = .ok (.getfield 79, 3) := by decide +kernel
theorem dJ5_append_cf1ce_29 : decode cJ5_append_cf1ce 29 = .ok (.aload_n 1, 1) := by decide +kernel
theorem dJ5_append_cf1ce_30 : decode cJ5_append_cf1ce 30 = .ok (.invokevirtual 208, 3) := by decide +kernel
theorem dJ5_append_cf1ce_33 : decode cJ5_append_cf1ce 33 = .ok (.aload_n 0, 1) := by decide +kernel
theorem dJ5_append_cf1ce_34 : decode cJ5_append_cf1ce 34 = .ok (.dup, 1) := by decide +kernel
theorem dJ5_append_cf1ce_35 : decode cJ5_append_cf1ce 35 = .ok (.getfield 79, 3) := by decide +kernel
theorem dJ5_append_cf1ce_38 : decode cJ5_append_cf1ce 38 = .ok (.iload_n 2, 1) := by decide +kernel
theorem dJ5_append_cf1ce_39 : decode cJ5_append_cf1ce 39 = .ok (.iadd, 1) := by decide +kernel
theorem dJ5_append_cf1ce_40 : decode cJ5_append_cf1ce 40 = .ok (.putfield 79, 3) := by decide +kernel
theorem dJ5_append_cf1ce_43 : decode cJ5_append_cf1ce 43 = .ok (.aload_n 0, 1) := by decide +kernel
theorem dJ5_append_cf1ce_44 : decode cJ5_append_cf1ce 44 = .ok (.areturn, 1) := by decide +kernel
set_option maxRecDepth 20000 in
theorem ggJ5_appendNull_278bc_J5_ensureCapacityInternal_d00df : GoodIn wsJ5_appendNull_278bc wsJ5_ensureCapacityInternal_d00df := goodIn_r _ [8, 2, 9, 10, 11, 12, 13, 7, 14, 15, 16, 17, 18, 19, 20, 21, 22, 23, 24, 25, 26, 27, 28, 29, 30, 31, 32, 33, 34, 35, 36, 37, 38, 39, 40, 41, 42, 43, 44, 45, 77, 78, 79, 80] (by decide +kernel) (by decide +kernel)
set_option maxRecDepth 20000 in
theorem gJ5_appendNull_278bc_J5_ensureCapacityInternal_d00df_u100J4 : GoodIn wsJ5_appendNull_278bc (va_wsU RJ5 100 RJ4 "java/lang/AbstractStringBuilder" ⟨"java/lang/AbstractStringBuilder", "ensureCapacityInternal", "(I)V"⟩ yJ5_ensureCapacityInternal_d00df wsJ5_ensureCapacityInternal_d00df) := goodIn_app (goodIn_of _ (by decide +kernel)) ggJ5_appendNull_278bc_J5_ensureCapacityInternal_d00df
set_option maxRecDepth 20000 in
theorem ggJ5_appendNull_278bc_J5_isLatin1_aae02 : GoodIn wsJ5_appendNull_278bc wsJ5_isLatin1_aae02 := goodIn_r _ [50, 51, 9, 77, 78, 79, 80] (by decide +kernel) (by decide +kernel)
set_option maxRecDepth 20000 in
theorem gJ5_appendNull_278bc_J5_isLatin1_aae02_u83J4 : GoodIn wsJ5_appendNull_278bc (va_wsU RJ5 83 RJ4 "java/lang/AbstractStringBuilder" ⟨"java/lang/AbstractStringBuilder", "isLatin1", "()Z"⟩ yJ5_isLatin1_aae02 wsJ5_isLatin1_aae02) := goodIn_app (goodIn_of _ (by decide +kernel)) ggJ5_appendNull_278bc_J5_isLatin1_aae02
set_option maxRecDepth 20000 in
theorem ggJ5_appendNull_278bc_J2_putCharsAt_cd4e5 : GoodIn wsJ5_appendNull_278bc wsJ2_putCharsAt_cd4e5 := goodIn_r _ [55, 56, 57, 58, 54, 59, 60, 61, 62, 63, 64, 65, 66, 67, 68, 69, 70, 71, 72, 73, 74, 75, 76] (by decide +kernel) (by decide +kernel)
set_option maxRecDepth 20000 in
theorem gJ5_appendNull_278bc_J2_putCharsAt_cd4e5 : GoodIn wsJ5_appendNull_278bc (va_wsS RJ5 226 yJ2_putCharsAt_cd4e5 wsJ2_putCharsAt_cd4e5) := goodIn_app (goodIn_of _ (by decide +kernel)) ggJ5_appendNull_278bc_J2_putCharsAt_cd4e5
theorem dJ5_appendNull_278bc_0 : decode cJ5_appendNull_278bc 0 = .ok (.aload_n 0, 1) := by decide +kernel
theorem dJ5_appendNull_278bc_1 : decode cJ5_appendNull_278bc 1 = .ok (.aload_n 0, 1) := by decide +kernel
theorem dJ5_appendNull_278bc_2 : decode cJ5_appendNull_278bc 2 = .ok (.getfield 79, 3) := by decide +kernel
theorem dJ5_appendNull_278bc_5 : decode cJ5_appendNull_278bc 5 = .ok (.iconst 4, 1) := by decide +kernel
theorem dJ5_appendNull_278bc_6 : decode cJ5_appendNull_278bc 6 = .ok (.iadd, 1) := by decide +kernel
theorem dJ5_appendNull_278bc_7 : decode cJ5_appendNull_278bc 7 = .ok (.invokevirtual 100, 3) := by decide +kernel
theorem dJ5_appendNull_278bc_10 : decode cJ5_appendNull_278bc 10 = .ok (.aload_n 0, 1) := by decide +kernel
theorem dJ5_appendNull_278bc_11 : decode cJ5_appendNull_278bc 11 = .ok (.getfield 79, 3) := by decide +kernel
theorem dJ5_appendNull_278bc_14 : decode cJ5_appendNull_278bc 14 = .ok (.istore_n 1, 1) := by decide +kernel
theorem dJ5_appendNull_278bc_15 : decode cJ5_appendNull_278bc 15 = .ok (.aload_n 0, 1) := by decide +kernel
theorem dJ5_appendNull_278bc_16 : decode cJ5_appendNull_278bc 16 = .ok (.getfield 15, 3) := by decide +kernel
theorem dJ5_appendNull_278bc_19 : decode cJ5_appendNull_278bc 19 = .ok (.astore_n 2, 1) := by decide +kernel
theorem dJ5_appendNull_278bc_20 : decode cJ5_appendNull_278bc 20 = .ok (.aload_n 0, 1) := by decide +kernel
theorem dJ5_appendNull_278bc_21 : decode cJ5_appendNull_278bc 21 = .ok (.invokevirtual 83, 3) := by decide +kernel
theorem dJ5_appendNull_278bc_24 : decode cJ5_appendNull_278bc 24 = .ok (.ifCond .eq 38, 3) := by decide +kernel
theorem dJ5_appendNull_278bc_27 : decode cJ5_appendNull_278bc 27 = .ok (.aload_n 2, 1) := by decide +kernel
theorem dJ5_appendNull_278bc_28 : decode cJ5_appendNull_278bc 28 = .ok (.iload_n 1, 1) := by decide +kernel
theorem dJ5_appendNull_278bc_29 : decode cJ5_appendNull_278bc 29 = .ok (.iinc 1 1, 3) := by decide +kernel
theorem dJ5_appendNull_278bc_32 : decode cJ5_appendNull_278bc 32 = .ok (.bipush 110, 2) := by decide +kernel
theorem dJ5_appendNull_278bc_34 : decode cJ5_appendNull_278bc 34 = .ok (.bastore, 1) := by decide +kernel
theorem dJ5_appendNull_278bc_35 : decode cJ5_appendNull_278bc 35 = .ok (.aload_n 2, 1) := by decide +kernel
theorem dJ5_appendNull_278bc_36 : decode cJ5_appendNull_278bc 36 = .ok (.iload_n 1, 1) := by decide +kernel
theorem dJ5_appendNull_278bc_37 : decode cJ5_appendNull_278bc 37 = .ok (.iinc 1 1, 3) := by decide +kernel
theorem dJ5_appendNull_278bc_40 : decode cJ5_appendNull_278bc 40 = .ok (.bipush 117, 2) := by decide +kernel
theorem dJ5_appendNull_278bc_42 : decode cJ5_appendNull_278bc 42 = .ok (.bastore, 1) := by decide +kernel
theorem dJ5_appendNull_278bc_43 : decode cJ5_appendNull_278bc 43 = .ok (.aload_n 2, 1) := by decide +kernel
theorem dJ5_appendNull_278bc_44 : decode cJ5_appendNull_278bc 44 = .ok (.iload_n 1, 1) := by decide +kernel
theorem dJ5_appendNull_278bc_45 : decode cJ5_appendNull_278bc 45 = .ok (.iinc 1 1, 3) := by decide +kernel
theorem dJ5_appendNull_278bc_48 : decode cJ5_appendNull_278bc 48 = .ok (.bipush 108, 2) := by decide +kernel
theorem dJ5_appendNull_278bc_50 : decode cJ5_appendNull_278bc 50 = .ok (.bastore, 1) := by decide +kernel
theorem dJ5_appendNull_278bc_51 : decode cJ5_appendNull_278bc 51 = .ok (.aload_n 2, 1) := by decide +kernel
theorem dJ5_appendNull_278bc_52 : decode cJ5_appendNull_278bc 52 = .ok (.iload_n 1, 1) := by decide +kernel
theorem dJ5_appendNull_278bc_53 : decode cJ5_appendNull_278bc 53 = .ok (.iinc 1 1, 3) := by decide +kernel
theorem dJ5_appendNull_278bc_56 : decode cJ5_appendNull_278bc 56 = .ok (.bipush 108, 2) := by decide +kernel
theorem dJ5_appendNull_278bc_58 : decode cJ5_appendNull_278bc 58 = .ok (.bastore, 1) := by decide +kernel
theorem dJ5_appendNull_278bc_59 : decode cJ5_appendNull_278bc 59 = .ok (.goto 17, 3) := by decide +kernel
theorem dJ5_appendNull_278bc_62 : decode cJ5_appendNull_278bc 62 = .ok (.aload_n 2, 1) := by decide +kernel
theorem dJ5_appendNull_278bc_63 : decode cJ5_appendNull_278bc 63 = .ok (.iload_n 1, 1) := by decide +kernel
theorem dJ5_appendNull_278bc_64 : decode cJ5_appendNull_278bc 64 = .ok (.bipush 110, 2) := by decide +kernel
theorem dJ5_appendNull_278bc_66 : decode cJ5_appendNull_278bc 66 = .ok (.bipush 117, 2) := by decide +kernel
theorem dJ5_appendNull_278bc_68 : decode cJ5_appendNull_278bc 68 = .ok (.bipush 108, 2) := by decide +kernel
theorem dJ5_appendNull_278bc_70 : decode cJ5_appendNull_278bc 70 = .ok (.bipush 108, 2) := by decide +kernel
theorem dJ5_appendNull_278bc_72 : decode cJ5_appendNull_278bc 72 = .ok (.invokestatic 226, 3) := by decide +kernel
theorem dJ5_appendNull_278bc_75 : decode cJ5_appendNull_278bc 75 = .ok (.istore_n 1, 1) := by decide +kernel
theorem dJ5_appendNull_278bc_76 : decode cJ5_appendNull_278bc 76 = .ok (.aload_n 0, 1) := by decide +kernel
theorem dJ5_appendNull_278bc_77 : decode cJ5_appendNull_278bc 77 = .ok (.iload_n 1, 1) := by decide +kernel
theorem dJ5_appendNull_278bc_78 : decode cJ5_appendNull_278bc 78 = .ok (.putfield 79, 3) := by decide +kernel
theorem dJ5_appendNull_278bc_81 : decode cJ5_appendNull_278bc 81 = .ok (.aload_n 0, 1) := by decide +kernel
theorem dJ5_appendNull_278bc_82 : decode cJ5_appendNull_278bc 82 = .ok (.areturn, 1) := by decide +kernel
set_option maxRecDepth 20000 in
theorem ggJ5_append_3fe6f_J5_ensureCapacityInternal_d00df : GoodIn wsJ5_append_3fe6f wsJ5_ensureCapacityInternal_d00df := goodIn_r _ [8, 2, 9, 10, 11, 12, 13, 7, 14, 15, 16, 17, 18, 19, 20, 21, 22, 23, 24, 25, 26, 27, 28, 29, 30, 31, 32, 33, 34, 35, 36, 37, 38, 39, 40, 41, 42, 43, 44, 45, 108, 109, 110, 111] (by decide +kernel) (by decide +kernel)
set_option maxRecDepth 20000 in
theorem gJ5_append_3fe6f_J5_ensureCapacityInternal_d00df_u100J4 : GoodIn wsJ5_append_3fe6f (va_wsU RJ5 100 RJ4 "java/lang/AbstractStringBuilder" ⟨"java/lang/AbstractStringBuilder", "ensureCapacityInternal", "(I)V"⟩ yJ5_ensureCapacityInternal_d00df wsJ5_ensureCapacityInternal_d00df) := goodIn_app (goodIn_of _ (by decide +kernel)) ggJ5_append_3fe6f_J5_ensureCapacityInternal_d00df
set_option maxRecDepth 20000 in
theorem ggJ5_append_3fe6f_J5_isLatin1_aae02 : GoodIn wsJ5_append_3fe6f wsJ5_isLatin1_aae02 := goodIn_r _ [50, 51, 9, 108, 109, 110, 111] (by decide +kernel) (by decide +kernel)
set_option maxRecDepth 20000 in
theorem gJ5_append_3fe6f_J5_isLatin1_aae02_u83J4 : GoodIn wsJ5_append_3fe6f (va_wsU RJ5 83 RJ4 "java/lang/AbstractStringBuilder" ⟨"java/lang/AbstractStringBuilder", "isLatin1", "()Z"⟩ yJ5_isLatin1_aae02 wsJ5_isLatin1_aae02) := goodIn_app (goodIn_of _ (by decide +kernel)) ggJ5_append_3fe6f_J5_isLatin1_aae02
set_option maxRecDepth 20000 in
theorem ggJ5_append_3fe6f_J1_canEncode_fc78d : GoodIn wsJ5_append_3fe6f wsJ1_canEncode_fc78d := goodIn_r _ [55] (by decide +kernel) (by decide +kernel)
set_option maxRecDepth 20000 in
theorem gJ5_append_3fe6f_J1_canEncode_fc78d : GoodIn wsJ5_append_3fe6f (va_wsS RJ5 191 yJ1_canEncode_fc78d wsJ1_canEncode_fc78d) := goodIn_app (goodIn_of _ (by decide +kernel)) ggJ5_append_3fe6f_J1_canEncode_fc78d
set_option maxRecDepth 20000 in
theorem ggJ5_append_3fe6f_J5_inflate_da8c8 : GoodIn wsJ5_append_3fe6f wsJ5_inflate_da8c8 := goodIn_r _ [60, 2, 1, 9, 46, 47, 48, 49, 7, 50, 51, 61, 62, 63, 64, 38, 65, 66, 67, 68, 69, 70, 54, 71, 72, 73, 74, 75, 76, 77, 78, 79, 80, 81, 82, 83, 84, 85, 86, 87, 88, 89, 90, 91, 92, 93, 94, 95, 108, 109, 110, 111] (by decide +kernel) (by decide +kernel)
set_option maxRecDepth 20000 in
theorem gJ5_append_3fe6f_J5_inflate_da8c8_u195J4 : GoodIn wsJ5_append_3fe6f (va_wsU RJ5 195 RJ4 "java/lang/AbstractStringBuilder" ⟨"java/lang/AbstractStringBuilder", "inflate", "()V"⟩ yJ5_inflate_da8c8 wsJ5_inflate_da8c8) := goodIn_app (goodIn_of _ (by decide +kernel)) ggJ5_append_3fe6f_J5_inflate_da8c8
set_option maxRecDepth 20000 in
theorem ggJ5_append_3fe6f_J2_putCharSB_b72d1 : GoodIn wsJ5_append_3fe6f wsJ2_putCharSB_b72d1 := goodIn_r _ [98, 99, 100, 63, 101, 78, 79, 80, 102, 103, 83, 104, 85, 105, 106, 88, 107, 90, 91, 92, 93, 94, 95] (by decide +kernel) (by decide +kernel)
set_option maxRecDepth 20000 in
theorem gJ5_append_3fe6f_J2_putCharSB_b72d1 : GoodIn wsJ5_append_3fe6f (va_wsS RJ5 197 yJ2_putCharSB_b72d1 wsJ2_putCharSB_b72d1) := goodIn_app (goodIn_of _ (by decide +kernel)) ggJ5_append_3fe6f_J2_putCharSB_b72d1
theorem dJ5_append_3fe6f_0 : decode cJ5_append_3fe6f 0 = .ok (.aload_n 0, 1) := by decide +kernel
theorem dJ5_append_3fe6f_1 : decode cJ5_append_3fe6f 1 = .ok (.aload_n 0, 1) := by decide +kernel
theorem dJ5_append_3fe6f_2 : decode cJ5_append_3fe6f 2 = .ok (.getfield 79, 3) := by decide +kernel
theorem dJ5_append_3fe6f_5 : decode cJ5_append_3fe6f 5 = .ok (.iconst 1, 1) := by decide +kernel
theorem dJ5_append_3fe6f_6 : decode cJ5_append_3fe6f 6 = .ok (.iadd, 1) := by decide +kernel
theorem dJ5_append_3fe6f_7 : decode cJ5_append_3fe6f 7 = .ok (.invokevirtual 100, 3) := by decide +kernel
theorem dJ5_append_3fe6f_10 : decode cJ5_append_3fe6f 10 = .ok (.aload_n 0, 1) := by decide +kernel
theorem dJ5_append_3fe6f_11 : decode cJ5_append_3fe6f 11 = .ok (.invokevirtual 83, 3) := by decide +kernel
theorem dJ5_append_3fe6f_14 : decode cJ5_append_3fe6f 14 = .ok (.ifCond .eq 31, 3) := by decide +kernel
theorem dJ5_append_3fe6f_17 : decode cJ5_append_3fe6f 17 = .ok (.iload_n 1, 1) := by decide +kernel
theorem dJ5_append_3fe6f_18 : decode cJ5_append_3fe6f 18 = .ok (.invokestatic 191, 3) := by decide +kernel
theorem dJ5_append_3fe6f_21 : decode cJ5_append_3fe6f 21 = .ok (.ifCond .eq 24, 3) := by decide +kernel
theorem dJ5_append_3fe6f_24 : decode cJ5_append_3fe6f 24 = .ok (.aload_n 0, 1) := by decide +kernel
theorem dJ5_append_3fe6f_25 : decode cJ5_append_3fe6f 25 = .ok (.getfield 15, 3) := by decide +kernel
theorem dJ5_append_3fe6f_28 : decode cJ5_append_3fe6f 28 = .ok (.aload_n 0, 1) := by decide +kernel
theorem dJ5_append_3fe6f_29 : decode cJ5_append_3fe6f 29 = .ok (.dup, 1) := by decide +kernel
theorem dJ5_append_3fe6f_30 : decode cJ5_append_3fe6f 30 = .ok (.getfield 79, 3) := by decide +kernel
theorem dJ5_append_3fe6f_33 : decode cJ5_append_3fe6f 33 = .ok (.dup_x1, 1) := by decide +kernel
theorem dJ5_append_3fe6f_34 : decode cJ5_append_3fe6f 34 = .ok (.iconst 1, 1) := by decide +kernel
theorem dJ5_append_3fe6f_35 : decode cJ5_append_3fe6f 35 = .ok (.iadd, 1) := by decide +kernel
theorem dJ5_append_3fe6f_36 : decode cJ5_append_3fe6f 36 = .ok (.putfield 79, 3) := by decide +kernel
theorem dJ5_append_3fe6f_39 : decode cJ5_append_3fe6f 39 = .ok (.iload_n 1, 1) := by decide +kernel
theorem dJ5_append_3fe6f_40 : decode cJ5_append_3fe6f 40 = .ok (.i2b, 1) := by decide +kernel
theorem dJ5_append_3fe6f_41 : decode cJ5_append_3fe6f 41 = .ok (.bastore, 1) := by decide +kernel
theorem dJ5_append_3fe6f_42 : decode cJ5_append_3fe6f 42 = .ok (.goto 33, 3) := by decide +kernel
theorem dJ5_append_3fe6f_45 : decode cJ5_append_3fe6f 45 = .ok (.aload_n 0, 1) := by decide +kernel
theorem dJ5_append_3fe6f_46 : decode cJ5_append_3fe6f 46 = .ok (.invokevirtual 83, 3) := by decide +kernel
theorem dJ5_append_3fe6f_49 : decode cJ5_append_3fe6f 49 = .ok (.ifCond .eq 7, 3) := by decide +kernel
theorem dJ5_append_3fe6f_52 : decode cJ5_append_3fe6f 52 = .ok (.aload_n 0, 1) := by decide +kernel
theorem dJ5_append_3fe6f_53 : decode cJ5_append_3fe6f 53 = .ok (.invokevirtual 195, 3) := by decide +kernel
theorem dJ5_append_3fe6f_56 : decode cJ5_append_3fe6f 56 = .ok (.aload_n 0, 1) := by decide +kernel
theorem dJ5_append_3fe6f_57 : decode cJ5_append_3fe6f 57 = .ok (.getfield 15, 3) := by decide +kernel
theorem dJ5_append_3fe6f_60 : decode cJ5_append_3fe6f 60 = .ok (.aload_n 0, 1) := by decide +kernel
theorem dJ5_append_3fe6f_61 : decode cJ5_append_3fe6f 61 = .ok (.dup, 1) := by decide +kernel
theorem dJ5_append_3fe6f_62 : decode cJ5_append_3fe6f 62 = .ok (.getfield 79, 3) := by decide +kernel
theorem dJ5_append_3fe6f_65 : decode cJ5_append_3fe6f 65 = .ok (.dup_x1, 1) := by decide +kernel
theorem dJ5_append_3fe6f_66 : decode cJ5_append_3fe6f 66 = .ok (.iconst 1, 1) := by decide +kernel
theorem dJ5_append_3fe6f_67 : decode cJ5_append_3fe6f 67 = .ok (.iadd, 1) := by decide +kernel
theorem dJ5_append_3fe6f_68 : decode cJ5_append_3fe6f 68 = .ok (.putfield 79, 3) := by decide +kernel
theorem dJ5_append_3fe6f_71 : decode cJ5_append_3fe6f 71 = .ok (.iload_n 1, 1) := by decide +kernel
theorem dJ5_append_3fe6f_72 : decode cJ5_append_3fe6f 72 = .ok (.invokestatic 197, 3) := by decide +kernel
theorem dJ5_append_3fe6f_75 : decode cJ5_append_3fe6f 75 = .ok (.aload_n 0, 1) := by decide +kernel
theorem dJ5_append_3fe6f_76 : decode cJ5_append_3fe6f 76 = .ok (.areturn, 1) := by decide +kernel
set_option maxRecDepth 20000 in
theorem ggJ5_append_c97b9_J6_stringSize_0f7a4 : GoodIn wsJ5_append_c97b9 wsJ6_stringSize_0f7a4 := goodIn_r _ [6] (by decide +kernel) (by decide +kernel)
set_option maxRecDepth 20000 in
theorem gJ5_append_c97b9_J6_stringSize_0f7a4 : GoodIn wsJ5_append_c97b9 (va_wsS RJ5 245 yJ6_stringSize_0f7a4 wsJ6_stringSize_0f7a4) := goodIn_app (goodIn_of _ (by decide +kernel)) ggJ5_append_c97b9_J6_stringSize_0f7a4
set_option maxRecDepth 20000 in
theorem ggJ5_append_c97b9_J5_ensureCapacityInternal_d00df : GoodIn wsJ5_append_c97b9 wsJ5_ensureCapacityInternal_d00df := goodIn_r _ [12, 2, 13, 14, 15, 16, 17, 11, 18, 19, 20, 21, 22, 23, 24, 25, 26, 27, 28, 29, 30, 31, 32, 33, 34, 35, 36, 37, 38, 39, 40, 41, 42, 43, 44, 45, 46, 47, 48, 49, 91, 92, 93, 94] (by decide +kernel) (by decide +kernel)
set_option maxRecDepth 20000 in
theorem gJ5_append_c97b9_J5_ensureCapacityInternal_d00df_u100J4 : GoodIn wsJ5_append_c97b9 (va_wsU RJ5 100 RJ4 "java/lang/AbstractStringBuilder" ⟨"java/lang/AbstractStringBuilder", "ensureCapacityInternal", "(I)V"⟩ yJ5_ensureCapacityInternal_d00df wsJ5_ensureCapacityInternal_d00df) := goodIn_app (goodIn_of _ (by decide +kernel)) ggJ5_append_c97b9_J5_ensureCapacityInternal_d00df
set_option maxRecDepth 20000 in
theorem ggJ5_append_c97b9_J5_isLatin1_aae02 : GoodIn wsJ5_append_c97b9 wsJ5_isLatin1_aae02 := goodIn_r _ [54, 55, 13, 91, 92, 93, 94] (by decide +kernel) (by decide +kernel)
set_option maxRecDepth 20000 in
theorem gJ5_append_c97b9_J5_isLatin1_aae02_u83J4 : GoodIn wsJ5_append_c97b9 (va_wsU RJ5 83 RJ4 "java/lang/AbstractStringBuilder" ⟨"java/lang/AbstractStringBuilder", "isLatin1", "()Z"⟩ yJ5_isLatin1_aae02 wsJ5_isLatin1_aae02) := goodIn_app (goodIn_of _ (by decide +kernel)) ggJ5_append_c97b9_J5_isLatin1_aae02
set_option maxRecDepth 20000 in
theorem ggJ5_append_c97b9_J6_getChars_ba4f3 : GoodIn wsJ5_append_c97b9 wsJ6_getChars_ba4f3 := goodIn_r _ [58, 59, 60] (by decide +kernel) (by decide +kernel)
set_option maxRecDepth 20000 in
theorem gJ5_append_c97b9_J6_getChars_ba4f3 : GoodIn wsJ5_append_c97b9 (va_wsS RJ5 248 yJ6_getChars_ba4f3 wsJ6_getChars_ba4f3) := goodIn_app (goodIn_of _ (by decide +kernel)) ggJ5_append_c97b9_J6_getChars_ba4f3
set_option maxRecDepth 20000 in
theorem ggJ5_append_c97b9_J2_getChars_46870 : GoodIn wsJ5_append_c97b9 wsJ2_getChars_46870 := goodIn_r _ [64, 65, 66, 67, 63, 68, 69, 70, 71, 72, 73, 74, 75, 76, 77, 78, 79, 80, 81, 82, 83, 84, 85, 86, 87, 88, 89, 90] (by decide +kernel) (by decide +kernel)
set_option maxRecDepth 20000 in
theorem gJ5_append_c97b9_J2_getChars_46870 : GoodIn wsJ5_append_c97b9 (va_wsS RJ5 251 yJ2_getChars_46870 wsJ2_getChars_46870) := goodIn_app (goodIn_of _ (by decide +kernel)) ggJ5_append_c97b9_J2_getChars_46870
theorem dJ5_append_c97b9_0 : decode cJ5_append_c97b9 0 = .ok (.aload_n 0, 1) := by decide +kernel
theorem dJ5_append_c97b9_1 : decode cJ5_append_c97b9 1 = .ok (.getfield 79, 3) := by decide +kernel
theorem dJ5_append_c97b9_4 : decode cJ5_append_c97b9 4 = .ok (.istore_n 2, 1) := by decide +kernel
theorem dJ5_append_c97b9_5 : decode cJ5_append_c97b9 5 = .ok (.iload_n 2, 1) := by decide +kernel
theorem dJ5_append_c97b9_6 : decode cJ5_append_c97b9 6 = .ok (.iload_n 1, 1) := by decide +kernel
theorem dJ5_append_c97b9_7 : decode cJ5_append_c97b9 7 = .ok (.invokestatic 245, 3) := by decide +kernel
theorem dJ5_append_c97b9_10 : decode cJ5_append_c97b9 10 = .ok (.iadd, 1) := by decide +kernel
theorem dJ5_append_c97b9_11 : decode cJ5_append_c97b9 11 = .ok (.istore_n 3, 1) := by decide +kernel
theorem dJ5_append_c97b9_12 : decode cJ5_append_c97b9 12 = .ok (.aload_n 0, 1) := by decide +kernel
theorem dJ5_append_c97b9_13 : decode cJ5_append_c97b9 13 = .ok (.iload_n 3, 1) := by decide +kernel
theorem dJ5_append_c97b9_14 : decode cJ5_append_c97b9 14 = .ok (.invokevirtual 100, 3) := by decide +kernel
theorem dJ5_append_c97b9_17 : decode cJ5_append_c97b9 17 = .ok (.aload_n 0, 1) := by decide +kernel
theorem dJ5_append_c97b9_18 : decode cJ5_append_c97b9 18 = .ok (.invokevirtual 83, 3) := by decide +kernel
theorem dJ5_append_c97b9_21 : decode cJ5_append_c97b9 21 = .ok (.ifCond .eq 16, 3) := by decide +kernel
theorem dJ5_append_c97b9_24 : decode cJ5_append_c97b9 24 = .ok (.iload_n 1, 1) := by decide +kernel
theorem dJ5_append_c97b9_25 : decode cJ5_append_c97b9 25 = .ok (.iload_n 3, 1) := by decide +kernel
theorem dJ5_append_c97b9_26 : decode cJ5_append_c97b9 26 = .ok (.aload_n 0, 1) := by decide +kernel
theorem dJ5_append_c97b9_27 : decode cJ5_append_c97b9 27 = .ok (.getfield 15, 3) := by decide +kernel
theorem dJ5_append_c97b9_30 : decode cJ5_append_c97b9 30 = .ok (.invokestatic 248, 3) := by decide +kernel
theorem dJ5_append_c97b9_33 : decode cJ5_append_c97b9 33 = .ok (.pop, 1) := by decide +kernel
theorem dJ5_append_c97b9_34 : decode cJ5_append_c97b9 34 = .ok (.goto 14, 3) := by decide +kernel
theorem dJ5_append_c97b9_37 : decode cJ5_append_c97b9 37 = .ok (.iload_n 1, 1) := by decide +kernel
theorem dJ5_append_c97b9_38 : decode cJ5_append_c97b9 38 = .ok (.iload_n 2, 1) := by decide +kernel
theorem dJ5_append_c97b9_39 : decode cJ5_append_c97b9 39 = .ok (.iload_n 3, 1) := by decide +kernel
theorem dJ5_append_c97b9_40 : decode cJ5_append_c97b9 40 = .ok (.aload_n 0, 1) := by decide +kernel
theorem dJ5_append_c97b9_41 : decode cJ5_append_c97b9 41 = .ok (.getfield 15, 3) := by decide +kernel
theorem dJ5_append_c97b9_44 : decode cJ5_append_c97b9 44 = .ok (.invokestatic 251, 3) := by decide +kernel
theorem dJ5_append_c97b9_47 : decode cJ5_append_c97b9 47 = .ok (.pop, 1) := by decide +kernel
theorem dJ5_append_c97b9_48 : decode cJ5_append_c97b9 48 = .ok (.aload_n 0, 1) := by decide +kernel
theorem dJ5_append_c97b9_49 : decode cJ5_append_c97b9 49 = .ok (.iload_n 3, 1) := by decide +kernel
theorem dJ5_append_c97b9_50 : decode cJ5_append_c97b9 50 = .ok (.putfield 79, 3) := by decide +kernel
theorem dJ5_append_c97b9_53 : decode cJ5_append_c97b9 53 = .ok (.aload_n 0, 1) := by decide +kernel
theorem dJ5_append_c97b9_54 : decode cJ5_append_c97b9 54 = .ok (.areturn, 1) := by decide +kernel
theorem dJ5_getValue_6d5f1_0 : decode cJ5_getValue_6d5f1 0 = .ok (.aload_n 0, 1) := by decide +kernel
theorem dJ5_getValue_6d5f1_1 : decode cJ5_getValue_6d5f1 1 = .ok (.getfield 15, 3) := by decide +kernel
theorem dJ5_getValue_6d5f1_4 : decode cJ5_getValue_6d5f1 4 = .ok (.areturn, 1) := by decide +kernel
theorem dJ5_isLatin1_aae02_0 : decode cJ5_isLatin1_aae02 0 = .ok (.getstatic 18, 3) := by decide +kernel
theorem dJ5_isLatin1_aae02_3 : decode cJ5_isLatin1_aae02 3 = .ok (.ifCond .eq 14, 3) := by decide +kernel
theorem dJ5_isLatin1_aae02_6 : decode cJ5_isLatin1_aae02 6 = .ok (.aload_n 0, 1) := by decide +kernel
theorem dJ5_isLatin1_aae02_7 : decode cJ5_isLatin1_aae02 7 = .ok (.getfield 22, 3) := by decide +kernel
theorem dJ5_isLatin1_aae02_10 : decode cJ5_isLatin1_aae02 10 = .ok (.ifCond .ne 7, 3) := by decide +kernel
theorem dJ5_isLatin1_aae02_13 : decode cJ5_isLatin1_aae02 13 = .ok (.iconst 1, 1) := by decide +kernel
theorem dJ5_isLatin1_aae02_14 : decode cJ5_isLatin1_aae02 14 = .ok (.goto 4, 3) := by decide +kernel
theorem dJ5_isLatin1_aae02_17 : decode cJ5_isLatin1_aae02 17 = .ok (.iconst 0, 1) := by decide +kernel
theorem dJ5_isLatin1_aae02_18 : decode cJ5_isLatin1_aae02 18 = .ok (.ireturn, 1) := by decide +kernel
set_option maxRecDepth 20000 in
theorem ggJ5_inflateIfNeededFor_a7421_J0_coder_7d493 : GoodIn wsJ5_inflateIfNeededFor_a7421 wsJ0_coder_7d493 := goodIn_r _ [7, 8, 9, 63, 64, 65, 66] (by decide +kernel) (by decide +kernel)
set_option maxRecDepth 20000 in
theorem gJ5_inflateIfNeededFor_a7421_J0_coder_7d493 : GoodIn wsJ5_inflateIfNeededFor_a7421 (wsV RJ5 40 RJ0 yJ0_coder_7d493 wsJ0_coder_7d493) := goodIn_app (goodIn_of _ (by decide +kernel)) ggJ5_inflateIfNeededFor_a7421_J0_coder_7d493
set_option maxRecDepth 20000 in
theorem ggJ5_inflateIfNeededFor_a7421_J5_inflate_da8c8 : GoodIn wsJ5_inflateIfNeededFor_a7421 wsJ5_inflate_da8c8 := goodIn_r _ [15, 16, 17, 2, 18, 19, 20, 21, 14, 22, 1, 23, 24, 25, 26, 27, 28, 29, 30, 31, 32, 33, 34, 35, 36, 37, 38, 39, 40, 41, 42, 43, 44, 45, 46, 6, 47, 48, 49, 50, 51, 52, 53, 54, 55, 56, 57, 58, 59, 60, 61, 62] (by decide +kernel) (by decide +kernel)
set_option maxRecDepth 20000 in
theorem gJ5_inflateIfNeededFor_a7421_J5_inflate_da8c8_u195J4 : GoodIn wsJ5_inflateIfNeededFor_a7421 (va_wsU RJ5 195 RJ4 "java/lang/AbstractStringBuilder" ⟨"java/lang/AbstractStringBuilder", "inflate", "()V"⟩ yJ5_inflate_da8c8 wsJ5_inflate_da8c8) := goodIn_app (goodIn_of _ (by decide +kernel)) ggJ5_inflateIfNeededFor_a7421_J5_inflate_da8c8
theorem dJ5_inflateIfNeededFor_a7421_0 : decode cJ5_inflateIfNeededFor_a7421 0 = .ok (.getstatic 18, 3) := by decide +kernel
theorem dJ5_inflateIfNeededFor_a7421_3 : decode cJ5_inflateIfNeededFor_a7421 3 = .ok (.ifCond .eq 18, 3) := by decide +kernel
theorem dJ5_inflateIfNeededFor_a7421_6 : decode cJ5_inflateIfNeededFor_a7421 6 = .ok (.aload_n 0, 1) := by decide +kernel
theorem dJ5_inflateIfNeededFor_a7421_7 : decode cJ5_inflateIfNeededFor_a7421 7 = .ok (.getfield 22, 3) := by decide +kernel
theorem dJ5_inflateIfNeededFor_a7421_10 : decode cJ5_inflateIfNeededFor_a7421 10 = .ok (.aload_n 1, 1) := by decide +kernel
theorem dJ5_inflateIfNeededFor_a7421_11 : decode cJ5_inflateIfNeededFor_a7421 11 = .ok (.invokevirtual 40, 3) := by decide +kernel
theorem dJ5_inflateIfNeededFor_a7421_14 : decode cJ5_inflateIfNeededFor_a7421 14 = .ok (.if_icmp .eq 7, 3) := by decide +kernel
theorem dJ5_inflateIfNeededFor_a7421_17 : decode cJ5_inflateIfNeededFor_a7421 17 = .ok (.aload_n 0, 1) := by decide +kernel
theorem dJ5_inflateIfNeededFor_a7421_18 : decode cJ5_inflateIfNeededFor_a7421 18 = .ok (.invokevirtual 195, 3) := by decide +kernel
theorem dJ5_inflateIfNeededFor_a7421_21 : decode cJ5_inflateIfNeededFor_a7421 21 = .ok (.return_, 1) := by decide +kernel
set_option maxRecDepth 20000 in
theorem ggJ5_putStringAt_47b60_J5_inflateIfNeededFor_a7421 : GoodIn wsJ5_putStringAt_47b60 wsJ5_inflateIfNeededFor_a7421 := goodIn_r _ [8, 9, 2, 10, 11, 12, 13, 14, 15, 16, 17, 18, 19, 20, 7, 21, 1, 22, 23, 24, 25, 26, 27, 28, 29, 30, 31, 32, 33, 34, 35, 36, 37, 38, 39, 40, 41, 42, 43, 44, 45, 46, 47, 48, 49, 50, 51, 52, 53, 54, 55, 56, 57, 58, 59, 60, 61, 62, 63, 75, 76, 77, 78, 79, 80, 81, 82] (by decide +kernel) (by decide +kernel)
set_option maxRecDepth 20000 in
theorem gJ5_putStringAt_47b60_J5_inflateIfNeededFor_a7421_u397J4 : GoodIn wsJ5_putStringAt_47b60 (va_wsU RJ5 397 RJ4 "java/lang/AbstractStringBuilder" ⟨"java/lang/AbstractStringBuilder", "inflateIfNeededFor", "(Ljava/lang/String;)V"⟩ yJ5_inflateIfNeededFor_a7421 wsJ5_inflateIfNeededFor_a7421) := goodIn_app (goodIn_of _ (by decide +kernel)) ggJ5_putStringAt_47b60_J5_inflateIfNeededFor_a7421
set_option maxRecDepth 20000 in
theorem ggJ5_putStringAt_47b60_J0_getBytes_840e7 : GoodIn wsJ5_putStringAt_47b60 wsJ0_getBytes_840e7 := goodIn_r _ [67, 68, 69, 70, 71, 72, 73, 11, 12, 13, 14, 15, 16, 74, 38, 39, 40, 41, 42, 30, 43, 44, 45, 46, 47, 48, 49, 50, 51, 52, 53, 54, 55, 56, 57, 58, 59, 60, 61, 62, 63, 79, 80, 81, 82] (by decide +kernel) (by decide +kernel)
set_option maxRecDepth 20000 in
theorem gJ5_putStringAt_47b60_J0_getBytes_840e7 : GoodIn wsJ5_putStringAt_47b60 (wsV RJ5 399 RJ0 yJ0_getBytes_840e7 wsJ0_getBytes_840e7) := goodIn_app (goodIn_of _ (by decide +kernel)) ggJ5_putStringAt_47b60_J0_getBytes_840e7
theorem dJ5_putStringAt_47b60_0 : decode cJ5_putStringAt_47b60 0 = .ok (.aload_n 0, 1) := by decide +kernel
theorem dJ5_putStringAt_47b60_1 : decode cJ5_putStringAt_47b60 1 = .ok (.aload_n 2, 1) := by decide +kernel
theorem dJ5_putStringAt_47b60_2 : decode cJ5_putStringAt_47b60 2 = .ok (.invokevirtual 397, 3) := by decide +kernel
theorem dJ5_putStringAt_47b60_5 : decode cJ5_putStringAt_47b60 5 = .ok (.aload_n 2, 1) := by decide +kernel
theorem dJ5_putStringAt_47b60_6 : decode cJ5_putStringAt_47b60 6 = .ok (.aload_n 0, 1) := by decide +kernel
theorem dJ5_putStringAt_47b60_7 : decode cJ5_putStringAt_47b60 7 = .ok (.getfield 15, 3) := by decide +kernel
theorem dJ5_putStringAt_47b60_10 : decode cJ5_putStringAt_47b60 10 = .ok (.iload_n 1, 1) := by decide +kernel
theorem dJ5_putStringAt_47b60_11 : decode cJ5_putStringAt_47b60 11 = .ok (.aload_n 0, 1) := by decide +kernel
theorem dJ5_putStringAt_47b60_12 : decode cJ5_putStringAt_47b60 12 = .ok (.getfield 22, 3) := by decide +kernel
theorem dJ5_putStringAt_47b60_15 : decode cJ5_putStringAt_47b60 15 = .ok (.invokevirtual 399, 3) := by decide +kernel
theorem dJ5_putStringAt_47b60_18 : decode cJ5_putStringAt_47b60 18 = .ok (.return_, 1) := by decide +kernel
theorem dJ6_getChars_ba4f3_0 : decode cJ6_getChars_ba4f3 0 = .ok (.iload_n 1, 1) := by decide +kernel
theorem dJ6_getChars_ba4f3_1 : decode cJ6_getChars_ba4f3 1 = .ok (.istore 5, 2) := by decide +kernel
