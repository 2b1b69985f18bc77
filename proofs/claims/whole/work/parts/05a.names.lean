set_option maxRecDepth 20000 in
theorem gL_lastRun_X6_lastRun : GoodIn wsL_lastRun (wsV RL 65 RX6 yX6_lastRun wsX6_lastRun) := goodIn_app (goodIn_of _ (by decide +kernel)) ggL_lastRun_X6_lastRun
theorem dL_lastRun_0 : decode cL_lastRun 0 = .ok (.aload_n 2, 1) := by decide +kernel
theorem dL_lastRun_1 : decode cL_lastRun 1 = .ok (.iconst 0, 1) := by decide +kernel
theorem dL_lastRun_2 : decode cL_lastRun 2 = .ok (.aload_n 0, 1) := by decide +kernel
theorem dL_lastRun_3 : decode cL_lastRun 3 = .ok (.iload_n 1, 1) := by decide +kernel
theorem dL_lastRun_4 : decode cL_lastRun 4 = .ok (.invokevirtual 65, 3) := by decide +kernel
theorem dL_lastRun_7 : decode cL_lastRun 7 = .ok (.i2l, 1) := by decide +kernel
theorem dL_lastRun_8 : decode cL_lastRun 8 = .ok (.lastore, 1) := by decide +kernel
theorem dL_lastRun_9 : decode cL_lastRun 9 = .ok (.goto 6, 3) := by decide +kernel
theorem dL_lastRun_12 : decode cL_lastRun 12 = .ok (.astore_n 3, 1) := by decide +kernel
theorem dL_lastRun_13 : decode cL_lastRun 13 = .ok (.iconst 1, 1) := by decide +kernel
theorem dL_lastRun_14 : decode cL_lastRun 14 = .ok (.ireturn, 1) := by decide +kernel
theorem dL_lastRun_15 : decode cL_lastRun 15 = .ok (.iconst 0, 1) := by decide +kernel
theorem dL_lastRun_16 : decode cL_lastRun 16 = .ok (.ireturn, 1) := by decide +kernel
set_option maxRecDepth 20000 in
theorem ggL_hasResult_X6_hasResult : GoodIn wsL_hasResult wsX6_hasResult := goodIn_ca (goodIn_r _ [6, 7, 8, 9, 10, 5, 11, 12, 13, 14, 15, 16, 17, 18, 19, 20, 21, 22, 23, 24, 25, 26, 27, 28, 29, 30, 31, 32, 33, 34, 35, 36, 37, 38, 39, 40, 41, 42, 43, 44, 45, 46, 47, 48, 49, 50, 51, 52, 53, 54, 55, 56, 57, 58, 59, 60, 61, 62, 63, 64, 65, 66, 67, 68, 69, 70, 71, 72, 73, 74, 75, 76, 77, 78, 79, 80] (by decide +kernel) (by decide +kernel)) (goodIn_sub (fun _ h => List.mem_cons_of_mem _ (List.mem_append_right _ h)) (by decide +kernel))
set_option maxRecDepth 20000 in
theorem gL_hasResult_X6_hasResult : GoodIn wsL_hasResult (wsV RL 68 RX6 yX6_hasResult wsX6_hasResult) := goodIn_app (goodIn_of _ (by decide +kernel)) ggL_hasResult_X6_hasResult
theorem dL_hasResult_0 : decode cL_hasResult 0 = .ok (.aload_n 2, 1) := by decide +kernel
theorem dL_hasResult_1 : decode cL_hasResult 1 = .ok (.iconst 0, 1) := by decide +kernel
theorem dL_hasResult_2 : decode cL_hasResult 2 = .ok (.aload_n 0, 1) := by decide +kernel
theorem dL_hasResult_3 : decode cL_hasResult 3 = .ok (.iload_n 1, 1) := by decide +kernel
theorem dL_hasResult_4 : decode cL_hasResult 4 = .ok (.invokevirtual 68, 3) := by decide +kernel
theorem dL_hasResult_7 : decode cL_hasResult 7 = .ok (.ifCond .eq 7, 3) := by decide +kernel
theorem dL_hasResult_10 : decode cL_hasResult 10 = .ok (.lconst 1, 1) := by decide +kernel
theorem dL_hasResult_11 : decode cL_hasResult 11 = .ok (.goto 4, 3) := by decide +kernel
theorem dL_hasResult_14 : decode cL_hasResult 14 = .ok (.lconst 0, 1) := by decide +kernel
theorem dL_hasResult_15 : decode cL_hasResult 15 = .ok (.lastore, 1) := by decide +kernel
theorem dL_hasResult_16 : decode cL_hasResult 16 = .ok (.goto 6, 3) := by decide +kernel
theorem dL_hasResult_19 : decode cL_hasResult 19 = .ok (.astore_n 3, 1) := by decide +kernel
theorem dL_hasResult_20 : decode cL_hasResult 20 = .ok (.iconst 1, 1) := by decide +kernel
theorem dL_hasResult_21 : decode cL_hasResult 21 = .ok (.ireturn, 1) := by decide +kernel
theorem dL_hasResult_22 : decode cL_hasResult 22 = .ok (.iconst 0, 1) := by decide +kernel
theorem dL_hasResult_23 : decode cL_hasResult 23 = .ok (.ireturn, 1) := by decide +kernel
set_option maxRecDepth 20000 in
theorem ggL_result_X6_result : GoodIn wsL_result wsX6_result := goodIn_ca (goodIn_ca (goodIn_r _ [7, 8, 9, 10, 11, 12, 13, 6, 14, 15, 16, 17, 18, 19, 20, 21, 22, 23, 24, 25, 26, 27, 28, 29, 30, 31, 32, 33, 34, 35, 36, 37, 38, 39, 40, 41, 42, 43, 44, 45, 46, 47, 48, 49, 50, 51, 52, 53, 54, 55, 56, 57, 58, 59, 60, 61, 62, 63, 64, 65, 66, 67, 68, 69, 70, 71, 72, 73, 74, 75, 76, 77, 78, 79, 80, 81, 82, 83, 84, 85, 86, 87, 88, 89, 90, 91, 92, 93, 94, 95, 96, 97, 98, 99, 100] (by decide +kernel) (by decide +kernel)) (goodIn_sub (fun _ h => List.mem_cons_of_mem _ (List.mem_append_left _ (List.mem_append_right _ h))) (by decide +kernel))) (goodIn_sub (fun _ h => List.mem_cons_of_mem _ (List.mem_append_right _ h)) (by decide +kernel))
set_option maxRecDepth 20000 in
theorem gL_result_X6_result : GoodIn wsL_result (wsV RL 71 RX6 yX6_result wsX6_result) := goodIn_app (goodIn_of _ (by decide +kernel)) ggL_result_X6_result
theorem dL_result_0 : decode cL_result 0 = .ok (.aload_n 3, 1) := by decide +kernel
theorem dL_result_1 : decode cL_result 1 = .ok (.iconst 0, 1) := by decide +kernel
theorem dL_result_2 : decode cL_result 2 = .ok (.aload_n 0, 1) := by decide +kernel
theorem dL_result_3 : decode cL_result 3 = .ok (.iload_n 1, 1) := by decide +kernel
theorem dL_result_4 : decode cL_result 4 = .ok (.iload_n 2, 1) := by decide +kernel
theorem dL_result_5 : decode cL_result 5 = .ok (.invokevirtual 71, 3) := by decide +kernel
theorem dL_result_8 : decode cL_result 8 = .ok (.i2l, 1) := by decide +kernel
theorem dL_result_9 : decode cL_result 9 = .ok (.lastore, 1) := by decide +kernel
theorem dL_result_10 : decode cL_result 10 = .ok (.goto 11, 3) := by decide +kernel
theorem dL_result_13 : decode cL_result 13 = .ok (.astore 4, 2) := by decide +kernel
theorem dL_result_15 : decode cL_result 15 = .ok (.iconst 1, 1) := by decide +kernel
theorem dL_result_16 : decode cL_result 16 = .ok (.ireturn, 1) := by decide +kernel
theorem dL_result_17 : decode cL_result 17 = .ok (.astore 4, 2) := by decide +kernel
theorem dL_result_19 : decode cL_result 19 = .ok (.iconst 2, 1) := by decide +kernel
theorem dL_result_20 : decode cL_result 20 = .ok (.ireturn, 1) := by decide +kernel
theorem dL_result_21 : decode cL_result 21 = .ok (.iconst 0, 1) := by decide +kernel
theorem dL_result_22 : decode cL_result 22 = .ok (.ireturn, 1) := by decide +kernel
set_option maxRecDepth 20000 in
theorem ggL_seen_X6_seen : GoodIn wsL_seen wsX6_seen := goodIn_ca (goodIn_r _ [6, 7, 8, 9, 10, 5, 11, 12, 13, 14, 15, 16, 17, 18, 19, 20, 21, 22, 23, 24, 25, 26, 27, 28, 29, 30, 31, 32, 33, 34, 35, 36, 37, 38, 39, 40, 41, 42, 43, 44, 45, 46, 47, 48, 49, 50, 51, 52, 53, 54, 55, 56, 57, 58, 59, 60, 61, 62, 63, 64, 65, 66, 67, 68, 69, 70, 71, 72, 73, 74, 75, 76, 77, 78, 79, 80] (by decide +kernel) (by decide +kernel)) (goodIn_sub (fun _ h => List.mem_cons_of_mem _ (List.mem_append_right _ h)) (by decide +kernel))
set_option maxRecDepth 20000 in
theorem gL_seen_X6_seen : GoodIn wsL_seen (wsV RL 74 RX6 yX6_seen wsX6_seen) := goodIn_app (goodIn_of _ (by decide +kernel)) ggL_seen_X6_seen
theorem dL_seen_0 : decode cL_seen 0 = .ok (.aload_n 2, 1) := by decide +kernel
theorem dL_seen_1 : decode cL_seen 1 = .ok (.iconst 0, 1) := by decide +kernel
theorem dL_seen_2 : decode cL_seen 2 = .ok (.aload_n 0, 1) := by decide +kernel
theorem dL_seen_3 : decode cL_seen 3 = .ok (.iload_n 1, 1) := by decide +kernel
theorem dL_seen_4 : decode cL_seen 4 = .ok (.invokevirtual 74, 3) := by decide +kernel
theorem dL_seen_7 : decode cL_seen 7 = .ok (.i2l, 1) := by decide +kernel
theorem dL_seen_8 : decode cL_seen 8 = .ok (.lastore, 1) := by decide +kernel
theorem dL_seen_9 : decode cL_seen 9 = .ok (.goto 6, 3) := by decide +kernel
theorem dL_seen_12 : decode cL_seen 12 = .ok (.astore_n 3, 1) := by decide +kernel
theorem dL_seen_13 : decode cL_seen 13 = .ok (.iconst 1, 1) := by decide +kernel
theorem dL_seen_14 : decode cL_seen 14 = .ok (.ireturn, 1) := by decide +kernel
theorem dL_seen_15 : decode cL_seen 15 = .ok (.iconst 0, 1) := by decide +kernel
theorem dL_seen_16 : decode cL_seen 16 = .ok (.ireturn, 1) := by decide +kernel
set_option maxRecDepth 20000 in
theorem ggL_timesSeen_X6_timesSeen : GoodIn wsL_timesSeen wsX6_timesSeen := goodIn_ca (goodIn_r _ [6, 7, 8, 9, 10, 5, 11, 12, 13, 14, 15, 16, 17, 18, 19, 20, 21, 22, 23, 24, 25, 26, 27, 28, 29, 30, 31, 32, 33, 34, 35, 36, 37, 38, 39, 40, 41, 42, 43, 44, 45, 46, 47, 48, 49, 50, 51, 52, 53, 54, 55, 56, 57, 58, 59, 60, 61, 62, 63] (by decide +kernel) (by decide +kernel)) (goodIn_sub (fun _ h => List.mem_cons_of_mem _ (List.mem_append_right _ h)) (by decide +kernel))
set_option maxRecDepth 20000 in
theorem gL_timesSeen_X6_timesSeen : GoodIn wsL_timesSeen (wsV RL 77 RX6 yX6_timesSeen wsX6_timesSeen) := goodIn_app (goodIn_of _ (by decide +kernel)) ggL_timesSeen_X6_timesSeen
theorem dL_timesSeen_0 : decode cL_timesSeen 0 = .ok (.aload_n 2, 1) := by decide +kernel
theorem dL_timesSeen_1 : decode cL_timesSeen 1 = .ok (.iconst 0, 1) := by decide +kernel
theorem dL_timesSeen_2 : decode cL_timesSeen 2 = .ok (.aload_n 0, 1) := by decide +kernel
theorem dL_timesSeen_3 : decode cL_timesSeen 3 = .ok (.iload_n 1, 1) := by decide +kernel
theorem dL_timesSeen_4 : decode cL_timesSeen 4 = .ok (.invokevirtual 77, 3) := by decide +kernel
theorem dL_timesSeen_7 : decode cL_timesSeen 7 = .ok (.i2l, 1) := by decide +kernel
theorem dL_timesSeen_8 : decode cL_timesSeen 8 = .ok (.lastore, 1) := by decide +kernel
theorem dL_timesSeen_9 : decode cL_timesSeen 9 = .ok (.goto 6, 3) := by decide +kernel
theorem dL_timesSeen_12 : decode cL_timesSeen 12 = .ok (.astore_n 3, 1) := by decide +kernel
theorem dL_timesSeen_13 : decode cL_timesSeen 13 = .ok (.iconst 1, 1) := by decide +kernel
theorem dL_timesSeen_14 : decode cL_timesSeen 14 = .ok (.ireturn, 1) := by decide +kernel
theorem dL_timesSeen_15 : decode cL_timesSeen 15 = .ok (.iconst 0, 1) := by decide +kernel
theorem dL_timesSeen_16 : decode cL_timesSeen 16 = .ok (.ireturn, 1) := by decide +kernel
set_option maxRecDepth 20000 in
theorem ggL_why_X6_why : GoodIn wsL_why wsX6_why := goodIn_ca (goodIn_r _ [6, 7, 8, 9, 5, 10, 11, 12, 13, 14, 15, 16, 17, 18, 19, 20, 21, 22, 23, 24, 25, 26, 27, 28, 29, 30, 31, 32, 33, 34, 35, 36, 37, 38, 39, 40, 41, 42, 43, 44, 45, 46, 47, 48, 49, 50, 51, 52, 53, 54, 55, 56, 57, 58, 59, 60, 61, 62, 63, 64, 65, 66, 67, 68, 69, 70, 71, 72, 73, 74, 75, 76, 77, 78, 79, 80, 81, 82, 83, 84, 85, 86, 87, 88, 89, 90, 91, 92, 93, 94, 95, 96, 97, 98, 99, 100, 101, 102, 103, 104, 105, 106, 107, 108, 109, 110, 111, 112, 113, 114, 115, 116, 117, 118, 119, 120] (by decide +kernel) (by decide +kernel)) (goodIn_sub (fun _ h => List.mem_cons_of_mem _ (List.mem_append_right _ h)) (by decide +kernel))
set_option maxRecDepth 20000 in
theorem gL_why_X6_why : GoodIn wsL_why (wsV RL 80 RX6 yX6_why wsX6_why) := goodIn_app (goodIn_of _ (by decide +kernel)) ggL_why_X6_why
theorem dL_why_0 : decode cL_why 0 = .ok (.aload_n 2, 1) := by decide +kernel
theorem dL_why_1 : decode cL_why 1 = .ok (.iconst 0, 1) := by decide +kernel
theorem dL_why_2 : decode cL_why 2 = .ok (.aload_n 0, 1) := by decide +kernel
theorem dL_why_3 : decode cL_why 3 = .ok (.iload_n 1, 1) := by decide +kernel
theorem dL_why_4 : decode cL_why 4 = .ok (.invokevirtual 80, 3) := by decide +kernel
theorem dL_why_7 : decode cL_why 7 = .ok (.i2l, 1) := by decide +kernel
theorem dL_why_8 : decode cL_why 8 = .ok (.lastore, 1) := by decide +kernel
theorem dL_why_9 : decode cL_why 9 = .ok (.goto 6, 3) := by decide +kernel
theorem dL_why_12 : decode cL_why 12 = .ok (.astore_n 3, 1) := by decide +kernel
theorem dL_why_13 : decode cL_why 13 = .ok (.iconst 1, 1) := by decide +kernel
theorem dL_why_14 : decode cL_why 14 = .ok (.ireturn, 1) := by decide +kernel
theorem dL_why_15 : decode cL_why 15 = .ok (.iconst 0, 1) := by decide +kernel
theorem dL_why_16 : decode cL_why 16 = .ok (.ireturn, 1) := by decide +kernel
set_option maxRecDepth 20000 in
theorem ggL_wouldBeStale_X6_wouldBeStale : GoodIn wsL_wouldBeStale wsX6_wouldBeStale := goodIn_ca (goodIn_r _ [6, 7, 8, 5, 9, 10, 11, 12, 13, 14, 15, 16, 17, 18, 19, 20, 21, 22, 23, 24, 25, 26, 27, 28, 29, 30, 31, 32, 33, 34, 35, 36, 37, 38, 39, 40, 41, 42, 43, 44, 45, 46, 47, 48, 49, 50, 51, 52, 53, 54, 55, 56, 57, 58, 59, 60, 61, 62, 63, 64, 65, 66, 67, 68, 69, 70, 71, 72, 73, 74, 75, 76, 77, 78, 79, 80, 81, 82, 83, 84, 85, 86, 87, 88, 89, 90, 91, 92, 93, 94, 95, 96, 97, 98, 99, 100, 101, 102, 103, 104, 105, 106, 107, 108, 109, 110, 111, 112, 113, 114] (by decide +kernel) (by decide +kernel)) (goodIn_sub (fun _ h => List.mem_cons_of_mem _ (List.mem_append_right _ h)) (by decide +kernel))
set_option maxRecDepth 20000 in
theorem gL_wouldBeStale_X6_wouldBeStale : GoodIn wsL_wouldBeStale (wsV RL 83 RX6 yX6_wouldBeStale wsX6_wouldBeStale) := goodIn_app (goodIn_of _ (by decide +kernel)) ggL_wouldBeStale_X6_wouldBeStale
theorem dL_wouldBeStale_0 : decode cL_wouldBeStale 0 = .ok (.aload_n 2, 1) := by decide +kernel
theorem dL_wouldBeStale_1 : decode cL_wouldBeStale 1 = .ok (.iconst 0, 1) := by decide +kernel
theorem dL_wouldBeStale_2 : decode cL_wouldBeStale 2 = .ok (.aload_n 0, 1) := by decide +kernel
theorem dL_wouldBeStale_3 : decode cL_wouldBeStale 3 = .ok (.iload_n 1, 1) := by decide +kernel
theorem dL_wouldBeStale_4 : decode cL_wouldBeStale 4 = .ok (.invokevirtual 83, 3) := by decide +kernel
theorem dL_wouldBeStale_7 : decode cL_wouldBeStale 7 = .ok (.i2l, 1) := by decide +kernel
theorem dL_wouldBeStale_8 : decode cL_wouldBeStale 8 = .ok (.lastore, 1) := by decide +kernel
theorem dL_wouldBeStale_9 : decode cL_wouldBeStale 9 = .ok (.goto 6, 3) := by decide +kernel
theorem dL_wouldBeStale_12 : decode cL_wouldBeStale 12 = .ok (.astore_n 3, 1) := by decide +kernel
theorem dL_wouldBeStale_13 : decode cL_wouldBeStale 13 = .ok (.iconst 1, 1) := by decide +kernel
theorem dL_wouldBeStale_14 : decode cL_wouldBeStale 14 = .ok (.ireturn, 1) := by decide +kernel
theorem dL_wouldBeStale_15 : decode cL_wouldBeStale 15 = .ok (.iconst 0, 1) := by decide +kernel
theorem dL_wouldBeStale_16 : decode cL_wouldBeStale 16 = .ok (.ireturn, 1) := by decide +kernel
set_option maxRecDepth 20000 in
theorem ggL_keep_X6_keep : GoodIn wsL_keep wsX6_keep := goodIn_ca (goodIn_r _ [6, 7, 8, 9, 10, 11, 12, 13, 14, 15, 16, 17, 18, 19, 20, 21, 22, 23, 24, 25, 26, 27, 28, 29, 30, 31, 32, 33, 34, 35, 36, 37, 38, 39, 40, 41, 42, 43, 44, 45, 46, 47, 48, 5, 49, 50, 51, 52, 53, 54, 55, 56, 57, 58, 59, 60, 61, 62, 63, 64, 65, 66, 67, 68, 69, 70, 71, 72, 73, 74, 75, 76, 77, 78, 79, 80, 81, 82, 83, 84, 85, 86, 87, 88, 89, 90, 91, 92, 93, 94, 95, 96, 97, 98, 99, 100, 101, 102, 103, 104, 105, 106, 107, 108, 109, 110, 111, 112, 113, 114, 115, 116, 117, 118, 119, 120, 121, 122, 123, 124, 125, 126, 127, 128, 129, 130, 131, 132, 133, 134] (by decide +kernel) (by decide +kernel)) (goodIn_sub (fun _ h => List.mem_cons_of_mem _ (List.mem_append_right _ h)) (by decide +kernel))
set_option maxRecDepth 20000 in
theorem gL_keep_X6_keep : GoodIn wsL_keep (wsV RL 86 RX6 yX6_keep wsX6_keep) := goodIn_app (goodIn_of _ (by decide +kernel)) ggL_keep_X6_keep
theorem dL_keep_0 : decode cL_keep 0 = .ok (.aload_n 1, 1) := by decide +kernel
theorem dL_keep_1 : decode cL_keep 1 = .ok (.iconst 0, 1) := by decide +kernel
theorem dL_keep_2 : decode cL_keep 2 = .ok (.aload_n 0, 1) := by decide +kernel
theorem dL_keep_3 : decode cL_keep 3 = .ok (.invokevirtual 86, 3) := by decide +kernel
theorem dL_keep_6 : decode cL_keep 6 = .ok (.i2l, 1) := by decide +kernel
theorem dL_keep_7 : decode cL_keep 7 = .ok (.lastore, 1) := by decide +kernel
theorem dL_keep_8 : decode cL_keep 8 = .ok (.goto 6, 3) := by decide +kernel
theorem dL_keep_11 : decode cL_keep 11 = .ok (.astore_n 2, 1) := by decide +kernel
theorem dL_keep_12 : decode cL_keep 12 = .ok (.iconst 1, 1) := by decide +kernel
theorem dL_keep_13 : decode cL_keep 13 = .ok (.ireturn, 1) := by decide +kernel
theorem dL_keep_14 : decode cL_keep 14 = .ok (.iconst 0, 1) := by decide +kernel
theorem dL_keep_15 : decode cL_keep 15 = .ok (.ireturn, 1) := by decide +kernel
set_option maxRecDepth 20000 in
theorem ggL_restore_X6_restore : GoodIn wsL_restore wsX6_restore := goodIn_ca (goodIn_r _ [6, 7, 8, 9, 10, 11, 12, 13, 14, 15, 16, 17, 18, 19, 20, 21, 22, 23, 24, 25, 26, 27, 28, 29, 30, 31, 32, 33, 34, 35, 36, 37, 38, 39, 40, 41, 42, 43, 44, 45, 46, 47, 48, 49, 50, 51, 52, 5, 53, 54, 55, 56, 57, 58, 59, 60, 61, 62, 63, 64, 65, 66, 67, 68, 69, 70, 71, 72, 73, 74, 75, 76, 77, 78, 79, 80, 81, 82, 83, 84, 85, 86, 87, 88, 89, 90, 91, 92, 93, 94] (by decide +kernel) (by decide +kernel)) (goodIn_sub (fun _ h => List.mem_cons_of_mem _ (List.mem_append_right _ h)) (by decide +kernel))
set_option maxRecDepth 20000 in
theorem gL_restore_X6_restore : GoodIn wsL_restore (wsV RL 89 RX6 yX6_restore wsX6_restore) := goodIn_app (goodIn_of _ (by decide +kernel)) ggL_restore_X6_restore
theorem dL_restore_0 : decode cL_restore 0 = .ok (.aload_n 2, 1) := by decide +kernel
theorem dL_restore_1 : decode cL_restore 1 = .ok (.iconst 0, 1) := by decide +kernel
theorem dL_restore_2 : decode cL_restore 2 = .ok (.aload_n 0, 1) := by decide +kernel
theorem dL_restore_3 : decode cL_restore 3 = .ok (.iload_n 1, 1) := by decide +kernel
theorem dL_restore_4 : decode cL_restore 4 = .ok (.invokevirtual 89, 3) := by decide +kernel
theorem dL_restore_7 : decode cL_restore 7 = .ok (.i2l, 1) := by decide +kernel
theorem dL_restore_8 : decode cL_restore 8 = .ok (.lastore, 1) := by decide +kernel
theorem dL_restore_9 : decode cL_restore 9 = .ok (.goto 6, 3) := by decide +kernel
theorem dL_restore_12 : decode cL_restore 12 = .ok (.astore_n 3, 1) := by decide +kernel
theorem dL_restore_13 : decode cL_restore 13 = .ok (.iconst 1, 1) := by decide +kernel
theorem dL_restore_14 : decode cL_restore 14 = .ok (.ireturn, 1) := by decide +kernel
theorem dL_restore_15 : decode cL_restore 15 = .ok (.iconst 0, 1) := by decide +kernel
theorem dL_restore_16 : decode cL_restore 16 = .ok (.ireturn, 1) := by decide +kernel
set_option maxRecDepth 20000 in
theorem ggL_isSetInOrder_X6_isSetInOrder : GoodIn wsL_isSetInOrder wsX6_isSetInOrder := goodIn_ca (goodIn_r _ [6, 7, 8, 9, 5, 10, 11, 12, 13, 14, 15, 16, 17, 18, 19, 20, 21, 22, 23, 24, 25, 26, 27, 28, 29, 30, 31, 32, 33, 34, 35, 36, 37, 38, 39, 40, 41, 42, 43, 44, 45, 46, 47, 48, 49, 50, 51, 52, 53, 54, 55, 56, 57, 58, 59, 60, 61, 62, 63, 64, 65, 66, 67, 68, 69, 70, 71, 72, 73, 74, 75, 76, 77, 78, 79, 80, 81, 82, 83, 84, 85, 86, 87, 88, 89, 90, 91, 92, 93, 94, 95, 96, 97, 98, 99, 100, 101, 102, 103, 104, 105, 106, 107, 108, 109, 110, 111, 112, 113, 114, 115, 116, 117, 118, 119, 120, 121, 122, 123, 124, 125, 126, 127, 128, 129, 130, 131, 132, 133, 134, 135, 136, 137, 138, 139, 140, 141, 142, 143, 144, 145, 146] (by decide +kernel) (by decide +kernel)) (goodIn_sub (fun _ h => List.mem_cons_of_mem _ (List.mem_append_right _ h)) (by decide +kernel))
set_option maxRecDepth 20000 in
theorem gL_isSetInOrder_X6_isSetInOrder : GoodIn wsL_isSetInOrder (wsV RL 92 RX6 yX6_isSetInOrder wsX6_isSetInOrder) := goodIn_app (goodIn_of _ (by decide +kernel)) ggL_isSetInOrder_X6_isSetInOrder
theorem dL_isSetInOrder_0 : decode cL_isSetInOrder 0 = .ok (.aload_n 2, 1) := by decide +kernel
theorem dL_isSetInOrder_1 : decode cL_isSetInOrder 1 = .ok (.iconst 0, 1) := by decide +kernel
theorem dL_isSetInOrder_2 : decode cL_isSetInOrder 2 = .ok (.aload_n 0, 1) := by decide +kernel
theorem dL_isSetInOrder_3 : decode cL_isSetInOrder 3 = .ok (.iload_n 1, 1) := by decide +kernel
theorem dL_isSetInOrder_4 : decode cL_isSetInOrder 4 = .ok (.invokevirtual 92, 3) := by decide +kernel
theorem dL_isSetInOrder_7 : decode cL_isSetInOrder 7 = .ok (.ifCond .eq 7, 3) := by decide +kernel
theorem dL_isSetInOrder_10 : decode cL_isSetInOrder 10 = .ok (.lconst 1, 1) := by decide +kernel
theorem dL_isSetInOrder_11 : decode cL_isSetInOrder 11 = .ok (.goto 4, 3) := by decide +kernel
theorem dL_isSetInOrder_14 : decode cL_isSetInOrder 14 = .ok (.lconst 0, 1) := by decide +kernel
theorem dL_isSetInOrder_15 : decode cL_isSetInOrder 15 = .ok (.lastore, 1) := by decide +kernel
theorem dL_isSetInOrder_16 : decode cL_isSetInOrder 16 = .ok (.goto 6, 3) := by decide +kernel
theorem dL_isSetInOrder_19 : decode cL_isSetInOrder 19 = .ok (.astore_n 3, 1) := by decide +kernel
theorem dL_isSetInOrder_20 : decode cL_isSetInOrder 20 = .ok (.iconst 1, 1) := by decide +kernel
theorem dL_isSetInOrder_21 : decode cL_isSetInOrder 21 = .ok (.ireturn, 1) := by decide +kernel
theorem dL_isSetInOrder_22 : decode cL_isSetInOrder 22 = .ok (.iconst 0, 1) := by decide +kernel
theorem dL_isSetInOrder_23 : decode cL_isSetInOrder 23 = .ok (.ireturn, 1) := by decide +kernel
set_option maxRecDepth 20000 in
theorem ggL_valueInOrder_X6_valueInOrder : GoodIn wsL_valueInOrder wsX6_valueInOrder := goodIn_ca (goodIn_ca (goodIn_r _ [7, 8, 9, 10, 6, 11, 12, 13, 14, 15, 16, 17, 18, 19, 20, 21, 22, 23, 24, 25, 26, 27, 28, 29, 30, 31, 32, 33, 34, 35, 36, 37, 38, 39, 40, 41, 42, 43, 44, 45, 46, 47, 48, 49, 50, 51, 52, 53, 54, 55, 56, 57, 58, 59, 60, 61, 62, 63, 64, 65, 66, 67, 68, 69, 70, 71, 72, 73, 74, 75, 76, 77, 78, 79, 80, 81, 82, 83, 84, 85, 86, 87, 88, 89, 90, 91, 92, 93, 94, 95, 96, 97, 98, 99, 100, 101, 102, 103, 104, 105, 106, 107, 108, 109, 110, 111, 112, 113, 114, 115, 116, 117, 118, 119, 120, 121, 122, 123, 124, 125, 126, 127, 128, 129, 130, 131, 132, 133, 134, 135, 136, 137, 138, 139, 140, 141, 142, 143, 144, 145, 146, 147, 148, 149, 150, 151, 152, 153] (by decide +kernel) (by decide +kernel)) (goodIn_sub (fun _ h => List.mem_cons_of_mem _ (List.mem_append_left _ (List.mem_append_right _ h))) (by decide +kernel))) (goodIn_sub (fun _ h => List.mem_cons_of_mem _ (List.mem_append_right _ h)) (by decide +kernel))
set_option maxRecDepth 20000 in
theorem gL_valueInOrder_X6_valueInOrder : GoodIn wsL_valueInOrder (wsV RL 95 RX6 yX6_valueInOrder wsX6_valueInOrder) := goodIn_app (goodIn_of _ (by decide +kernel)) ggL_valueInOrder_X6_valueInOrder
theorem dL_valueInOrder_0 : decode cL_valueInOrder 0 = .ok (.aload_n 2, 1) := by decide +kernel
theorem dL_valueInOrder_1 : decode cL_valueInOrder 1 = .ok (.iconst 0, 1) := by decide +kernel
