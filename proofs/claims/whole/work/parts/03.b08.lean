theorem dL_sessions_0 : decode cL_sessions 0 = .ok (.aload_n 2, 1) := by decide +kernel
theorem dL_sessions_1 : decode cL_sessions 1 = .ok (.iconst 0, 1) := by decide +kernel
theorem dL_sessions_2 : decode cL_sessions 2 = .ok (.aload_n 0, 1) := by decide +kernel
theorem dL_sessions_3 : decode cL_sessions 3 = .ok (.iload_n 1, 1) := by decide +kernel
theorem dL_sessions_4 : decode cL_sessions 4 = .ok (.invokevirtual 36, 3) := by decide +kernel
theorem dL_sessions_7 : decode cL_sessions 7 = .ok (.i2l, 1) := by decide +kernel
theorem dL_sessions_8 : decode cL_sessions 8 = .ok (.lastore, 1) := by decide +kernel
theorem dL_sessions_9 : decode cL_sessions 9 = .ok (.goto 6, 3) := by decide +kernel
theorem dL_sessions_12 : decode cL_sessions 12 = .ok (.astore_n 3, 1) := by decide +kernel
theorem dL_sessions_13 : decode cL_sessions 13 = .ok (.iconst 1, 1) := by decide +kernel
theorem dL_sessions_14 : decode cL_sessions 14 = .ok (.ireturn, 1) := by decide +kernel
theorem dL_sessions_15 : decode cL_sessions 15 = .ok (.iconst 0, 1) := by decide +kernel
theorem dL_sessions_16 : decode cL_sessions 16 = .ok (.ireturn, 1) := by decide +kernel
set_option maxRecDepth 20000 in
theorem ggL_sessionEvents_X4_sessionEvents : GoodIn wsL_sessionEvents wsX4_sessionEvents := goodIn_ca (goodIn_ca (goodIn_r _ [7, 8, 9, 10, 11, 6, 12, 13, 14, 15, 16, 17, 18, 19, 20, 21, 22, 23, 24, 25, 26, 27, 28, 29, 30, 31, 32, 33, 34, 35, 36, 37, 38, 39, 40, 41, 42, 43, 44, 45, 46, 47, 48, 49, 50, 51, 52, 53, 54, 55, 56, 57, 58, 59, 60, 61, 62, 63, 64, 65, 66, 67, 68, 69, 70, 71, 72, 73, 74, 75, 76, 77, 78, 79, 80, 81, 82, 83, 84, 85, 86, 87, 88, 89, 90, 91, 92, 93, 94, 95, 96, 97, 98, 99, 100, 101, 102, 103] (by decide +kernel) (by decide +kernel)) (goodIn_sub (fun _ h => List.mem_cons_of_mem _ (List.mem_append_left _ (List.mem_append_right _ h))) (by decide +kernel))) (goodIn_sub (fun _ h => List.mem_cons_of_mem _ (List.mem_append_right _ h)) (by decide +kernel))
set_option maxRecDepth 20000 in
theorem gL_sessionEvents_X4_sessionEvents : GoodIn wsL_sessionEvents (wsV RL 39 RX4 yX4_sessionEvents wsX4_sessionEvents) := goodIn_app (goodIn_of _ (by decide +kernel)) ggL_sessionEvents_X4_sessionEvents
theorem dL_sessionEvents_0 : decode cL_sessionEvents 0 = .ok (.aload_n 3, 1) := by decide +kernel
theorem dL_sessionEvents_1 : decode cL_sessionEvents 1 = .ok (.iconst 0, 1) := by decide +kernel
theorem dL_sessionEvents_2 : decode cL_sessionEvents 2 = .ok (.aload_n 0, 1) := by decide +kernel
theorem dL_sessionEvents_3 : decode cL_sessionEvents 3 = .ok (.iload_n 1, 1) := by decide +kernel
theorem dL_sessionEvents_4 : decode cL_sessionEvents 4 = .ok (.iload_n 2, 1) := by decide +kernel
theorem dL_sessionEvents_5 : decode cL_sessionEvents 5 = .ok (.invokevirtual 39, 3) := by decide +kernel
theorem dL_sessionEvents_8 : decode cL_sessionEvents 8 = .ok (.i2l, 1) := by decide +kernel
theorem dL_sessionEvents_9 : decode cL_sessionEvents 9 = .ok (.lastore, 1) := by decide +kernel
theorem dL_sessionEvents_10 : decode cL_sessionEvents 10 = .ok (.goto 11, 3) := by decide +kernel
theorem dL_sessionEvents_13 : decode cL_sessionEvents 13 = .ok (.astore 4, 2) := by decide +kernel
theorem dL_sessionEvents_15 : decode cL_sessionEvents 15 = .ok (.iconst 1, 1) := by decide +kernel
theorem dL_sessionEvents_16 : decode cL_sessionEvents 16 = .ok (.ireturn, 1) := by decide +kernel
theorem dL_sessionEvents_17 : decode cL_sessionEvents 17 = .ok (.astore 4, 2) := by decide +kernel
theorem dL_sessionEvents_19 : decode cL_sessionEvents 19 = .ok (.iconst 2, 1) := by decide +kernel
theorem dL_sessionEvents_20 : decode cL_sessionEvents 20 = .ok (.ireturn, 1) := by decide +kernel
theorem dL_sessionEvents_21 : decode cL_sessionEvents 21 = .ok (.iconst 0, 1) := by decide +kernel
theorem dL_sessionEvents_22 : decode cL_sessionEvents 22 = .ok (.ireturn, 1) := by decide +kernel
set_option maxRecDepth 20000 in
theorem ggL_sessionStart_X4_sessionStart : GoodIn wsL_sessionStart wsX4_sessionStart := goodIn_ca (goodIn_ca (goodIn_r _ [7, 8, 9, 10, 6, 11, 12, 13, 14, 15, 16, 17, 18, 19, 20, 21, 22, 23, 24, 25, 26, 27, 28, 29, 30, 31, 32, 33, 34, 35, 36, 37, 38, 39, 40, 41, 42, 43, 44, 45, 46, 47, 48, 49, 50, 51, 52, 53, 54, 55, 56, 57, 58, 59, 60, 61, 62, 63, 64, 65, 66, 67, 68, 69, 70, 71, 72, 73, 74, 75, 76, 77, 78, 79, 80, 81, 82, 83, 84, 85, 86, 87, 88, 89, 90, 91, 92, 93, 94, 95, 96, 97, 98, 99, 100, 101, 102, 103] (by decide +kernel) (by decide +kernel)) (goodIn_sub (fun _ h => List.mem_cons_of_mem _ (List.mem_append_left _ (List.mem_append_right _ h))) (by decide +kernel))) (goodIn_sub (fun _ h => List.mem_cons_of_mem _ (List.mem_append_right _ h)) (by decide +kernel))
set_option maxRecDepth 20000 in
theorem gL_sessionStart_X4_sessionStart : GoodIn wsL_sessionStart (wsV RL 42 RX4 yX4_sessionStart wsX4_sessionStart) := goodIn_app (goodIn_of _ (by decide +kernel)) ggL_sessionStart_X4_sessionStart
theorem dL_sessionStart_0 : decode cL_sessionStart 0 = .ok (.aload_n 3, 1) := by decide +kernel
theorem dL_sessionStart_1 : decode cL_sessionStart 1 = .ok (.iconst 0, 1) := by decide +kernel
theorem dL_sessionStart_2 : decode cL_sessionStart 2 = .ok (.aload_n 0, 1) := by decide +kernel
theorem dL_sessionStart_3 : decode cL_sessionStart 3 = .ok (.iload_n 1, 1) := by decide +kernel
theorem dL_sessionStart_4 : decode cL_sessionStart 4 = .ok (.iload_n 2, 1) := by decide +kernel
theorem dL_sessionStart_5 : decode cL_sessionStart 5 = .ok (.invokevirtual 42, 3) := by decide +kernel
theorem dL_sessionStart_8 : decode cL_sessionStart 8 = .ok (.i2l, 1) := by decide +kernel
theorem dL_sessionStart_9 : decode cL_sessionStart 9 = .ok (.lastore, 1) := by decide +kernel
theorem dL_sessionStart_10 : decode cL_sessionStart 10 = .ok (.goto 11, 3) := by decide +kernel
theorem dL_sessionStart_13 : decode cL_sessionStart 13 = .ok (.astore 4, 2) := by decide +kernel
theorem dL_sessionStart_15 : decode cL_sessionStart 15 = .ok (.iconst 1, 1) := by decide +kernel
theorem dL_sessionStart_16 : decode cL_sessionStart 16 = .ok (.ireturn, 1) := by decide +kernel
theorem dL_sessionStart_17 : decode cL_sessionStart 17 = .ok (.astore 4, 2) := by decide +kernel
theorem dL_sessionStart_19 : decode cL_sessionStart 19 = .ok (.iconst 2, 1) := by decide +kernel
theorem dL_sessionStart_20 : decode cL_sessionStart 20 = .ok (.ireturn, 1) := by decide +kernel
theorem dL_sessionStart_21 : decode cL_sessionStart 21 = .ok (.iconst 0, 1) := by decide +kernel
theorem dL_sessionStart_22 : decode cL_sessionStart 22 = .ok (.ireturn, 1) := by decide +kernel
set_option maxRecDepth 20000 in
theorem ggL_sessionLength_X4_sessionLength : GoodIn wsL_sessionLength wsX4_sessionLength := goodIn_ca (goodIn_ca (goodIn_r _ [7, 8, 9, 10, 11, 6, 12, 13, 14, 15, 16, 17, 18, 19, 20, 21, 22, 23, 24, 25, 26, 27, 28, 29, 30, 31, 32, 33, 34, 35, 36, 37, 38, 39, 40, 41, 42, 43, 44, 45, 46, 47, 48, 49, 50, 51, 52, 53, 54, 55, 56, 57, 58, 59, 60, 61, 62, 63, 64, 65, 66, 67, 68, 69, 70, 71, 72, 73, 74, 75, 76, 77, 78, 79, 80, 81, 82, 83, 84, 85, 86, 87, 88, 89, 90, 91, 92, 93, 94, 95, 96, 97, 98, 99, 100, 101, 102, 103, 104, 105, 106, 107] (by decide +kernel) (by decide +kernel)) (goodIn_sub (fun _ h => List.mem_cons_of_mem _ (List.mem_append_left _ (List.mem_append_right _ h))) (by decide +kernel))) (goodIn_sub (fun _ h => List.mem_cons_of_mem _ (List.mem_append_right _ h)) (by decide +kernel))
set_option maxRecDepth 20000 in
theorem gL_sessionLength_X4_sessionLength : GoodIn wsL_sessionLength (wsV RL 45 RX4 yX4_sessionLength wsX4_sessionLength) := goodIn_app (goodIn_of _ (by decide +kernel)) ggL_sessionLength_X4_sessionLength
theorem dL_sessionLength_0 : decode cL_sessionLength 0 = .ok (.aload_n 3, 1) := by decide +kernel
theorem dL_sessionLength_1 : decode cL_sessionLength 1 = .ok (.iconst 0, 1) := by decide +kernel
theorem dL_sessionLength_2 : decode cL_sessionLength 2 = .ok (.aload_n 0, 1) := by decide +kernel
theorem dL_sessionLength_3 : decode cL_sessionLength 3 = .ok (.iload_n 1, 1) := by decide +kernel
theorem dL_sessionLength_4 : decode cL_sessionLength 4 = .ok (.iload_n 2, 1) := by decide +kernel
theorem dL_sessionLength_5 : decode cL_sessionLength 5 = .ok (.invokevirtual 45, 3) := by decide +kernel
theorem dL_sessionLength_8 : decode cL_sessionLength 8 = .ok (.i2l, 1) := by decide +kernel
theorem dL_sessionLength_9 : decode cL_sessionLength 9 = .ok (.lastore, 1) := by decide +kernel
theorem dL_sessionLength_10 : decode cL_sessionLength 10 = .ok (.goto 11, 3) := by decide +kernel
theorem dL_sessionLength_13 : decode cL_sessionLength 13 = .ok (.astore 4, 2) := by decide +kernel
theorem dL_sessionLength_15 : decode cL_sessionLength 15 = .ok (.iconst 1, 1) := by decide +kernel
theorem dL_sessionLength_16 : decode cL_sessionLength 16 = .ok (.ireturn, 1) := by decide +kernel
theorem dL_sessionLength_17 : decode cL_sessionLength 17 = .ok (.astore 4, 2) := by decide +kernel
theorem dL_sessionLength_19 : decode cL_sessionLength 19 = .ok (.iconst 2, 1) := by decide +kernel
theorem dL_sessionLength_20 : decode cL_sessionLength 20 = .ok (.ireturn, 1) := by decide +kernel
theorem dL_sessionLength_21 : decode cL_sessionLength 21 = .ok (.iconst 0, 1) := by decide +kernel
theorem dL_sessionLength_22 : decode cL_sessionLength 22 = .ok (.ireturn, 1) := by decide +kernel
set_option maxRecDepth 20000 in
theorem ggL_step_X4_step : GoodIn wsL_step wsX4_step := goodIn_ca (goodIn_ca (goodIn_r _ [7, 8, 9, 10, 11, 12, 6, 13, 14, 15, 16, 17, 18, 19, 20, 21, 22, 23, 24, 25, 26, 27, 28, 29, 30, 31, 32, 33, 34, 35, 36, 37, 38, 39, 40, 41, 42] (by decide +kernel) (by decide +kernel)) (goodIn_sub (fun _ h => List.mem_cons_of_mem _ (List.mem_append_left _ (List.mem_append_right _ h))) (by decide +kernel))) (goodIn_sub (fun _ h => List.mem_cons_of_mem _ (List.mem_append_right _ h)) (by decide +kernel))
set_option maxRecDepth 20000 in
theorem gL_step_X4_step : GoodIn wsL_step (wsV RL 48 RX4 yX4_step wsX4_step) := goodIn_app (goodIn_of _ (by decide +kernel)) ggL_step_X4_step
theorem dL_step_0 : decode cL_step 0 = .ok (.aload_n 2, 1) := by decide +kernel
theorem dL_step_1 : decode cL_step 1 = .ok (.iconst 0, 1) := by decide +kernel
theorem dL_step_2 : decode cL_step 2 = .ok (.aload_n 0, 1) := by decide +kernel
theorem dL_step_3 : decode cL_step 3 = .ok (.iload_n 1, 1) := by decide +kernel
theorem dL_step_4 : decode cL_step 4 = .ok (.invokevirtual 48, 3) := by decide +kernel
theorem dL_step_7 : decode cL_step 7 = .ok (.i2l, 1) := by decide +kernel
theorem dL_step_8 : decode cL_step 8 = .ok (.lastore, 1) := by decide +kernel
theorem dL_step_9 : decode cL_step 9 = .ok (.goto 9, 3) := by decide +kernel
theorem dL_step_12 : decode cL_step 12 = .ok (.astore_n 3, 1) := by decide +kernel
theorem dL_step_13 : decode cL_step 13 = .ok (.iconst 1, 1) := by decide +kernel
theorem dL_step_14 : decode cL_step 14 = .ok (.ireturn, 1) := by decide +kernel
theorem dL_step_15 : decode cL_step 15 = .ok (.astore_n 3, 1) := by decide +kernel
theorem dL_step_16 : decode cL_step 16 = .ok (.iconst 2, 1) := by decide +kernel
theorem dL_step_17 : decode cL_step 17 = .ok (.ireturn, 1) := by decide +kernel
theorem dL_step_18 : decode cL_step 18 = .ok (.iconst 0, 1) := by decide +kernel
theorem dL_step_19 : decode cL_step 19 = .ok (.ireturn, 1) := by decide +kernel
set_option maxRecDepth 20000 in
theorem ggL_window_X4_window : GoodIn wsL_window wsX4_window := goodIn_ca (goodIn_r _ [6, 7, 8, 9, 5, 10, 11, 12, 13, 14, 15, 16, 17, 18, 19, 20, 21, 22, 23, 24, 25, 26, 27, 28, 29, 30, 31] (by decide +kernel) (by decide +kernel)) (goodIn_sub (fun _ h => List.mem_cons_of_mem _ (List.mem_append_right _ h)) (by decide +kernel))
set_option maxRecDepth 20000 in
theorem gL_window_X4_window : GoodIn wsL_window (wsV RL 51 RX4 yX4_window wsX4_window) := goodIn_app (goodIn_of _ (by decide +kernel)) ggL_window_X4_window
theorem dL_window_0 : decode cL_window 0 = .ok (.aload_n 2, 1) := by decide +kernel
theorem dL_window_1 : decode cL_window 1 = .ok (.iconst 0, 1) := by decide +kernel
theorem dL_window_2 : decode cL_window 2 = .ok (.aload_n 0, 1) := by decide +kernel
theorem dL_window_3 : decode cL_window 3 = .ok (.iload_n 1, 1) := by decide +kernel
theorem dL_window_4 : decode cL_window 4 = .ok (.invokevirtual 51, 3) := by decide +kernel
theorem dL_window_7 : decode cL_window 7 = .ok (.i2l, 1) := by decide +kernel
theorem dL_window_8 : decode cL_window 8 = .ok (.lastore, 1) := by decide +kernel
theorem dL_window_9 : decode cL_window 9 = .ok (.goto 6, 3) := by decide +kernel
theorem dL_window_12 : decode cL_window 12 = .ok (.astore_n 3, 1) := by decide +kernel
theorem dL_window_13 : decode cL_window 13 = .ok (.iconst 1, 1) := by decide +kernel
theorem dL_window_14 : decode cL_window 14 = .ok (.ireturn, 1) := by decide +kernel
theorem dL_window_15 : decode cL_window 15 = .ok (.iconst 0, 1) := by decide +kernel
theorem dL_window_16 : decode cL_window 16 = .ok (.ireturn, 1) := by decide +kernel
set_option maxRecDepth 20000 in
theorem ggL_depth_X4_depth : GoodIn wsL_depth wsX4_depth := goodIn_ca (goodIn_r _ [6, 7, 8, 9, 10, 5, 11, 12, 13, 14, 15, 16, 17, 18, 19, 20, 21, 22, 23, 24, 25, 26, 27, 28, 29, 30, 31, 32, 33, 34, 35, 36, 37, 38, 39, 40, 41, 42, 43, 44, 45, 46, 47, 48, 49, 50, 51, 52, 53, 54, 55, 56, 57, 58, 59, 60, 61, 62, 63, 64, 65, 66, 67, 68, 69, 70, 71, 72, 73, 74, 75, 76, 77, 78, 79, 80, 81, 82, 83, 84, 85, 86, 87, 88, 89, 90, 91, 92, 93, 94, 95, 96, 97, 98, 99, 100, 101, 102, 103, 104, 105, 106, 107, 108, 109, 110, 111, 112, 113, 114, 115, 116, 117, 118, 119, 120, 121, 122, 123, 124, 125, 126] (by decide +kernel) (by decide +kernel)) (goodIn_sub (fun _ h => List.mem_cons_of_mem _ (List.mem_append_right _ h)) (by decide +kernel))
set_option maxRecDepth 20000 in
theorem gL_depth_X4_depth : GoodIn wsL_depth (wsV RL 54 RX4 yX4_depth wsX4_depth) := goodIn_app (goodIn_of _ (by decide +kernel)) ggL_depth_X4_depth
theorem dL_depth_0 : decode cL_depth 0 = .ok (.aload_n 2, 1) := by decide +kernel
theorem dL_depth_1 : decode cL_depth 1 = .ok (.iconst 0, 1) := by decide +kernel
theorem dL_depth_2 : decode cL_depth 2 = .ok (.aload_n 0, 1) := by decide +kernel
theorem dL_depth_3 : decode cL_depth 3 = .ok (.iload_n 1, 1) := by decide +kernel
theorem dL_depth_4 : decode cL_depth 4 = .ok (.invokevirtual 54, 3) := by decide +kernel
theorem dL_depth_7 : decode cL_depth 7 = .ok (.i2l, 1) := by decide +kernel
theorem dL_depth_8 : decode cL_depth 8 = .ok (.lastore, 1) := by decide +kernel
theorem dL_depth_9 : decode cL_depth 9 = .ok (.goto 6, 3) := by decide +kernel
theorem dL_depth_12 : decode cL_depth 12 = .ok (.astore_n 3, 1) := by decide +kernel
theorem dL_depth_13 : decode cL_depth 13 = .ok (.iconst 1, 1) := by decide +kernel
theorem dL_depth_14 : decode cL_depth 14 = .ok (.ireturn, 1) := by decide +kernel
theorem dL_depth_15 : decode cL_depth 15 = .ok (.iconst 0, 1) := by decide +kernel
theorem dL_depth_16 : decode cL_depth 16 = .ok (.ireturn, 1) := by decide +kernel
set_option maxRecDepth 20000 in
theorem ggL_passed_X4_passed : GoodIn wsL_passed wsX4_passed := goodIn_ca (goodIn_r _ [6, 7, 8, 9, 10, 11, 12, 13, 14, 15, 5, 16, 17, 18, 19, 20, 21, 22, 23, 24, 25, 26, 27, 28, 29, 30, 31, 32, 33, 34, 35, 36, 37, 38, 39, 40, 41, 42, 43, 44, 45, 46, 47, 48, 49, 50, 51, 52, 53, 54, 55, 56, 57, 58, 59, 60, 61, 62, 63, 64, 65, 66, 67, 68, 69, 70, 71, 72, 73, 74, 75, 76, 77, 78, 79, 80, 81, 82, 83, 84, 85, 86, 87, 88, 89, 90, 91, 92, 93, 94, 95, 96, 97, 98, 99, 100, 101, 102, 103, 104, 105, 106, 107, 108, 109, 110, 111, 112, 113, 114, 115, 116, 117, 118, 119, 120, 121, 122, 123, 124, 125, 126, 127] (by decide +kernel) (by decide +kernel)) (goodIn_sub (fun _ h => List.mem_cons_of_mem _ (List.mem_append_right _ h)) (by decide +kernel))
set_option maxRecDepth 20000 in
theorem gL_passed_X4_passed : GoodIn wsL_passed (wsV RL 57 RX4 yX4_passed wsX4_passed) := goodIn_app (goodIn_of _ (by decide +kernel)) ggL_passed_X4_passed
theorem dL_passed_0 : decode cL_passed 0 = .ok (.aload_n 2, 1) := by decide +kernel
theorem dL_passed_1 : decode cL_passed 1 = .ok (.iconst 0, 1) := by decide +kernel
theorem dL_passed_2 : decode cL_passed 2 = .ok (.aload_n 0, 1) := by decide +kernel
theorem dL_passed_3 : decode cL_passed 3 = .ok (.iload_n 1, 1) := by decide +kernel
theorem dL_passed_4 : decode cL_passed 4 = .ok (.invokevirtual 57, 3) := by decide +kernel
theorem dL_passed_7 : decode cL_passed 7 = .ok (.i2l, 1) := by decide +kernel
theorem dL_passed_8 : decode cL_passed 8 = .ok (.lastore, 1) := by decide +kernel
theorem dL_passed_9 : decode cL_passed 9 = .ok (.goto 6, 3) := by decide +kernel
theorem dL_passed_12 : decode cL_passed 12 = .ok (.astore_n 3, 1) := by decide +kernel
theorem dL_passed_13 : decode cL_passed 13 = .ok (.iconst 1, 1) := by decide +kernel
theorem dL_passed_14 : decode cL_passed 14 = .ok (.ireturn, 1) := by decide +kernel
theorem dL_passed_15 : decode cL_passed 15 = .ok (.iconst 0, 1) := by decide +kernel
theorem dL_passed_16 : decode cL_passed 16 = .ok (.ireturn, 1) := by decide +kernel
set_option maxRecDepth 20000 in
theorem ggL_fastest_X4_fastest : GoodIn wsL_fastest wsX4_fastest := goodIn_ca (goodIn_r _ [6, 7, 8, 9, 10, 5, 11, 12, 13, 14, 15, 16, 17, 18, 19, 20, 21, 22, 23, 24, 25, 26, 27, 28, 29, 30, 31, 32, 33, 34, 35, 36, 37, 38, 39, 40, 41, 42, 43, 44, 45, 46, 47, 48, 49, 50, 51, 52, 53, 54, 55, 56, 57, 58, 59, 60, 61, 62, 63, 64, 65, 66, 67, 68, 69, 70, 71, 72, 73, 74, 75, 76, 77, 78, 79, 80, 81, 82, 83, 84, 85, 86, 87, 88, 89, 90, 91, 92, 93, 94, 95, 96, 97, 98, 99, 100, 101, 102, 103, 104, 105, 106, 107, 108, 109, 110, 111, 112, 113, 114, 115, 116, 117, 118, 119, 120, 121, 122, 123, 124, 125, 126] (by decide +kernel) (by decide +kernel)) (goodIn_sub (fun _ h => List.mem_cons_of_mem _ (List.mem_append_right _ h)) (by decide +kernel))
set_option maxRecDepth 20000 in
theorem gL_fastest_X4_fastest : GoodIn wsL_fastest (wsV RL 60 RX4 yX4_fastest wsX4_fastest) := goodIn_app (goodIn_of _ (by decide +kernel)) ggL_fastest_X4_fastest
theorem dL_fastest_0 : decode cL_fastest 0 = .ok (.aload_n 2, 1) := by decide +kernel
theorem dL_fastest_1 : decode cL_fastest 1 = .ok (.iconst 0, 1) := by decide +kernel
theorem dL_fastest_2 : decode cL_fastest 2 = .ok (.aload_n 0, 1) := by decide +kernel
theorem dL_fastest_3 : decode cL_fastest 3 = .ok (.iload_n 1, 1) := by decide +kernel
theorem dL_fastest_4 : decode cL_fastest 4 = .ok (.invokevirtual 60, 3) := by decide +kernel
theorem dL_fastest_7 : decode cL_fastest 7 = .ok (.i2l, 1) := by decide +kernel
theorem dL_fastest_8 : decode cL_fastest 8 = .ok (.lastore, 1) := by decide +kernel
theorem dL_fastest_9 : decode cL_fastest 9 = .ok (.goto 6, 3) := by decide +kernel
theorem dL_fastest_12 : decode cL_fastest 12 = .ok (.astore_n 3, 1) := by decide +kernel
theorem dL_fastest_13 : decode cL_fastest 13 = .ok (.iconst 1, 1) := by decide +kernel
theorem dL_fastest_14 : decode cL_fastest 14 = .ok (.ireturn, 1) := by decide +kernel
theorem dL_fastest_15 : decode cL_fastest 15 = .ok (.iconst 0, 1) := by decide +kernel
theorem dL_fastest_16 : decode cL_fastest 16 = .ok (.ireturn, 1) := by decide +kernel
set_option maxRecDepth 20000 in
theorem ggL_cohort_X4_cohort : GoodIn wsL_cohort wsX4_cohort := goodIn_ca (goodIn_r _ [6, 7, 8, 9, 5, 10, 11, 12, 13, 14, 15, 16, 17, 18, 19, 20, 21, 22, 23, 24, 25, 26, 27, 28, 29, 30, 31, 32, 33, 34, 35, 36, 37, 38, 39, 40, 41, 42, 43, 44, 45, 46, 47, 48, 49, 50, 51, 52, 53, 54, 55, 56, 57, 58, 59, 60, 61, 62, 63, 64, 65, 66, 67, 68, 69, 70, 71, 72, 73, 74, 75, 76, 77, 78, 79, 80, 81, 82] (by decide +kernel) (by decide +kernel)) (goodIn_sub (fun _ h => List.mem_cons_of_mem _ (List.mem_append_right _ h)) (by decide +kernel))
set_option maxRecDepth 20000 in
theorem gL_cohort_X4_cohort : GoodIn wsL_cohort (wsV RL 63 RX4 yX4_cohort wsX4_cohort) := goodIn_app (goodIn_of _ (by decide +kernel)) ggL_cohort_X4_cohort
theorem dL_cohort_0 : decode cL_cohort 0 = .ok (.aload_n 2, 1) := by decide +kernel
theorem dL_cohort_1 : decode cL_cohort 1 = .ok (.iconst 0, 1) := by decide +kernel
theorem dL_cohort_2 : decode cL_cohort 2 = .ok (.aload_n 0, 1) := by decide +kernel
theorem dL_cohort_3 : decode cL_cohort 3 = .ok (.iload_n 1, 1) := by decide +kernel
theorem dL_cohort_4 : decode cL_cohort 4 = .ok (.invokevirtual 63, 3) := by decide +kernel
theorem dL_cohort_7 : decode cL_cohort 7 = .ok (.i2l, 1) := by decide +kernel
theorem dL_cohort_8 : decode cL_cohort 8 = .ok (.lastore, 1) := by decide +kernel
theorem dL_cohort_9 : decode cL_cohort 9 = .ok (.goto 6, 3) := by decide +kernel
theorem dL_cohort_12 : decode cL_cohort 12 = .ok (.astore_n 3, 1) := by decide +kernel
theorem dL_cohort_13 : decode cL_cohort 13 = .ok (.iconst 1, 1) := by decide +kernel
theorem dL_cohort_14 : decode cL_cohort 14 = .ok (.ireturn, 1) := by decide +kernel
theorem dL_cohort_15 : decode cL_cohort 15 = .ok (.iconst 0, 1) := by decide +kernel
theorem dL_cohort_16 : decode cL_cohort 16 = .ok (.ireturn, 1) := by decide +kernel
set_option maxRecDepth 20000 in
theorem ggL_retained_X4_retained : GoodIn wsL_retained wsX4_retained := goodIn_ca (goodIn_r _ [6, 7, 8, 5, 9, 10, 11, 12, 13, 14, 15, 16, 17, 18, 19, 20, 21, 22, 23, 24, 25, 26, 27, 28, 29, 30, 31, 32, 33, 34, 35, 36, 37, 38, 39, 40, 41, 42, 43, 44, 45, 46, 47, 48, 49, 50, 51, 52, 53, 54, 55, 56, 57, 58, 59, 60, 61, 62, 63] (by decide +kernel) (by decide +kernel)) (goodIn_sub (fun _ h => List.mem_cons_of_mem _ (List.mem_append_right _ h)) (by decide +kernel))
set_option maxRecDepth 20000 in
theorem gL_retained_X4_retained : GoodIn wsL_retained (wsV RL 66 RX4 yX4_retained wsX4_retained) := goodIn_app (goodIn_of _ (by decide +kernel)) ggL_retained_X4_retained
theorem dL_retained_0 : decode cL_retained 0 = .ok (.aload_n 3, 1) := by decide +kernel
theorem dL_retained_1 : decode cL_retained 1 = .ok (.iconst 0, 1) := by decide +kernel
theorem dL_retained_2 : decode cL_retained 2 = .ok (.aload_n 0, 1) := by decide +kernel
theorem dL_retained_3 : decode cL_retained 3 = .ok (.iload_n 1, 1) := by decide +kernel
theorem dL_retained_4 : decode cL_retained 4 = .ok (.iload_n 2, 1) := by decide +kernel
theorem dL_retained_5 : decode cL_retained 5 = .ok (.invokevirtual 66, 3) := by decide +kernel
theorem dL_retained_8 : decode cL_retained 8 = .ok (.i2l, 1) := by decide +kernel
theorem dL_retained_9 : decode cL_retained 9 = .ok (.lastore, 1) := by decide +kernel
theorem dL_retained_10 : decode cL_retained 10 = .ok (.goto 7, 3) := by decide +kernel
theorem dL_retained_13 : decode cL_retained 13 = .ok (.astore 4, 2) := by decide +kernel
theorem dL_retained_15 : decode cL_retained 15 = .ok (.iconst 1, 1) := by decide +kernel
theorem dL_retained_16 : decode cL_retained 16 = .ok (.ireturn, 1) := by decide +kernel
theorem dL_retained_17 : decode cL_retained 17 = .ok (.iconst 0, 1) := by decide +kernel
theorem dL_retained_18 : decode cL_retained 18 = .ok (.ireturn, 1) := by decide +kernel
set_option maxRecDepth 20000 in
theorem ggL_active_X4_active : GoodIn wsL_active wsX4_active := goodIn_ca (goodIn_r _ [6, 7, 8, 5, 9, 10, 11, 12, 13, 14, 15, 16, 17, 18, 19, 20, 21, 22, 23, 24, 25, 26, 27, 28, 29, 30, 31, 32, 33, 34, 35, 36, 37, 38, 39, 40, 41, 42, 43, 44, 45, 46, 47, 48, 49, 50, 51, 52] (by decide +kernel) (by decide +kernel)) (goodIn_sub (fun _ h => List.mem_cons_of_mem _ (List.mem_append_right _ h)) (by decide +kernel))
set_option maxRecDepth 20000 in
theorem gL_active_X4_active : GoodIn wsL_active (wsV RL 69 RX4 yX4_active wsX4_active) := goodIn_app (goodIn_of _ (by decide +kernel)) ggL_active_X4_active
theorem dL_active_0 : decode cL_active 0 = .ok (.aload_n 2, 1) := by decide +kernel
theorem dL_active_1 : decode cL_active 1 = .ok (.iconst 0, 1) := by decide +kernel
theorem dL_active_2 : decode cL_active 2 = .ok (.aload_n 0, 1) := by decide +kernel
theorem dL_active_3 : decode cL_active 3 = .ok (.iload_n 1, 1) := by decide +kernel
theorem dL_active_4 : decode cL_active 4 = .ok (.invokevirtual 69, 3) := by decide +kernel
theorem dL_active_7 : decode cL_active 7 = .ok (.i2l, 1) := by decide +kernel
theorem dL_active_8 : decode cL_active 8 = .ok (.lastore, 1) := by decide +kernel
theorem dL_active_9 : decode cL_active 9 = .ok (.goto 6, 3) := by decide +kernel
theorem dL_active_12 : decode cL_active 12 = .ok (.astore_n 3, 1) := by decide +kernel
theorem dL_active_13 : decode cL_active 13 = .ok (.iconst 1, 1) := by decide +kernel
theorem dL_active_14 : decode cL_active 14 = .ok (.ireturn, 1) := by decide +kernel
theorem dL_active_15 : decode cL_active 15 = .ok (.iconst 0, 1) := by decide +kernel
theorem dL_active_16 : decode cL_active 16 = .ok (.ireturn, 1) := by decide +kernel
set_option maxRecDepth 20000 in
theorem ggL_activeOnEach_X4_activeOnEach : GoodIn wsL_activeOnEach wsX4_activeOnEach := goodIn_ca (goodIn_r _ [6, 7, 8, 5, 9, 10, 11, 12, 13, 14, 15, 16, 17, 18, 19, 20, 21, 22, 23, 24, 25, 26, 27, 28, 29, 30, 31, 32, 33, 34, 35, 36, 37, 38, 39, 40, 41, 42, 43, 44, 45, 46, 47, 48, 49, 50, 51, 52] (by decide +kernel) (by decide +kernel)) (goodIn_sub (fun _ h => List.mem_cons_of_mem _ (List.mem_append_right _ h)) (by decide +kernel))
set_option maxRecDepth 20000 in
theorem gL_activeOnEach_X4_activeOnEach : GoodIn wsL_activeOnEach (wsV RL 72 RX4 yX4_activeOnEach wsX4_activeOnEach) := goodIn_app (goodIn_of _ (by decide +kernel)) ggL_activeOnEach_X4_activeOnEach
theorem dL_activeOnEach_0 : decode cL_activeOnEach 0 = .ok (.aload_n 3, 1) := by decide +kernel
theorem dL_activeOnEach_1 : decode cL_activeOnEach 1 = .ok (.iconst 0, 1) := by decide +kernel
theorem dL_activeOnEach_2 : decode cL_activeOnEach 2 = .ok (.aload_n 0, 1) := by decide +kernel
theorem dL_activeOnEach_3 : decode cL_activeOnEach 3 = .ok (.iload_n 1, 1) := by decide +kernel
theorem dL_activeOnEach_4 : decode cL_activeOnEach 4 = .ok (.iload_n 2, 1) := by decide +kernel
theorem dL_activeOnEach_5 : decode cL_activeOnEach 5 = .ok (.invokevirtual 72, 3) := by decide +kernel
theorem dL_activeOnEach_8 : decode cL_activeOnEach 8 = .ok (.i2l, 1) := by decide +kernel
theorem dL_activeOnEach_9 : decode cL_activeOnEach 9 = .ok (.lastore, 1) := by decide +kernel
theorem dL_activeOnEach_10 : decode cL_activeOnEach 10 = .ok (.goto 7, 3) := by decide +kernel
theorem dL_activeOnEach_13 : decode cL_activeOnEach 13 = .ok (.astore 4, 2) := by decide +kernel
theorem dL_activeOnEach_15 : decode cL_activeOnEach 15 = .ok (.iconst 1, 1) := by decide +kernel
theorem dL_activeOnEach_16 : decode cL_activeOnEach 16 = .ok (.ireturn, 1) := by decide +kernel
theorem dL_activeOnEach_17 : decode cL_activeOnEach 17 = .ok (.iconst 0, 1) := by decide +kernel
theorem dL_activeOnEach_18 : decode cL_activeOnEach 18 = .ok (.ireturn, 1) := by decide +kernel
set_option maxRecDepth 20000 in
theorem ggL_ranked_X4_ranked : GoodIn wsL_ranked wsX4_ranked := goodIn_ca (goodIn_ca (goodIn_r _ [7, 8, 9, 10, 11, 12, 6, 13, 14, 15, 16, 17, 18, 19, 20, 21, 22, 23, 24, 25, 26, 27, 28, 29, 30, 31, 32, 33, 34, 35, 36, 37, 38, 39, 40, 41, 42, 43, 44, 45, 46, 47, 48, 49, 50, 51, 52, 53, 54, 55, 56, 57, 58, 59, 60, 61, 62, 63, 64, 65, 66, 67, 68, 69, 70, 71, 72, 73, 74, 75, 76, 77, 78, 79, 80, 81, 82, 83, 84, 85, 86, 87, 88, 89, 90, 91, 92, 93, 94, 95, 96, 97, 98, 99, 100, 101, 102, 103, 104, 105, 106, 107, 108, 109, 110, 111, 112, 113, 114, 115, 116, 117, 118, 119, 120, 121, 122, 123, 124, 125, 126, 127, 128, 129, 130, 131, 132, 133, 134, 135, 136, 137, 138, 139, 140, 141, 142, 143, 144, 145] (by decide +kernel) (by decide +kernel)) (goodIn_sub (fun _ h => List.mem_cons_of_mem _ (List.mem_append_left _ (List.mem_append_right _ h))) (by decide +kernel))) (goodIn_sub (fun _ h => List.mem_cons_of_mem _ (List.mem_append_right _ h)) (by decide +kernel))
set_option maxRecDepth 20000 in
theorem gL_ranked_X4_ranked : GoodIn wsL_ranked (wsV RL 75 RX4 yX4_ranked wsX4_ranked) := goodIn_app (goodIn_of _ (by decide +kernel)) ggL_ranked_X4_ranked
theorem dL_ranked_0 : decode cL_ranked 0 = .ok (.aload_n 3, 1) := by decide +kernel
theorem dL_ranked_1 : decode cL_ranked 1 = .ok (.iconst 0, 1) := by decide +kernel
theorem dL_ranked_2 : decode cL_ranked 2 = .ok (.aload_n 0, 1) := by decide +kernel
theorem dL_ranked_3 : decode cL_ranked 3 = .ok (.iload_n 1, 1) := by decide +kernel
theorem dL_ranked_4 : decode cL_ranked 4 = .ok (.iload_n 2, 1) := by decide +kernel
theorem dL_ranked_5 : decode cL_ranked 5 = .ok (.invokevirtual 75, 3) := by decide +kernel
theorem dL_ranked_8 : decode cL_ranked 8 = .ok (.i2l, 1) := by decide +kernel
theorem dL_ranked_9 : decode cL_ranked 9 = .ok (.lastore, 1) := by decide +kernel
theorem dL_ranked_10 : decode cL_ranked 10 = .ok (.goto 11, 3) := by decide +kernel
theorem dL_ranked_13 : decode cL_ranked 13 = .ok (.astore 4, 2) := by decide +kernel
theorem dL_ranked_15 : decode cL_ranked 15 = .ok (.iconst 1, 1) := by decide +kernel
theorem dL_ranked_16 : decode cL_ranked 16 = .ok (.ireturn, 1) := by decide +kernel
theorem dL_ranked_17 : decode cL_ranked 17 = .ok (.astore 4, 2) := by decide +kernel
theorem dL_ranked_19 : decode cL_ranked 19 = .ok (.iconst 2, 1) := by decide +kernel
theorem dL_ranked_20 : decode cL_ranked 20 = .ok (.ireturn, 1) := by decide +kernel
theorem dL_ranked_21 : decode cL_ranked 21 = .ok (.iconst 0, 1) := by decide +kernel
theorem dL_ranked_22 : decode cL_ranked 22 = .ok (.ireturn, 1) := by decide +kernel
set_option maxRecDepth 20000 in
theorem ggL_closeDay_X4_closeDay : GoodIn wsL_closeDay wsX4_closeDay := goodIn_ca (goodIn_r _ [6, 7, 8, 9, 10, 11, 12, 13, 14, 15, 16, 17, 18, 19, 20, 21, 22, 5, 23, 24, 25, 26, 27, 28, 29, 30, 31, 32, 33, 34, 35, 36, 37, 38, 39, 40, 41, 42, 43, 44, 45, 46, 47, 48, 49, 50, 51, 52, 53, 54, 55, 56, 57, 58, 59, 60, 61, 62, 63, 64, 65, 66, 67, 68, 69, 70, 71, 72, 73, 74, 75, 76, 77, 78, 79, 80, 81, 82, 83, 84, 85, 86, 87, 88, 89, 90, 91, 92, 93, 94, 95, 96, 97, 98, 99, 100, 101, 102, 103, 104, 105, 106, 107, 108, 109, 110, 111, 112, 113, 114, 115, 116, 117, 118, 119, 120, 121, 122, 123] (by decide +kernel) (by decide +kernel)) (goodIn_sub (fun _ h => List.mem_cons_of_mem _ (List.mem_append_right _ h)) (by decide +kernel))
set_option maxRecDepth 20000 in
theorem gL_closeDay_X4_closeDay : GoodIn wsL_closeDay (wsV RL 78 RX4 yX4_closeDay wsX4_closeDay) := goodIn_app (goodIn_of _ (by decide +kernel)) ggL_closeDay_X4_closeDay
theorem dL_closeDay_0 : decode cL_closeDay 0 = .ok (.aload_n 1, 1) := by decide +kernel
theorem dL_closeDay_1 : decode cL_closeDay 1 = .ok (.iconst 0, 1) := by decide +kernel
theorem dL_closeDay_2 : decode cL_closeDay 2 = .ok (.aload_n 0, 1) := by decide +kernel
theorem dL_closeDay_3 : decode cL_closeDay 3 = .ok (.invokevirtual 78, 3) := by decide +kernel
theorem dL_closeDay_6 : decode cL_closeDay 6 = .ok (.i2l, 1) := by decide +kernel
theorem dL_closeDay_7 : decode cL_closeDay 7 = .ok (.lastore, 1) := by decide +kernel
theorem dL_closeDay_8 : decode cL_closeDay 8 = .ok (.goto 6, 3) := by decide +kernel
theorem dL_closeDay_11 : decode cL_closeDay 11 = .ok (.astore_n 2, 1) := by decide +kernel
theorem dL_closeDay_12 : decode cL_closeDay 12 = .ok (.iconst 1, 1) := by decide +kernel
theorem dL_closeDay_13 : decode cL_closeDay 13 = .ok (.ireturn, 1) := by decide +kernel
theorem dL_closeDay_14 : decode cL_closeDay 14 = .ok (.iconst 0, 1) := by decide +kernel
theorem dL_closeDay_15 : decode cL_closeDay 15 = .ok (.ireturn, 1) := by decide +kernel
set_option maxRecDepth 20000 in
theorem ggL_keptActive_X4_keptActive : GoodIn wsL_keptActive wsX4_keptActive := goodIn_ca (goodIn_r _ [6, 7, 8, 9, 10, 11, 12, 13, 14, 15, 5, 16, 17, 18, 19, 20, 21, 22, 23, 24, 25, 26, 27, 28, 29, 30, 31, 32, 33, 34] (by decide +kernel) (by decide +kernel)) (goodIn_sub (fun _ h => List.mem_cons_of_mem _ (List.mem_append_right _ h)) (by decide +kernel))
set_option maxRecDepth 20000 in
theorem gL_keptActive_X4_keptActive : GoodIn wsL_keptActive (wsV RL 82 RX4 yX4_keptActive wsX4_keptActive) := goodIn_app (goodIn_of _ (by decide +kernel)) ggL_keptActive_X4_keptActive
theorem dL_keptActive_0 : decode cL_keptActive 0 = .ok (.aload_n 2, 1) := by decide +kernel
theorem dL_keptActive_1 : decode cL_keptActive 1 = .ok (.iconst 0, 1) := by decide +kernel
theorem dL_keptActive_2 : decode cL_keptActive 2 = .ok (.aload_n 0, 1) := by decide +kernel
theorem dL_keptActive_3 : decode cL_keptActive 3 = .ok (.iload_n 1, 1) := by decide +kernel
theorem dL_keptActive_4 : decode cL_keptActive 4 = .ok (.invokevirtual 82, 3) := by decide +kernel
theorem dL_keptActive_7 : decode cL_keptActive 7 = .ok (.i2l, 1) := by decide +kernel
theorem dL_keptActive_8 : decode cL_keptActive 8 = .ok (.lastore, 1) := by decide +kernel
theorem dL_keptActive_9 : decode cL_keptActive 9 = .ok (.goto 6, 3) := by decide +kernel
theorem dL_keptActive_12 : decode cL_keptActive 12 = .ok (.astore_n 3, 1) := by decide +kernel
theorem dL_keptActive_13 : decode cL_keptActive 13 = .ok (.iconst 1, 1) := by decide +kernel
theorem dL_keptActive_14 : decode cL_keptActive 14 = .ok (.ireturn, 1) := by decide +kernel
theorem dL_keptActive_15 : decode cL_keptActive 15 = .ok (.iconst 0, 1) := by decide +kernel
theorem dL_keptActive_16 : decode cL_keptActive 16 = .ok (.ireturn, 1) := by decide +kernel
set_option maxRecDepth 20000 in
theorem ggL_keptNew_X4_keptNew : GoodIn wsL_keptNew wsX4_keptNew := goodIn_ca (goodIn_r _ [6, 7, 8, 9, 10, 11, 12, 13, 14, 15, 5, 16, 17, 18, 19, 20, 21, 22, 23, 24, 25, 26, 27, 28, 29, 30, 31, 32, 33, 34] (by decide +kernel) (by decide +kernel)) (goodIn_sub (fun _ h => List.mem_cons_of_mem _ (List.mem_append_right _ h)) (by decide +kernel))
set_option maxRecDepth 20000 in
theorem gL_keptNew_X4_keptNew : GoodIn wsL_keptNew (wsV RL 85 RX4 yX4_keptNew wsX4_keptNew) := goodIn_app (goodIn_of _ (by decide +kernel)) ggL_keptNew_X4_keptNew
theorem dL_keptNew_0 : decode cL_keptNew 0 = .ok (.aload_n 2, 1) := by decide +kernel
theorem dL_keptNew_1 : decode cL_keptNew 1 = .ok (.iconst 0, 1) := by decide +kernel
theorem dL_keptNew_2 : decode cL_keptNew 2 = .ok (.aload_n 0, 1) := by decide +kernel
theorem dL_keptNew_3 : decode cL_keptNew 3 = .ok (.iload_n 1, 1) := by decide +kernel
theorem dL_keptNew_4 : decode cL_keptNew 4 = .ok (.invokevirtual 85, 3) := by decide +kernel
theorem dL_keptNew_7 : decode cL_keptNew 7 = .ok (.i2l, 1) := by decide +kernel
theorem dL_keptNew_8 : decode cL_keptNew 8 = .ok (.lastore, 1) := by decide +kernel
theorem dL_keptNew_9 : decode cL_keptNew 9 = .ok (.goto 6, 3) := by decide +kernel
theorem dL_keptNew_12 : decode cL_keptNew 12 = .ok (.astore_n 3, 1) := by decide +kernel
theorem dL_keptNew_13 : decode cL_keptNew 13 = .ok (.iconst 1, 1) := by decide +kernel
theorem dL_keptNew_14 : decode cL_keptNew 14 = .ok (.ireturn, 1) := by decide +kernel
theorem dL_keptNew_15 : decode cL_keptNew 15 = .ok (.iconst 0, 1) := by decide +kernel
theorem dL_keptNew_16 : decode cL_keptNew 16 = .ok (.ireturn, 1) := by decide +kernel
set_option maxRecDepth 20000 in
theorem ggL_keptSessions_X4_keptSessions : GoodIn wsL_keptSessions wsX4_keptSessions := goodIn_ca (goodIn_r _ [6, 7, 8, 9, 10, 11, 12, 13, 14, 15, 5, 16, 17, 18, 19, 20, 21, 22, 23, 24, 25, 26, 27, 28, 29, 30, 31, 32, 33, 34] (by decide +kernel) (by decide +kernel)) (goodIn_sub (fun _ h => List.mem_cons_of_mem _ (List.mem_append_right _ h)) (by decide +kernel))
set_option maxRecDepth 20000 in
theorem gL_keptSessions_X4_keptSessions : GoodIn wsL_keptSessions (wsV RL 88 RX4 yX4_keptSessions wsX4_keptSessions) := goodIn_app (goodIn_of _ (by decide +kernel)) ggL_keptSessions_X4_keptSessions
theorem dL_keptSessions_0 : decode cL_keptSessions 0 = .ok (.aload_n 2, 1) := by decide +kernel
theorem dL_keptSessions_1 : decode cL_keptSessions 1 = .ok (.iconst 0, 1) := by decide +kernel
theorem dL_keptSessions_2 : decode cL_keptSessions 2 = .ok (.aload_n 0, 1) := by decide +kernel
theorem dL_keptSessions_3 : decode cL_keptSessions 3 = .ok (.iload_n 1, 1) := by decide +kernel
theorem dL_keptSessions_4 : decode cL_keptSessions 4 = .ok (.invokevirtual 88, 3) := by decide +kernel
theorem dL_keptSessions_7 : decode cL_keptSessions 7 = .ok (.i2l, 1) := by decide +kernel
theorem dL_keptSessions_8 : decode cL_keptSessions 8 = .ok (.lastore, 1) := by decide +kernel
theorem dL_keptSessions_9 : decode cL_keptSessions 9 = .ok (.goto 6, 3) := by decide +kernel
theorem dL_keptSessions_12 : decode cL_keptSessions 12 = .ok (.astore_n 3, 1) := by decide +kernel
theorem dL_keptSessions_13 : decode cL_keptSessions 13 = .ok (.iconst 1, 1) := by decide +kernel
theorem dL_keptSessions_14 : decode cL_keptSessions 14 = .ok (.ireturn, 1) := by decide +kernel
theorem dL_keptSessions_15 : decode cL_keptSessions 15 = .ok (.iconst 0, 1) := by decide +kernel
theorem dL_keptSessions_16 : decode cL_keptSessions 16 = .ok (.ireturn, 1) := by decide +kernel
set_option maxRecDepth 20000 in
theorem ggL_law_X4_init : GoodIn wsL_law wsX4_init := goodIn_r _ [9, 10, 11, 12, 13, 14, 15, 16, 17, 18, 19, 20, 21, 22, 23, 24, 25, 26, 27, 28, 29, 30, 31, 32, 33, 34, 35, 36, 37, 38, 39, 40, 41, 42, 43, 44, 45, 46, 47, 48, 49, 50, 51, 52, 53, 54, 55, 56, 57, 58, 59, 60, 61, 62, 63, 658, 659, 660, 661, 662, 663, 664, 684, 685, 686, 687, 688, 689, 690, 691, 692, 693, 694, 695, 696, 697, 698, 699, 700, 701, 702] (by decide +kernel) (by decide +kernel)
set_option maxRecDepth 20000 in
theorem gL_law_X4_init : GoodIn wsL_law (wsX4_init) := ggL_law_X4_init
set_option maxRecDepth 20000 in
theorem ggL_law_X5_init : GoodIn wsL_law wsX5_init := goodIn_r _ [66, 67, 11, 12, 13, 68, 69, 70, 71, 72, 73, 74, 75, 76, 77, 78, 79, 80, 665, 666, 667, 668, 669, 670, 671, 672, 673, 674, 675, 676, 677, 678, 679, 680, 681, 682, 683] (by decide +kernel) (by decide +kernel)
set_option maxRecDepth 20000 in
theorem gL_law_X5_init : GoodIn wsL_law (wsX5_init) := ggL_law_X5_init
set_option maxRecDepth 20000 in
theorem ggL_law_L_event : GoodIn wsL_law wsL_event := goodIn_ca (goodIn_ca (goodIn_r _ [84, 85, 86, 87, 88, 89, 2, 90, 91, 92, 26, 18, 93, 94, 95, 96, 97, 98, 99, 100, 101, 102, 103, 104, 105, 106, 107, 108, 109, 25, 110, 56, 111, 112, 113, 17, 114, 40, 115, 116, 117, 118, 36, 37, 38, 39, 658, 659, 660, 661, 662, 663, 664, 695, 696, 697, 698, 684, 685, 686, 687, 688] (by decide +kernel) (by decide +kernel)) (goodIn_sub (fun _ h => List.mem_append_left _ (List.mem_append_left _ (List.mem_append_right _ h))) (by decide +kernel))) (goodIn_sub (fun _ h => List.mem_append_left _ (List.mem_append_right _ h)) (by decide +kernel))
set_option maxRecDepth 20000 in
theorem gL_law_L_event : GoodIn wsL_law (va_wsS RL 95 yL_event wsL_event) := goodIn_app (goodIn_of _ (by decide +kernel)) ggL_law_L_event
set_option maxRecDepth 20000 in
theorem ggL_law_X5_event : GoodIn wsL_law wsX5_event := goodIn_r _ [122, 123, 124, 69, 70, 71, 72, 125, 126, 5, 127, 128, 129, 130, 131, 132, 665, 666, 667, 668, 669, 670, 671, 672, 673, 674, 675, 676, 677, 678, 679, 680, 681, 682, 683] (by decide +kernel) (by decide +kernel)
set_option maxRecDepth 20000 in
theorem gL_law_X5_event : GoodIn wsL_law (wsV RL 100 RX5 yX5_event wsX5_event) := goodIn_app (goodIn_of _ (by decide +kernel)) ggL_law_X5_event
set_option maxRecDepth 20000 in
theorem ggL_law_X5_thrown : GoodIn wsL_law wsX5_thrown := goodIn_r _ [136, 132, 665, 666, 667, 668, 669, 670, 671, 672, 673, 674, 675, 676, 677, 678, 679, 680, 681, 682, 683] (by decide +kernel) (by decide +kernel)
set_option maxRecDepth 20000 in
theorem gL_law_X5_thrown : GoodIn wsL_law (wsV RL 101 RX5 yX5_thrown wsX5_thrown) := goodIn_app (goodIn_of _ (by decide +kernel)) ggL_law_X5_thrown
set_option maxRecDepth 20000 in
theorem ggL_law_L_merge : GoodIn wsL_law wsL_merge := goodIn_ca (goodIn_r _ [139, 85, 140, 141, 142, 2, 143, 14, 144, 145, 146, 147, 148, 149, 150, 93, 94, 95, 96, 97, 98, 99, 100, 658, 659, 660, 661, 662, 663, 664] (by decide +kernel) (by decide +kernel)) (goodIn_sub (fun _ h => List.mem_append_left _ (List.mem_append_right _ h)) (by decide +kernel))
set_option maxRecDepth 20000 in
theorem gL_law_L_merge : GoodIn wsL_law (va_wsS RL 104 yL_merge wsL_merge) := goodIn_app (goodIn_of _ (by decide +kernel)) ggL_law_L_merge
set_option maxRecDepth 20000 in
theorem ggL_law_X5_merge : GoodIn wsL_law wsX5_merge := goodIn_r _ [154, 68, 125, 126, 5, 127, 155, 156, 157, 158, 132, 665, 666, 667, 668, 669, 670, 671, 672, 673, 674, 675, 676, 677, 678, 679, 680, 681, 682, 683] (by decide +kernel) (by decide +kernel)
set_option maxRecDepth 20000 in
theorem gL_law_X5_merge : GoodIn wsL_law (wsV RL 107 RX5 yX5_merge wsX5_merge) := goodIn_app (goodIn_of _ (by decide +kernel)) ggL_law_X5_merge
set_option maxRecDepth 20000 in
theorem ggL_law_L_userOf : GoodIn wsL_law wsL_userOf := goodIn_ca (goodIn_r _ [161, 85, 162, 163, 164, 2, 165, 14, 93, 94, 95, 96, 97, 98, 99, 100, 658, 659, 660, 661, 662, 663, 664] (by decide +kernel) (by decide +kernel)) (goodIn_sub (fun _ h => List.mem_append_left _ (List.mem_append_right _ h)) (by decide +kernel))
set_option maxRecDepth 20000 in
theorem gL_law_L_userOf : GoodIn wsL_law (va_wsS RL 108 yL_userOf wsL_userOf) := goodIn_app (goodIn_of _ (by decide +kernel)) ggL_law_L_userOf
set_option maxRecDepth 20000 in
theorem ggL_law_X5_userOf : GoodIn wsL_law wsX5_userOf := goodIn_r _ [169, 68, 125, 126, 5, 127, 155, 156, 157, 158, 132, 665, 666, 667, 668, 669, 670, 671, 672, 673, 674, 675, 676, 677, 678, 679, 680, 681, 682, 683] (by decide +kernel) (by decide +kernel)
set_option maxRecDepth 20000 in
theorem gL_law_X5_userOf : GoodIn wsL_law (wsV RL 111 RX5 yX5_userOf wsX5_userOf) := goodIn_app (goodIn_of _ (by decide +kernel)) ggL_law_X5_userOf
set_option maxRecDepth 20000 in
theorem ggL_law_X4_users : GoodIn wsL_law wsX4_users := goodIn_r _ [173, 18, 14, 174, 175, 176, 17, 177, 40, 178, 179, 180, 181, 36, 39, 182, 183, 184, 185, 186, 187, 188, 658, 659, 660, 661, 662, 663, 664, 684, 685, 686, 687, 688] (by decide +kernel) (by decide +kernel)
set_option maxRecDepth 20000 in
theorem gL_law_X4_users : GoodIn wsL_law (wsV RL 112 RX4 yX4_users wsX4_users) := goodIn_app (goodIn_of _ (by decide +kernel)) ggL_law_X4_users
set_option maxRecDepth 20000 in
theorem ggL_law_X5_users : GoodIn wsL_law wsX5_users := goodIn_r _ [192, 132, 193, 194, 195, 196, 5, 197, 198, 124, 72, 68, 69, 71, 79, 73, 80, 665, 666, 667, 668, 669, 670, 671, 672, 673, 674, 675, 676, 677, 678, 679, 680, 681, 682, 683] (by decide +kernel) (by decide +kernel)
set_option maxRecDepth 20000 in
theorem gL_law_X5_users : GoodIn wsL_law (wsV RL 115 RX5 yX5_users wsX5_users) := goodIn_app (goodIn_of _ (by decide +kernel)) ggL_law_X5_users
set_option maxRecDepth 20000 in
theorem ggL_law_X4_events : GoodIn wsL_law wsX4_events := goodIn_r _ [202, 18, 174, 175, 176, 17, 177, 40, 658, 659, 660, 661, 662, 663, 664, 684, 685, 686, 687, 688] (by decide +kernel) (by decide +kernel)
set_option maxRecDepth 20000 in
theorem gL_law_X4_events : GoodIn wsL_law (wsV RL 116 RX4 yX4_events wsX4_events) := goodIn_app (goodIn_of _ (by decide +kernel)) ggL_law_X4_events
set_option maxRecDepth 20000 in
theorem ggL_law_X5_events : GoodIn wsL_law wsX5_events := goodIn_r _ [206, 132, 124, 665, 666, 667, 668, 669, 670, 671, 672, 673, 674, 675, 676, 677, 678, 679, 680, 681, 682, 683] (by decide +kernel) (by decide +kernel)
set_option maxRecDepth 20000 in
theorem gL_law_X5_events : GoodIn wsL_law (wsV RL 119 RX5 yX5_events wsX5_events) := goodIn_app (goodIn_of _ (by decide +kernel)) ggL_law_X5_events
set_option maxRecDepth 20000 in
theorem ggL_law_L_eventsOf : GoodIn wsL_law wsL_eventsOf := goodIn_ca (goodIn_r _ [209, 85, 210, 211, 212, 2, 213, 14, 93, 94, 95, 96, 97, 98, 99, 100, 214, 215, 216, 217, 30, 18, 218, 219, 220, 29, 221, 63, 174, 175, 176, 17, 177, 40, 178, 179, 180, 181, 36, 39, 222, 223, 224, 225, 226, 227, 228, 229, 37, 230, 231, 232, 233, 38, 234, 235, 236, 237, 60, 61, 62, 238, 239, 240, 241, 658, 659, 660, 661, 662, 663, 664, 699, 700, 701, 702, 684, 685, 686, 687, 688] (by decide +kernel) (by decide +kernel)) (goodIn_sub (fun _ h => List.mem_append_left _ (List.mem_append_right _ h)) (by decide +kernel))
set_option maxRecDepth 20000 in
theorem gL_law_L_eventsOf : GoodIn wsL_law (va_wsS RL 120 yL_eventsOf wsL_eventsOf) := goodIn_app (goodIn_of _ (by decide +kernel)) ggL_law_L_eventsOf
set_option maxRecDepth 20000 in
theorem ggL_law_X5_eventsOf : GoodIn wsL_law wsX5_eventsOf := goodIn_r _ [245, 68, 193, 125, 126, 5, 127, 155, 156, 157, 158, 132, 194, 195, 196, 197, 198, 124, 72, 69, 71, 79, 73, 80, 665, 666, 667, 668, 669, 670, 671, 672, 673, 674, 675, 676, 677, 678, 679, 680, 681, 682, 683] (by decide +kernel) (by decide +kernel)
set_option maxRecDepth 20000 in
theorem gL_law_X5_eventsOf : GoodIn wsL_law (wsV RL 122 RX5 yX5_eventsOf wsX5_eventsOf) := goodIn_app (goodIn_of _ (by decide +kernel)) ggL_law_X5_eventsOf
set_option maxRecDepth 20000 in
theorem ggL_law_L_eventAt : GoodIn wsL_law wsL_eventAt := goodIn_ca (goodIn_ca (goodIn_r _ [248, 85, 249, 250, 251, 252, 2, 253, 14, 93, 94, 95, 96, 97, 98, 99, 100, 214, 215, 216, 217, 30, 18, 218, 219, 220, 29, 221, 63, 174, 175, 176, 17, 177, 40, 178, 179, 180, 181, 36, 39, 222, 223, 224, 225, 226, 227, 228, 229, 37, 230, 231, 232, 233, 38, 234, 235, 236, 237, 60, 61, 62, 238, 239, 240, 241, 254, 255, 256, 257, 258, 259, 260, 261, 262, 658, 659, 660, 661, 662, 663, 664, 699, 700, 701, 702, 684, 685, 686, 687, 688] (by decide +kernel) (by decide +kernel)) (goodIn_sub (fun _ h => List.mem_append_left _ (List.mem_append_right _ h)) (by decide +kernel))) (goodIn_sub (fun _ h => List.mem_append_right _ h) (by decide +kernel))
set_option maxRecDepth 20000 in
theorem gL_law_L_eventAt : GoodIn wsL_law (va_wsS RL 123 yL_eventAt wsL_eventAt) := goodIn_app (goodIn_of _ (by decide +kernel)) ggL_law_L_eventAt
set_option maxRecDepth 20000 in
theorem ggL_law_X5_eventAt : GoodIn wsL_law wsX5_eventAt := goodIn_r _ [266, 68, 193, 79, 125, 126, 5, 127, 194, 195, 196, 197, 198, 124, 72, 69, 71, 73, 80, 128, 129, 130, 131, 132, 665, 666, 667, 668, 669, 670, 671, 672, 673, 674, 675, 676, 677, 678, 679, 680, 681, 682, 683] (by decide +kernel) (by decide +kernel)
set_option maxRecDepth 20000 in
theorem gL_law_X5_eventAt : GoodIn wsL_law (wsV RL 125 RX5 yX5_eventAt wsX5_eventAt) := goodIn_app (goodIn_of _ (by decide +kernel)) ggL_law_X5_eventAt
set_option maxRecDepth 20000 in
theorem ggL_law_L_gap : GoodIn wsL_law wsL_gap := goodIn_ca (goodIn_r _ [269, 85, 270, 271, 272, 2, 273, 32, 96, 97, 98, 99, 100, 658, 659, 660, 661, 662, 663, 664] (by decide +kernel) (by decide +kernel)) (goodIn_sub (fun _ h => List.mem_append_left _ (List.mem_append_right _ h)) (by decide +kernel))
set_option maxRecDepth 20000 in
theorem gL_law_L_gap : GoodIn wsL_law (va_wsS RL 126 yL_gap wsL_gap) := goodIn_app (goodIn_of _ (by decide +kernel)) ggL_law_L_gap
set_option maxRecDepth 20000 in
theorem ggL_law_X5_gap : GoodIn wsL_law wsX5_gap := goodIn_r _ [277, 73, 155, 156, 157, 5, 158, 132, 665, 666, 667, 668, 669, 670, 671, 672, 673, 674, 675, 676, 677, 678, 679, 680, 681, 682, 683] (by decide +kernel) (by decide +kernel)
set_option maxRecDepth 20000 in
theorem gL_law_X5_gap : GoodIn wsL_law (wsV RL 128 RX5 yX5_gap wsX5_gap) := goodIn_app (goodIn_of _ (by decide +kernel)) ggL_law_X5_gap
set_option maxRecDepth 20000 in
theorem ggL_law_L_sessions : GoodIn wsL_law wsL_sessions := goodIn_ca (goodIn_r _ [280, 85, 281, 282, 283, 2, 284, 14, 32, 93, 94, 95, 96, 97, 98, 99, 100, 214, 215, 216, 217, 30, 18, 218, 219, 220, 29, 221, 63, 174, 175, 176, 17, 177, 40, 178, 179, 180, 181, 36, 39, 222, 223, 224, 225, 226, 227, 228, 229, 37, 230, 231, 232, 233, 38, 234, 235, 236, 237, 60, 61, 62, 285, 286, 287, 288, 289, 290, 291, 292, 658, 659, 660, 661, 662, 663, 664, 699, 700, 701, 702, 684, 685, 686, 687, 688] (by decide +kernel) (by decide +kernel)) (goodIn_sub (fun _ h => List.mem_append_left _ (List.mem_append_right _ h)) (by decide +kernel))
set_option maxRecDepth 20000 in
theorem gL_law_L_sessions : GoodIn wsL_law (va_wsS RL 129 yL_sessions wsL_sessions) := goodIn_app (goodIn_of _ (by decide +kernel)) ggL_law_L_sessions
set_option maxRecDepth 20000 in
theorem ggL_law_X5_sessions : GoodIn wsL_law wsX5_sessions := goodIn_r _ [296, 68, 198, 125, 126, 5, 127, 155, 156, 157, 158, 132, 194, 195, 196, 197, 193, 124, 72, 69, 71, 79, 73, 80, 665, 666, 667, 668, 669, 670, 671, 672, 673, 674, 675, 676, 677, 678, 679, 680, 681, 682, 683] (by decide +kernel) (by decide +kernel)
set_option maxRecDepth 20000 in
theorem gL_law_X5_sessions : GoodIn wsL_law (wsV RL 131 RX5 yX5_sessions wsX5_sessions) := goodIn_app (goodIn_of _ (by decide +kernel)) ggL_law_X5_sessions
set_option maxRecDepth 20000 in
theorem ggL_law_L_sessionEvents : GoodIn wsL_law wsL_sessionEvents := goodIn_ca (goodIn_ca (goodIn_r _ [299, 85, 249, 300, 301, 302, 2, 303, 14, 32, 93, 94, 95, 96, 97, 98, 99, 100, 214, 215, 216, 217, 30, 18, 218, 219, 220, 29, 221, 63, 174, 175, 176, 17, 177, 40, 178, 179, 180, 181, 36, 39, 222, 223, 224, 225, 226, 227, 228, 229, 37, 230, 231, 232, 233, 38, 234, 235, 236, 237, 60, 61, 62, 304, 305, 306, 307, 308, 309, 310, 311, 289, 290, 291, 292, 238, 239, 240, 241, 254, 255, 256, 257, 258, 312, 313, 314, 315, 658, 659, 660, 661, 662, 663, 664, 699, 700, 701, 702, 684, 685, 686, 687, 688] (by decide +kernel) (by decide +kernel)) (goodIn_sub (fun _ h => List.mem_append_left _ (List.mem_append_right _ h)) (by decide +kernel))) (goodIn_sub (fun _ h => List.mem_append_right _ h) (by decide +kernel))
set_option maxRecDepth 20000 in
theorem gL_law_L_sessionEvents : GoodIn wsL_law (va_wsS RL 132 yL_sessionEvents wsL_sessionEvents) := goodIn_app (goodIn_of _ (by decide +kernel)) ggL_law_L_sessionEvents
set_option maxRecDepth 20000 in
theorem ggL_law_X5_sessionEvents : GoodIn wsL_law wsX5_sessionEvents := goodIn_r _ [319, 80, 320, 321, 322, 5, 323, 68, 198, 125, 126, 127, 194, 195, 196, 197, 193, 124, 72, 69, 71, 79, 73, 128, 129, 130, 131, 132, 665, 666, 667, 668, 669, 670, 671, 672, 673, 674, 675, 676, 677, 678, 679, 680, 681, 682, 683] (by decide +kernel) (by decide +kernel)
set_option maxRecDepth 20000 in
theorem gL_law_X5_sessionEvents : GoodIn wsL_law (wsV RL 134 RX5 yX5_sessionEvents wsX5_sessionEvents) := goodIn_app (goodIn_of _ (by decide +kernel)) ggL_law_X5_sessionEvents
set_option maxRecDepth 20000 in
theorem ggL_law_L_sessionStart : GoodIn wsL_law wsL_sessionStart := goodIn_ca (goodIn_ca (goodIn_r _ [326, 85, 249, 327, 328, 329, 2, 330, 14, 93, 94, 95, 96, 97, 98, 99, 100, 214, 215, 216, 217, 30, 18, 218, 219, 220, 29, 221, 63, 174, 175, 176, 17, 177, 40, 178, 179, 180, 181, 36, 39, 222, 223, 224, 225, 226, 227, 228, 229, 37, 230, 231, 232, 233, 38, 234, 235, 236, 237, 60, 61, 62, 304, 305, 306, 307, 32, 308, 309, 310, 311, 289, 290, 291, 292, 238, 239, 240, 241, 254, 255, 256, 257, 258, 331, 332, 333, 334, 658, 659, 660, 661, 662, 663, 664, 699, 700, 701, 702, 684, 685, 686, 687, 688] (by decide +kernel) (by decide +kernel)) (goodIn_sub (fun _ h => List.mem_append_left _ (List.mem_append_right _ h)) (by decide +kernel))) (goodIn_sub (fun _ h => List.mem_append_right _ h) (by decide +kernel))
set_option maxRecDepth 20000 in
theorem gL_law_L_sessionStart : GoodIn wsL_law (va_wsS RL 135 yL_sessionStart wsL_sessionStart) := goodIn_app (goodIn_of _ (by decide +kernel)) ggL_law_L_sessionStart
set_option maxRecDepth 20000 in
theorem ggL_law_X5_sessionStart : GoodIn wsL_law wsX5_sessionStart := goodIn_r _ [338, 71, 79, 80, 320, 321, 322, 5, 323, 68, 198, 125, 126, 127, 194, 195, 196, 197, 193, 124, 72, 69, 73, 128, 129, 130, 131, 132, 665, 666, 667, 668, 669, 670, 671, 672, 673, 674, 675, 676, 677, 678, 679, 680, 681, 682, 683] (by decide +kernel) (by decide +kernel)
set_option maxRecDepth 20000 in
theorem gL_law_X5_sessionStart : GoodIn wsL_law (wsV RL 137 RX5 yX5_sessionStart wsX5_sessionStart) := goodIn_app (goodIn_of _ (by decide +kernel)) ggL_law_X5_sessionStart
set_option maxRecDepth 20000 in
theorem ggL_law_L_sessionLength : GoodIn wsL_law wsL_sessionLength := goodIn_ca (goodIn_ca (goodIn_r _ [341, 85, 249, 342, 343, 344, 2, 345, 14, 32, 93, 94, 95, 96, 97, 98, 99, 100, 214, 215, 216, 217, 30, 18, 218, 219, 220, 29, 221, 63, 174, 175, 176, 17, 177, 40, 178, 179, 180, 181, 36, 39, 222, 223, 224, 225, 226, 227, 228, 229, 37, 230, 231, 232, 233, 38, 234, 235, 236, 237, 60, 61, 62, 304, 305, 306, 307, 308, 309, 310, 311, 289, 290, 291, 292, 238, 239, 240, 241, 254, 255, 256, 257, 258, 312, 313, 314, 315, 331, 332, 333, 334, 658, 659, 660, 661, 662, 663, 664, 699, 700, 701, 702, 684, 685, 686, 687, 688] (by decide +kernel) (by decide +kernel)) (goodIn_sub (fun _ h => List.mem_append_left _ (List.mem_append_right _ h)) (by decide +kernel))) (goodIn_sub (fun _ h => List.mem_append_right _ h) (by decide +kernel))
set_option maxRecDepth 20000 in
theorem gL_law_L_sessionLength : GoodIn wsL_law (va_wsS RL 138 yL_sessionLength wsL_sessionLength) := goodIn_app (goodIn_of _ (by decide +kernel)) ggL_law_L_sessionLength
set_option maxRecDepth 20000 in
theorem ggL_law_X5_sessionLength : GoodIn wsL_law wsX5_sessionLength := goodIn_r _ [349, 71, 79, 80, 320, 321, 322, 5, 323, 68, 198, 125, 126, 127, 194, 195, 196, 197, 193, 124, 72, 69, 73, 128, 129, 130, 131, 132, 665, 666, 667, 668, 669, 670, 671, 672, 673, 674, 675, 676, 677, 678, 679, 680, 681, 682, 683] (by decide +kernel) (by decide +kernel)
set_option maxRecDepth 20000 in
theorem gL_law_X5_sessionLength : GoodIn wsL_law (wsV RL 140 RX5 yX5_sessionLength wsX5_sessionLength) := goodIn_app (goodIn_of _ (by decide +kernel)) ggL_law_X5_sessionLength
set_option maxRecDepth 20000 in
theorem ggL_law_L_step : GoodIn wsL_law wsL_step := goodIn_ca (goodIn_ca (goodIn_r _ [352, 85, 86, 353, 354, 355, 2, 356, 91, 92, 22, 101, 102, 103, 96, 97, 98, 99, 100, 357, 358, 359, 21, 360, 45, 361, 362, 363, 364, 44, 658, 659, 660, 661, 662, 663, 664, 689, 690, 691, 692, 693, 694] (by decide +kernel) (by decide +kernel)) (goodIn_sub (fun _ h => List.mem_append_left _ (List.mem_append_left _ (List.mem_append_right _ h))) (by decide +kernel))) (goodIn_sub (fun _ h => List.mem_append_left _ (List.mem_append_right _ h)) (by decide +kernel))
set_option maxRecDepth 20000 in
theorem gL_law_L_step : GoodIn wsL_law (va_wsS RL 141 yL_step wsL_step) := goodIn_app (goodIn_of _ (by decide +kernel)) ggL_law_L_step
set_option maxRecDepth 20000 in
theorem ggL_law_X5_step : GoodIn wsL_law wsX5_step := goodIn_r _ [368, 369, 74, 128, 129, 130, 5, 131, 132, 665, 666, 667, 668, 669, 670, 671, 672, 673, 674, 675, 676, 677, 678, 679, 680, 681, 682, 683] (by decide +kernel) (by decide +kernel)
set_option maxRecDepth 20000 in
theorem gL_law_X5_step : GoodIn wsL_law (wsV RL 143 RX5 yX5_step wsX5_step) := goodIn_app (goodIn_of _ (by decide +kernel)) ggL_law_X5_step
set_option maxRecDepth 20000 in
theorem ggL_law_X4_clearFunnel : GoodIn wsL_law wsX4_clearFunnel := goodIn_r _ [373, 22, 374, 375, 376, 21, 377, 45, 658, 659, 660, 661, 662, 663, 664, 689, 690, 691, 692, 693, 694] (by decide +kernel) (by decide +kernel)
set_option maxRecDepth 20000 in
theorem gL_law_X4_clearFunnel : GoodIn wsL_law (wsV RL 144 RX4 yX4_clearFunnel wsX4_clearFunnel) := goodIn_app (goodIn_of _ (by decide +kernel)) ggL_law_X4_clearFunnel
set_option maxRecDepth 20000 in
theorem ggL_law_X5_clearFunnel : GoodIn wsL_law wsX5_clearFunnel := goodIn_r _ [381, 132, 369, 665, 666, 667, 668, 669, 670, 671, 672, 673, 674, 675, 676, 677, 678, 679, 680, 681, 682, 683] (by decide +kernel) (by decide +kernel)
set_option maxRecDepth 20000 in
theorem gL_law_X5_clearFunnel : GoodIn wsL_law (wsV RL 147 RX5 yX5_clearFunnel wsX5_clearFunnel) := goodIn_app (goodIn_of _ (by decide +kernel)) ggL_law_X5_clearFunnel
set_option maxRecDepth 20000 in
theorem ggL_law_L_window : GoodIn wsL_law wsL_window := goodIn_ca (goodIn_r _ [384, 85, 385, 386, 387, 2, 388, 22, 96, 97, 98, 99, 100, 389, 390, 391, 21, 392, 46, 658, 659, 660, 661, 662, 663, 664, 689, 690, 691, 692, 693, 694] (by decide +kernel) (by decide +kernel)) (goodIn_sub (fun _ h => List.mem_append_left _ (List.mem_append_right _ h)) (by decide +kernel))
set_option maxRecDepth 20000 in
theorem gL_law_L_window : GoodIn wsL_law (va_wsS RL 148 yL_window wsL_window) := goodIn_app (goodIn_of _ (by decide +kernel)) ggL_law_L_window
set_option maxRecDepth 20000 in
theorem ggL_law_X5_window : GoodIn wsL_law wsX5_window := goodIn_r _ [396, 75, 155, 156, 157, 5, 158, 132, 665, 666, 667, 668, 669, 670, 671, 672, 673, 674, 675, 676, 677, 678, 679, 680, 681, 682, 683] (by decide +kernel) (by decide +kernel)
set_option maxRecDepth 20000 in
theorem gL_law_X5_window : GoodIn wsL_law (wsV RL 150 RX5 yX5_window wsX5_window) := goodIn_app (goodIn_of _ (by decide +kernel)) ggL_law_X5_window
set_option maxRecDepth 20000 in
theorem ggL_law_L_depth : GoodIn wsL_law wsL_depth := goodIn_ca (goodIn_r _ [399, 85, 400, 401, 402, 2, 403, 22, 14, 93, 94, 95, 96, 97, 98, 99, 100, 214, 215, 216, 217, 30, 18, 218, 219, 220, 29, 221, 63, 174, 175, 176, 17, 177, 40, 178, 179, 180, 181, 36, 39, 222, 223, 224, 225, 226, 227, 228, 229, 37, 230, 231, 232, 233, 38, 234, 235, 236, 237, 60, 61, 62, 404, 405, 406, 21, 407, 48, 408, 409, 410, 411, 47, 49, 412, 413, 414, 415, 416, 239, 240, 241, 417, 418, 419, 420, 421, 332, 333, 334, 422, 423, 424, 425, 45, 44, 426, 427, 428, 429, 46, 430, 149, 146, 150, 658, 659, 660, 661, 662, 663, 664, 699, 700, 701, 702, 684, 685, 686, 687, 688, 689, 690, 691, 692, 693, 694] (by decide +kernel) (by decide +kernel)) (goodIn_sub (fun _ h => List.mem_append_left _ (List.mem_append_right _ h)) (by decide +kernel))
set_option maxRecDepth 20000 in
theorem gL_law_L_depth : GoodIn wsL_law (va_wsS RL 151 yL_depth wsL_depth) := goodIn_app (goodIn_of _ (by decide +kernel)) ggL_law_L_depth
set_option maxRecDepth 20000 in
theorem ggL_law_X5_depth : GoodIn wsL_law wsX5_depth := goodIn_r _ [434, 68, 125, 126, 5, 127, 155, 156, 157, 158, 132, 435, 436, 437, 438, 193, 194, 195, 196, 197, 198, 124, 72, 69, 71, 79, 73, 80, 439, 440, 441, 442, 369, 75, 70, 74, 665, 666, 667, 668, 669, 670, 671, 672, 673, 674, 675, 676, 677, 678, 679, 680, 681, 682, 683] (by decide +kernel) (by decide +kernel)
set_option maxRecDepth 20000 in
theorem gL_law_X5_depth : GoodIn wsL_law (wsV RL 153 RX5 yX5_depth wsX5_depth) := goodIn_app (goodIn_of _ (by decide +kernel)) ggL_law_X5_depth
set_option maxRecDepth 20000 in
theorem ggL_law_L_passed : GoodIn wsL_law wsL_passed := goodIn_ca (goodIn_r _ [445, 249, 446, 447, 448, 2, 449, 22, 450, 451, 452, 21, 453, 45, 254, 255, 256, 257, 258, 214, 215, 216, 217, 30, 18, 14, 218, 219, 220, 29, 221, 63, 174, 175, 176, 17, 177, 40, 178, 179, 180, 181, 36, 39, 222, 223, 224, 225, 226, 227, 228, 229, 37, 230, 231, 232, 233, 38, 234, 235, 236, 237, 60, 61, 62, 404, 405, 406, 407, 48, 408, 409, 410, 411, 47, 49, 412, 413, 414, 415, 416, 239, 240, 241, 417, 418, 419, 420, 421, 332, 333, 334, 422, 423, 424, 425, 44, 426, 427, 428, 429, 46, 430, 149, 146, 150, 658, 659, 660, 661, 662, 663, 664, 689, 690, 691, 692, 693, 694, 699, 700, 701, 702, 684, 685, 686, 687, 688] (by decide +kernel) (by decide +kernel)) (goodIn_sub (fun _ h => List.mem_append_right _ h) (by decide +kernel))
set_option maxRecDepth 20000 in
theorem gL_law_L_passed : GoodIn wsL_law (va_wsS RL 154 yL_passed wsL_passed) := goodIn_app (goodIn_of _ (by decide +kernel)) ggL_law_L_passed
set_option maxRecDepth 20000 in
theorem ggL_law_X5_passed : GoodIn wsL_law wsX5_passed := goodIn_r _ [457, 369, 155, 156, 157, 5, 158, 132, 435, 436, 437, 438, 193, 194, 195, 196, 197, 198, 124, 72, 68, 69, 71, 79, 73, 80, 439, 440, 441, 442, 75, 70, 74, 665, 666, 667, 668, 669, 670, 671, 672, 673, 674, 675, 676, 677, 678, 679, 680, 681, 682, 683] (by decide +kernel) (by decide +kernel)
set_option maxRecDepth 20000 in
theorem gL_law_X5_passed : GoodIn wsL_law (wsV RL 156 RX5 yX5_passed wsX5_passed) := goodIn_app (goodIn_of _ (by decide +kernel)) ggL_law_X5_passed
set_option maxRecDepth 20000 in
theorem ggL_law_L_fastest : GoodIn wsL_law wsL_fastest := goodIn_ca (goodIn_r _ [460, 85, 461, 462, 463, 2, 464, 22, 14, 93, 94, 95, 96, 97, 98, 99, 100, 214, 215, 216, 217, 30, 18, 218, 219, 220, 29, 221, 63, 174, 175, 176, 17, 177, 40, 178, 179, 180, 181, 36, 39, 222, 223, 224, 225, 226, 227, 228, 229, 37, 230, 231, 232, 233, 38, 234, 235, 236, 237, 60, 61, 62, 465, 466, 467, 21, 468, 49, 408, 409, 410, 411, 47, 48, 412, 413, 414, 415, 416, 239, 240, 241, 417, 418, 419, 420, 421, 332, 333, 334, 422, 423, 424, 425, 45, 44, 426, 427, 428, 429, 46, 430, 149, 146, 150, 658, 659, 660, 661, 662, 663, 664, 699, 700, 701, 702, 684, 685, 686, 687, 688, 689, 690, 691, 692, 693, 694] (by decide +kernel) (by decide +kernel)) (goodIn_sub (fun _ h => List.mem_append_left _ (List.mem_append_right _ h)) (by decide +kernel))
set_option maxRecDepth 20000 in
theorem gL_law_L_fastest : GoodIn wsL_law (va_wsS RL 157 yL_fastest wsL_fastest) := goodIn_app (goodIn_of _ (by decide +kernel)) ggL_law_L_fastest
set_option maxRecDepth 20000 in
theorem ggL_law_X5_fastest : GoodIn wsL_law wsX5_fastest := goodIn_r _ [472, 68, 193, 369, 125, 126, 5, 127, 155, 156, 157, 158, 132, 194, 195, 196, 197, 198, 124, 72, 69, 71, 79, 73, 80, 439, 440, 441, 442, 75, 70, 74, 473, 474, 475, 476, 665, 666, 667, 668, 669, 670, 671, 672, 673, 674, 675, 676, 677, 678, 679, 680, 681, 682, 683] (by decide +kernel) (by decide +kernel)
set_option maxRecDepth 20000 in
theorem gL_law_X5_fastest : GoodIn wsL_law (wsV RL 159 RX5 yX5_fastest wsX5_fastest) := goodIn_app (goodIn_of _ (by decide +kernel)) ggL_law_X5_fastest
set_option maxRecDepth 20000 in
theorem ggL_law_L_cohort : GoodIn wsL_law wsL_cohort := goodIn_ca (goodIn_r _ [479, 85, 480, 481, 482, 2, 483, 14, 93, 94, 95, 96, 97, 98, 99, 100, 214, 215, 216, 217, 30, 18, 218, 219, 220, 29, 221, 63, 174, 175, 176, 17, 177, 40, 178, 179, 180, 181, 36, 39, 222, 223, 224, 225, 226, 227, 228, 229, 37, 230, 231, 232, 233, 38, 234, 235, 236, 237, 60, 61, 62, 484, 485, 486, 487, 105, 106, 658, 659, 660, 661, 662, 663, 664, 699, 700, 701, 702, 684, 685, 686, 687, 688] (by decide +kernel) (by decide +kernel)) (goodIn_sub (fun _ h => List.mem_append_left _ (List.mem_append_right _ h)) (by decide +kernel))
set_option maxRecDepth 20000 in
theorem gL_law_L_cohort : GoodIn wsL_law (va_wsS RL 160 yL_cohort wsL_cohort) := goodIn_app (goodIn_of _ (by decide +kernel)) ggL_law_L_cohort
set_option maxRecDepth 20000 in
theorem ggL_law_X5_cohort : GoodIn wsL_law wsX5_cohort := goodIn_r _ [491, 68, 125, 126, 5, 127, 155, 156, 157, 158, 132, 492, 493, 494, 495, 193, 71, 79, 194, 195, 196, 197, 198, 124, 72, 69, 73, 80, 665, 666, 667, 668, 669, 670, 671, 672, 673, 674, 675, 676, 677, 678, 679, 680, 681, 682, 683] (by decide +kernel) (by decide +kernel)
set_option maxRecDepth 20000 in
theorem gL_law_X5_cohort : GoodIn wsL_law (wsV RL 162 RX5 yX5_cohort wsX5_cohort) := goodIn_app (goodIn_of _ (by decide +kernel)) ggL_law_X5_cohort
set_option maxRecDepth 20000 in
theorem ggL_law_L_retained : GoodIn wsL_law wsL_retained := goodIn_ca (goodIn_r _ [498, 85, 499, 500, 501, 2, 502, 503, 504, 505, 96, 97, 98, 99, 100, 506, 507, 508, 509, 18, 14, 174, 175, 176, 17, 177, 40, 178, 179, 180, 181, 36, 39, 230, 231, 232, 233, 38, 104, 105, 106, 510, 511, 512, 513, 182, 183, 184, 185, 186, 187, 188, 658, 659, 660, 661, 662, 663, 664, 684, 685, 686, 687, 688] (by decide +kernel) (by decide +kernel)) (goodIn_sub (fun _ h => List.mem_append_left _ (List.mem_append_right _ h)) (by decide +kernel))
set_option maxRecDepth 20000 in
theorem gL_law_L_retained : GoodIn wsL_law (va_wsS RL 163 yL_retained wsL_retained) := goodIn_app (goodIn_of _ (by decide +kernel)) ggL_law_L_retained
set_option maxRecDepth 20000 in
theorem ggL_law_X5_retained : GoodIn wsL_law wsX5_retained := goodIn_r _ [517, 518, 519, 5, 520, 155, 156, 157, 158, 132, 492, 493, 494, 495, 193, 71, 79, 194, 195, 196, 197, 198, 124, 72, 68, 69, 73, 80, 521, 522, 523, 524, 665, 666, 667, 668, 669, 670, 671, 672, 673, 674, 675, 676, 677, 678, 679, 680, 681, 682, 683] (by decide +kernel) (by decide +kernel)
set_option maxRecDepth 20000 in
theorem gL_law_X5_retained : GoodIn wsL_law (wsV RL 165 RX5 yX5_retained wsX5_retained) := goodIn_app (goodIn_of _ (by decide +kernel)) ggL_law_X5_retained
set_option maxRecDepth 20000 in
theorem ggL_law_L_active : GoodIn wsL_law wsL_active := goodIn_ca (goodIn_r _ [527, 85, 528, 529, 530, 2, 531, 503, 504, 505, 96, 97, 98, 99, 100, 510, 511, 512, 513, 18, 14, 174, 175, 176, 17, 177, 40, 230, 231, 232, 233, 38, 39, 104, 105, 106, 178, 179, 180, 181, 36, 658, 659, 660, 661, 662, 663, 664, 684, 685, 686, 687, 688] (by decide +kernel) (by decide +kernel)) (goodIn_sub (fun _ h => List.mem_append_left _ (List.mem_append_right _ h)) (by decide +kernel))
set_option maxRecDepth 20000 in
theorem gL_law_L_active : GoodIn wsL_law (va_wsS RL 166 yL_active wsL_active) := goodIn_app (goodIn_of _ (by decide +kernel)) ggL_law_L_active
set_option maxRecDepth 20000 in
theorem ggL_law_X5_active : GoodIn wsL_law wsX5_active := goodIn_r _ [535, 518, 519, 5, 520, 155, 156, 157, 158, 132, 536, 537, 538, 539, 521, 522, 523, 524, 124, 68, 69, 71, 665, 666, 667, 668, 669, 670, 671, 672, 673, 674, 675, 676, 677, 678, 679, 680, 681, 682, 683] (by decide +kernel) (by decide +kernel)
set_option maxRecDepth 20000 in
theorem gL_law_X5_active : GoodIn wsL_law (wsV RL 168 RX5 yX5_active wsX5_active) := goodIn_app (goodIn_of _ (by decide +kernel)) ggL_law_X5_active
set_option maxRecDepth 20000 in
theorem ggL_law_L_activeOnEach : GoodIn wsL_law wsL_activeOnEach := goodIn_ca (goodIn_r _ [542, 85, 543, 544, 545, 2, 546, 503, 504, 505, 96, 97, 98, 99, 100, 510, 511, 512, 513, 18, 14, 174, 175, 176, 17, 177, 40, 230, 231, 232, 233, 38, 39, 104, 105, 106, 178, 179, 180, 181, 36, 658, 659, 660, 661, 662, 663, 664, 684, 685, 686, 687, 688] (by decide +kernel) (by decide +kernel)) (goodIn_sub (fun _ h => List.mem_append_left _ (List.mem_append_right _ h)) (by decide +kernel))
set_option maxRecDepth 20000 in
theorem gL_law_L_activeOnEach : GoodIn wsL_law (va_wsS RL 169 yL_activeOnEach wsL_activeOnEach) := goodIn_app (goodIn_of _ (by decide +kernel)) ggL_law_L_activeOnEach
set_option maxRecDepth 20000 in
theorem ggL_law_X5_activeOnEach : GoodIn wsL_law wsX5_activeOnEach := goodIn_r _ [550, 518, 519, 5, 520, 155, 156, 157, 158, 132, 536, 537, 538, 539, 521, 522, 523, 524, 124, 68, 69, 71, 665, 666, 667, 668, 669, 670, 671, 672, 673, 674, 675, 676, 677, 678, 679, 680, 681, 682, 683] (by decide +kernel) (by decide +kernel)
set_option maxRecDepth 20000 in
theorem gL_law_X5_activeOnEach : GoodIn wsL_law (wsV RL 171 RX5 yX5_activeOnEach wsX5_activeOnEach) := goodIn_app (goodIn_of _ (by decide +kernel)) ggL_law_X5_activeOnEach
set_option maxRecDepth 20000 in
theorem ggL_law_L_ranked : GoodIn wsL_law wsL_ranked := goodIn_ca (goodIn_ca (goodIn_r _ [553, 85, 249, 554, 555, 556, 2, 557, 257, 258, 31, 96, 97, 98, 99, 100, 558, 559, 560, 561, 32, 22, 214, 215, 216, 217, 30, 18, 14, 218, 219, 220, 29, 221, 63, 174, 175, 176, 17, 177, 40, 178, 179, 180, 181, 36, 39, 222, 223, 224, 225, 226, 227, 228, 229, 37, 230, 231, 232, 233, 38, 234, 235, 236, 237, 60, 61, 62, 238, 239, 240, 241, 285, 286, 287, 288, 289, 290, 291, 292, 404, 405, 406, 21, 407, 48, 408, 409, 410, 411, 47, 49, 412, 413, 414, 415, 416, 417, 418, 419, 420, 421, 332, 333, 334, 422, 423, 424, 425, 45, 44, 426, 427, 428, 429, 46, 430, 149, 146, 150, 562, 563, 564, 565, 658, 659, 660, 661, 662, 663, 664, 699, 700, 701, 702, 684, 685, 686, 687, 688, 689, 690, 691, 692, 693, 694] (by decide +kernel) (by decide +kernel)) (goodIn_sub (fun _ h => List.mem_append_right _ h) (by decide +kernel))) (goodIn_sub (fun _ h => List.mem_append_left _ (List.mem_append_right _ h)) (by decide +kernel))
set_option maxRecDepth 20000 in
theorem gL_law_L_ranked : GoodIn wsL_law (va_wsS RL 172 yL_ranked wsL_ranked) := goodIn_app (goodIn_of _ (by decide +kernel)) ggL_law_L_ranked
set_option maxRecDepth 20000 in
theorem ggL_law_X5_ranked : GoodIn wsL_law wsX5_ranked := goodIn_r _ [569, 570, 571, 572, 5, 573, 193, 198, 194, 195, 196, 197, 124, 72, 68, 69, 71, 79, 73, 80, 435, 436, 437, 438, 439, 440, 441, 442, 369, 75, 70, 74, 128, 129, 130, 131, 132, 665, 666, 667, 668, 669, 670, 671, 672, 673, 674, 675, 676, 677, 678, 679, 680, 681, 682, 683] (by decide +kernel) (by decide +kernel)
set_option maxRecDepth 20000 in
theorem gL_law_X5_ranked : GoodIn wsL_law (wsV RL 174 RX5 yX5_ranked wsX5_ranked) := goodIn_app (goodIn_of _ (by decide +kernel)) ggL_law_X5_ranked
set_option maxRecDepth 20000 in
theorem ggL_law_L_closeDay : GoodIn wsL_law wsL_closeDay := goodIn_ca (goodIn_r _ [576, 86, 577, 578, 579, 2, 580, 91, 92, 26, 581, 582, 583, 25, 584, 56, 107, 108, 109, 110, 510, 511, 512, 513, 18, 14, 174, 175, 176, 17, 177, 40, 230, 231, 232, 233, 38, 39, 104, 105, 106, 178, 179, 180, 181, 36, 182, 183, 184, 185, 186, 187, 188, 506, 507, 508, 509, 585, 586, 587, 588, 32, 214, 215, 216, 217, 30, 218, 219, 220, 29, 221, 63, 222, 223, 224, 225, 226, 227, 228, 229, 37, 234, 235, 236, 237, 60, 61, 62, 589, 590, 591, 592, 289, 290, 291, 292, 593, 594, 595, 596, 53, 54, 55, 658, 659, 660, 661, 662, 663, 664, 695, 696, 697, 698, 684, 685, 686, 687, 688, 699, 700, 701, 702] (by decide +kernel) (by decide +kernel)) (goodIn_sub (fun _ h => List.mem_append_left _ (List.mem_append_left _ (List.mem_append_right _ h))) (by decide +kernel))
set_option maxRecDepth 20000 in
theorem gL_law_L_closeDay : GoodIn wsL_law (va_wsS RL 175 yL_closeDay wsL_closeDay) := goodIn_app (goodIn_of _ (by decide +kernel)) ggL_law_L_closeDay
set_option maxRecDepth 20000 in
theorem ggL_law_X5_closeDay : GoodIn wsL_law wsX5_closeDay := goodIn_r _ [600, 123, 198, 71, 79, 80, 76, 77, 78, 155, 156, 157, 5, 158, 132, 521, 522, 523, 524, 124, 68, 69, 492, 493, 494, 495, 193, 194, 195, 196, 197, 72, 73, 665, 666, 667, 668, 669, 670, 671, 672, 673, 674, 675, 676, 677, 678, 679, 680, 681, 682, 683] (by decide +kernel) (by decide +kernel)
set_option maxRecDepth 20000 in
theorem gL_law_X5_closeDay : GoodIn wsL_law (wsV RL 178 RX5 yX5_closeDay wsX5_closeDay) := goodIn_app (goodIn_of _ (by decide +kernel)) ggL_law_X5_closeDay
set_option maxRecDepth 20000 in
theorem ggL_law_X4_closedDays : GoodIn wsL_law wsX4_closedDays := goodIn_r _ [604, 26, 107, 108, 109, 25, 110, 56, 658, 659, 660, 661, 662, 663, 664, 695, 696, 697, 698] (by decide +kernel) (by decide +kernel)
set_option maxRecDepth 20000 in
theorem gL_law_X4_closedDays : GoodIn wsL_law (wsV RL 179 RX4 yX4_closedDays wsX4_closedDays) := goodIn_app (goodIn_of _ (by decide +kernel)) ggL_law_X4_closedDays
set_option maxRecDepth 20000 in
theorem ggL_law_X5_closedDays : GoodIn wsL_law wsX5_closedDays := goodIn_r _ [608, 132, 123, 665, 666, 667, 668, 669, 670, 671, 672, 673, 674, 675, 676, 677, 678, 679, 680, 681, 682, 683] (by decide +kernel) (by decide +kernel)
set_option maxRecDepth 20000 in
theorem gL_law_X5_closedDays : GoodIn wsL_law (wsV RL 182 RX5 yX5_closedDays wsX5_closedDays) := goodIn_app (goodIn_of _ (by decide +kernel)) ggL_law_X5_closedDays
set_option maxRecDepth 20000 in
theorem ggL_law_L_keptActive : GoodIn wsL_law wsL_keptActive := goodIn_ca (goodIn_r _ [611, 249, 612, 613, 614, 2, 615, 26, 107, 108, 109, 25, 110, 56, 254, 255, 256, 257, 258, 616, 617, 618, 619, 53, 658, 659, 660, 661, 662, 663, 664, 695, 696, 697, 698] (by decide +kernel) (by decide +kernel)) (goodIn_sub (fun _ h => List.mem_append_right _ h) (by decide +kernel))
set_option maxRecDepth 20000 in
theorem gL_law_L_keptActive : GoodIn wsL_law (va_wsS RL 183 yL_keptActive wsL_keptActive) := goodIn_app (goodIn_of _ (by decide +kernel)) ggL_law_L_keptActive
set_option maxRecDepth 20000 in
theorem ggL_law_X5_keptActive : GoodIn wsL_law wsX5_keptActive := goodIn_r _ [623, 76, 624, 625, 626, 5, 627, 123, 155, 156, 157, 158, 132, 665, 666, 667, 668, 669, 670, 671, 672, 673, 674, 675, 676, 677, 678, 679, 680, 681, 682, 683] (by decide +kernel) (by decide +kernel)
set_option maxRecDepth 20000 in
theorem gL_law_X5_keptActive : GoodIn wsL_law (wsV RL 185 RX5 yX5_keptActive wsX5_keptActive) := goodIn_app (goodIn_of _ (by decide +kernel)) ggL_law_X5_keptActive
set_option maxRecDepth 20000 in
theorem ggL_law_L_keptNew : GoodIn wsL_law wsL_keptNew := goodIn_ca (goodIn_r _ [630, 249, 631, 632, 633, 2, 634, 26, 107, 108, 109, 25, 110, 56, 254, 255, 256, 257, 258, 635, 636, 637, 638, 54, 658, 659, 660, 661, 662, 663, 664, 695, 696, 697, 698] (by decide +kernel) (by decide +kernel)) (goodIn_sub (fun _ h => List.mem_append_right _ h) (by decide +kernel))
set_option maxRecDepth 20000 in
theorem gL_law_L_keptNew : GoodIn wsL_law (va_wsS RL 186 yL_keptNew wsL_keptNew) := goodIn_app (goodIn_of _ (by decide +kernel)) ggL_law_L_keptNew
set_option maxRecDepth 20000 in
theorem ggL_law_X5_keptNew : GoodIn wsL_law wsX5_keptNew := goodIn_r _ [642, 77, 624, 625, 626, 5, 627, 123, 155, 156, 157, 158, 132, 665, 666, 667, 668, 669, 670, 671, 672, 673, 674, 675, 676, 677, 678, 679, 680, 681, 682, 683] (by decide +kernel) (by decide +kernel)
set_option maxRecDepth 20000 in
theorem gL_law_X5_keptNew : GoodIn wsL_law (wsV RL 188 RX5 yX5_keptNew wsX5_keptNew) := goodIn_app (goodIn_of _ (by decide +kernel)) ggL_law_X5_keptNew
set_option maxRecDepth 20000 in
theorem ggL_law_L_keptSessions : GoodIn wsL_law wsL_keptSessions := goodIn_ca (goodIn_r _ [645, 249, 646, 647, 648, 2, 649, 26, 107, 108, 109, 25, 110, 56, 254, 255, 256, 257, 258, 650, 651, 652, 653, 55, 658, 659, 660, 661, 662, 663, 664, 695, 696, 697, 698] (by decide +kernel) (by decide +kernel)) (goodIn_sub (fun _ h => List.mem_append_right _ h) (by decide +kernel))
set_option maxRecDepth 20000 in
theorem gL_law_L_keptSessions : GoodIn wsL_law (va_wsS RL 189 yL_keptSessions wsL_keptSessions) := goodIn_app (goodIn_of _ (by decide +kernel)) ggL_law_L_keptSessions
set_option maxRecDepth 20000 in
theorem ggL_law_X5_keptSessions : GoodIn wsL_law wsX5_keptSessions := goodIn_r _ [657, 78, 624, 625, 626, 5, 627, 123, 155, 156, 157, 158, 132, 665, 666, 667, 668, 669, 670, 671, 672, 673, 674, 675, 676, 677, 678, 679, 680, 681, 682, 683] (by decide +kernel) (by decide +kernel)
set_option maxRecDepth 20000 in
theorem gL_law_X5_keptSessions : GoodIn wsL_law (wsV RL 191 RX5 yX5_keptSessions wsX5_keptSessions) := goodIn_app (goodIn_of _ (by decide +kernel)) ggL_law_X5_keptSessions
