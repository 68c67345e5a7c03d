theorem dX4_gap_13 : decode cX4_gap 13 = .ok (.aload_n 0, 1) := by decide +kernel
theorem dX4_gap_14 : decode cX4_gap 14 = .ok (.iload_n 1, 1) := by decide +kernel
theorem dX4_gap_15 : decode cX4_gap 15 = .ok (.putfield 44, 3) := by decide +kernel
theorem dX4_gap_18 : decode cX4_gap 18 = .ok (.iload_n 2, 1) := by decide +kernel
theorem dX4_gap_19 : decode cX4_gap 19 = .ok (.ireturn, 1) := by decide +kernel
set_option maxRecDepth 20000 in
theorem ggX4_sessions_X4_requireId : GoodIn wsX4_sessions wsX4_requireId := goodIn_ca (goodIn_r _ [6, 7, 8, 5, 9, 10, 11] (by decide +kernel) (by decide +kernel)) (goodIn_sub (fun _ h => List.mem_cons_of_mem _ (List.mem_append_right _ h)) (by decide +kernel))
set_option maxRecDepth 20000 in
theorem gX4_sessions_X4_requireId : GoodIn wsX4_sessions (va_wsS RX4 48 yX4_requireId wsX4_requireId) := goodIn_app (goodIn_of _ (by decide +kernel)) ggX4_sessions_X4_requireId
set_option maxRecDepth 20000 in
theorem ggX4_sessions_X4_timelineOf : GoodIn wsX4_sessions wsX4_timelineOf := goodIn_r _ [15, 16, 17, 1, 18, 19, 20, 21, 22, 23, 24, 25, 26, 27, 28, 29, 30, 31, 32, 33, 34, 35, 36, 37, 38, 39, 40, 41, 42, 43, 44, 45, 46, 47, 48, 49, 50, 51, 52, 53, 54, 55, 56, 65, 66, 67, 68, 69, 70, 71, 72, 73, 74, 75, 76, 77, 78, 79, 80] (by decide +kernel) (by decide +kernel)
set_option maxRecDepth 20000 in
theorem gX4_sessions_X4_timelineOf : GoodIn wsX4_sessions (wsV RX4 104 RX4 yX4_timelineOf wsX4_timelineOf) := goodIn_app (goodIn_of _ (by decide +kernel)) ggX4_sessions_X4_timelineOf
set_option maxRecDepth 20000 in
theorem ggX4_sessions_X3_sessionCount : GoodIn wsX4_sessions wsX3_sessionCount := goodIn_r _ [60, 23, 61, 62, 63, 21, 64, 56, 72, 73, 74, 75] (by decide +kernel) (by decide +kernel)
set_option maxRecDepth 20000 in
theorem gX4_sessions_X3_sessionCount : GoodIn wsX4_sessions (wsV RX4 116 RX3 yX3_sessionCount wsX3_sessionCount) := goodIn_app (goodIn_of _ (by decide +kernel)) ggX4_sessions_X3_sessionCount
theorem dX4_sessions_0 : decode cX4_sessions 0 = .ok (.iload_n 1, 1) := by decide +kernel
theorem dX4_sessions_1 : decode cX4_sessions 1 = .ok (.invokestatic 48, 3) := by decide +kernel
theorem dX4_sessions_4 : decode cX4_sessions 4 = .ok (.aload_n 0, 1) := by decide +kernel
theorem dX4_sessions_5 : decode cX4_sessions 5 = .ok (.aload_n 0, 1) := by decide +kernel
theorem dX4_sessions_6 : decode cX4_sessions 6 = .ok (.getfield 9, 3) := by decide +kernel
theorem dX4_sessions_9 : decode cX4_sessions 9 = .ok (.iload_n 1, 1) := by decide +kernel
theorem dX4_sessions_10 : decode cX4_sessions 10 = .ok (.iaload, 1) := by decide +kernel
theorem dX4_sessions_11 : decode cX4_sessions 11 = .ok (.invokevirtual 104, 3) := by decide +kernel
theorem dX4_sessions_14 : decode cX4_sessions 14 = .ok (.aload_n 0, 1) := by decide +kernel
theorem dX4_sessions_15 : decode cX4_sessions 15 = .ok (.getfield 44, 3) := by decide +kernel
theorem dX4_sessions_18 : decode cX4_sessions 18 = .ok (.invokevirtual 116, 3) := by decide +kernel
theorem dX4_sessions_21 : decode cX4_sessions 21 = .ok (.ireturn, 1) := by decide +kernel
set_option maxRecDepth 20000 in
theorem ggX4_sessionEvents_X4_requireId : GoodIn wsX4_sessionEvents wsX4_requireId := goodIn_ca (goodIn_r _ [6, 7, 8, 5, 9, 10, 11] (by decide +kernel) (by decide +kernel)) (goodIn_sub (fun _ h => List.mem_cons_of_mem _ (List.mem_append_left _ (List.mem_append_right _ h))) (by decide +kernel))
set_option maxRecDepth 20000 in
theorem gX4_sessionEvents_X4_requireId : GoodIn wsX4_sessionEvents (va_wsS RX4 48 yX4_requireId wsX4_requireId) := goodIn_app (goodIn_of _ (by decide +kernel)) ggX4_sessionEvents_X4_requireId
set_option maxRecDepth 20000 in
theorem ggX4_sessionEvents_X4_timelineOf : GoodIn wsX4_sessionEvents wsX4_timelineOf := goodIn_r _ [15, 16, 17, 1, 18, 19, 20, 21, 22, 23, 24, 25, 26, 27, 28, 29, 30, 31, 32, 33, 34, 35, 36, 37, 38, 39, 40, 41, 42, 43, 44, 45, 46, 47, 48, 49, 50, 51, 52, 53, 54, 55, 56, 82, 83, 84, 85, 86, 87, 88, 89, 90, 91, 92, 93, 94, 95, 96, 97] (by decide +kernel) (by decide +kernel)
set_option maxRecDepth 20000 in
theorem gX4_sessionEvents_X4_timelineOf : GoodIn wsX4_sessionEvents (wsV RX4 104 RX4 yX4_timelineOf wsX4_timelineOf) := goodIn_app (goodIn_of _ (by decide +kernel)) ggX4_sessionEvents_X4_timelineOf
set_option maxRecDepth 20000 in
theorem ggX4_sessionEvents_X4_firstPlaceOf : GoodIn wsX4_sessionEvents wsX4_firstPlaceOf := goodIn_ca (goodIn_r _ [60, 2, 61, 62, 63, 21, 64, 23, 65, 66, 67, 68, 56, 69, 70, 71, 72, 73, 74, 5, 75, 76, 77, 82, 83, 84, 85, 86, 87, 88, 89, 90, 91, 92] (by decide +kernel) (by decide +kernel)) (goodIn_sub (fun _ h => List.mem_cons_of_mem _ (List.mem_append_right _ h)) (by decide +kernel))
set_option maxRecDepth 20000 in
theorem gX4_sessionEvents_X4_firstPlaceOf : GoodIn wsX4_sessionEvents (wsV RX4 119 RX4 yX4_firstPlaceOf wsX4_firstPlaceOf) := goodIn_app (goodIn_of _ (by decide +kernel)) ggX4_sessionEvents_X4_firstPlaceOf
set_option maxRecDepth 20000 in
theorem ggX4_sessionEvents_X3_sessionEnd : GoodIn wsX4_sessionEvents wsX3_sessionEnd := goodIn_r _ [81, 23, 65, 66, 67, 21, 68, 56, 89, 90, 91, 92] (by decide +kernel) (by decide +kernel)
set_option maxRecDepth 20000 in
theorem gX4_sessionEvents_X3_sessionEnd : GoodIn wsX4_sessionEvents (wsV RX4 123 RX3 yX3_sessionEnd wsX3_sessionEnd) := goodIn_app (goodIn_of _ (by decide +kernel)) ggX4_sessionEvents_X3_sessionEnd
theorem dX4_sessionEvents_0 : decode cX4_sessionEvents 0 = .ok (.iload_n 1, 1) := by decide +kernel
theorem dX4_sessionEvents_1 : decode cX4_sessionEvents 1 = .ok (.invokestatic 48, 3) := by decide +kernel
theorem dX4_sessionEvents_4 : decode cX4_sessionEvents 4 = .ok (.aload_n 0, 1) := by decide +kernel
theorem dX4_sessionEvents_5 : decode cX4_sessionEvents 5 = .ok (.aload_n 0, 1) := by decide +kernel
theorem dX4_sessionEvents_6 : decode cX4_sessionEvents 6 = .ok (.getfield 9, 3) := by decide +kernel
theorem dX4_sessionEvents_9 : decode cX4_sessionEvents 9 = .ok (.iload_n 1, 1) := by decide +kernel
theorem dX4_sessionEvents_10 : decode cX4_sessionEvents 10 = .ok (.iaload, 1) := by decide +kernel
theorem dX4_sessionEvents_11 : decode cX4_sessionEvents 11 = .ok (.invokevirtual 104, 3) := by decide +kernel
theorem dX4_sessionEvents_14 : decode cX4_sessionEvents 14 = .ok (.astore_n 3, 1) := by decide +kernel
theorem dX4_sessionEvents_15 : decode cX4_sessionEvents 15 = .ok (.aload_n 0, 1) := by decide +kernel
theorem dX4_sessionEvents_16 : decode cX4_sessionEvents 16 = .ok (.iload_n 2, 1) := by decide +kernel
theorem dX4_sessionEvents_17 : decode cX4_sessionEvents 17 = .ok (.aload_n 3, 1) := by decide +kernel
theorem dX4_sessionEvents_18 : decode cX4_sessionEvents 18 = .ok (.invokevirtual 119, 3) := by decide +kernel
theorem dX4_sessionEvents_21 : decode cX4_sessionEvents 21 = .ok (.istore 4, 2) := by decide +kernel
theorem dX4_sessionEvents_23 : decode cX4_sessionEvents 23 = .ok (.aload_n 3, 1) := by decide +kernel
theorem dX4_sessionEvents_24 : decode cX4_sessionEvents 24 = .ok (.iload 4, 2) := by decide +kernel
theorem dX4_sessionEvents_26 : decode cX4_sessionEvents 26 = .ok (.aload_n 0, 1) := by decide +kernel
theorem dX4_sessionEvents_27 : decode cX4_sessionEvents 27 = .ok (.getfield 44, 3) := by decide +kernel
theorem dX4_sessionEvents_30 : decode cX4_sessionEvents 30 = .ok (.invokevirtual 123, 3) := by decide +kernel
theorem dX4_sessionEvents_33 : decode cX4_sessionEvents 33 = .ok (.iload 4, 2) := by decide +kernel
theorem dX4_sessionEvents_35 : decode cX4_sessionEvents 35 = .ok (.isub, 1) := by decide +kernel
theorem dX4_sessionEvents_36 : decode cX4_sessionEvents 36 = .ok (.ireturn, 1) := by decide +kernel
set_option maxRecDepth 20000 in
theorem ggX4_sessionStart_X4_requireId : GoodIn wsX4_sessionStart wsX4_requireId := goodIn_ca (goodIn_r _ [5, 6, 7, 4, 8, 9, 10] (by decide +kernel) (by decide +kernel)) (goodIn_sub (fun _ h => List.mem_cons_of_mem _ (List.mem_append_left _ (List.mem_append_right _ h))) (by decide +kernel))
set_option maxRecDepth 20000 in
theorem gX4_sessionStart_X4_requireId : GoodIn wsX4_sessionStart (va_wsS RX4 48 yX4_requireId wsX4_requireId) := goodIn_app (goodIn_of _ (by decide +kernel)) ggX4_sessionStart_X4_requireId
set_option maxRecDepth 20000 in
theorem ggX4_sessionStart_X4_timelineOf : GoodIn wsX4_sessionStart wsX4_timelineOf := goodIn_r _ [14, 15, 16, 1, 17, 18, 19, 20, 21, 22, 23, 24, 25, 26, 27, 28, 29, 30, 31, 32, 33, 34, 35, 36, 37, 38, 39, 40, 41, 42, 43, 44, 45, 46, 47, 48, 49, 50, 51, 52, 53, 54, 55, 82, 83, 84, 85, 86, 87, 88, 89, 90, 91, 92, 93, 94, 95, 96, 97] (by decide +kernel) (by decide +kernel)
set_option maxRecDepth 20000 in
theorem gX4_sessionStart_X4_timelineOf : GoodIn wsX4_sessionStart (wsV RX4 104 RX4 yX4_timelineOf wsX4_timelineOf) := goodIn_app (goodIn_of _ (by decide +kernel)) ggX4_sessionStart_X4_timelineOf
set_option maxRecDepth 20000 in
theorem ggX4_sessionStart_X4_firstPlaceOf : GoodIn wsX4_sessionStart wsX4_firstPlaceOf := goodIn_ca (goodIn_r _ [59, 60, 61, 62, 63, 20, 64, 22, 65, 66, 67, 68, 55, 69, 70, 71, 72, 73, 74, 4, 75, 76, 77, 82, 83, 84, 85, 86, 87, 88, 89, 90, 91, 92] (by decide +kernel) (by decide +kernel)) (goodIn_sub (fun _ h => List.mem_cons_of_mem _ (List.mem_append_right _ h)) (by decide +kernel))
set_option maxRecDepth 20000 in
theorem gX4_sessionStart_X4_firstPlaceOf : GoodIn wsX4_sessionStart (wsV RX4 119 RX4 yX4_firstPlaceOf wsX4_firstPlaceOf) := goodIn_app (goodIn_of _ (by decide +kernel)) ggX4_sessionStart_X4_firstPlaceOf
set_option maxRecDepth 20000 in
theorem ggX4_sessionStart_X3_timeAt : GoodIn wsX4_sessionStart wsX3_timeAt := goodIn_r _ [81, 55, 89, 90, 91, 92] (by decide +kernel) (by decide +kernel)
set_option maxRecDepth 20000 in
theorem gX4_sessionStart_X3_timeAt : GoodIn wsX4_sessionStart (wsV RX4 126 RX3 yX3_timeAt wsX3_timeAt) := goodIn_app (goodIn_of _ (by decide +kernel)) ggX4_sessionStart_X3_timeAt
theorem dX4_sessionStart_0 : decode cX4_sessionStart 0 = .ok (.iload_n 1, 1) := by decide +kernel
theorem dX4_sessionStart_1 : decode cX4_sessionStart 1 = .ok (.invokestatic 48, 3) := by decide +kernel
theorem dX4_sessionStart_4 : decode cX4_sessionStart 4 = .ok (.aload_n 0, 1) := by decide +kernel
theorem dX4_sessionStart_5 : decode cX4_sessionStart 5 = .ok (.aload_n 0, 1) := by decide +kernel
theorem dX4_sessionStart_6 : decode cX4_sessionStart 6 = .ok (.getfield 9, 3) := by decide +kernel
theorem dX4_sessionStart_9 : decode cX4_sessionStart 9 = .ok (.iload_n 1, 1) := by decide +kernel
theorem dX4_sessionStart_10 : decode cX4_sessionStart 10 = .ok (.iaload, 1) := by decide +kernel
theorem dX4_sessionStart_11 : decode cX4_sessionStart 11 = .ok (.invokevirtual 104, 3) := by decide +kernel
theorem dX4_sessionStart_14 : decode cX4_sessionStart 14 = .ok (.astore_n 3, 1) := by decide +kernel
theorem dX4_sessionStart_15 : decode cX4_sessionStart 15 = .ok (.aload_n 3, 1) := by decide +kernel
theorem dX4_sessionStart_16 : decode cX4_sessionStart 16 = .ok (.aload_n 0, 1) := by decide +kernel
theorem dX4_sessionStart_17 : decode cX4_sessionStart 17 = .ok (.iload_n 2, 1) := by decide +kernel
theorem dX4_sessionStart_18 : decode cX4_sessionStart 18 = .ok (.aload_n 3, 1) := by decide +kernel
theorem dX4_sessionStart_19 : decode cX4_sessionStart 19 = .ok (.invokevirtual 119, 3) := by decide +kernel
theorem dX4_sessionStart_22 : decode cX4_sessionStart 22 = .ok (.invokevirtual 126, 3) := by decide +kernel
theorem dX4_sessionStart_25 : decode cX4_sessionStart 25 = .ok (.ireturn, 1) := by decide +kernel
set_option maxRecDepth 20000 in
theorem ggX4_sessionLength_X4_requireId : GoodIn wsX4_sessionLength wsX4_requireId := goodIn_ca (goodIn_r _ [6, 7, 8, 5, 9, 10, 11] (by decide +kernel) (by decide +kernel)) (goodIn_sub (fun _ h => List.mem_cons_of_mem _ (List.mem_append_left _ (List.mem_append_right _ h))) (by decide +kernel))
set_option maxRecDepth 20000 in
theorem gX4_sessionLength_X4_requireId : GoodIn wsX4_sessionLength (va_wsS RX4 48 yX4_requireId wsX4_requireId) := goodIn_app (goodIn_of _ (by decide +kernel)) ggX4_sessionLength_X4_requireId
set_option maxRecDepth 20000 in
theorem ggX4_sessionLength_X4_timelineOf : GoodIn wsX4_sessionLength wsX4_timelineOf := goodIn_r _ [15, 16, 17, 1, 18, 19, 20, 21, 22, 23, 24, 25, 26, 27, 28, 29, 30, 31, 32, 33, 34, 35, 36, 37, 38, 39, 40, 41, 42, 43, 44, 45, 46, 47, 48, 49, 50, 51, 52, 53, 54, 55, 56, 86, 87, 88, 89, 90, 91, 92, 93, 94, 95, 96, 97, 98, 99, 100, 101] (by decide +kernel) (by decide +kernel)
set_option maxRecDepth 20000 in
theorem gX4_sessionLength_X4_timelineOf : GoodIn wsX4_sessionLength (wsV RX4 104 RX4 yX4_timelineOf wsX4_timelineOf) := goodIn_app (goodIn_of _ (by decide +kernel)) ggX4_sessionLength_X4_timelineOf
set_option maxRecDepth 20000 in
theorem ggX4_sessionLength_X4_firstPlaceOf : GoodIn wsX4_sessionLength wsX4_firstPlaceOf := goodIn_ca (goodIn_r _ [60, 2, 61, 62, 63, 21, 64, 23, 65, 66, 67, 68, 56, 69, 70, 71, 72, 73, 74, 5, 75, 76, 77, 86, 87, 88, 89, 90, 91, 92, 93, 94, 95, 96] (by decide +kernel) (by decide +kernel)) (goodIn_sub (fun _ h => List.mem_cons_of_mem _ (List.mem_append_right _ h)) (by decide +kernel))
set_option maxRecDepth 20000 in
theorem gX4_sessionLength_X4_firstPlaceOf : GoodIn wsX4_sessionLength (wsV RX4 119 RX4 yX4_firstPlaceOf wsX4_firstPlaceOf) := goodIn_app (goodIn_of _ (by decide +kernel)) ggX4_sessionLength_X4_firstPlaceOf
set_option maxRecDepth 20000 in
theorem ggX4_sessionLength_X3_sessionEnd : GoodIn wsX4_sessionLength wsX3_sessionEnd := goodIn_r _ [81, 23, 65, 66, 67, 21, 68, 56, 93, 94, 95, 96] (by decide +kernel) (by decide +kernel)
set_option maxRecDepth 20000 in
theorem gX4_sessionLength_X3_sessionEnd : GoodIn wsX4_sessionLength (wsV RX4 123 RX3 yX3_sessionEnd wsX3_sessionEnd) := goodIn_app (goodIn_of _ (by decide +kernel)) ggX4_sessionLength_X3_sessionEnd
set_option maxRecDepth 20000 in
theorem ggX4_sessionLength_X3_timeAt : GoodIn wsX4_sessionLength wsX3_timeAt := goodIn_r _ [85, 56, 93, 94, 95, 96] (by decide +kernel) (by decide +kernel)
set_option maxRecDepth 20000 in
theorem gX4_sessionLength_X3_timeAt : GoodIn wsX4_sessionLength (wsV RX4 126 RX3 yX3_timeAt wsX3_timeAt) := goodIn_app (goodIn_of _ (by decide +kernel)) ggX4_sessionLength_X3_timeAt
theorem dX4_sessionLength_0 : decode cX4_sessionLength 0 = .ok (.iload_n 1, 1) := by decide +kernel
theorem dX4_sessionLength_1 : decode cX4_sessionLength 1 = .ok (.invokestatic 48, 3) := by decide +kernel
theorem dX4_sessionLength_4 : decode cX4_sessionLength 4 = .ok (.aload_n 0, 1) := by decide +kernel
theorem dX4_sessionLength_5 : decode cX4_sessionLength 5 = .ok (.aload_n 0, 1) := by decide +kernel
theorem dX4_sessionLength_6 : decode cX4_sessionLength 6 = .ok (.getfield 9, 3) := by decide +kernel
theorem dX4_sessionLength_9 : decode cX4_sessionLength 9 = .ok (.iload_n 1, 1) := by decide +kernel
theorem dX4_sessionLength_10 : decode cX4_sessionLength 10 = .ok (.iaload, 1) := by decide +kernel
theorem dX4_sessionLength_11 : decode cX4_sessionLength 11 = .ok (.invokevirtual 104, 3) := by decide +kernel
theorem dX4_sessionLength_14 : decode cX4_sessionLength 14 = .ok (.astore_n 3, 1) := by decide +kernel
theorem dX4_sessionLength_15 : decode cX4_sessionLength 15 = .ok (.aload_n 0, 1) := by decide +kernel
theorem dX4_sessionLength_16 : decode cX4_sessionLength 16 = .ok (.iload_n 2, 1) := by decide +kernel
theorem dX4_sessionLength_17 : decode cX4_sessionLength 17 = .ok (.aload_n 3, 1) := by decide +kernel
theorem dX4_sessionLength_18 : decode cX4_sessionLength 18 = .ok (.invokevirtual 119, 3) := by decide +kernel
theorem dX4_sessionLength_21 : decode cX4_sessionLength 21 = .ok (.istore 4, 2) := by decide +kernel
theorem dX4_sessionLength_23 : decode cX4_sessionLength 23 = .ok (.aload_n 3, 1) := by decide +kernel
theorem dX4_sessionLength_24 : decode cX4_sessionLength 24 = .ok (.iload 4, 2) := by decide +kernel
theorem dX4_sessionLength_26 : decode cX4_sessionLength 26 = .ok (.aload_n 0, 1) := by decide +kernel
theorem dX4_sessionLength_27 : decode cX4_sessionLength 27 = .ok (.getfield 44, 3) := by decide +kernel
theorem dX4_sessionLength_30 : decode cX4_sessionLength 30 = .ok (.invokevirtual 123, 3) := by decide +kernel
theorem dX4_sessionLength_33 : decode cX4_sessionLength 33 = .ok (.iconst 1, 1) := by decide +kernel
theorem dX4_sessionLength_34 : decode cX4_sessionLength 34 = .ok (.isub, 1) := by decide +kernel
theorem dX4_sessionLength_35 : decode cX4_sessionLength 35 = .ok (.istore 5, 2) := by decide +kernel
theorem dX4_sessionLength_37 : decode cX4_sessionLength 37 = .ok (.aload_n 3, 1) := by decide +kernel
theorem dX4_sessionLength_38 : decode cX4_sessionLength 38 = .ok (.iload 5, 2) := by decide +kernel
theorem dX4_sessionLength_40 : decode cX4_sessionLength 40 = .ok (.invokevirtual 126, 3) := by decide +kernel
theorem dX4_sessionLength_43 : decode cX4_sessionLength 43 = .ok (.aload_n 3, 1) := by decide +kernel
theorem dX4_sessionLength_44 : decode cX4_sessionLength 44 = .ok (.iload 4, 2) := by decide +kernel
theorem dX4_sessionLength_46 : decode cX4_sessionLength 46 = .ok (.invokevirtual 126, 3) := by decide +kernel
theorem dX4_sessionLength_49 : decode cX4_sessionLength 49 = .ok (.isub, 1) := by decide +kernel
theorem dX4_sessionLength_50 : decode cX4_sessionLength 50 = .ok (.ireturn, 1) := by decide +kernel
set_option maxRecDepth 20000 in
theorem ggX4_step_X4_requireKind : GoodIn wsX4_step wsX4_requireKind := goodIn_ca (goodIn_r _ [7, 8, 9, 6, 10, 11, 12] (by decide +kernel) (by decide +kernel)) (goodIn_sub (fun _ h => List.mem_cons_of_mem _ (List.mem_append_right _ h)) (by decide +kernel))
set_option maxRecDepth 20000 in
theorem gX4_step_X4_requireKind : GoodIn wsX4_step (va_wsS RX4 52 yX4_requireKind wsX4_requireKind) := goodIn_app (goodIn_of _ (by decide +kernel)) ggX4_step_X4_requireKind
set_option maxRecDepth 20000 in
theorem ggX4_step_X2_isFull : GoodIn wsX4_step wsX2_isFull := goodIn_r _ [17, 18, 31, 32, 33, 34, 35, 36] (by decide +kernel) (by decide +kernel)
set_option maxRecDepth 20000 in
theorem gX4_step_X2_isFull : GoodIn wsX4_step (wsV RX4 129 RX2 yX2_isFull wsX2_isFull) := goodIn_app (goodIn_of _ (by decide +kernel)) ggX4_step_X2_isFull
set_option maxRecDepth 20000 in
theorem ggX4_step_X2_append : GoodIn wsX4_step wsX2_append := goodIn_r _ [22, 23, 18, 31, 32, 33, 34, 35, 36] (by decide +kernel) (by decide +kernel)
set_option maxRecDepth 20000 in
theorem gX4_step_X2_append : GoodIn wsX4_step (wsV RX4 132 RX2 yX2_append wsX2_append) := goodIn_app (goodIn_of _ (by decide +kernel)) ggX4_step_X2_append
theorem dX4_step_0 : decode cX4_step 0 = .ok (.iload_n 1, 1) := by decide +kernel
theorem dX4_step_1 : decode cX4_step 1 = .ok (.invokestatic 52, 3) := by decide +kernel
theorem dX4_step_4 : decode cX4_step 4 = .ok (.aload_n 0, 1) := by decide +kernel
theorem dX4_step_5 : decode cX4_step 5 = .ok (.getfield 23, 3) := by decide +kernel
theorem dX4_step_8 : decode cX4_step 8 = .ok (.invokevirtual 129, 3) := by decide +kernel
theorem dX4_step_11 : decode cX4_step 11 = .ok (.ifCond .eq 13, 3) := by decide +kernel
theorem dX4_step_14 : decode cX4_step 14 = .ok (.new 67, 3) := by decide +kernel
theorem dX4_step_17 : decode cX4_step 17 = .ok (.dup, 1) := by decide +kernel
theorem dX4_step_18 : decode cX4_step 18 = .ok (.ldc 130, 2) := by decide +kernel
theorem dX4_step_20 : decode cX4_step 20 = .ok (.invokespecial 71, 3) := by decide +kernel
theorem dX4_step_23 : decode cX4_step 23 = .ok (.athrow, 1) := by decide +kernel
theorem dX4_step_24 : decode cX4_step 24 = .ok (.aload_n 0, 1) := by decide +kernel
theorem dX4_step_25 : decode cX4_step 25 = .ok (.getfield 23, 3) := by decide +kernel
theorem dX4_step_28 : decode cX4_step 28 = .ok (.iload_n 1, 1) := by decide +kernel
theorem dX4_step_29 : decode cX4_step 29 = .ok (.invokevirtual 132, 3) := by decide +kernel
theorem dX4_step_32 : decode cX4_step 32 = .ok (.ireturn, 1) := by decide +kernel
set_option maxRecDepth 20000 in
theorem ggX4_clearFunnel_X2_removeSteps : GoodIn wsX4_clearFunnel wsX2_removeSteps := goodIn_r _ [6, 7, 15, 16, 17, 18, 19, 20] (by decide +kernel) (by decide +kernel)
set_option maxRecDepth 20000 in
theorem gX4_clearFunnel_X2_removeSteps : GoodIn wsX4_clearFunnel (wsV RX4 134 RX2 yX2_removeSteps wsX2_removeSteps) := goodIn_app (goodIn_of _ (by decide +kernel)) ggX4_clearFunnel_X2_removeSteps
theorem dX4_clearFunnel_0 : decode cX4_clearFunnel 0 = .ok (.aload_n 0, 1) := by decide +kernel
theorem dX4_clearFunnel_1 : decode cX4_clearFunnel 1 = .ok (.getfield 23, 3) := by decide +kernel
theorem dX4_clearFunnel_4 : decode cX4_clearFunnel 4 = .ok (.invokevirtual 134, 3) := by decide +kernel
theorem dX4_clearFunnel_7 : decode cX4_clearFunnel 7 = .ok (.return_, 1) := by decide +kernel
set_option maxRecDepth 20000 in
theorem ggX4_window_X4_requireRange : GoodIn wsX4_window wsX4_requireRange := goodIn_ca (goodIn_r _ [5, 6, 7] (by decide +kernel) (by decide +kernel)) (goodIn_sub (fun _ h => List.mem_cons_of_mem _ (List.mem_append_right _ h)) (by decide +kernel))
set_option maxRecDepth 20000 in
theorem gX4_window_X4_requireRange : GoodIn wsX4_window (va_wsS RX4 55 yX4_requireRange wsX4_requireRange) := goodIn_app (goodIn_of _ (by decide +kernel)) ggX4_window_X4_requireRange
set_option maxRecDepth 20000 in
theorem ggX4_window_X2_replaceWindow : GoodIn wsX4_window wsX2_replaceWindow := goodIn_r _ [12, 13, 21, 22, 23, 24, 25, 26] (by decide +kernel) (by decide +kernel)
set_option maxRecDepth 20000 in
theorem gX4_window_X2_replaceWindow : GoodIn wsX4_window (wsV RX4 137 RX2 yX2_replaceWindow wsX2_replaceWindow) := goodIn_app (goodIn_of _ (by decide +kernel)) ggX4_window_X2_replaceWindow
theorem dX4_window_0 : decode cX4_window 0 = .ok (.iload_n 1, 1) := by decide +kernel
theorem dX4_window_1 : decode cX4_window 1 = .ok (.iconst 0, 1) := by decide +kernel
theorem dX4_window_2 : decode cX4_window 2 = .ok (.sipush 1999, 3) := by decide +kernel
theorem dX4_window_5 : decode cX4_window 5 = .ok (.invokestatic 55, 3) := by decide +kernel
theorem dX4_window_8 : decode cX4_window 8 = .ok (.aload_n 0, 1) := by decide +kernel
theorem dX4_window_9 : decode cX4_window 9 = .ok (.getfield 23, 3) := by decide +kernel
theorem dX4_window_12 : decode cX4_window 12 = .ok (.iload_n 1, 1) := by decide +kernel
theorem dX4_window_13 : decode cX4_window 13 = .ok (.invokevirtual 137, 3) := by decide +kernel
theorem dX4_window_16 : decode cX4_window 16 = .ok (.ireturn, 1) := by decide +kernel
set_option maxRecDepth 20000 in
theorem ggX4_depth_X4_requireId : GoodIn wsX4_depth wsX4_requireId := goodIn_ca (goodIn_r _ [6, 7, 8, 5, 9, 10, 11] (by decide +kernel) (by decide +kernel)) (goodIn_sub (fun _ h => List.mem_cons_of_mem _ (List.mem_append_right _ h)) (by decide +kernel))
set_option maxRecDepth 20000 in
theorem gX4_depth_X4_requireId : GoodIn wsX4_depth (va_wsS RX4 48 yX4_requireId wsX4_requireId) := goodIn_app (goodIn_of _ (by decide +kernel)) ggX4_depth_X4_requireId
set_option maxRecDepth 20000 in
theorem ggX4_depth_X4_timelineOf : GoodIn wsX4_depth wsX4_timelineOf := goodIn_r _ [15, 16, 17, 2, 18, 19, 20, 21, 22, 23, 24, 25, 26, 27, 28, 29, 30, 31, 32, 33, 34, 35, 36, 37, 38, 39, 40, 41, 42, 43, 44, 45, 46, 47, 48, 49, 50, 51, 52, 53, 54, 55, 56, 100, 101, 102, 103, 104, 105, 106, 107, 108, 109, 110, 111, 112, 113, 114, 115] (by decide +kernel) (by decide +kernel)
set_option maxRecDepth 20000 in
theorem gX4_depth_X4_timelineOf : GoodIn wsX4_depth (wsV RX4 104 RX4 yX4_timelineOf wsX4_timelineOf) := goodIn_app (goodIn_of _ (by decide +kernel)) ggX4_depth_X4_timelineOf
set_option maxRecDepth 20000 in
theorem ggX4_depth_X2_depthOf : GoodIn wsX4_depth wsX2_depthOf := goodIn_r _ [61, 62, 63, 64, 65, 60, 66, 67, 68, 69, 70, 71, 72, 73, 74, 75, 21, 76, 23, 77, 78, 79, 80, 55, 81, 82, 83, 84, 56, 85, 86, 87, 88, 89, 90, 91, 92, 93, 94, 95, 96, 97, 98, 99, 116, 117, 118, 119, 120, 121, 107, 108, 109, 110] (by decide +kernel) (by decide +kernel)
set_option maxRecDepth 20000 in
theorem gX4_depth_X2_depthOf : GoodIn wsX4_depth (wsV RX4 140 RX2 yX2_depthOf wsX2_depthOf) := goodIn_app (goodIn_of _ (by decide +kernel)) ggX4_depth_X2_depthOf
theorem dX4_depth_0 : decode cX4_depth 0 = .ok (.iload_n 1, 1) := by decide +kernel
theorem dX4_depth_1 : decode cX4_depth 1 = .ok (.invokestatic 48, 3) := by decide +kernel
theorem dX4_depth_4 : decode cX4_depth 4 = .ok (.aload_n 0, 1) := by decide +kernel
theorem dX4_depth_5 : decode cX4_depth 5 = .ok (.getfield 23, 3) := by decide +kernel
theorem dX4_depth_8 : decode cX4_depth 8 = .ok (.aload_n 0, 1) := by decide +kernel
theorem dX4_depth_9 : decode cX4_depth 9 = .ok (.aload_n 0, 1) := by decide +kernel
theorem dX4_depth_10 : decode cX4_depth 10 = .ok (.getfield 9, 3) := by decide +kernel
theorem dX4_depth_13 : decode cX4_depth 13 = .ok (.iload_n 1, 1) := by decide +kernel
theorem dX4_depth_14 : decode cX4_depth 14 = .ok (.iaload, 1) := by decide +kernel
theorem dX4_depth_15 : decode cX4_depth 15 = .ok (.invokevirtual 104, 3) := by decide +kernel
theorem dX4_depth_18 : decode cX4_depth 18 = .ok (.invokevirtual 140, 3) := by decide +kernel
theorem dX4_depth_21 : decode cX4_depth 21 = .ok (.ireturn, 1) := by decide +kernel
set_option maxRecDepth 20000 in
theorem ggX4_passed_X2_count : GoodIn wsX4_passed wsX2_count := goodIn_r _ [6, 7, 108, 109, 110, 111, 112, 113] (by decide +kernel) (by decide +kernel)
set_option maxRecDepth 20000 in
theorem gX4_passed_X2_count : GoodIn wsX4_passed (wsV RX4 144 RX2 yX2_count wsX2_count) := goodIn_app (goodIn_of _ (by decide +kernel)) ggX4_passed_X2_count
set_option maxRecDepth 20000 in
theorem ggX4_passed_X4_requireBelow : GoodIn wsX4_passed wsX4_requireBelow := goodIn_ca (goodIn_r _ [11, 12, 13] (by decide +kernel) (by decide +kernel)) (goodIn_sub (fun _ h => List.mem_cons_of_mem _ (List.mem_append_right _ h)) (by decide +kernel))
set_option maxRecDepth 20000 in
theorem gX4_passed_X4_requireBelow : GoodIn wsX4_passed (va_wsS RX4 109 yX4_requireBelow wsX4_requireBelow) := goodIn_app (goodIn_of _ (by decide +kernel)) ggX4_passed_X4_requireBelow
set_option maxRecDepth 20000 in
theorem ggX4_passed_X4_timelineOf : GoodIn wsX4_passed wsX4_timelineOf := goodIn_r _ [17, 18, 19, 20, 21, 22, 23, 24, 25, 26, 27, 28, 29, 30, 31, 32, 33, 34, 35, 36, 37, 38, 39, 40, 41, 42, 43, 44, 45, 46, 47, 48, 49, 50, 51, 52, 53, 54, 55, 56, 57, 58, 59, 101, 102, 103, 104, 105, 106, 107, 114, 115, 116, 117, 118, 119, 120, 121, 122] (by decide +kernel) (by decide +kernel)
set_option maxRecDepth 20000 in
theorem gX4_passed_X4_timelineOf : GoodIn wsX4_passed (wsV RX4 104 RX4 yX4_timelineOf wsX4_timelineOf) := goodIn_app (goodIn_of _ (by decide +kernel)) ggX4_passed_X4_timelineOf
set_option maxRecDepth 20000 in
theorem ggX4_passed_X2_depthOf : GoodIn wsX4_passed wsX2_depthOf := goodIn_r _ [63, 64, 65, 66, 67, 5, 68, 69, 70, 71, 72, 73, 74, 75, 76, 77, 24, 78, 26, 79, 80, 81, 82, 58, 83, 84, 85, 86, 59, 87, 88, 89, 90, 7, 91, 92, 93, 94, 95, 96, 97, 98, 99, 100, 108, 109, 110, 111, 112, 113, 114, 115, 116, 117] (by decide +kernel) (by decide +kernel)
set_option maxRecDepth 20000 in
theorem gX4_passed_X2_depthOf : GoodIn wsX4_passed (wsV RX4 140 RX2 yX2_depthOf wsX2_depthOf) := goodIn_app (goodIn_of _ (by decide +kernel)) ggX4_passed_X2_depthOf
theorem dX4_passed_0 : decode cX4_passed 0 = .ok (.iload_n 1, 1) := by decide +kernel
theorem dX4_passed_1 : decode cX4_passed 1 = .ok (.aload_n 0, 1) := by decide +kernel
theorem dX4_passed_2 : decode cX4_passed 2 = .ok (.getfield 23, 3) := by decide +kernel
theorem dX4_passed_5 : decode cX4_passed 5 = .ok (.invokevirtual 144, 3) := by decide +kernel
theorem dX4_passed_8 : decode cX4_passed 8 = .ok (.invokestatic 109, 3) := by decide +kernel
theorem dX4_passed_11 : decode cX4_passed 11 = .ok (.iconst 0, 1) := by decide +kernel
theorem dX4_passed_12 : decode cX4_passed 12 = .ok (.istore_n 2, 1) := by decide +kernel
theorem dX4_passed_13 : decode cX4_passed 13 = .ok (.iconst 0, 1) := by decide +kernel
theorem dX4_passed_14 : decode cX4_passed 14 = .ok (.istore_n 3, 1) := by decide +kernel
theorem dX4_passed_15 : decode cX4_passed 15 = .ok (.iload_n 3, 1) := by decide +kernel
theorem dX4_passed_16 : decode cX4_passed 16 = .ok (.bipush 20, 2) := by decide +kernel
theorem dX4_passed_18 : decode cX4_passed 18 = .ok (.if_icmp .ge 28, 3) := by decide +kernel
theorem dX4_passed_21 : decode cX4_passed 21 = .ok (.aload_n 0, 1) := by decide +kernel
theorem dX4_passed_22 : decode cX4_passed 22 = .ok (.getfield 23, 3) := by decide +kernel
theorem dX4_passed_25 : decode cX4_passed 25 = .ok (.aload_n 0, 1) := by decide +kernel
theorem dX4_passed_26 : decode cX4_passed 26 = .ok (.iload_n 3, 1) := by decide +kernel
theorem dX4_passed_27 : decode cX4_passed 27 = .ok (.invokevirtual 104, 3) := by decide +kernel
theorem dX4_passed_30 : decode cX4_passed 30 = .ok (.invokevirtual 140, 3) := by decide +kernel
theorem dX4_passed_33 : decode cX4_passed 33 = .ok (.iload_n 1, 1) := by decide +kernel
theorem dX4_passed_34 : decode cX4_passed 34 = .ok (.if_icmp .le 6, 3) := by decide +kernel
theorem dX4_passed_37 : decode cX4_passed 37 = .ok (.iinc 2 1, 3) := by decide +kernel
theorem dX4_passed_40 : decode cX4_passed 40 = .ok (.iinc 3 1, 3) := by decide +kernel
theorem dX4_passed_43 : decode cX4_passed 43 = .ok (.goto (-28), 3) := by decide +kernel
theorem dX4_passed_46 : decode cX4_passed 46 = .ok (.iload_n 2, 1) := by decide +kernel
theorem dX4_passed_47 : decode cX4_passed 47 = .ok (.ireturn, 1) := by decide +kernel
set_option maxRecDepth 20000 in
theorem ggX4_fastest_X4_requireId : GoodIn wsX4_fastest wsX4_requireId := goodIn_ca (goodIn_r _ [6, 7, 8, 5, 9, 10, 11] (by decide +kernel) (by decide +kernel)) (goodIn_sub (fun _ h => List.mem_cons_of_mem _ (List.mem_append_right _ h)) (by decide +kernel))
set_option maxRecDepth 20000 in
theorem gX4_fastest_X4_requireId : GoodIn wsX4_fastest (va_wsS RX4 48 yX4_requireId wsX4_requireId) := goodIn_app (goodIn_of _ (by decide +kernel)) ggX4_fastest_X4_requireId
set_option maxRecDepth 20000 in
theorem ggX4_fastest_X4_timelineOf : GoodIn wsX4_fastest wsX4_timelineOf := goodIn_r _ [15, 16, 17, 2, 18, 19, 20, 21, 22, 23, 24, 25, 26, 27, 28, 29, 30, 31, 32, 33, 34, 35, 36, 37, 38, 39, 40, 41, 42, 43, 44, 45, 46, 47, 48, 49, 50, 51, 52, 53, 54, 55, 56, 100, 101, 102, 103, 104, 105, 106, 107, 108, 109, 110, 111, 112, 113, 114, 115] (by decide +kernel) (by decide +kernel)
set_option maxRecDepth 20000 in
theorem gX4_fastest_X4_timelineOf : GoodIn wsX4_fastest (wsV RX4 104 RX4 yX4_timelineOf wsX4_timelineOf) := goodIn_app (goodIn_of _ (by decide +kernel)) ggX4_fastest_X4_timelineOf
set_option maxRecDepth 20000 in
theorem ggX4_fastest_X2_fewestMinutesOf : GoodIn wsX4_fastest wsX2_fewestMinutesOf := goodIn_r _ [61, 62, 63, 64, 65, 60, 66, 67, 68, 69, 70, 71, 72, 73, 74, 75, 21, 76, 23, 77, 78, 79, 80, 55, 81, 82, 83, 84, 56, 85, 86, 87, 88, 89, 90, 91, 92, 93, 94, 95, 96, 97, 98, 99, 116, 117, 118, 119, 120, 121, 107, 108, 109, 110] (by decide +kernel) (by decide +kernel)
set_option maxRecDepth 20000 in
theorem gX4_fastest_X2_fewestMinutesOf : GoodIn wsX4_fastest (wsV RX4 145 RX2 yX2_fewestMinutesOf wsX2_fewestMinutesOf) := goodIn_app (goodIn_of _ (by decide +kernel)) ggX4_fastest_X2_fewestMinutesOf
theorem dX4_fastest_0 : decode cX4_fastest 0 = .ok (.iload_n 1, 1) := by decide +kernel
theorem dX4_fastest_1 : decode cX4_fastest 1 = .ok (.invokestatic 48, 3) := by decide +kernel
theorem dX4_fastest_4 : decode cX4_fastest 4 = .ok (.aload_n 0, 1) := by decide +kernel
theorem dX4_fastest_5 : decode cX4_fastest 5 = .ok (.getfield 23, 3) := by decide +kernel
theorem dX4_fastest_8 : decode cX4_fastest 8 = .ok (.aload_n 0, 1) := by decide +kernel
theorem dX4_fastest_9 : decode cX4_fastest 9 = .ok (.aload_n 0, 1) := by decide +kernel
theorem dX4_fastest_10 : decode cX4_fastest 10 = .ok (.getfield 9, 3) := by decide +kernel
theorem dX4_fastest_13 : decode cX4_fastest 13 = .ok (.iload_n 1, 1) := by decide +kernel
theorem dX4_fastest_14 : decode cX4_fastest 14 = .ok (.iaload, 1) := by decide +kernel
theorem dX4_fastest_15 : decode cX4_fastest 15 = .ok (.invokevirtual 104, 3) := by decide +kernel
theorem dX4_fastest_18 : decode cX4_fastest 18 = .ok (.invokevirtual 145, 3) := by decide +kernel
theorem dX4_fastest_21 : decode cX4_fastest 21 = .ok (.ireturn, 1) := by decide +kernel
set_option maxRecDepth 20000 in
theorem ggX4_cohort_X4_requireId : GoodIn wsX4_cohort wsX4_requireId := goodIn_ca (goodIn_r _ [5, 6, 7, 4, 8, 9, 10] (by decide +kernel) (by decide +kernel)) (goodIn_sub (fun _ h => List.mem_cons_of_mem _ (List.mem_append_right _ h)) (by decide +kernel))
set_option maxRecDepth 20000 in
theorem gX4_cohort_X4_requireId : GoodIn wsX4_cohort (va_wsS RX4 48 yX4_requireId wsX4_requireId) := goodIn_app (goodIn_of _ (by decide +kernel)) ggX4_cohort_X4_requireId
set_option maxRecDepth 20000 in
theorem ggX4_cohort_X4_timelineOf : GoodIn wsX4_cohort wsX4_timelineOf := goodIn_r _ [14, 15, 16, 1, 17, 18, 19, 20, 21, 22, 23, 24, 25, 26, 27, 28, 29, 30, 31, 32, 33, 34, 35, 36, 37, 38, 39, 40, 41, 42, 43, 44, 45, 46, 47, 48, 49, 50, 51, 52, 53, 54, 55, 62, 63, 64, 65, 66, 67, 68, 69, 70, 71, 72, 73, 74, 75, 76, 77] (by decide +kernel) (by decide +kernel)
set_option maxRecDepth 20000 in
theorem gX4_cohort_X4_timelineOf : GoodIn wsX4_cohort (wsV RX4 104 RX4 yX4_timelineOf wsX4_timelineOf) := goodIn_app (goodIn_of _ (by decide +kernel)) ggX4_cohort_X4_timelineOf
set_option maxRecDepth 20000 in
theorem ggX4_cohort_X3_firstDay : GoodIn wsX4_cohort wsX3_firstDay := goodIn_r _ [59, 22, 55, 60, 4, 61, 69, 70, 71, 72] (by decide +kernel) (by decide +kernel)
set_option maxRecDepth 20000 in
theorem gX4_cohort_X3_firstDay : GoodIn wsX4_cohort (wsV RX4 148 RX3 yX3_firstDay wsX3_firstDay) := goodIn_app (goodIn_of _ (by decide +kernel)) ggX4_cohort_X3_firstDay
theorem dX4_cohort_0 : decode cX4_cohort 0 = .ok (.iload_n 1, 1) := by decide +kernel
theorem dX4_cohort_1 : decode cX4_cohort 1 = .ok (.invokestatic 48, 3) := by decide +kernel
theorem dX4_cohort_4 : decode cX4_cohort 4 = .ok (.aload_n 0, 1) := by decide +kernel
theorem dX4_cohort_5 : decode cX4_cohort 5 = .ok (.aload_n 0, 1) := by decide +kernel
theorem dX4_cohort_6 : decode cX4_cohort 6 = .ok (.getfield 9, 3) := by decide +kernel
theorem dX4_cohort_9 : decode cX4_cohort 9 = .ok (.iload_n 1, 1) := by decide +kernel
theorem dX4_cohort_10 : decode cX4_cohort 10 = .ok (.iaload, 1) := by decide +kernel
theorem dX4_cohort_11 : decode cX4_cohort 11 = .ok (.invokevirtual 104, 3) := by decide +kernel
theorem dX4_cohort_14 : decode cX4_cohort 14 = .ok (.invokevirtual 148, 3) := by decide +kernel
theorem dX4_cohort_17 : decode cX4_cohort 17 = .ok (.ireturn, 1) := by decide +kernel
set_option maxRecDepth 20000 in
theorem ggX4_retained_X4_requireDay : GoodIn wsX4_retained wsX4_requireDay := goodIn_ca (goodIn_r _ [4, 5, 6, 3, 7, 8, 9] (by decide +kernel) (by decide +kernel)) (goodIn_sub (fun _ h => List.mem_cons_of_mem _ (List.mem_append_right _ h)) (by decide +kernel))
set_option maxRecDepth 20000 in
theorem gX4_retained_X4_requireDay : GoodIn wsX4_retained (va_wsS RX4 151 yX4_requireDay wsX4_requireDay) := goodIn_app (goodIn_of _ (by decide +kernel)) ggX4_retained_X4_requireDay
set_option maxRecDepth 20000 in
theorem ggX4_retained_X4_requireRange : GoodIn wsX4_retained wsX4_requireRange := goodIn_ca (goodIn_r _ [7, 8, 9] (by decide +kernel) (by decide +kernel)) (goodIn_sub (fun _ h => List.mem_cons_of_mem _ (List.mem_append_right _ h)) (by decide +kernel))
set_option maxRecDepth 20000 in
theorem gX4_retained_X4_requireRange : GoodIn wsX4_retained (va_wsS RX4 55 yX4_requireRange wsX4_requireRange) := goodIn_app (goodIn_of _ (by decide +kernel)) ggX4_retained_X4_requireRange
set_option maxRecDepth 20000 in
theorem ggX4_retained_X4_cohortSet : GoodIn wsX4_retained wsX4_cohortSet := goodIn_r _ [13, 14, 15, 16, 17, 18, 19, 20, 21, 22, 23, 24, 25, 26, 27, 28, 29, 30, 31, 32, 33, 34, 3, 35, 47, 48, 49, 50, 51, 52, 53, 54, 55, 56, 57, 58] (by decide +kernel) (by decide +kernel)
set_option maxRecDepth 20000 in
theorem gX4_retained_X4_cohortSet : GoodIn wsX4_retained (wsV RX4 154 RX4 yX4_cohortSet wsX4_cohortSet) := goodIn_app (goodIn_of _ (by decide +kernel)) ggX4_retained_X4_cohortSet
set_option maxRecDepth 20000 in
theorem ggX4_retained_X4_activeSet : GoodIn wsX4_retained wsX4_activeSet := goodIn_r _ [39, 14, 15, 16, 17, 18, 19, 20, 21, 28, 29, 30, 31, 32, 27, 33, 34, 3, 35, 22, 23, 24, 25, 26, 47, 48, 49, 50, 51, 52, 53, 54, 55, 56, 57, 58] (by decide +kernel) (by decide +kernel)
set_option maxRecDepth 20000 in
theorem gX4_retained_X4_activeSet : GoodIn wsX4_retained (wsV RX4 157 RX4 yX4_activeSet wsX4_activeSet) := goodIn_app (goodIn_of _ (by decide +kernel)) ggX4_retained_X4_activeSet
set_option maxRecDepth 20000 in
theorem ggX4_retained_J6_bitCount_0f7a4 : GoodIn wsX4_retained wsJ6_bitCount_0f7a4 := goodIn_r _ [43, 44, 45, 46] (by decide +kernel) (by decide +kernel)
set_option maxRecDepth 20000 in
theorem gX4_retained_J6_bitCount_0f7a4 : GoodIn wsX4_retained (va_wsS RX4 99 yJ6_bitCount_0f7a4 wsJ6_bitCount_0f7a4) := goodIn_app (goodIn_of _ (by decide +kernel)) ggX4_retained_J6_bitCount_0f7a4
theorem dX4_retained_0 : decode cX4_retained 0 = .ok (.iload_n 1, 1) := by decide +kernel
theorem dX4_retained_1 : decode cX4_retained 1 = .ok (.invokestatic 151, 3) := by decide +kernel
theorem dX4_retained_4 : decode cX4_retained 4 = .ok (.iload_n 2, 1) := by decide +kernel
theorem dX4_retained_5 : decode cX4_retained 5 = .ok (.iconst 0, 1) := by decide +kernel
theorem dX4_retained_6 : decode cX4_retained 6 = .ok (.bipush 19, 2) := by decide +kernel
theorem dX4_retained_8 : decode cX4_retained 8 = .ok (.iload_n 1, 1) := by decide +kernel
theorem dX4_retained_9 : decode cX4_retained 9 = .ok (.isub, 1) := by decide +kernel
theorem dX4_retained_10 : decode cX4_retained 10 = .ok (.invokestatic 55, 3) := by decide +kernel
theorem dX4_retained_13 : decode cX4_retained 13 = .ok (.aload_n 0, 1) := by decide +kernel
theorem dX4_retained_14 : decode cX4_retained 14 = .ok (.iload_n 1, 1) := by decide +kernel
theorem dX4_retained_15 : decode cX4_retained 15 = .ok (.invokevirtual 154, 3) := by decide +kernel
theorem dX4_retained_18 : decode cX4_retained 18 = .ok (.aload_n 0, 1) := by decide +kernel
theorem dX4_retained_19 : decode cX4_retained 19 = .ok (.iload_n 1, 1) := by decide +kernel
theorem dX4_retained_20 : decode cX4_retained 20 = .ok (.iload_n 2, 1) := by decide +kernel
theorem dX4_retained_21 : decode cX4_retained 21 = .ok (.iadd, 1) := by decide +kernel
theorem dX4_retained_22 : decode cX4_retained 22 = .ok (.invokevirtual 157, 3) := by decide +kernel
theorem dX4_retained_25 : decode cX4_retained 25 = .ok (.iand, 1) := by decide +kernel
theorem dX4_retained_26 : decode cX4_retained 26 = .ok (.invokestatic 99, 3) := by decide +kernel
theorem dX4_retained_29 : decode cX4_retained 29 = .ok (.ireturn, 1) := by decide +kernel
set_option maxRecDepth 20000 in
theorem ggX4_active_X4_requireDay : GoodIn wsX4_active wsX4_requireDay := goodIn_ca (goodIn_r _ [4, 5, 6, 3, 7, 8, 9] (by decide +kernel) (by decide +kernel)) (goodIn_sub (fun _ h => List.mem_cons_of_mem _ (List.mem_append_right _ h)) (by decide +kernel))
set_option maxRecDepth 20000 in
theorem gX4_active_X4_requireDay : GoodIn wsX4_active (va_wsS RX4 151 yX4_requireDay wsX4_requireDay) := goodIn_app (goodIn_of _ (by decide +kernel)) ggX4_active_X4_requireDay
set_option maxRecDepth 20000 in
theorem ggX4_active_X4_activeSet : GoodIn wsX4_active wsX4_activeSet := goodIn_r _ [13, 14, 15, 16, 17, 18, 19, 20, 21, 22, 23, 24, 25, 26, 27, 28, 29, 3, 30, 31, 32, 33, 34, 35, 36, 37, 38, 39, 40, 41, 42, 43, 44, 45, 46, 47] (by decide +kernel) (by decide +kernel)
set_option maxRecDepth 20000 in
theorem gX4_active_X4_activeSet : GoodIn wsX4_active (wsV RX4 157 RX4 yX4_activeSet wsX4_activeSet) := goodIn_app (goodIn_of _ (by decide +kernel)) ggX4_active_X4_activeSet
theorem dX4_active_0 : decode cX4_active 0 = .ok (.iload_n 1, 1) := by decide +kernel
theorem dX4_active_1 : decode cX4_active 1 = .ok (.invokestatic 151, 3) := by decide +kernel
theorem dX4_active_4 : decode cX4_active 4 = .ok (.aload_n 0, 1) := by decide +kernel
theorem dX4_active_5 : decode cX4_active 5 = .ok (.iload_n 1, 1) := by decide +kernel
theorem dX4_active_6 : decode cX4_active 6 = .ok (.invokevirtual 157, 3) := by decide +kernel
theorem dX4_active_9 : decode cX4_active 9 = .ok (.ireturn, 1) := by decide +kernel
set_option maxRecDepth 20000 in
theorem ggX4_activeOnEach_X4_requireDay : GoodIn wsX4_activeOnEach wsX4_requireDay := goodIn_ca (goodIn_r _ [4, 5, 6, 3, 7, 8, 9] (by decide +kernel) (by decide +kernel)) (goodIn_sub (fun _ h => List.mem_cons_of_mem _ (List.mem_append_right _ h)) (by decide +kernel))
set_option maxRecDepth 20000 in
theorem gX4_activeOnEach_X4_requireDay : GoodIn wsX4_activeOnEach (va_wsS RX4 151 yX4_requireDay wsX4_requireDay) := goodIn_app (goodIn_of _ (by decide +kernel)) ggX4_activeOnEach_X4_requireDay
set_option maxRecDepth 20000 in
theorem ggX4_activeOnEach_X4_requireRange : GoodIn wsX4_activeOnEach wsX4_requireRange := goodIn_ca (goodIn_r _ [7, 8, 9] (by decide +kernel) (by decide +kernel)) (goodIn_sub (fun _ h => List.mem_cons_of_mem _ (List.mem_append_right _ h)) (by decide +kernel))
set_option maxRecDepth 20000 in
theorem gX4_activeOnEach_X4_requireRange : GoodIn wsX4_activeOnEach (va_wsS RX4 55 yX4_requireRange wsX4_requireRange) := goodIn_app (goodIn_of _ (by decide +kernel)) ggX4_activeOnEach_X4_requireRange
set_option maxRecDepth 20000 in
theorem ggX4_activeOnEach_X4_activeSet : GoodIn wsX4_activeOnEach wsX4_activeSet := goodIn_r _ [13, 14, 15, 16, 17, 18, 19, 20, 21, 22, 23, 24, 25, 26, 27, 28, 29, 3, 30, 31, 32, 33, 34, 35, 36, 37, 38, 39, 40, 41, 42, 43, 44, 45, 46, 47] (by decide +kernel) (by decide +kernel)
set_option maxRecDepth 20000 in
theorem gX4_activeOnEach_X4_activeSet : GoodIn wsX4_activeOnEach (wsV RX4 157 RX4 yX4_activeSet wsX4_activeSet) := goodIn_app (goodIn_of _ (by decide +kernel)) ggX4_activeOnEach_X4_activeSet
theorem dX4_activeOnEach_0 : decode cX4_activeOnEach 0 = .ok (.iload_n 1, 1) := by decide +kernel
theorem dX4_activeOnEach_1 : decode cX4_activeOnEach 1 = .ok (.invokestatic 151, 3) := by decide +kernel
theorem dX4_activeOnEach_4 : decode cX4_activeOnEach 4 = .ok (.iload_n 2, 1) := by decide +kernel
theorem dX4_activeOnEach_5 : decode cX4_activeOnEach 5 = .ok (.iload_n 1, 1) := by decide +kernel
theorem dX4_activeOnEach_6 : decode cX4_activeOnEach 6 = .ok (.bipush 19, 2) := by decide +kernel
theorem dX4_activeOnEach_8 : decode cX4_activeOnEach 8 = .ok (.invokestatic 55, 3) := by decide +kernel
theorem dX4_activeOnEach_11 : decode cX4_activeOnEach 11 = .ok (.aload_n 0, 1) := by decide +kernel
theorem dX4_activeOnEach_12 : decode cX4_activeOnEach 12 = .ok (.iload_n 1, 1) := by decide +kernel
theorem dX4_activeOnEach_13 : decode cX4_activeOnEach 13 = .ok (.invokevirtual 157, 3) := by decide +kernel
theorem dX4_activeOnEach_16 : decode cX4_activeOnEach 16 = .ok (.istore_n 3, 1) := by decide +kernel
theorem dX4_activeOnEach_17 : decode cX4_activeOnEach 17 = .ok (.iload_n 1, 1) := by decide +kernel
theorem dX4_activeOnEach_18 : decode cX4_activeOnEach 18 = .ok (.iconst 1, 1) := by decide +kernel
theorem dX4_activeOnEach_19 : decode cX4_activeOnEach 19 = .ok (.iadd, 1) := by decide +kernel
theorem dX4_activeOnEach_20 : decode cX4_activeOnEach 20 = .ok (.istore 4, 2) := by decide +kernel
theorem dX4_activeOnEach_22 : decode cX4_activeOnEach 22 = .ok (.iload 4, 2) := by decide +kernel
theorem dX4_activeOnEach_24 : decode cX4_activeOnEach 24 = .ok (.iload_n 2, 1) := by decide +kernel
theorem dX4_activeOnEach_25 : decode cX4_activeOnEach 25 = .ok (.if_icmp .gt 18, 3) := by decide +kernel
theorem dX4_activeOnEach_28 : decode cX4_activeOnEach 28 = .ok (.iload_n 3, 1) := by decide +kernel
theorem dX4_activeOnEach_29 : decode cX4_activeOnEach 29 = .ok (.aload_n 0, 1) := by decide +kernel
theorem dX4_activeOnEach_30 : decode cX4_activeOnEach 30 = .ok (.iload 4, 2) := by decide +kernel
theorem dX4_activeOnEach_32 : decode cX4_activeOnEach 32 = .ok (.invokevirtual 157, 3) := by decide +kernel
theorem dX4_activeOnEach_35 : decode cX4_activeOnEach 35 = .ok (.iand, 1) := by decide +kernel
theorem dX4_activeOnEach_36 : decode cX4_activeOnEach 36 = .ok (.istore_n 3, 1) := by decide +kernel
theorem dX4_activeOnEach_37 : decode cX4_activeOnEach 37 = .ok (.iinc 4 1, 3) := by decide +kernel
theorem dX4_activeOnEach_40 : decode cX4_activeOnEach 40 = .ok (.goto (-18), 3) := by decide +kernel
theorem dX4_activeOnEach_43 : decode cX4_activeOnEach 43 = .ok (.iload_n 3, 1) := by decide +kernel
theorem dX4_activeOnEach_44 : decode cX4_activeOnEach 44 = .ok (.ireturn, 1) := by decide +kernel
set_option maxRecDepth 20000 in
theorem ggX4_ranked_X4_requireRange : GoodIn wsX4_ranked wsX4_requireRange := goodIn_ca (goodIn_r _ [7, 8, 9] (by decide +kernel) (by decide +kernel)) (goodIn_sub (fun _ h => List.mem_cons_of_mem _ (List.mem_append_right _ h)) (by decide +kernel))
set_option maxRecDepth 20000 in
theorem gX4_ranked_X4_requireRange : GoodIn wsX4_ranked (va_wsS RX4 55 yX4_requireRange wsX4_requireRange) := goodIn_app (goodIn_of _ (by decide +kernel)) ggX4_ranked_X4_requireRange
set_option maxRecDepth 20000 in
theorem ggX4_ranked_X4_scoreOf : GoodIn wsX4_ranked wsX4_scoreOf := goodIn_r _ [13, 14, 15, 16, 17, 18, 6, 19, 20, 21, 22, 23, 24, 25, 26, 27, 28, 29, 30, 31, 32, 33, 34, 35, 36, 37, 38, 39, 40, 41, 42, 43, 44, 45, 46, 47, 48, 49, 50, 51, 52, 53, 54, 55, 56, 57, 58, 59, 60, 61, 62, 63, 64, 65, 66, 67, 68, 69, 70, 71, 72, 73, 74, 75, 76, 77, 78, 79, 80, 81, 82, 83, 84, 85, 86, 87, 88, 89, 90, 91, 92, 93, 94, 95, 96, 97, 98, 99, 100, 101, 102, 103, 104, 105, 106, 107, 108, 109, 110, 111, 112, 113, 118, 119, 120, 121, 122, 123, 124, 125, 126, 127, 128, 129, 130, 131, 132, 133, 134, 135, 136, 137, 138, 139] (by decide +kernel) (by decide +kernel)
set_option maxRecDepth 20000 in
theorem gX4_ranked_X4_scoreOf : GoodIn wsX4_ranked (wsV RX4 160 RX4 yX4_scoreOf wsX4_scoreOf) := goodIn_app (goodIn_of _ (by decide +kernel)) ggX4_ranked_X4_scoreOf
set_option maxRecDepth 20000 in
theorem ggX4_ranked_X4_usersAheadOf : GoodIn wsX4_ranked wsX4_usersAheadOf := goodIn_r _ [117, 3, 118, 119, 120, 121, 122, 123, 124] (by decide +kernel) (by decide +kernel)
set_option maxRecDepth 20000 in
theorem gX4_ranked_X4_usersAheadOf : GoodIn wsX4_ranked (wsV RX4 163 RX4 yX4_usersAheadOf wsX4_usersAheadOf) := goodIn_app (goodIn_of _ (by decide +kernel)) ggX4_ranked_X4_usersAheadOf
theorem dX4_ranked_0 : decode cX4_ranked 0 = .ok (.iload_n 1, 1) := by decide +kernel
theorem dX4_ranked_1 : decode cX4_ranked 1 = .ok (.iconst 0, 1) := by decide +kernel
theorem dX4_ranked_2 : decode cX4_ranked 2 = .ok (.iconst 2, 1) := by decide +kernel
theorem dX4_ranked_3 : decode cX4_ranked 3 = .ok (.invokestatic 55, 3) := by decide +kernel
theorem dX4_ranked_6 : decode cX4_ranked 6 = .ok (.iconst 0, 1) := by decide +kernel
theorem dX4_ranked_7 : decode cX4_ranked 7 = .ok (.istore_n 3, 1) := by decide +kernel
theorem dX4_ranked_8 : decode cX4_ranked 8 = .ok (.iload_n 3, 1) := by decide +kernel
theorem dX4_ranked_9 : decode cX4_ranked 9 = .ok (.bipush 20, 2) := by decide +kernel
theorem dX4_ranked_11 : decode cX4_ranked 11 = .ok (.if_icmp .ge 21, 3) := by decide +kernel
theorem dX4_ranked_14 : decode cX4_ranked 14 = .ok (.aload_n 0, 1) := by decide +kernel
theorem dX4_ranked_15 : decode cX4_ranked 15 = .ok (.getfield 41, 3) := by decide +kernel
theorem dX4_ranked_18 : decode cX4_ranked 18 = .ok (.iload_n 3, 1) := by decide +kernel
theorem dX4_ranked_19 : decode cX4_ranked 19 = .ok (.aload_n 0, 1) := by decide +kernel
theorem dX4_ranked_20 : decode cX4_ranked 20 = .ok (.iload_n 3, 1) := by decide +kernel
theorem dX4_ranked_21 : decode cX4_ranked 21 = .ok (.iload_n 1, 1) := by decide +kernel
theorem dX4_ranked_22 : decode cX4_ranked 22 = .ok (.invokevirtual 160, 3) := by decide +kernel
theorem dX4_ranked_25 : decode cX4_ranked 25 = .ok (.iastore, 1) := by decide +kernel
theorem dX4_ranked_26 : decode cX4_ranked 26 = .ok (.iinc 3 1, 3) := by decide +kernel
theorem dX4_ranked_29 : decode cX4_ranked 29 = .ok (.goto (-21), 3) := by decide +kernel
theorem dX4_ranked_32 : decode cX4_ranked 32 = .ok (.iconst 0, 1) := by decide +kernel
theorem dX4_ranked_33 : decode cX4_ranked 33 = .ok (.istore_n 3, 1) := by decide +kernel
theorem dX4_ranked_34 : decode cX4_ranked 34 = .ok (.iload_n 3, 1) := by decide +kernel
theorem dX4_ranked_35 : decode cX4_ranked 35 = .ok (.bipush 20, 2) := by decide +kernel
theorem dX4_ranked_37 : decode cX4_ranked 37 = .ok (.if_icmp .ge 30, 3) := by decide +kernel
theorem dX4_ranked_40 : decode cX4_ranked 40 = .ok (.aload_n 0, 1) := by decide +kernel
theorem dX4_ranked_41 : decode cX4_ranked 41 = .ok (.getfield 41, 3) := by decide +kernel
theorem dX4_ranked_44 : decode cX4_ranked 44 = .ok (.iload_n 3, 1) := by decide +kernel
theorem dX4_ranked_45 : decode cX4_ranked 45 = .ok (.iaload, 1) := by decide +kernel
theorem dX4_ranked_46 : decode cX4_ranked 46 = .ok (.iconst (-1), 1) := by decide +kernel
theorem dX4_ranked_47 : decode cX4_ranked 47 = .ok (.if_icmp .eq 14, 3) := by decide +kernel
theorem dX4_ranked_50 : decode cX4_ranked 50 = .ok (.aload_n 0, 1) := by decide +kernel
theorem dX4_ranked_51 : decode cX4_ranked 51 = .ok (.iload_n 3, 1) := by decide +kernel
theorem dX4_ranked_52 : decode cX4_ranked 52 = .ok (.invokevirtual 163, 3) := by decide +kernel
