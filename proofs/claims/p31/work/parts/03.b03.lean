theorem dX4_ranked_55 : decode cX4_ranked 55 = .ok (.iload_n 2, 1) := by decide +kernel
theorem dX4_ranked_56 : decode cX4_ranked 56 = .ok (.if_icmp .ne 5, 3) := by decide +kernel
theorem dX4_ranked_59 : decode cX4_ranked 59 = .ok (.iload_n 3, 1) := by decide +kernel
theorem dX4_ranked_60 : decode cX4_ranked 60 = .ok (.ireturn, 1) := by decide +kernel
theorem dX4_ranked_61 : decode cX4_ranked 61 = .ok (.iinc 3 1, 3) := by decide +kernel
theorem dX4_ranked_64 : decode cX4_ranked 64 = .ok (.goto (-30), 3) := by decide +kernel
theorem dX4_ranked_67 : decode cX4_ranked 67 = .ok (.new 166, 3) := by decide +kernel
theorem dX4_ranked_70 : decode cX4_ranked 70 = .ok (.dup, 1) := by decide +kernel
theorem dX4_ranked_71 : decode cX4_ranked 71 = .ok (.ldc 168, 2) := by decide +kernel
theorem dX4_ranked_73 : decode cX4_ranked 73 = .ok (.invokespecial 170, 3) := by decide +kernel
theorem dX4_ranked_76 : decode cX4_ranked 76 = .ok (.athrow, 1) := by decide +kernel
set_option maxRecDepth 20000 in
theorem ggX4_closeDay_X0_isFull : GoodIn wsX4_closeDay wsX0_isFull := goodIn_r _ [8, 9, 106, 107, 108, 109] (by decide +kernel) (by decide +kernel)
set_option maxRecDepth 20000 in
theorem gX4_closeDay_X0_isFull : GoodIn wsX4_closeDay (wsV RX4 171 RX0 yX0_isFull wsX0_isFull) := goodIn_app (goodIn_of _ (by decide +kernel)) ggX4_closeDay_X0_isFull
set_option maxRecDepth 20000 in
theorem ggX4_closeDay_X0_closedCount : GoodIn wsX4_closeDay wsX0_closedCount := goodIn_r _ [13, 9, 106, 107, 108, 109] (by decide +kernel) (by decide +kernel)
set_option maxRecDepth 20000 in
theorem gX4_closeDay_X0_closedCount : GoodIn wsX4_closeDay (wsV RX4 63 RX0 yX0_closedCount wsX0_closedCount) := goodIn_app (goodIn_of _ (by decide +kernel)) ggX4_closeDay_X0_closedCount
set_option maxRecDepth 20000 in
theorem ggX4_closeDay_X4_activeSet : GoodIn wsX4_closeDay wsX4_activeSet := goodIn_r _ [18, 19, 20, 21, 22, 23, 24, 25, 26, 27, 28, 29, 30, 31, 32, 33, 34, 17, 35, 36, 37, 38, 39, 40, 99, 100, 101, 102, 103, 104, 105, 110, 111, 112, 113, 114] (by decide +kernel) (by decide +kernel)
set_option maxRecDepth 20000 in
theorem gX4_closeDay_X4_activeSet : GoodIn wsX4_closeDay (wsV RX4 157 RX4 yX4_activeSet wsX4_activeSet) := goodIn_app (goodIn_of _ (by decide +kernel)) ggX4_closeDay_X4_activeSet
set_option maxRecDepth 20000 in
theorem ggX4_closeDay_J6_bitCount_0f7a4 : GoodIn wsX4_closeDay wsJ6_bitCount_0f7a4 := goodIn_r _ [44, 45, 46, 47] (by decide +kernel) (by decide +kernel)
set_option maxRecDepth 20000 in
theorem gX4_closeDay_J6_bitCount_0f7a4 : GoodIn wsX4_closeDay (va_wsS RX4 99 yJ6_bitCount_0f7a4 wsJ6_bitCount_0f7a4) := goodIn_app (goodIn_of _ (by decide +kernel)) ggX4_closeDay_J6_bitCount_0f7a4
set_option maxRecDepth 20000 in
theorem ggX4_closeDay_X4_cohortSet : GoodIn wsX4_closeDay wsX4_cohortSet := goodIn_r _ [51, 19, 20, 21, 22, 23, 24, 25, 26, 36, 37, 38, 39, 40, 32, 27, 28, 29, 30, 31, 33, 34, 17, 35, 99, 100, 101, 102, 103, 104, 105, 110, 111, 112, 113, 114] (by decide +kernel) (by decide +kernel)
set_option maxRecDepth 20000 in
theorem gX4_closeDay_X4_cohortSet : GoodIn wsX4_closeDay (wsV RX4 154 RX4 yX4_cohortSet wsX4_cohortSet) := goodIn_app (goodIn_of _ (by decide +kernel)) ggX4_closeDay_X4_cohortSet
set_option maxRecDepth 20000 in
theorem ggX4_closeDay_X4_sessionsBegunOn : GoodIn wsX4_closeDay wsX4_sessionsBegunOn := goodIn_r _ [55, 56, 57, 58, 59, 17, 60, 61, 19, 20, 62, 63, 64, 65, 66, 67, 21, 22, 23, 24, 25, 26, 36, 37, 38, 39, 40, 32, 68, 69, 70, 71, 72, 73, 74, 75, 76, 27, 28, 29, 30, 31, 77, 78, 79, 80, 81, 82, 83, 84, 85, 86, 87, 34, 35, 88, 89, 90, 91, 99, 100, 101, 102, 103, 104, 105, 115, 116, 117, 118, 110, 111, 112, 113, 114] (by decide +kernel) (by decide +kernel)
set_option maxRecDepth 20000 in
theorem gX4_closeDay_X4_sessionsBegunOn : GoodIn wsX4_closeDay (wsV RX4 174 RX4 yX4_sessionsBegunOn wsX4_sessionsBegunOn) := goodIn_app (goodIn_of _ (by decide +kernel)) ggX4_closeDay_X4_sessionsBegunOn
set_option maxRecDepth 20000 in
theorem ggX4_closeDay_X0_close : GoodIn wsX4_closeDay wsX0_close := goodIn_r _ [95, 96, 9, 97, 98, 106, 107, 108, 109] (by decide +kernel) (by decide +kernel)
set_option maxRecDepth 20000 in
theorem gX4_closeDay_X0_close : GoodIn wsX4_closeDay (wsV RX4 177 RX0 yX0_close wsX0_close) := goodIn_app (goodIn_of _ (by decide +kernel)) ggX4_closeDay_X0_close
theorem dX4_closeDay_0 : decode cX4_closeDay 0 = .ok (.aload_n 0, 1) := by decide +kernel
theorem dX4_closeDay_1 : decode cX4_closeDay 1 = .ok (.getfield 30, 3) := by decide +kernel
theorem dX4_closeDay_4 : decode cX4_closeDay 4 = .ok (.invokevirtual 171, 3) := by decide +kernel
theorem dX4_closeDay_7 : decode cX4_closeDay 7 = .ok (.ifCond .eq 13, 3) := by decide +kernel
theorem dX4_closeDay_10 : decode cX4_closeDay 10 = .ok (.new 67, 3) := by decide +kernel
theorem dX4_closeDay_13 : decode cX4_closeDay 13 = .ok (.dup, 1) := by decide +kernel
theorem dX4_closeDay_14 : decode cX4_closeDay 14 = .ok (.ldc 172, 2) := by decide +kernel
theorem dX4_closeDay_16 : decode cX4_closeDay 16 = .ok (.invokespecial 71, 3) := by decide +kernel
theorem dX4_closeDay_19 : decode cX4_closeDay 19 = .ok (.athrow, 1) := by decide +kernel
theorem dX4_closeDay_20 : decode cX4_closeDay 20 = .ok (.aload_n 0, 1) := by decide +kernel
theorem dX4_closeDay_21 : decode cX4_closeDay 21 = .ok (.getfield 30, 3) := by decide +kernel
theorem dX4_closeDay_24 : decode cX4_closeDay 24 = .ok (.invokevirtual 63, 3) := by decide +kernel
theorem dX4_closeDay_27 : decode cX4_closeDay 27 = .ok (.istore_n 1, 1) := by decide +kernel
theorem dX4_closeDay_28 : decode cX4_closeDay 28 = .ok (.aload_n 0, 1) := by decide +kernel
theorem dX4_closeDay_29 : decode cX4_closeDay 29 = .ok (.iload_n 1, 1) := by decide +kernel
theorem dX4_closeDay_30 : decode cX4_closeDay 30 = .ok (.invokevirtual 157, 3) := by decide +kernel
theorem dX4_closeDay_33 : decode cX4_closeDay 33 = .ok (.invokestatic 99, 3) := by decide +kernel
theorem dX4_closeDay_36 : decode cX4_closeDay 36 = .ok (.istore_n 2, 1) := by decide +kernel
theorem dX4_closeDay_37 : decode cX4_closeDay 37 = .ok (.aload_n 0, 1) := by decide +kernel
theorem dX4_closeDay_38 : decode cX4_closeDay 38 = .ok (.iload_n 1, 1) := by decide +kernel
theorem dX4_closeDay_39 : decode cX4_closeDay 39 = .ok (.invokevirtual 154, 3) := by decide +kernel
theorem dX4_closeDay_42 : decode cX4_closeDay 42 = .ok (.invokestatic 99, 3) := by decide +kernel
theorem dX4_closeDay_45 : decode cX4_closeDay 45 = .ok (.istore_n 3, 1) := by decide +kernel
theorem dX4_closeDay_46 : decode cX4_closeDay 46 = .ok (.aload_n 0, 1) := by decide +kernel
theorem dX4_closeDay_47 : decode cX4_closeDay 47 = .ok (.getfield 30, 3) := by decide +kernel
theorem dX4_closeDay_50 : decode cX4_closeDay 50 = .ok (.iload_n 2, 1) := by decide +kernel
theorem dX4_closeDay_51 : decode cX4_closeDay 51 = .ok (.iload_n 3, 1) := by decide +kernel
theorem dX4_closeDay_52 : decode cX4_closeDay 52 = .ok (.aload_n 0, 1) := by decide +kernel
theorem dX4_closeDay_53 : decode cX4_closeDay 53 = .ok (.iload_n 1, 1) := by decide +kernel
theorem dX4_closeDay_54 : decode cX4_closeDay 54 = .ok (.invokevirtual 174, 3) := by decide +kernel
theorem dX4_closeDay_57 : decode cX4_closeDay 57 = .ok (.invokevirtual 177, 3) := by decide +kernel
theorem dX4_closeDay_60 : decode cX4_closeDay 60 = .ok (.iload_n 1, 1) := by decide +kernel
theorem dX4_closeDay_61 : decode cX4_closeDay 61 = .ok (.ireturn, 1) := by decide +kernel
set_option maxRecDepth 20000 in
theorem ggX4_closedDays_X0_closedCount : GoodIn wsX4_closedDays wsX0_closedCount := goodIn_r _ [6, 7, 15, 16, 17, 18] (by decide +kernel) (by decide +kernel)
set_option maxRecDepth 20000 in
theorem gX4_closedDays_X0_closedCount : GoodIn wsX4_closedDays (wsV RX4 63 RX0 yX0_closedCount wsX0_closedCount) := goodIn_app (goodIn_of _ (by decide +kernel)) ggX4_closedDays_X0_closedCount
theorem dX4_closedDays_0 : decode cX4_closedDays 0 = .ok (.aload_n 0, 1) := by decide +kernel
theorem dX4_closedDays_1 : decode cX4_closedDays 1 = .ok (.getfield 30, 3) := by decide +kernel
theorem dX4_closedDays_4 : decode cX4_closedDays 4 = .ok (.invokevirtual 63, 3) := by decide +kernel
theorem dX4_closedDays_7 : decode cX4_closedDays 7 = .ok (.ireturn, 1) := by decide +kernel
set_option maxRecDepth 20000 in
theorem ggX4_keptActive_X0_closedCount : GoodIn wsX4_keptActive wsX0_closedCount := goodIn_r _ [6, 7, 26, 27, 28, 29] (by decide +kernel) (by decide +kernel)
set_option maxRecDepth 20000 in
theorem gX4_keptActive_X0_closedCount : GoodIn wsX4_keptActive (wsV RX4 63 RX0 yX0_closedCount wsX0_closedCount) := goodIn_app (goodIn_of _ (by decide +kernel)) ggX4_keptActive_X0_closedCount
set_option maxRecDepth 20000 in
theorem ggX4_keptActive_X4_requireBelow : GoodIn wsX4_keptActive wsX4_requireBelow := goodIn_ca (goodIn_r _ [11, 12, 13] (by decide +kernel) (by decide +kernel)) (goodIn_sub (fun _ h => List.mem_cons_of_mem _ (List.mem_append_right _ h)) (by decide +kernel))
set_option maxRecDepth 20000 in
theorem gX4_keptActive_X4_requireBelow : GoodIn wsX4_keptActive (va_wsS RX4 109 yX4_requireBelow wsX4_requireBelow) := goodIn_app (goodIn_of _ (by decide +kernel)) ggX4_keptActive_X4_requireBelow
set_option maxRecDepth 20000 in
theorem ggX4_keptActive_X0_activeUsersOn : GoodIn wsX4_keptActive wsX0_activeUsersOn := goodIn_r _ [17, 18, 26, 27, 28, 29] (by decide +kernel) (by decide +kernel)
set_option maxRecDepth 20000 in
theorem gX4_keptActive_X0_activeUsersOn : GoodIn wsX4_keptActive (wsV RX4 180 RX0 yX0_activeUsersOn wsX0_activeUsersOn) := goodIn_app (goodIn_of _ (by decide +kernel)) ggX4_keptActive_X0_activeUsersOn
theorem dX4_keptActive_0 : decode cX4_keptActive 0 = .ok (.iload_n 1, 1) := by decide +kernel
theorem dX4_keptActive_1 : decode cX4_keptActive 1 = .ok (.aload_n 0, 1) := by decide +kernel
theorem dX4_keptActive_2 : decode cX4_keptActive 2 = .ok (.getfield 30, 3) := by decide +kernel
theorem dX4_keptActive_5 : decode cX4_keptActive 5 = .ok (.invokevirtual 63, 3) := by decide +kernel
theorem dX4_keptActive_8 : decode cX4_keptActive 8 = .ok (.invokestatic 109, 3) := by decide +kernel
theorem dX4_keptActive_11 : decode cX4_keptActive 11 = .ok (.aload_n 0, 1) := by decide +kernel
theorem dX4_keptActive_12 : decode cX4_keptActive 12 = .ok (.getfield 30, 3) := by decide +kernel
theorem dX4_keptActive_15 : decode cX4_keptActive 15 = .ok (.iload_n 1, 1) := by decide +kernel
theorem dX4_keptActive_16 : decode cX4_keptActive 16 = .ok (.invokevirtual 180, 3) := by decide +kernel
theorem dX4_keptActive_19 : decode cX4_keptActive 19 = .ok (.ireturn, 1) := by decide +kernel
set_option maxRecDepth 20000 in
theorem ggX4_keptNew_X0_closedCount : GoodIn wsX4_keptNew wsX0_closedCount := goodIn_r _ [6, 7, 26, 27, 28, 29] (by decide +kernel) (by decide +kernel)
set_option maxRecDepth 20000 in
theorem gX4_keptNew_X0_closedCount : GoodIn wsX4_keptNew (wsV RX4 63 RX0 yX0_closedCount wsX0_closedCount) := goodIn_app (goodIn_of _ (by decide +kernel)) ggX4_keptNew_X0_closedCount
set_option maxRecDepth 20000 in
theorem ggX4_keptNew_X4_requireBelow : GoodIn wsX4_keptNew wsX4_requireBelow := goodIn_ca (goodIn_r _ [11, 12, 13] (by decide +kernel) (by decide +kernel)) (goodIn_sub (fun _ h => List.mem_cons_of_mem _ (List.mem_append_right _ h)) (by decide +kernel))
set_option maxRecDepth 20000 in
theorem gX4_keptNew_X4_requireBelow : GoodIn wsX4_keptNew (va_wsS RX4 109 yX4_requireBelow wsX4_requireBelow) := goodIn_app (goodIn_of _ (by decide +kernel)) ggX4_keptNew_X4_requireBelow
set_option maxRecDepth 20000 in
theorem ggX4_keptNew_X0_newUsersOn : GoodIn wsX4_keptNew wsX0_newUsersOn := goodIn_r _ [17, 18, 26, 27, 28, 29] (by decide +kernel) (by decide +kernel)
set_option maxRecDepth 20000 in
theorem gX4_keptNew_X0_newUsersOn : GoodIn wsX4_keptNew (wsV RX4 183 RX0 yX0_newUsersOn wsX0_newUsersOn) := goodIn_app (goodIn_of _ (by decide +kernel)) ggX4_keptNew_X0_newUsersOn
theorem dX4_keptNew_0 : decode cX4_keptNew 0 = .ok (.iload_n 1, 1) := by decide +kernel
theorem dX4_keptNew_1 : decode cX4_keptNew 1 = .ok (.aload_n 0, 1) := by decide +kernel
theorem dX4_keptNew_2 : decode cX4_keptNew 2 = .ok (.getfield 30, 3) := by decide +kernel
theorem dX4_keptNew_5 : decode cX4_keptNew 5 = .ok (.invokevirtual 63, 3) := by decide +kernel
theorem dX4_keptNew_8 : decode cX4_keptNew 8 = .ok (.invokestatic 109, 3) := by decide +kernel
theorem dX4_keptNew_11 : decode cX4_keptNew 11 = .ok (.aload_n 0, 1) := by decide +kernel
theorem dX4_keptNew_12 : decode cX4_keptNew 12 = .ok (.getfield 30, 3) := by decide +kernel
theorem dX4_keptNew_15 : decode cX4_keptNew 15 = .ok (.iload_n 1, 1) := by decide +kernel
theorem dX4_keptNew_16 : decode cX4_keptNew 16 = .ok (.invokevirtual 183, 3) := by decide +kernel
theorem dX4_keptNew_19 : decode cX4_keptNew 19 = .ok (.ireturn, 1) := by decide +kernel
set_option maxRecDepth 20000 in
theorem ggX4_keptSessions_X0_closedCount : GoodIn wsX4_keptSessions wsX0_closedCount := goodIn_r _ [6, 7, 26, 27, 28, 29] (by decide +kernel) (by decide +kernel)
set_option maxRecDepth 20000 in
theorem gX4_keptSessions_X0_closedCount : GoodIn wsX4_keptSessions (wsV RX4 63 RX0 yX0_closedCount wsX0_closedCount) := goodIn_app (goodIn_of _ (by decide +kernel)) ggX4_keptSessions_X0_closedCount
set_option maxRecDepth 20000 in
theorem ggX4_keptSessions_X4_requireBelow : GoodIn wsX4_keptSessions wsX4_requireBelow := goodIn_ca (goodIn_r _ [11, 12, 13] (by decide +kernel) (by decide +kernel)) (goodIn_sub (fun _ h => List.mem_cons_of_mem _ (List.mem_append_right _ h)) (by decide +kernel))
set_option maxRecDepth 20000 in
theorem gX4_keptSessions_X4_requireBelow : GoodIn wsX4_keptSessions (va_wsS RX4 109 yX4_requireBelow wsX4_requireBelow) := goodIn_app (goodIn_of _ (by decide +kernel)) ggX4_keptSessions_X4_requireBelow
set_option maxRecDepth 20000 in
theorem ggX4_keptSessions_X0_sessionsOn : GoodIn wsX4_keptSessions wsX0_sessionsOn := goodIn_r _ [17, 18, 26, 27, 28, 29] (by decide +kernel) (by decide +kernel)
set_option maxRecDepth 20000 in
theorem gX4_keptSessions_X0_sessionsOn : GoodIn wsX4_keptSessions (wsV RX4 186 RX0 yX0_sessionsOn wsX0_sessionsOn) := goodIn_app (goodIn_of _ (by decide +kernel)) ggX4_keptSessions_X0_sessionsOn
theorem dX4_keptSessions_0 : decode cX4_keptSessions 0 = .ok (.iload_n 1, 1) := by decide +kernel
theorem dX4_keptSessions_1 : decode cX4_keptSessions 1 = .ok (.aload_n 0, 1) := by decide +kernel
theorem dX4_keptSessions_2 : decode cX4_keptSessions 2 = .ok (.getfield 30, 3) := by decide +kernel
theorem dX4_keptSessions_5 : decode cX4_keptSessions 5 = .ok (.invokevirtual 63, 3) := by decide +kernel
theorem dX4_keptSessions_8 : decode cX4_keptSessions 8 = .ok (.invokestatic 109, 3) := by decide +kernel
theorem dX4_keptSessions_11 : decode cX4_keptSessions 11 = .ok (.aload_n 0, 1) := by decide +kernel
theorem dX4_keptSessions_12 : decode cX4_keptSessions 12 = .ok (.getfield 30, 3) := by decide +kernel
theorem dX4_keptSessions_15 : decode cX4_keptSessions 15 = .ok (.iload_n 1, 1) := by decide +kernel
theorem dX4_keptSessions_16 : decode cX4_keptSessions 16 = .ok (.invokevirtual 186, 3) := by decide +kernel
theorem dX4_keptSessions_19 : decode cX4_keptSessions 19 = .ok (.ireturn, 1) := by decide +kernel
set_option maxRecDepth 20000 in
theorem ggX4_requireId_X4_requireRange : GoodIn wsX4_requireId wsX4_requireRange := goodIn_ca (goodIn_r _ [4, 5, 6] (by decide +kernel) (by decide +kernel)) (goodIn_sub (fun _ h => List.mem_cons_of_mem _ (List.mem_append_right _ h)) (by decide +kernel))
set_option maxRecDepth 20000 in
theorem gX4_requireId_X4_requireRange : GoodIn wsX4_requireId (va_wsS RX4 55 yX4_requireRange wsX4_requireRange) := goodIn_app (goodIn_of _ (by decide +kernel)) ggX4_requireId_X4_requireRange
theorem dX4_requireId_0 : decode cX4_requireId 0 = .ok (.iload_n 0, 1) := by decide +kernel
theorem dX4_requireId_1 : decode cX4_requireId 1 = .ok (.iconst 0, 1) := by decide +kernel
theorem dX4_requireId_2 : decode cX4_requireId 2 = .ok (.bipush 19, 2) := by decide +kernel
theorem dX4_requireId_4 : decode cX4_requireId 4 = .ok (.invokestatic 55, 3) := by decide +kernel
theorem dX4_requireId_7 : decode cX4_requireId 7 = .ok (.return_, 1) := by decide +kernel
set_option maxRecDepth 20000 in
theorem ggX4_requireKind_X4_requireRange : GoodIn wsX4_requireKind wsX4_requireRange := goodIn_ca (goodIn_r _ [4, 5, 6] (by decide +kernel) (by decide +kernel)) (goodIn_sub (fun _ h => List.mem_cons_of_mem _ (List.mem_append_right _ h)) (by decide +kernel))
set_option maxRecDepth 20000 in
theorem gX4_requireKind_X4_requireRange : GoodIn wsX4_requireKind (va_wsS RX4 55 yX4_requireRange wsX4_requireRange) := goodIn_app (goodIn_of _ (by decide +kernel)) ggX4_requireKind_X4_requireRange
theorem dX4_requireKind_0 : decode cX4_requireKind 0 = .ok (.iload_n 0, 1) := by decide +kernel
theorem dX4_requireKind_1 : decode cX4_requireKind 1 = .ok (.iconst 0, 1) := by decide +kernel
theorem dX4_requireKind_2 : decode cX4_requireKind 2 = .ok (.bipush 9, 2) := by decide +kernel
theorem dX4_requireKind_4 : decode cX4_requireKind 4 = .ok (.invokestatic 55, 3) := by decide +kernel
theorem dX4_requireKind_7 : decode cX4_requireKind 7 = .ok (.return_, 1) := by decide +kernel
set_option maxRecDepth 20000 in
theorem ggX4_requireDay_X4_requireRange : GoodIn wsX4_requireDay wsX4_requireRange := goodIn_ca (goodIn_r _ [4, 5, 6] (by decide +kernel) (by decide +kernel)) (goodIn_sub (fun _ h => List.mem_cons_of_mem _ (List.mem_append_right _ h)) (by decide +kernel))
set_option maxRecDepth 20000 in
theorem gX4_requireDay_X4_requireRange : GoodIn wsX4_requireDay (va_wsS RX4 55 yX4_requireRange wsX4_requireRange) := goodIn_app (goodIn_of _ (by decide +kernel)) ggX4_requireDay_X4_requireRange
theorem dX4_requireDay_0 : decode cX4_requireDay 0 = .ok (.iload_n 0, 1) := by decide +kernel
theorem dX4_requireDay_1 : decode cX4_requireDay 1 = .ok (.iconst 0, 1) := by decide +kernel
theorem dX4_requireDay_2 : decode cX4_requireDay 2 = .ok (.bipush 19, 2) := by decide +kernel
theorem dX4_requireDay_4 : decode cX4_requireDay 4 = .ok (.invokestatic 55, 3) := by decide +kernel
theorem dX4_requireDay_7 : decode cX4_requireDay 7 = .ok (.return_, 1) := by decide +kernel
theorem dX4_requireRange_0 : decode cX4_requireRange 0 = .ok (.iload_n 0, 1) := by decide +kernel
theorem dX4_requireRange_1 : decode cX4_requireRange 1 = .ok (.iload_n 1, 1) := by decide +kernel
theorem dX4_requireRange_2 : decode cX4_requireRange 2 = .ok (.if_icmp .lt 8, 3) := by decide +kernel
theorem dX4_requireRange_5 : decode cX4_requireRange 5 = .ok (.iload_n 0, 1) := by decide +kernel
theorem dX4_requireRange_6 : decode cX4_requireRange 6 = .ok (.iload_n 2, 1) := by decide +kernel
theorem dX4_requireRange_7 : decode cX4_requireRange 7 = .ok (.if_icmp .le 13, 3) := by decide +kernel
theorem dX4_requireRange_10 : decode cX4_requireRange 10 = .ok (.new 189, 3) := by decide +kernel
theorem dX4_requireRange_13 : decode cX4_requireRange 13 = .ok (.dup, 1) := by decide +kernel
theorem dX4_requireRange_14 : decode cX4_requireRange 14 = .ok (.ldc 191, 2) := by decide +kernel
theorem dX4_requireRange_16 : decode cX4_requireRange 16 = .ok (.invokespecial 193, 3) := by decide +kernel
theorem dX4_requireRange_19 : decode cX4_requireRange 19 = .ok (.athrow, 1) := by decide +kernel
theorem dX4_requireRange_20 : decode cX4_requireRange 20 = .ok (.return_, 1) := by decide +kernel
theorem dX4_requireBelow_0 : decode cX4_requireBelow 0 = .ok (.iload_n 0, 1) := by decide +kernel
theorem dX4_requireBelow_1 : decode cX4_requireBelow 1 = .ok (.ifCond .lt 8, 3) := by decide +kernel
theorem dX4_requireBelow_4 : decode cX4_requireBelow 4 = .ok (.iload_n 0, 1) := by decide +kernel
theorem dX4_requireBelow_5 : decode cX4_requireBelow 5 = .ok (.iload_n 1, 1) := by decide +kernel
theorem dX4_requireBelow_6 : decode cX4_requireBelow 6 = .ok (.if_icmp .lt 13, 3) := by decide +kernel
theorem dX4_requireBelow_9 : decode cX4_requireBelow 9 = .ok (.new 166, 3) := by decide +kernel
theorem dX4_requireBelow_12 : decode cX4_requireBelow 12 = .ok (.dup, 1) := by decide +kernel
theorem dX4_requireBelow_13 : decode cX4_requireBelow 13 = .ok (.ldc 194, 2) := by decide +kernel
theorem dX4_requireBelow_15 : decode cX4_requireBelow 15 = .ok (.invokespecial 170, 3) := by decide +kernel
theorem dX4_requireBelow_18 : decode cX4_requireBelow 18 = .ok (.athrow, 1) := by decide +kernel
theorem dX4_requireBelow_19 : decode cX4_requireBelow 19 = .ok (.return_, 1) := by decide +kernel
theorem dX4_dayOf_0 : decode cX4_dayOf 0 = .ok (.iload_n 0, 1) := by decide +kernel
theorem dX4_dayOf_1 : decode cX4_dayOf 1 = .ok (.bipush 100, 2) := by decide +kernel
theorem dX4_dayOf_3 : decode cX4_dayOf 3 = .ok (.idiv, 1) := by decide +kernel
theorem dX4_dayOf_4 : decode cX4_dayOf 4 = .ok (.ireturn, 1) := by decide +kernel
set_option maxRecDepth 20000 in
theorem ggX4_timelineOf_X3_clear : GoodIn wsX4_timelineOf wsX3_clear := goodIn_r _ [8, 9, 50, 51, 52, 53] (by decide +kernel) (by decide +kernel)
set_option maxRecDepth 20000 in
theorem gX4_timelineOf_X3_clear : GoodIn wsX4_timelineOf (wsV RX4 196 RX3 yX3_clear wsX3_clear) := goodIn_app (goodIn_of _ (by decide +kernel)) ggX4_timelineOf_X3_clear
set_option maxRecDepth 20000 in
theorem ggX4_timelineOf_X1_count : GoodIn wsX4_timelineOf wsX1_count := goodIn_r _ [14, 15, 54, 55, 56, 57, 58] (by decide +kernel) (by decide +kernel)
set_option maxRecDepth 20000 in
theorem gX4_timelineOf_X1_count : GoodIn wsX4_timelineOf (wsV RX4 93 RX1 yX1_count wsX1_count) := goodIn_app (goodIn_of _ (by decide +kernel)) ggX4_timelineOf_X1_count
set_option maxRecDepth 20000 in
theorem ggX4_timelineOf_X1_idAt : GoodIn wsX4_timelineOf wsX1_idAt := goodIn_r _ [19, 20, 21, 54, 55, 56, 57, 58] (by decide +kernel) (by decide +kernel)
set_option maxRecDepth 20000 in
theorem gX4_timelineOf_X1_idAt : GoodIn wsX4_timelineOf (wsV RX4 96 RX1 yX1_idAt wsX1_idAt) := goodIn_app (goodIn_of _ (by decide +kernel)) ggX4_timelineOf_X1_idAt
set_option maxRecDepth 20000 in
theorem ggX4_timelineOf_X1_numberAt : GoodIn wsX4_timelineOf wsX1_numberAt := goodIn_r _ [25, 21, 54, 55, 56, 57, 58] (by decide +kernel) (by decide +kernel)
set_option maxRecDepth 20000 in
theorem gX4_timelineOf_X1_numberAt : GoodIn wsX4_timelineOf (wsV RX4 199 RX1 yX1_numberAt wsX1_numberAt) := goodIn_app (goodIn_of _ (by decide +kernel)) ggX4_timelineOf_X1_numberAt
set_option maxRecDepth 20000 in
theorem ggX4_timelineOf_X1_kindAt : GoodIn wsX4_timelineOf wsX1_kindAt := goodIn_r _ [29, 30, 21, 54, 55, 56, 57, 58] (by decide +kernel) (by decide +kernel)
set_option maxRecDepth 20000 in
theorem gX4_timelineOf_X1_kindAt : GoodIn wsX4_timelineOf (wsV RX4 200 RX1 yX1_kindAt wsX1_kindAt) := goodIn_app (goodIn_of _ (by decide +kernel)) ggX4_timelineOf_X1_kindAt
set_option maxRecDepth 20000 in
theorem ggX4_timelineOf_X1_timeAt : GoodIn wsX4_timelineOf wsX1_timeAt := goodIn_r _ [34, 35, 21, 54, 55, 56, 57, 58] (by decide +kernel) (by decide +kernel)
set_option maxRecDepth 20000 in
theorem gX4_timelineOf_X1_timeAt : GoodIn wsX4_timelineOf (wsV RX4 203 RX1 yX1_timeAt wsX1_timeAt) := goodIn_app (goodIn_of _ (by decide +kernel)) ggX4_timelineOf_X1_timeAt
set_option maxRecDepth 20000 in
theorem ggX4_timelineOf_X3_append : GoodIn wsX4_timelineOf wsX3_append := goodIn_r _ [39, 40, 9, 41, 42, 50, 51, 52, 53] (by decide +kernel) (by decide +kernel)
set_option maxRecDepth 20000 in
theorem gX4_timelineOf_X3_append : GoodIn wsX4_timelineOf (wsV RX4 204 RX3 yX3_append wsX3_append) := goodIn_app (goodIn_of _ (by decide +kernel)) ggX4_timelineOf_X3_append
theorem dX4_timelineOf_0 : decode cX4_timelineOf 0 = .ok (.aload_n 0, 1) := by decide +kernel
theorem dX4_timelineOf_1 : decode cX4_timelineOf 1 = .ok (.getfield 37, 3) := by decide +kernel
theorem dX4_timelineOf_4 : decode cX4_timelineOf 4 = .ok (.invokevirtual 196, 3) := by decide +kernel
theorem dX4_timelineOf_7 : decode cX4_timelineOf 7 = .ok (.iconst 0, 1) := by decide +kernel
theorem dX4_timelineOf_8 : decode cX4_timelineOf 8 = .ok (.istore_n 2, 1) := by decide +kernel
theorem dX4_timelineOf_9 : decode cX4_timelineOf 9 = .ok (.iload_n 2, 1) := by decide +kernel
theorem dX4_timelineOf_10 : decode cX4_timelineOf 10 = .ok (.aload_n 0, 1) := by decide +kernel
theorem dX4_timelineOf_11 : decode cX4_timelineOf 11 = .ok (.getfield 16, 3) := by decide +kernel
theorem dX4_timelineOf_14 : decode cX4_timelineOf 14 = .ok (.invokevirtual 93, 3) := by decide +kernel
theorem dX4_timelineOf_17 : decode cX4_timelineOf 17 = .ok (.if_icmp .ge 57, 3) := by decide +kernel
theorem dX4_timelineOf_20 : decode cX4_timelineOf 20 = .ok (.aload_n 0, 1) := by decide +kernel
theorem dX4_timelineOf_21 : decode cX4_timelineOf 21 = .ok (.getfield 9, 3) := by decide +kernel
theorem dX4_timelineOf_24 : decode cX4_timelineOf 24 = .ok (.aload_n 0, 1) := by decide +kernel
theorem dX4_timelineOf_25 : decode cX4_timelineOf 25 = .ok (.getfield 16, 3) := by decide +kernel
theorem dX4_timelineOf_28 : decode cX4_timelineOf 28 = .ok (.iload_n 2, 1) := by decide +kernel
theorem dX4_timelineOf_29 : decode cX4_timelineOf 29 = .ok (.invokevirtual 96, 3) := by decide +kernel
theorem dX4_timelineOf_32 : decode cX4_timelineOf 32 = .ok (.iaload, 1) := by decide +kernel
theorem dX4_timelineOf_33 : decode cX4_timelineOf 33 = .ok (.iload_n 1, 1) := by decide +kernel
theorem dX4_timelineOf_34 : decode cX4_timelineOf 34 = .ok (.if_icmp .ne 34, 3) := by decide +kernel
theorem dX4_timelineOf_37 : decode cX4_timelineOf 37 = .ok (.aload_n 0, 1) := by decide +kernel
theorem dX4_timelineOf_38 : decode cX4_timelineOf 38 = .ok (.getfield 37, 3) := by decide +kernel
theorem dX4_timelineOf_41 : decode cX4_timelineOf 41 = .ok (.aload_n 0, 1) := by decide +kernel
theorem dX4_timelineOf_42 : decode cX4_timelineOf 42 = .ok (.getfield 16, 3) := by decide +kernel
theorem dX4_timelineOf_45 : decode cX4_timelineOf 45 = .ok (.iload_n 2, 1) := by decide +kernel
theorem dX4_timelineOf_46 : decode cX4_timelineOf 46 = .ok (.invokevirtual 199, 3) := by decide +kernel
theorem dX4_timelineOf_49 : decode cX4_timelineOf 49 = .ok (.aload_n 0, 1) := by decide +kernel
theorem dX4_timelineOf_50 : decode cX4_timelineOf 50 = .ok (.getfield 16, 3) := by decide +kernel
theorem dX4_timelineOf_53 : decode cX4_timelineOf 53 = .ok (.iload_n 2, 1) := by decide +kernel
theorem dX4_timelineOf_54 : decode cX4_timelineOf 54 = .ok (.invokevirtual 200, 3) := by decide +kernel
theorem dX4_timelineOf_57 : decode cX4_timelineOf 57 = .ok (.aload_n 0, 1) := by decide +kernel
theorem dX4_timelineOf_58 : decode cX4_timelineOf 58 = .ok (.getfield 16, 3) := by decide +kernel
theorem dX4_timelineOf_61 : decode cX4_timelineOf 61 = .ok (.iload_n 2, 1) := by decide +kernel
theorem dX4_timelineOf_62 : decode cX4_timelineOf 62 = .ok (.invokevirtual 203, 3) := by decide +kernel
theorem dX4_timelineOf_65 : decode cX4_timelineOf 65 = .ok (.invokevirtual 204, 3) := by decide +kernel
theorem dX4_timelineOf_68 : decode cX4_timelineOf 68 = .ok (.iinc 2 1, 3) := by decide +kernel
theorem dX4_timelineOf_71 : decode cX4_timelineOf 71 = .ok (.goto (-62), 3) := by decide +kernel
theorem dX4_timelineOf_74 : decode cX4_timelineOf 74 = .ok (.aload_n 0, 1) := by decide +kernel
theorem dX4_timelineOf_75 : decode cX4_timelineOf 75 = .ok (.getfield 37, 3) := by decide +kernel
theorem dX4_timelineOf_78 : decode cX4_timelineOf 78 = .ok (.areturn, 1) := by decide +kernel
set_option maxRecDepth 20000 in
theorem ggX4_firstPlaceOf_X3_sessionBegin : GoodIn wsX4_firstPlaceOf wsX3_sessionBegin := goodIn_r _ [6, 7, 8, 9, 10, 5, 11, 12, 30, 31, 32, 33] (by decide +kernel) (by decide +kernel)
set_option maxRecDepth 20000 in
theorem gX4_firstPlaceOf_X3_sessionBegin : GoodIn wsX4_firstPlaceOf (wsV RX4 206 RX3 yX3_sessionBegin wsX3_sessionBegin) := goodIn_app (goodIn_of _ (by decide +kernel)) ggX4_firstPlaceOf_X3_sessionBegin
set_option maxRecDepth 20000 in
theorem ggX4_firstPlaceOf_X3_count : GoodIn wsX4_firstPlaceOf wsX3_count := goodIn_r _ [16, 7, 30, 31, 32, 33] (by decide +kernel) (by decide +kernel)
set_option maxRecDepth 20000 in
theorem gX4_firstPlaceOf_X3_count : GoodIn wsX4_firstPlaceOf (wsV RX4 108 RX3 yX3_count wsX3_count) := goodIn_app (goodIn_of _ (by decide +kernel)) ggX4_firstPlaceOf_X3_count
set_option maxRecDepth 20000 in
theorem ggX4_firstPlaceOf_X4_requireBelow : GoodIn wsX4_firstPlaceOf wsX4_requireBelow := goodIn_ca (goodIn_r _ [20, 21, 22] (by decide +kernel) (by decide +kernel)) (goodIn_sub (fun _ h => List.mem_cons_of_mem _ (List.mem_append_right _ h)) (by decide +kernel))
set_option maxRecDepth 20000 in
theorem gX4_firstPlaceOf_X4_requireBelow : GoodIn wsX4_firstPlaceOf (va_wsS RX4 109 yX4_requireBelow wsX4_requireBelow) := goodIn_app (goodIn_of _ (by decide +kernel)) ggX4_firstPlaceOf_X4_requireBelow
theorem dX4_firstPlaceOf_0 : decode cX4_firstPlaceOf 0 = .ok (.aload_n 2, 1) := by decide +kernel
theorem dX4_firstPlaceOf_1 : decode cX4_firstPlaceOf 1 = .ok (.iload_n 1, 1) := by decide +kernel
theorem dX4_firstPlaceOf_2 : decode cX4_firstPlaceOf 2 = .ok (.aload_n 0, 1) := by decide +kernel
theorem dX4_firstPlaceOf_3 : decode cX4_firstPlaceOf 3 = .ok (.getfield 44, 3) := by decide +kernel
theorem dX4_firstPlaceOf_6 : decode cX4_firstPlaceOf 6 = .ok (.invokevirtual 206, 3) := by decide +kernel
theorem dX4_firstPlaceOf_9 : decode cX4_firstPlaceOf 9 = .ok (.istore_n 3, 1) := by decide +kernel
theorem dX4_firstPlaceOf_10 : decode cX4_firstPlaceOf 10 = .ok (.iload_n 3, 1) := by decide +kernel
theorem dX4_firstPlaceOf_11 : decode cX4_firstPlaceOf 11 = .ok (.aload_n 2, 1) := by decide +kernel
theorem dX4_firstPlaceOf_12 : decode cX4_firstPlaceOf 12 = .ok (.invokevirtual 108, 3) := by decide +kernel
theorem dX4_firstPlaceOf_15 : decode cX4_firstPlaceOf 15 = .ok (.invokestatic 109, 3) := by decide +kernel
theorem dX4_firstPlaceOf_18 : decode cX4_firstPlaceOf 18 = .ok (.iload_n 3, 1) := by decide +kernel
theorem dX4_firstPlaceOf_19 : decode cX4_firstPlaceOf 19 = .ok (.ireturn, 1) := by decide +kernel
set_option maxRecDepth 20000 in
theorem ggX4_activeSet_X1_count : GoodIn wsX4_activeSet wsX1_count := goodIn_r _ [7, 8, 31, 32, 33, 34, 35] (by decide +kernel) (by decide +kernel)
set_option maxRecDepth 20000 in
theorem gX4_activeSet_X1_count : GoodIn wsX4_activeSet (wsV RX4 93 RX1 yX1_count wsX1_count) := goodIn_app (goodIn_of _ (by decide +kernel)) ggX4_activeSet_X1_count
set_option maxRecDepth 20000 in
theorem ggX4_activeSet_X1_timeAt : GoodIn wsX4_activeSet wsX1_timeAt := goodIn_r _ [12, 13, 14, 31, 32, 33, 34, 35] (by decide +kernel) (by decide +kernel)
set_option maxRecDepth 20000 in
theorem gX4_activeSet_X1_timeAt : GoodIn wsX4_activeSet (wsV RX4 203 RX1 yX1_timeAt wsX1_timeAt) := goodIn_app (goodIn_of _ (by decide +kernel)) ggX4_activeSet_X1_timeAt
set_option maxRecDepth 20000 in
theorem ggX4_activeSet_X4_dayOf : GoodIn wsX4_activeSet wsX4_dayOf := goodIn_r _ [18] (by decide +kernel) (by decide +kernel)
set_option maxRecDepth 20000 in
theorem gX4_activeSet_X4_dayOf : GoodIn wsX4_activeSet (va_wsS RX4 59 yX4_dayOf wsX4_dayOf) := goodIn_app (goodIn_of _ (by decide +kernel)) ggX4_activeSet_X4_dayOf
set_option maxRecDepth 20000 in
theorem ggX4_activeSet_X1_idAt : GoodIn wsX4_activeSet wsX1_idAt := goodIn_r _ [22, 23, 14, 31, 32, 33, 34, 35] (by decide +kernel) (by decide +kernel)
set_option maxRecDepth 20000 in
theorem gX4_activeSet_X1_idAt : GoodIn wsX4_activeSet (wsV RX4 96 RX1 yX1_idAt wsX1_idAt) := goodIn_app (goodIn_of _ (by decide +kernel)) ggX4_activeSet_X1_idAt
theorem dX4_activeSet_0 : decode cX4_activeSet 0 = .ok (.iconst 0, 1) := by decide +kernel
theorem dX4_activeSet_1 : decode cX4_activeSet 1 = .ok (.istore_n 2, 1) := by decide +kernel
theorem dX4_activeSet_2 : decode cX4_activeSet 2 = .ok (.iconst 0, 1) := by decide +kernel
theorem dX4_activeSet_3 : decode cX4_activeSet 3 = .ok (.istore_n 3, 1) := by decide +kernel
theorem dX4_activeSet_4 : decode cX4_activeSet 4 = .ok (.iload_n 3, 1) := by decide +kernel
theorem dX4_activeSet_5 : decode cX4_activeSet 5 = .ok (.aload_n 0, 1) := by decide +kernel
theorem dX4_activeSet_6 : decode cX4_activeSet 6 = .ok (.getfield 16, 3) := by decide +kernel
theorem dX4_activeSet_9 : decode cX4_activeSet 9 = .ok (.invokevirtual 93, 3) := by decide +kernel
theorem dX4_activeSet_12 : decode cX4_activeSet 12 = .ok (.if_icmp .ge 42, 3) := by decide +kernel
theorem dX4_activeSet_15 : decode cX4_activeSet 15 = .ok (.aload_n 0, 1) := by decide +kernel
theorem dX4_activeSet_16 : decode cX4_activeSet 16 = .ok (.getfield 16, 3) := by decide +kernel
theorem dX4_activeSet_19 : decode cX4_activeSet 19 = .ok (.iload_n 3, 1) := by decide +kernel
theorem dX4_activeSet_20 : decode cX4_activeSet 20 = .ok (.invokevirtual 203, 3) := by decide +kernel
theorem dX4_activeSet_23 : decode cX4_activeSet 23 = .ok (.invokestatic 59, 3) := by decide +kernel
theorem dX4_activeSet_26 : decode cX4_activeSet 26 = .ok (.iload_n 1, 1) := by decide +kernel
theorem dX4_activeSet_27 : decode cX4_activeSet 27 = .ok (.if_icmp .ne 21, 3) := by decide +kernel
theorem dX4_activeSet_30 : decode cX4_activeSet 30 = .ok (.iload_n 2, 1) := by decide +kernel
theorem dX4_activeSet_31 : decode cX4_activeSet 31 = .ok (.iconst 1, 1) := by decide +kernel
theorem dX4_activeSet_32 : decode cX4_activeSet 32 = .ok (.aload_n 0, 1) := by decide +kernel
theorem dX4_activeSet_33 : decode cX4_activeSet 33 = .ok (.getfield 9, 3) := by decide +kernel
theorem dX4_activeSet_36 : decode cX4_activeSet 36 = .ok (.aload_n 0, 1) := by decide +kernel
theorem dX4_activeSet_37 : decode cX4_activeSet 37 = .ok (.getfield 16, 3) := by decide +kernel
theorem dX4_activeSet_40 : decode cX4_activeSet 40 = .ok (.iload_n 3, 1) := by decide +kernel
theorem dX4_activeSet_41 : decode cX4_activeSet 41 = .ok (.invokevirtual 96, 3) := by decide +kernel
theorem dX4_activeSet_44 : decode cX4_activeSet 44 = .ok (.iaload, 1) := by decide +kernel
theorem dX4_activeSet_45 : decode cX4_activeSet 45 = .ok (.ishl, 1) := by decide +kernel
theorem dX4_activeSet_46 : decode cX4_activeSet 46 = .ok (.ior, 1) := by decide +kernel
theorem dX4_activeSet_47 : decode cX4_activeSet 47 = .ok (.istore_n 2, 1) := by decide +kernel
theorem dX4_activeSet_48 : decode cX4_activeSet 48 = .ok (.iinc 3 1, 3) := by decide +kernel
theorem dX4_activeSet_51 : decode cX4_activeSet 51 = .ok (.goto (-47), 3) := by decide +kernel
theorem dX4_activeSet_54 : decode cX4_activeSet 54 = .ok (.iload_n 2, 1) := by decide +kernel
theorem dX4_activeSet_55 : decode cX4_activeSet 55 = .ok (.ireturn, 1) := by decide +kernel
set_option maxRecDepth 20000 in
theorem ggX4_cohortSet_X1_count : GoodIn wsX4_cohortSet wsX1_count := goodIn_r _ [7, 8, 31, 32, 33, 34, 35] (by decide +kernel) (by decide +kernel)
set_option maxRecDepth 20000 in
theorem gX4_cohortSet_X1_count : GoodIn wsX4_cohortSet (wsV RX4 93 RX1 yX1_count wsX1_count) := goodIn_app (goodIn_of _ (by decide +kernel)) ggX4_cohortSet_X1_count
set_option maxRecDepth 20000 in
theorem ggX4_cohortSet_X1_idAt : GoodIn wsX4_cohortSet wsX1_idAt := goodIn_r _ [12, 13, 14, 31, 32, 33, 34, 35] (by decide +kernel) (by decide +kernel)
set_option maxRecDepth 20000 in
theorem gX4_cohortSet_X1_idAt : GoodIn wsX4_cohortSet (wsV RX4 96 RX1 yX1_idAt wsX1_idAt) := goodIn_app (goodIn_of _ (by decide +kernel)) ggX4_cohortSet_X1_idAt
set_option maxRecDepth 20000 in
theorem ggX4_cohortSet_X1_timeAt : GoodIn wsX4_cohortSet wsX1_timeAt := goodIn_r _ [18, 19, 14, 31, 32, 33, 34, 35] (by decide +kernel) (by decide +kernel)
set_option maxRecDepth 20000 in
theorem gX4_cohortSet_X1_timeAt : GoodIn wsX4_cohortSet (wsV RX4 203 RX1 yX1_timeAt wsX1_timeAt) := goodIn_app (goodIn_of _ (by decide +kernel)) ggX4_cohortSet_X1_timeAt
set_option maxRecDepth 20000 in
theorem ggX4_cohortSet_X4_dayOf : GoodIn wsX4_cohortSet wsX4_dayOf := goodIn_r _ [23] (by decide +kernel) (by decide +kernel)
set_option maxRecDepth 20000 in
theorem gX4_cohortSet_X4_dayOf : GoodIn wsX4_cohortSet (va_wsS RX4 59 yX4_dayOf wsX4_dayOf) := goodIn_app (goodIn_of _ (by decide +kernel)) ggX4_cohortSet_X4_dayOf
theorem dX4_cohortSet_0 : decode cX4_cohortSet 0 = .ok (.iconst 0, 1) := by decide +kernel
theorem dX4_cohortSet_1 : decode cX4_cohortSet 1 = .ok (.istore_n 2, 1) := by decide +kernel
theorem dX4_cohortSet_2 : decode cX4_cohortSet 2 = .ok (.iconst 0, 1) := by decide +kernel
theorem dX4_cohortSet_3 : decode cX4_cohortSet 3 = .ok (.istore_n 3, 1) := by decide +kernel
theorem dX4_cohortSet_4 : decode cX4_cohortSet 4 = .ok (.iconst 0, 1) := by decide +kernel
theorem dX4_cohortSet_5 : decode cX4_cohortSet 5 = .ok (.istore 4, 2) := by decide +kernel
theorem dX4_cohortSet_7 : decode cX4_cohortSet 7 = .ok (.iload 4, 2) := by decide +kernel
theorem dX4_cohortSet_9 : decode cX4_cohortSet 9 = .ok (.aload_n 0, 1) := by decide +kernel
theorem dX4_cohortSet_10 : decode cX4_cohortSet 10 = .ok (.getfield 16, 3) := by decide +kernel
theorem dX4_cohortSet_13 : decode cX4_cohortSet 13 = .ok (.invokevirtual 93, 3) := by decide +kernel
theorem dX4_cohortSet_16 : decode cX4_cohortSet 16 = .ok (.if_icmp .ge 60, 3) := by decide +kernel
theorem dX4_cohortSet_19 : decode cX4_cohortSet 19 = .ok (.iconst 1, 1) := by decide +kernel
theorem dX4_cohortSet_20 : decode cX4_cohortSet 20 = .ok (.aload_n 0, 1) := by decide +kernel
theorem dX4_cohortSet_21 : decode cX4_cohortSet 21 = .ok (.getfield 9, 3) := by decide +kernel
theorem dX4_cohortSet_24 : decode cX4_cohortSet 24 = .ok (.aload_n 0, 1) := by decide +kernel
theorem dX4_cohortSet_25 : decode cX4_cohortSet 25 = .ok (.getfield 16, 3) := by decide +kernel
theorem dX4_cohortSet_28 : decode cX4_cohortSet 28 = .ok (.iload 4, 2) := by decide +kernel
theorem dX4_cohortSet_30 : decode cX4_cohortSet 30 = .ok (.invokevirtual 96, 3) := by decide +kernel
theorem dX4_cohortSet_33 : decode cX4_cohortSet 33 = .ok (.iaload, 1) := by decide +kernel
theorem dX4_cohortSet_34 : decode cX4_cohortSet 34 = .ok (.ishl, 1) := by decide +kernel
theorem dX4_cohortSet_35 : decode cX4_cohortSet 35 = .ok (.istore 5, 2) := by decide +kernel
theorem dX4_cohortSet_37 : decode cX4_cohortSet 37 = .ok (.iload_n 2, 1) := by decide +kernel
theorem dX4_cohortSet_38 : decode cX4_cohortSet 38 = .ok (.iload 5, 2) := by decide +kernel
theorem dX4_cohortSet_40 : decode cX4_cohortSet 40 = .ok (.iand, 1) := by decide +kernel
theorem dX4_cohortSet_41 : decode cX4_cohortSet 41 = .ok (.ifCond .ne 24, 3) := by decide +kernel
theorem dX4_cohortSet_44 : decode cX4_cohortSet 44 = .ok (.aload_n 0, 1) := by decide +kernel
theorem dX4_cohortSet_45 : decode cX4_cohortSet 45 = .ok (.getfield 16, 3) := by decide +kernel
theorem dX4_cohortSet_48 : decode cX4_cohortSet 48 = .ok (.iload 4, 2) := by decide +kernel
theorem dX4_cohortSet_50 : decode cX4_cohortSet 50 = .ok (.invokevirtual 203, 3) := by decide +kernel
theorem dX4_cohortSet_53 : decode cX4_cohortSet 53 = .ok (.invokestatic 59, 3) := by decide +kernel
theorem dX4_cohortSet_56 : decode cX4_cohortSet 56 = .ok (.iload_n 1, 1) := by decide +kernel
theorem dX4_cohortSet_57 : decode cX4_cohortSet 57 = .ok (.if_icmp .ne 8, 3) := by decide +kernel
theorem dX4_cohortSet_60 : decode cX4_cohortSet 60 = .ok (.iload_n 3, 1) := by decide +kernel
theorem dX4_cohortSet_61 : decode cX4_cohortSet 61 = .ok (.iload 5, 2) := by decide +kernel
theorem dX4_cohortSet_63 : decode cX4_cohortSet 63 = .ok (.ior, 1) := by decide +kernel
theorem dX4_cohortSet_64 : decode cX4_cohortSet 64 = .ok (.istore_n 3, 1) := by decide +kernel
theorem dX4_cohortSet_65 : decode cX4_cohortSet 65 = .ok (.iload_n 2, 1) := by decide +kernel
theorem dX4_cohortSet_66 : decode cX4_cohortSet 66 = .ok (.iload 5, 2) := by decide +kernel
theorem dX4_cohortSet_68 : decode cX4_cohortSet 68 = .ok (.ior, 1) := by decide +kernel
theorem dX4_cohortSet_69 : decode cX4_cohortSet 69 = .ok (.istore_n 2, 1) := by decide +kernel
theorem dX4_cohortSet_70 : decode cX4_cohortSet 70 = .ok (.iinc 4 1, 3) := by decide +kernel
theorem dX4_cohortSet_73 : decode cX4_cohortSet 73 = .ok (.goto (-66), 3) := by decide +kernel
theorem dX4_cohortSet_76 : decode cX4_cohortSet 76 = .ok (.iload_n 3, 1) := by decide +kernel
theorem dX4_cohortSet_77 : decode cX4_cohortSet 77 = .ok (.ireturn, 1) := by decide +kernel
set_option maxRecDepth 20000 in
theorem ggX4_sessionsBegunOn_X4_timelineOf : GoodIn wsX4_sessionsBegunOn wsX4_timelineOf := goodIn_r _ [6, 7, 8, 9, 10, 11, 12, 13, 14, 15, 16, 17, 18, 19, 20, 21, 22, 23, 24, 25, 26, 27, 28, 29, 30, 31, 32, 33, 34, 35, 36, 37, 38, 39, 40, 41, 42, 43, 44, 45, 46, 47, 48, 59, 60, 61, 62, 63, 64, 65, 66, 67, 68, 69, 70, 71, 72, 73, 74] (by decide +kernel) (by decide +kernel)
set_option maxRecDepth 20000 in
theorem gX4_sessionsBegunOn_X4_timelineOf : GoodIn wsX4_sessionsBegunOn (wsV RX4 104 RX4 yX4_timelineOf wsX4_timelineOf) := goodIn_app (goodIn_of _ (by decide +kernel)) ggX4_sessionsBegunOn_X4_timelineOf
set_option maxRecDepth 20000 in
theorem ggX4_sessionsBegunOn_X3_sessionsBegunOn : GoodIn wsX4_sessionsBegunOn wsX3_sessionsBegunOn := goodIn_r _ [52, 15, 48, 53, 5, 54, 55, 56, 57, 13, 58, 66, 67, 68, 69] (by decide +kernel) (by decide +kernel)
set_option maxRecDepth 20000 in
theorem gX4_sessionsBegunOn_X3_sessionsBegunOn : GoodIn wsX4_sessionsBegunOn (wsV RX4 209 RX3 yX3_sessionsBegunOn wsX3_sessionsBegunOn) := goodIn_app (goodIn_of _ (by decide +kernel)) ggX4_sessionsBegunOn_X3_sessionsBegunOn
theorem dX4_sessionsBegunOn_0 : decode cX4_sessionsBegunOn 0 = .ok (.iconst 0, 1) := by decide +kernel
theorem dX4_sessionsBegunOn_1 : decode cX4_sessionsBegunOn 1 = .ok (.istore_n 2, 1) := by decide +kernel
theorem dX4_sessionsBegunOn_2 : decode cX4_sessionsBegunOn 2 = .ok (.iconst 0, 1) := by decide +kernel
theorem dX4_sessionsBegunOn_3 : decode cX4_sessionsBegunOn 3 = .ok (.istore_n 3, 1) := by decide +kernel
theorem dX4_sessionsBegunOn_4 : decode cX4_sessionsBegunOn 4 = .ok (.iload_n 3, 1) := by decide +kernel
theorem dX4_sessionsBegunOn_5 : decode cX4_sessionsBegunOn 5 = .ok (.bipush 20, 2) := by decide +kernel
theorem dX4_sessionsBegunOn_7 : decode cX4_sessionsBegunOn 7 = .ok (.if_icmp .ge 25, 3) := by decide +kernel
theorem dX4_sessionsBegunOn_10 : decode cX4_sessionsBegunOn 10 = .ok (.iload_n 2, 1) := by decide +kernel
theorem dX4_sessionsBegunOn_11 : decode cX4_sessionsBegunOn 11 = .ok (.aload_n 0, 1) := by decide +kernel
theorem dX4_sessionsBegunOn_12 : decode cX4_sessionsBegunOn 12 = .ok (.iload_n 3, 1) := by decide +kernel
theorem dX4_sessionsBegunOn_13 : decode cX4_sessionsBegunOn 13 = .ok (.invokevirtual 104, 3) := by decide +kernel
theorem dX4_sessionsBegunOn_16 : decode cX4_sessionsBegunOn 16 = .ok (.iload_n 1, 1) := by decide +kernel
theorem dX4_sessionsBegunOn_17 : decode cX4_sessionsBegunOn 17 = .ok (.aload_n 0, 1) := by decide +kernel
theorem dX4_sessionsBegunOn_18 : decode cX4_sessionsBegunOn 18 = .ok (.getfield 44, 3) := by decide +kernel
theorem dX4_sessionsBegunOn_21 : decode cX4_sessionsBegunOn 21 = .ok (.invokevirtual 209, 3) := by decide +kernel
theorem dX4_sessionsBegunOn_24 : decode cX4_sessionsBegunOn 24 = .ok (.iadd, 1) := by decide +kernel
theorem dX4_sessionsBegunOn_25 : decode cX4_sessionsBegunOn 25 = .ok (.istore_n 2, 1) := by decide +kernel
theorem dX4_sessionsBegunOn_26 : decode cX4_sessionsBegunOn 26 = .ok (.iinc 3 1, 3) := by decide +kernel
theorem dX4_sessionsBegunOn_29 : decode cX4_sessionsBegunOn 29 = .ok (.goto (-25), 3) := by decide +kernel
theorem dX4_sessionsBegunOn_32 : decode cX4_sessionsBegunOn 32 = .ok (.iload_n 2, 1) := by decide +kernel
theorem dX4_sessionsBegunOn_33 : decode cX4_sessionsBegunOn 33 = .ok (.ireturn, 1) := by decide +kernel
set_option maxRecDepth 20000 in
theorem ggX4_scoreOf_X4_timelineOf : GoodIn wsX4_scoreOf wsX4_timelineOf := goodIn_r _ [7, 8, 9, 10, 11, 12, 13, 14, 15, 16, 17, 18, 19, 20, 21, 22, 23, 24, 25, 26, 27, 28, 29, 30, 31, 32, 33, 34, 35, 36, 37, 38, 39, 40, 41, 42, 43, 44, 45, 46, 47, 48, 49, 102, 103, 104, 105, 106, 107, 108, 109, 110, 111, 112, 113, 114, 115, 116, 117] (by decide +kernel) (by decide +kernel)
set_option maxRecDepth 20000 in
theorem gX4_scoreOf_X4_timelineOf : GoodIn wsX4_scoreOf (wsV RX4 104 RX4 yX4_timelineOf wsX4_timelineOf) := goodIn_app (goodIn_of _ (by decide +kernel)) ggX4_scoreOf_X4_timelineOf
set_option maxRecDepth 20000 in
theorem ggX4_scoreOf_X3_count : GoodIn wsX4_scoreOf wsX3_count := goodIn_r _ [53, 16, 109, 110, 111, 112] (by decide +kernel) (by decide +kernel)
set_option maxRecDepth 20000 in
theorem gX4_scoreOf_X3_count : GoodIn wsX4_scoreOf (wsV RX4 108 RX3 yX3_count wsX3_count) := goodIn_app (goodIn_of _ (by decide +kernel)) ggX4_scoreOf_X3_count
set_option maxRecDepth 20000 in
theorem ggX4_scoreOf_X3_sessionCount : GoodIn wsX4_scoreOf wsX3_sessionCount := goodIn_r _ [57, 16, 58, 59, 60, 14, 61, 49, 109, 110, 111, 112] (by decide +kernel) (by decide +kernel)
set_option maxRecDepth 20000 in
theorem gX4_scoreOf_X3_sessionCount : GoodIn wsX4_scoreOf (wsV RX4 116 RX3 yX3_sessionCount wsX3_sessionCount) := goodIn_app (goodIn_of _ (by decide +kernel)) ggX4_scoreOf_X3_sessionCount
set_option maxRecDepth 20000 in
theorem ggX4_scoreOf_X2_depthOf : GoodIn wsX4_scoreOf wsX2_depthOf := goodIn_r _ [66, 67, 68, 69, 70, 65, 71, 72, 73, 74, 75, 76, 77, 78, 51, 52, 14, 53, 16, 79, 80, 81, 82, 48, 83, 84, 85, 86, 49, 87, 88, 89, 90, 91, 92, 93, 94, 95, 96, 97, 98, 99, 100, 101, 118, 119, 120, 121, 122, 123, 109, 110, 111, 112] (by decide +kernel) (by decide +kernel)
set_option maxRecDepth 20000 in
theorem gX4_scoreOf_X2_depthOf : GoodIn wsX4_scoreOf (wsV RX4 140 RX2 yX2_depthOf wsX2_depthOf) := goodIn_app (goodIn_of _ (by decide +kernel)) ggX4_scoreOf_X2_depthOf
theorem dX4_scoreOf_0 : decode cX4_scoreOf 0 = .ok (.aload_n 0, 1) := by decide +kernel
theorem dX4_scoreOf_1 : decode cX4_scoreOf 1 = .ok (.iload_n 1, 1) := by decide +kernel
theorem dX4_scoreOf_2 : decode cX4_scoreOf 2 = .ok (.invokevirtual 104, 3) := by decide +kernel
theorem dX4_scoreOf_5 : decode cX4_scoreOf 5 = .ok (.astore_n 3, 1) := by decide +kernel
theorem dX4_scoreOf_6 : decode cX4_scoreOf 6 = .ok (.aload_n 3, 1) := by decide +kernel
theorem dX4_scoreOf_7 : decode cX4_scoreOf 7 = .ok (.invokevirtual 108, 3) := by decide +kernel
