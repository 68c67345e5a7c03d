theorem dX5_look_119 : decode cX5_look 119 = .ok (.putfield 71, 3) := by decide +kernel
theorem dX5_look_122 : decode cX5_look 122 = .ok (.iinc 2 1, 3) := by decide +kernel
theorem dX5_look_125 : decode cX5_look 125 = .ok (.goto (-113), 3) := by decide +kernel
theorem dX5_look_128 : decode cX5_look 128 = .ok (.aload_n 0, 1) := by decide +kernel
theorem dX5_look_129 : decode cX5_look 129 = .ok (.getfield 47, 3) := by decide +kernel
theorem dX5_look_132 : decode cX5_look 132 = .ok (.aload_n 0, 1) := by decide +kernel
theorem dX5_look_133 : decode cX5_look 133 = .ok (.getfield 74, 3) := by decide +kernel
theorem dX5_look_136 : decode cX5_look 136 = .ok (.aload_n 0, 1) := by decide +kernel
theorem dX5_look_137 : decode cX5_look 137 = .ok (.getfield 71, 3) := by decide +kernel
theorem dX5_look_140 : decode cX5_look 140 = .ok (.iastore, 1) := by decide +kernel
theorem dX5_look_141 : decode cX5_look 141 = .ok (.return_, 1) := by decide +kernel
set_option maxRecDepth 20000 in
theorem ggX5_users_X5_look : GoodIn wsX5_users wsX5_look := goodIn_r _ [7, 2, 8, 9, 10, 11, 12, 13, 14, 15, 16, 17, 18, 19, 20, 21, 22, 23, 24, 25, 26, 27, 28, 29, 30, 31, 32, 33, 34, 35] (by decide +kernel) (by decide +kernel)
set_option maxRecDepth 20000 in
theorem gX5_users_X5_look : GoodIn wsX5_users (wsV RX5 77 RX5 yX5_look wsX5_look) := goodIn_app (goodIn_of _ (by decide +kernel)) ggX5_users_X5_look
theorem dX5_users_0 : decode cX5_users 0 = .ok (.aload_n 0, 1) := by decide +kernel
theorem dX5_users_1 : decode cX5_users 1 = .ok (.iconst 0, 1) := by decide +kernel
theorem dX5_users_2 : decode cX5_users 2 = .ok (.putfield 50, 3) := by decide +kernel
theorem dX5_users_5 : decode cX5_users 5 = .ok (.iconst 0, 1) := by decide +kernel
theorem dX5_users_6 : decode cX5_users 6 = .ok (.istore_n 1, 1) := by decide +kernel
theorem dX5_users_7 : decode cX5_users 7 = .ok (.iconst 0, 1) := by decide +kernel
theorem dX5_users_8 : decode cX5_users 8 = .ok (.istore_n 2, 1) := by decide +kernel
theorem dX5_users_9 : decode cX5_users 9 = .ok (.iload_n 2, 1) := by decide +kernel
theorem dX5_users_10 : decode cX5_users 10 = .ok (.bipush 20, 2) := by decide +kernel
theorem dX5_users_12 : decode cX5_users 12 = .ok (.if_icmp .ge 29, 3) := by decide +kernel
theorem dX5_users_15 : decode cX5_users 15 = .ok (.aload_n 0, 1) := by decide +kernel
theorem dX5_users_16 : decode cX5_users 16 = .ok (.iload_n 2, 1) := by decide +kernel
theorem dX5_users_17 : decode cX5_users 17 = .ok (.invokevirtual 77, 3) := by decide +kernel
theorem dX5_users_20 : decode cX5_users 20 = .ok (.iload_n 1, 1) := by decide +kernel
theorem dX5_users_21 : decode cX5_users 21 = .ok (.aload_n 0, 1) := by decide +kernel
theorem dX5_users_22 : decode cX5_users 22 = .ok (.getfield 71, 3) := by decide +kernel
theorem dX5_users_25 : decode cX5_users 25 = .ok (.ifCond .le 7, 3) := by decide +kernel
theorem dX5_users_28 : decode cX5_users 28 = .ok (.iconst 1, 1) := by decide +kernel
theorem dX5_users_29 : decode cX5_users 29 = .ok (.goto 4, 3) := by decide +kernel
theorem dX5_users_32 : decode cX5_users 32 = .ok (.iconst 0, 1) := by decide +kernel
theorem dX5_users_33 : decode cX5_users 33 = .ok (.iadd, 1) := by decide +kernel
theorem dX5_users_34 : decode cX5_users 34 = .ok (.istore_n 1, 1) := by decide +kernel
theorem dX5_users_35 : decode cX5_users 35 = .ok (.iinc 2 1, 3) := by decide +kernel
theorem dX5_users_38 : decode cX5_users 38 = .ok (.goto (-29), 3) := by decide +kernel
theorem dX5_users_41 : decode cX5_users 41 = .ok (.iload_n 1, 1) := by decide +kernel
theorem dX5_users_42 : decode cX5_users 42 = .ok (.ireturn, 1) := by decide +kernel
theorem dX5_events_0 : decode cX5_events 0 = .ok (.aload_n 0, 1) := by decide +kernel
theorem dX5_events_1 : decode cX5_events 1 = .ok (.iconst 0, 1) := by decide +kernel
theorem dX5_events_2 : decode cX5_events 2 = .ok (.putfield 50, 3) := by decide +kernel
theorem dX5_events_5 : decode cX5_events 5 = .ok (.aload_n 0, 1) := by decide +kernel
theorem dX5_events_6 : decode cX5_events 6 = .ok (.getfield 60, 3) := by decide +kernel
theorem dX5_events_9 : decode cX5_events 9 = .ok (.ireturn, 1) := by decide +kernel
set_option maxRecDepth 20000 in
theorem ggX5_eventsOf_X5_isId : GoodIn wsX5_eventsOf wsX5_isId := goodIn_r _ [6] (by decide +kernel) (by decide +kernel)
set_option maxRecDepth 20000 in
theorem gX5_eventsOf_X5_isId : GoodIn wsX5_eventsOf (va_wsS RX5 53 yX5_isId wsX5_isId) := goodIn_app (goodIn_of _ (by decide +kernel)) ggX5_eventsOf_X5_isId
set_option maxRecDepth 20000 in
theorem ggX5_eventsOf_X5_may : GoodIn wsX5_eventsOf wsX5_may := goodIn_r _ [10, 11, 24, 25, 26, 27, 28, 29, 30, 31, 32, 33, 34, 35, 36, 37, 38, 39, 40, 41, 42] (by decide +kernel) (by decide +kernel)
set_option maxRecDepth 20000 in
theorem gX5_eventsOf_X5_may : GoodIn wsX5_eventsOf (wsV RX5 67 RX5 yX5_may wsX5_may) := goodIn_app (goodIn_of _ (by decide +kernel)) ggX5_eventsOf_X5_may
set_option maxRecDepth 20000 in
theorem ggX5_eventsOf_X5_look : GoodIn wsX5_eventsOf wsX5_look := goodIn_r _ [15, 2, 16, 17, 18, 1, 19, 20, 21, 22, 23, 24, 25, 26, 27, 28, 29, 30, 31, 32, 33, 34, 35, 36, 37, 38, 39, 40, 41, 42] (by decide +kernel) (by decide +kernel)
set_option maxRecDepth 20000 in
theorem gX5_eventsOf_X5_look : GoodIn wsX5_eventsOf (wsV RX5 77 RX5 yX5_look wsX5_look) := goodIn_app (goodIn_of _ (by decide +kernel)) ggX5_eventsOf_X5_look
theorem dX5_eventsOf_0 : decode cX5_eventsOf 0 = .ok (.aload_n 0, 1) := by decide +kernel
theorem dX5_eventsOf_1 : decode cX5_eventsOf 1 = .ok (.iload_n 1, 1) := by decide +kernel
theorem dX5_eventsOf_2 : decode cX5_eventsOf 2 = .ok (.invokestatic 53, 3) := by decide +kernel
theorem dX5_eventsOf_5 : decode cX5_eventsOf 5 = .ok (.invokevirtual 67, 3) := by decide +kernel
theorem dX5_eventsOf_8 : decode cX5_eventsOf 8 = .ok (.ifCond .ne 5, 3) := by decide +kernel
theorem dX5_eventsOf_11 : decode cX5_eventsOf 11 = .ok (.iconst 0, 1) := by decide +kernel
theorem dX5_eventsOf_12 : decode cX5_eventsOf 12 = .ok (.ireturn, 1) := by decide +kernel
theorem dX5_eventsOf_13 : decode cX5_eventsOf 13 = .ok (.aload_n 0, 1) := by decide +kernel
theorem dX5_eventsOf_14 : decode cX5_eventsOf 14 = .ok (.aload_n 0, 1) := by decide +kernel
theorem dX5_eventsOf_15 : decode cX5_eventsOf 15 = .ok (.getfield 7, 3) := by decide +kernel
theorem dX5_eventsOf_18 : decode cX5_eventsOf 18 = .ok (.iload_n 1, 1) := by decide +kernel
theorem dX5_eventsOf_19 : decode cX5_eventsOf 19 = .ok (.iaload, 1) := by decide +kernel
theorem dX5_eventsOf_20 : decode cX5_eventsOf 20 = .ok (.invokevirtual 77, 3) := by decide +kernel
theorem dX5_eventsOf_23 : decode cX5_eventsOf 23 = .ok (.aload_n 0, 1) := by decide +kernel
theorem dX5_eventsOf_24 : decode cX5_eventsOf 24 = .ok (.getfield 71, 3) := by decide +kernel
theorem dX5_eventsOf_27 : decode cX5_eventsOf 27 = .ok (.ireturn, 1) := by decide +kernel
set_option maxRecDepth 20000 in
theorem ggX5_eventAt_X5_isId : GoodIn wsX5_eventAt wsX5_isId := goodIn_r _ [7] (by decide +kernel) (by decide +kernel)
set_option maxRecDepth 20000 in
theorem gX5_eventAt_X5_isId : GoodIn wsX5_eventAt (va_wsS RX5 53 yX5_isId wsX5_isId) := goodIn_app (goodIn_of _ (by decide +kernel)) ggX5_eventAt_X5_isId
set_option maxRecDepth 20000 in
theorem ggX5_eventAt_X5_look : GoodIn wsX5_eventAt wsX5_look := goodIn_r _ [11, 2, 12, 13, 14, 1, 15, 16, 3, 17, 18, 24, 25, 26, 27, 28, 29, 30, 31, 32, 33, 34, 35, 36, 37, 38, 39, 40, 41, 42] (by decide +kernel) (by decide +kernel)
set_option maxRecDepth 20000 in
theorem gX5_eventAt_X5_look : GoodIn wsX5_eventAt (wsV RX5 77 RX5 yX5_look wsX5_look) := goodIn_app (goodIn_of _ (by decide +kernel)) ggX5_eventAt_X5_look
set_option maxRecDepth 20000 in
theorem ggX5_eventAt_X5_mayBoth : GoodIn wsX5_eventAt wsX5_mayBoth := goodIn_r _ [22, 23, 24, 25, 26, 27, 28, 29, 30, 31, 32, 33, 34, 35, 36, 37, 38, 39, 40, 41, 42] (by decide +kernel) (by decide +kernel)
set_option maxRecDepth 20000 in
theorem gX5_eventAt_X5_mayBoth : GoodIn wsX5_eventAt (wsV RX5 63 RX5 yX5_mayBoth wsX5_mayBoth) := goodIn_app (goodIn_of _ (by decide +kernel)) ggX5_eventAt_X5_mayBoth
theorem dX5_eventAt_0 : decode cX5_eventAt 0 = .ok (.iload_n 1, 1) := by decide +kernel
theorem dX5_eventAt_1 : decode cX5_eventAt 1 = .ok (.invokestatic 53, 3) := by decide +kernel
theorem dX5_eventAt_4 : decode cX5_eventAt 4 = .ok (.istore_n 3, 1) := by decide +kernel
theorem dX5_eventAt_5 : decode cX5_eventAt 5 = .ok (.iload_n 3, 1) := by decide +kernel
theorem dX5_eventAt_6 : decode cX5_eventAt 6 = .ok (.ifCond .eq 13, 3) := by decide +kernel
theorem dX5_eventAt_9 : decode cX5_eventAt 9 = .ok (.aload_n 0, 1) := by decide +kernel
theorem dX5_eventAt_10 : decode cX5_eventAt 10 = .ok (.aload_n 0, 1) := by decide +kernel
theorem dX5_eventAt_11 : decode cX5_eventAt 11 = .ok (.getfield 7, 3) := by decide +kernel
theorem dX5_eventAt_14 : decode cX5_eventAt 14 = .ok (.iload_n 1, 1) := by decide +kernel
theorem dX5_eventAt_15 : decode cX5_eventAt 15 = .ok (.iaload, 1) := by decide +kernel
theorem dX5_eventAt_16 : decode cX5_eventAt 16 = .ok (.invokevirtual 77, 3) := by decide +kernel
theorem dX5_eventAt_19 : decode cX5_eventAt 19 = .ok (.aload_n 0, 1) := by decide +kernel
theorem dX5_eventAt_20 : decode cX5_eventAt 20 = .ok (.iload_n 3, 1) := by decide +kernel
theorem dX5_eventAt_21 : decode cX5_eventAt 21 = .ok (.iload_n 2, 1) := by decide +kernel
theorem dX5_eventAt_22 : decode cX5_eventAt 22 = .ok (.ifCond .lt 15, 3) := by decide +kernel
theorem dX5_eventAt_25 : decode cX5_eventAt 25 = .ok (.iload_n 2, 1) := by decide +kernel
theorem dX5_eventAt_26 : decode cX5_eventAt 26 = .ok (.aload_n 0, 1) := by decide +kernel
theorem dX5_eventAt_27 : decode cX5_eventAt 27 = .ok (.getfield 71, 3) := by decide +kernel
theorem dX5_eventAt_30 : decode cX5_eventAt 30 = .ok (.if_icmp .ge 7, 3) := by decide +kernel
theorem dX5_eventAt_33 : decode cX5_eventAt 33 = .ok (.iconst 1, 1) := by decide +kernel
theorem dX5_eventAt_34 : decode cX5_eventAt 34 = .ok (.goto 4, 3) := by decide +kernel
theorem dX5_eventAt_37 : decode cX5_eventAt 37 = .ok (.iconst 0, 1) := by decide +kernel
theorem dX5_eventAt_38 : decode cX5_eventAt 38 = .ok (.invokevirtual 63, 3) := by decide +kernel
theorem dX5_eventAt_41 : decode cX5_eventAt 41 = .ok (.ifCond .eq 12, 3) := by decide +kernel
theorem dX5_eventAt_44 : decode cX5_eventAt 44 = .ok (.aload_n 0, 1) := by decide +kernel
theorem dX5_eventAt_45 : decode cX5_eventAt 45 = .ok (.getfield 44, 3) := by decide +kernel
theorem dX5_eventAt_48 : decode cX5_eventAt 48 = .ok (.iload_n 2, 1) := by decide +kernel
theorem dX5_eventAt_49 : decode cX5_eventAt 49 = .ok (.iaload, 1) := by decide +kernel
theorem dX5_eventAt_50 : decode cX5_eventAt 50 = .ok (.goto 4, 3) := by decide +kernel
theorem dX5_eventAt_53 : decode cX5_eventAt 53 = .ok (.iconst 0, 1) := by decide +kernel
theorem dX5_eventAt_54 : decode cX5_eventAt 54 = .ok (.ireturn, 1) := by decide +kernel
set_option maxRecDepth 20000 in
theorem ggX5_gap_X5_may : GoodIn wsX5_gap wsX5_may := goodIn_r _ [6, 7, 8, 9, 10, 11, 12, 13, 14, 15, 16, 17, 18, 19, 20, 21, 22, 23, 24, 25, 26] (by decide +kernel) (by decide +kernel)
set_option maxRecDepth 20000 in
theorem gX5_gap_X5_may : GoodIn wsX5_gap (wsV RX5 67 RX5 yX5_may wsX5_may) := goodIn_app (goodIn_of _ (by decide +kernel)) ggX5_gap_X5_may
theorem dX5_gap_0 : decode cX5_gap 0 = .ok (.aload_n 0, 1) := by decide +kernel
theorem dX5_gap_1 : decode cX5_gap 1 = .ok (.iload_n 1, 1) := by decide +kernel
theorem dX5_gap_2 : decode cX5_gap 2 = .ok (.iconst 1, 1) := by decide +kernel
theorem dX5_gap_3 : decode cX5_gap 3 = .ok (.if_icmp .lt 14, 3) := by decide +kernel
theorem dX5_gap_6 : decode cX5_gap 6 = .ok (.iload_n 1, 1) := by decide +kernel
theorem dX5_gap_7 : decode cX5_gap 7 = .ok (.sipush 500, 3) := by decide +kernel
theorem dX5_gap_10 : decode cX5_gap 10 = .ok (.if_icmp .gt 7, 3) := by decide +kernel
theorem dX5_gap_13 : decode cX5_gap 13 = .ok (.iconst 1, 1) := by decide +kernel
theorem dX5_gap_14 : decode cX5_gap 14 = .ok (.goto 4, 3) := by decide +kernel
theorem dX5_gap_17 : decode cX5_gap 17 = .ok (.iconst 0, 1) := by decide +kernel
theorem dX5_gap_18 : decode cX5_gap 18 = .ok (.invokevirtual 67, 3) := by decide +kernel
theorem dX5_gap_21 : decode cX5_gap 21 = .ok (.ifCond .ne 5, 3) := by decide +kernel
theorem dX5_gap_24 : decode cX5_gap 24 = .ok (.iconst 0, 1) := by decide +kernel
theorem dX5_gap_25 : decode cX5_gap 25 = .ok (.ireturn, 1) := by decide +kernel
theorem dX5_gap_26 : decode cX5_gap 26 = .ok (.aload_n 0, 1) := by decide +kernel
theorem dX5_gap_27 : decode cX5_gap 27 = .ok (.getfield 25, 3) := by decide +kernel
theorem dX5_gap_30 : decode cX5_gap 30 = .ok (.istore_n 2, 1) := by decide +kernel
theorem dX5_gap_31 : decode cX5_gap 31 = .ok (.aload_n 0, 1) := by decide +kernel
theorem dX5_gap_32 : decode cX5_gap 32 = .ok (.iload_n 1, 1) := by decide +kernel
theorem dX5_gap_33 : decode cX5_gap 33 = .ok (.putfield 25, 3) := by decide +kernel
theorem dX5_gap_36 : decode cX5_gap 36 = .ok (.iload_n 2, 1) := by decide +kernel
theorem dX5_gap_37 : decode cX5_gap 37 = .ok (.ireturn, 1) := by decide +kernel
set_option maxRecDepth 20000 in
theorem ggX5_sessions_X5_isId : GoodIn wsX5_sessions wsX5_isId := goodIn_r _ [6] (by decide +kernel) (by decide +kernel)
set_option maxRecDepth 20000 in
theorem gX5_sessions_X5_isId : GoodIn wsX5_sessions (va_wsS RX5 53 yX5_isId wsX5_isId) := goodIn_app (goodIn_of _ (by decide +kernel)) ggX5_sessions_X5_isId
set_option maxRecDepth 20000 in
theorem ggX5_sessions_X5_may : GoodIn wsX5_sessions wsX5_may := goodIn_r _ [10, 11, 24, 25, 26, 27, 28, 29, 30, 31, 32, 33, 34, 35, 36, 37, 38, 39, 40, 41, 42] (by decide +kernel) (by decide +kernel)
set_option maxRecDepth 20000 in
theorem gX5_sessions_X5_may : GoodIn wsX5_sessions (wsV RX5 67 RX5 yX5_may wsX5_may) := goodIn_app (goodIn_of _ (by decide +kernel)) ggX5_sessions_X5_may
set_option maxRecDepth 20000 in
theorem ggX5_sessions_X5_look : GoodIn wsX5_sessions wsX5_look := goodIn_r _ [15, 16, 2, 17, 18, 1, 19, 20, 21, 22, 23, 24, 25, 26, 27, 28, 29, 30, 31, 32, 33, 34, 35, 36, 37, 38, 39, 40, 41, 42] (by decide +kernel) (by decide +kernel)
set_option maxRecDepth 20000 in
theorem gX5_sessions_X5_look : GoodIn wsX5_sessions (wsV RX5 77 RX5 yX5_look wsX5_look) := goodIn_app (goodIn_of _ (by decide +kernel)) ggX5_sessions_X5_look
theorem dX5_sessions_0 : decode cX5_sessions 0 = .ok (.aload_n 0, 1) := by decide +kernel
theorem dX5_sessions_1 : decode cX5_sessions 1 = .ok (.iload_n 1, 1) := by decide +kernel
theorem dX5_sessions_2 : decode cX5_sessions 2 = .ok (.invokestatic 53, 3) := by decide +kernel
theorem dX5_sessions_5 : decode cX5_sessions 5 = .ok (.invokevirtual 67, 3) := by decide +kernel
theorem dX5_sessions_8 : decode cX5_sessions 8 = .ok (.ifCond .ne 5, 3) := by decide +kernel
theorem dX5_sessions_11 : decode cX5_sessions 11 = .ok (.iconst 0, 1) := by decide +kernel
theorem dX5_sessions_12 : decode cX5_sessions 12 = .ok (.ireturn, 1) := by decide +kernel
theorem dX5_sessions_13 : decode cX5_sessions 13 = .ok (.aload_n 0, 1) := by decide +kernel
theorem dX5_sessions_14 : decode cX5_sessions 14 = .ok (.aload_n 0, 1) := by decide +kernel
theorem dX5_sessions_15 : decode cX5_sessions 15 = .ok (.getfield 7, 3) := by decide +kernel
theorem dX5_sessions_18 : decode cX5_sessions 18 = .ok (.iload_n 1, 1) := by decide +kernel
theorem dX5_sessions_19 : decode cX5_sessions 19 = .ok (.iaload, 1) := by decide +kernel
theorem dX5_sessions_20 : decode cX5_sessions 20 = .ok (.invokevirtual 77, 3) := by decide +kernel
theorem dX5_sessions_23 : decode cX5_sessions 23 = .ok (.aload_n 0, 1) := by decide +kernel
theorem dX5_sessions_24 : decode cX5_sessions 24 = .ok (.getfield 74, 3) := by decide +kernel
theorem dX5_sessions_27 : decode cX5_sessions 27 = .ok (.ireturn, 1) := by decide +kernel
set_option maxRecDepth 20000 in
theorem ggX5_has_X5_isId : GoodIn wsX5_has wsX5_isId := goodIn_r _ [6] (by decide +kernel) (by decide +kernel)
set_option maxRecDepth 20000 in
theorem gX5_has_X5_isId : GoodIn wsX5_has (va_wsS RX5 53 yX5_isId wsX5_isId) := goodIn_app (goodIn_of _ (by decide +kernel)) ggX5_has_X5_isId
set_option maxRecDepth 20000 in
theorem ggX5_has_X5_look : GoodIn wsX5_has wsX5_look := goodIn_r _ [10, 11, 2, 12, 13, 1, 14, 15, 16, 17, 18, 24, 25, 26, 27, 28, 29, 30, 31, 32, 33, 34, 35, 36, 37, 38, 39, 40, 41, 42] (by decide +kernel) (by decide +kernel)
set_option maxRecDepth 20000 in
theorem gX5_has_X5_look : GoodIn wsX5_has (wsV RX5 77 RX5 yX5_look wsX5_look) := goodIn_app (goodIn_of _ (by decide +kernel)) ggX5_has_X5_look
set_option maxRecDepth 20000 in
theorem ggX5_has_X5_mayBoth : GoodIn wsX5_has wsX5_mayBoth := goodIn_r _ [22, 23, 24, 25, 26, 27, 28, 29, 30, 31, 32, 33, 34, 35, 36, 37, 38, 39, 40, 41, 42] (by decide +kernel) (by decide +kernel)
set_option maxRecDepth 20000 in
theorem gX5_has_X5_mayBoth : GoodIn wsX5_has (wsV RX5 63 RX5 yX5_mayBoth wsX5_mayBoth) := goodIn_app (goodIn_of _ (by decide +kernel)) ggX5_has_X5_mayBoth
theorem dX5_has_0 : decode cX5_has 0 = .ok (.iload_n 1, 1) := by decide +kernel
theorem dX5_has_1 : decode cX5_has 1 = .ok (.invokestatic 53, 3) := by decide +kernel
theorem dX5_has_4 : decode cX5_has 4 = .ok (.istore_n 3, 1) := by decide +kernel
theorem dX5_has_5 : decode cX5_has 5 = .ok (.iload_n 3, 1) := by decide +kernel
theorem dX5_has_6 : decode cX5_has 6 = .ok (.ifCond .eq 13, 3) := by decide +kernel
theorem dX5_has_9 : decode cX5_has 9 = .ok (.aload_n 0, 1) := by decide +kernel
theorem dX5_has_10 : decode cX5_has 10 = .ok (.aload_n 0, 1) := by decide +kernel
theorem dX5_has_11 : decode cX5_has 11 = .ok (.getfield 7, 3) := by decide +kernel
theorem dX5_has_14 : decode cX5_has 14 = .ok (.iload_n 1, 1) := by decide +kernel
theorem dX5_has_15 : decode cX5_has 15 = .ok (.iaload, 1) := by decide +kernel
theorem dX5_has_16 : decode cX5_has 16 = .ok (.invokevirtual 77, 3) := by decide +kernel
theorem dX5_has_19 : decode cX5_has 19 = .ok (.aload_n 0, 1) := by decide +kernel
theorem dX5_has_20 : decode cX5_has 20 = .ok (.iload_n 3, 1) := by decide +kernel
theorem dX5_has_21 : decode cX5_has 21 = .ok (.iload_n 2, 1) := by decide +kernel
theorem dX5_has_22 : decode cX5_has 22 = .ok (.ifCond .lt 15, 3) := by decide +kernel
theorem dX5_has_25 : decode cX5_has 25 = .ok (.iload_n 2, 1) := by decide +kernel
theorem dX5_has_26 : decode cX5_has 26 = .ok (.aload_n 0, 1) := by decide +kernel
theorem dX5_has_27 : decode cX5_has 27 = .ok (.getfield 74, 3) := by decide +kernel
theorem dX5_has_30 : decode cX5_has 30 = .ok (.if_icmp .ge 7, 3) := by decide +kernel
theorem dX5_has_33 : decode cX5_has 33 = .ok (.iconst 1, 1) := by decide +kernel
theorem dX5_has_34 : decode cX5_has 34 = .ok (.goto 4, 3) := by decide +kernel
theorem dX5_has_37 : decode cX5_has 37 = .ok (.iconst 0, 1) := by decide +kernel
theorem dX5_has_38 : decode cX5_has 38 = .ok (.invokevirtual 63, 3) := by decide +kernel
theorem dX5_has_41 : decode cX5_has 41 = .ok (.ireturn, 1) := by decide +kernel
set_option maxRecDepth 20000 in
theorem ggX5_sessionEvents_X5_has : GoodIn wsX5_sessionEvents wsX5_has := goodIn_r _ [6, 7, 8, 9, 10, 5, 11, 12, 13, 14, 15, 16, 17, 18, 19, 20, 21, 22, 1, 23, 24, 25, 26, 27, 28, 29, 30, 31, 32, 33, 34, 35, 36, 37, 38, 39, 40, 41, 42, 43, 44, 45, 46] (by decide +kernel) (by decide +kernel)
set_option maxRecDepth 20000 in
theorem gX5_sessionEvents_X5_has : GoodIn wsX5_sessionEvents (wsV RX5 81 RX5 yX5_has wsX5_has) := goodIn_app (goodIn_of _ (by decide +kernel)) ggX5_sessionEvents_X5_has
theorem dX5_sessionEvents_0 : decode cX5_sessionEvents 0 = .ok (.aload_n 0, 1) := by decide +kernel
theorem dX5_sessionEvents_1 : decode cX5_sessionEvents 1 = .ok (.iload_n 1, 1) := by decide +kernel
theorem dX5_sessionEvents_2 : decode cX5_sessionEvents 2 = .ok (.iload_n 2, 1) := by decide +kernel
theorem dX5_sessionEvents_3 : decode cX5_sessionEvents 3 = .ok (.invokevirtual 81, 3) := by decide +kernel
theorem dX5_sessionEvents_6 : decode cX5_sessionEvents 6 = .ok (.ifCond .eq 21, 3) := by decide +kernel
theorem dX5_sessionEvents_9 : decode cX5_sessionEvents 9 = .ok (.aload_n 0, 1) := by decide +kernel
theorem dX5_sessionEvents_10 : decode cX5_sessionEvents 10 = .ok (.getfield 47, 3) := by decide +kernel
theorem dX5_sessionEvents_13 : decode cX5_sessionEvents 13 = .ok (.iload_n 2, 1) := by decide +kernel
theorem dX5_sessionEvents_14 : decode cX5_sessionEvents 14 = .ok (.iconst 1, 1) := by decide +kernel
theorem dX5_sessionEvents_15 : decode cX5_sessionEvents 15 = .ok (.iadd, 1) := by decide +kernel
theorem dX5_sessionEvents_16 : decode cX5_sessionEvents 16 = .ok (.iaload, 1) := by decide +kernel
theorem dX5_sessionEvents_17 : decode cX5_sessionEvents 17 = .ok (.aload_n 0, 1) := by decide +kernel
theorem dX5_sessionEvents_18 : decode cX5_sessionEvents 18 = .ok (.getfield 47, 3) := by decide +kernel
theorem dX5_sessionEvents_21 : decode cX5_sessionEvents 21 = .ok (.iload_n 2, 1) := by decide +kernel
theorem dX5_sessionEvents_22 : decode cX5_sessionEvents 22 = .ok (.iaload, 1) := by decide +kernel
theorem dX5_sessionEvents_23 : decode cX5_sessionEvents 23 = .ok (.isub, 1) := by decide +kernel
theorem dX5_sessionEvents_24 : decode cX5_sessionEvents 24 = .ok (.goto 4, 3) := by decide +kernel
theorem dX5_sessionEvents_27 : decode cX5_sessionEvents 27 = .ok (.iconst 0, 1) := by decide +kernel
theorem dX5_sessionEvents_28 : decode cX5_sessionEvents 28 = .ok (.ireturn, 1) := by decide +kernel
set_option maxRecDepth 20000 in
theorem ggX5_sessionStart_X5_has : GoodIn wsX5_sessionStart wsX5_has := goodIn_r _ [8, 9, 10, 11, 12, 7, 13, 14, 15, 16, 17, 18, 19, 20, 21, 1, 2, 22, 3, 23, 24, 25, 26, 27, 28, 29, 30, 31, 32, 33, 34, 35, 36, 37, 38, 39, 40, 41, 42, 43, 44, 45, 46] (by decide +kernel) (by decide +kernel)
set_option maxRecDepth 20000 in
theorem gX5_sessionStart_X5_has : GoodIn wsX5_sessionStart (wsV RX5 81 RX5 yX5_has wsX5_has) := goodIn_app (goodIn_of _ (by decide +kernel)) ggX5_sessionStart_X5_has
theorem dX5_sessionStart_0 : decode cX5_sessionStart 0 = .ok (.aload_n 0, 1) := by decide +kernel
theorem dX5_sessionStart_1 : decode cX5_sessionStart 1 = .ok (.iload_n 1, 1) := by decide +kernel
theorem dX5_sessionStart_2 : decode cX5_sessionStart 2 = .ok (.iload_n 2, 1) := by decide +kernel
theorem dX5_sessionStart_3 : decode cX5_sessionStart 3 = .ok (.invokevirtual 81, 3) := by decide +kernel
theorem dX5_sessionStart_6 : decode cX5_sessionStart 6 = .ok (.ifCond .eq 22, 3) := by decide +kernel
theorem dX5_sessionStart_9 : decode cX5_sessionStart 9 = .ok (.aload_n 0, 1) := by decide +kernel
theorem dX5_sessionStart_10 : decode cX5_sessionStart 10 = .ok (.getfield 19, 3) := by decide +kernel
theorem dX5_sessionStart_13 : decode cX5_sessionStart 13 = .ok (.aload_n 0, 1) := by decide +kernel
theorem dX5_sessionStart_14 : decode cX5_sessionStart 14 = .ok (.getfield 44, 3) := by decide +kernel
theorem dX5_sessionStart_17 : decode cX5_sessionStart 17 = .ok (.aload_n 0, 1) := by decide +kernel
theorem dX5_sessionStart_18 : decode cX5_sessionStart 18 = .ok (.getfield 47, 3) := by decide +kernel
theorem dX5_sessionStart_21 : decode cX5_sessionStart 21 = .ok (.iload_n 2, 1) := by decide +kernel
theorem dX5_sessionStart_22 : decode cX5_sessionStart 22 = .ok (.iaload, 1) := by decide +kernel
theorem dX5_sessionStart_23 : decode cX5_sessionStart 23 = .ok (.iaload, 1) := by decide +kernel
theorem dX5_sessionStart_24 : decode cX5_sessionStart 24 = .ok (.iaload, 1) := by decide +kernel
theorem dX5_sessionStart_25 : decode cX5_sessionStart 25 = .ok (.goto 4, 3) := by decide +kernel
theorem dX5_sessionStart_28 : decode cX5_sessionStart 28 = .ok (.iconst 0, 1) := by decide +kernel
theorem dX5_sessionStart_29 : decode cX5_sessionStart 29 = .ok (.ireturn, 1) := by decide +kernel
set_option maxRecDepth 20000 in
theorem ggX5_sessionLength_X5_has : GoodIn wsX5_sessionLength wsX5_has := goodIn_r _ [8, 9, 10, 11, 12, 7, 13, 14, 15, 16, 17, 18, 19, 20, 21, 1, 2, 22, 3, 23, 24, 25, 26, 27, 28, 29, 30, 31, 32, 33, 34, 35, 36, 37, 38, 39, 40, 41, 42, 43, 44, 45, 46] (by decide +kernel) (by decide +kernel)
set_option maxRecDepth 20000 in
theorem gX5_sessionLength_X5_has : GoodIn wsX5_sessionLength (wsV RX5 81 RX5 yX5_has wsX5_has) := goodIn_app (goodIn_of _ (by decide +kernel)) ggX5_sessionLength_X5_has
theorem dX5_sessionLength_0 : decode cX5_sessionLength 0 = .ok (.aload_n 0, 1) := by decide +kernel
theorem dX5_sessionLength_1 : decode cX5_sessionLength 1 = .ok (.iload_n 1, 1) := by decide +kernel
theorem dX5_sessionLength_2 : decode cX5_sessionLength 2 = .ok (.iload_n 2, 1) := by decide +kernel
theorem dX5_sessionLength_3 : decode cX5_sessionLength 3 = .ok (.invokevirtual 81, 3) := by decide +kernel
theorem dX5_sessionLength_6 : decode cX5_sessionLength 6 = .ok (.ifCond .eq 43, 3) := by decide +kernel
theorem dX5_sessionLength_9 : decode cX5_sessionLength 9 = .ok (.aload_n 0, 1) := by decide +kernel
theorem dX5_sessionLength_10 : decode cX5_sessionLength 10 = .ok (.getfield 19, 3) := by decide +kernel
theorem dX5_sessionLength_13 : decode cX5_sessionLength 13 = .ok (.aload_n 0, 1) := by decide +kernel
theorem dX5_sessionLength_14 : decode cX5_sessionLength 14 = .ok (.getfield 44, 3) := by decide +kernel
theorem dX5_sessionLength_17 : decode cX5_sessionLength 17 = .ok (.aload_n 0, 1) := by decide +kernel
theorem dX5_sessionLength_18 : decode cX5_sessionLength 18 = .ok (.getfield 47, 3) := by decide +kernel
theorem dX5_sessionLength_21 : decode cX5_sessionLength 21 = .ok (.iload_n 2, 1) := by decide +kernel
theorem dX5_sessionLength_22 : decode cX5_sessionLength 22 = .ok (.iconst 1, 1) := by decide +kernel
theorem dX5_sessionLength_23 : decode cX5_sessionLength 23 = .ok (.iadd, 1) := by decide +kernel
theorem dX5_sessionLength_24 : decode cX5_sessionLength 24 = .ok (.iaload, 1) := by decide +kernel
theorem dX5_sessionLength_25 : decode cX5_sessionLength 25 = .ok (.iconst 1, 1) := by decide +kernel
theorem dX5_sessionLength_26 : decode cX5_sessionLength 26 = .ok (.isub, 1) := by decide +kernel
theorem dX5_sessionLength_27 : decode cX5_sessionLength 27 = .ok (.iaload, 1) := by decide +kernel
theorem dX5_sessionLength_28 : decode cX5_sessionLength 28 = .ok (.iaload, 1) := by decide +kernel
theorem dX5_sessionLength_29 : decode cX5_sessionLength 29 = .ok (.aload_n 0, 1) := by decide +kernel
theorem dX5_sessionLength_30 : decode cX5_sessionLength 30 = .ok (.getfield 19, 3) := by decide +kernel
theorem dX5_sessionLength_33 : decode cX5_sessionLength 33 = .ok (.aload_n 0, 1) := by decide +kernel
theorem dX5_sessionLength_34 : decode cX5_sessionLength 34 = .ok (.getfield 44, 3) := by decide +kernel
theorem dX5_sessionLength_37 : decode cX5_sessionLength 37 = .ok (.aload_n 0, 1) := by decide +kernel
theorem dX5_sessionLength_38 : decode cX5_sessionLength 38 = .ok (.getfield 47, 3) := by decide +kernel
theorem dX5_sessionLength_41 : decode cX5_sessionLength 41 = .ok (.iload_n 2, 1) := by decide +kernel
theorem dX5_sessionLength_42 : decode cX5_sessionLength 42 = .ok (.iaload, 1) := by decide +kernel
theorem dX5_sessionLength_43 : decode cX5_sessionLength 43 = .ok (.iaload, 1) := by decide +kernel
theorem dX5_sessionLength_44 : decode cX5_sessionLength 44 = .ok (.iaload, 1) := by decide +kernel
theorem dX5_sessionLength_45 : decode cX5_sessionLength 45 = .ok (.isub, 1) := by decide +kernel
theorem dX5_sessionLength_46 : decode cX5_sessionLength 46 = .ok (.goto 4, 3) := by decide +kernel
theorem dX5_sessionLength_49 : decode cX5_sessionLength 49 = .ok (.iconst 0, 1) := by decide +kernel
theorem dX5_sessionLength_50 : decode cX5_sessionLength 50 = .ok (.ireturn, 1) := by decide +kernel
set_option maxRecDepth 20000 in
theorem ggX5_step_X5_mayBoth : GoodIn wsX5_step wsX5_mayBoth := goodIn_r _ [7, 8, 9, 10, 11, 12, 13, 14, 15, 16, 17, 18, 19, 20, 21, 22, 23, 24, 25, 26, 27] (by decide +kernel) (by decide +kernel)
set_option maxRecDepth 20000 in
theorem gX5_step_X5_mayBoth : GoodIn wsX5_step (wsV RX5 63 RX5 yX5_mayBoth wsX5_mayBoth) := goodIn_app (goodIn_of _ (by decide +kernel)) ggX5_step_X5_mayBoth
theorem dX5_step_0 : decode cX5_step 0 = .ok (.aload_n 0, 1) := by decide +kernel
theorem dX5_step_1 : decode cX5_step 1 = .ok (.iload_n 1, 1) := by decide +kernel
theorem dX5_step_2 : decode cX5_step 2 = .ok (.ifCond .lt 13, 3) := by decide +kernel
theorem dX5_step_5 : decode cX5_step 5 = .ok (.iload_n 1, 1) := by decide +kernel
theorem dX5_step_6 : decode cX5_step 6 = .ok (.bipush 9, 2) := by decide +kernel
theorem dX5_step_8 : decode cX5_step 8 = .ok (.if_icmp .gt 7, 3) := by decide +kernel
theorem dX5_step_11 : decode cX5_step 11 = .ok (.iconst 1, 1) := by decide +kernel
theorem dX5_step_12 : decode cX5_step 12 = .ok (.goto 4, 3) := by decide +kernel
theorem dX5_step_15 : decode cX5_step 15 = .ok (.iconst 0, 1) := by decide +kernel
theorem dX5_step_16 : decode cX5_step 16 = .ok (.aload_n 0, 1) := by decide +kernel
theorem dX5_step_17 : decode cX5_step 17 = .ok (.getfield 85, 3) := by decide +kernel
theorem dX5_step_20 : decode cX5_step 20 = .ok (.bipush 6, 2) := by decide +kernel
theorem dX5_step_22 : decode cX5_step 22 = .ok (.if_icmp .ge 7, 3) := by decide +kernel
theorem dX5_step_25 : decode cX5_step 25 = .ok (.iconst 1, 1) := by decide +kernel
theorem dX5_step_26 : decode cX5_step 26 = .ok (.goto 4, 3) := by decide +kernel
theorem dX5_step_29 : decode cX5_step 29 = .ok (.iconst 0, 1) := by decide +kernel
theorem dX5_step_30 : decode cX5_step 30 = .ok (.invokevirtual 63, 3) := by decide +kernel
theorem dX5_step_33 : decode cX5_step 33 = .ok (.ifCond .ne 5, 3) := by decide +kernel
theorem dX5_step_36 : decode cX5_step 36 = .ok (.iconst 0, 1) := by decide +kernel
theorem dX5_step_37 : decode cX5_step 37 = .ok (.ireturn, 1) := by decide +kernel
theorem dX5_step_38 : decode cX5_step 38 = .ok (.aload_n 0, 1) := by decide +kernel
theorem dX5_step_39 : decode cX5_step 39 = .ok (.getfield 29, 3) := by decide +kernel
theorem dX5_step_42 : decode cX5_step 42 = .ok (.aload_n 0, 1) := by decide +kernel
theorem dX5_step_43 : decode cX5_step 43 = .ok (.getfield 85, 3) := by decide +kernel
theorem dX5_step_46 : decode cX5_step 46 = .ok (.iload_n 1, 1) := by decide +kernel
theorem dX5_step_47 : decode cX5_step 47 = .ok (.iastore, 1) := by decide +kernel
theorem dX5_step_48 : decode cX5_step 48 = .ok (.aload_n 0, 1) := by decide +kernel
theorem dX5_step_49 : decode cX5_step 49 = .ok (.dup, 1) := by decide +kernel
theorem dX5_step_50 : decode cX5_step 50 = .ok (.getfield 85, 3) := by decide +kernel
theorem dX5_step_53 : decode cX5_step 53 = .ok (.iconst 1, 1) := by decide +kernel
theorem dX5_step_54 : decode cX5_step 54 = .ok (.iadd, 1) := by decide +kernel
theorem dX5_step_55 : decode cX5_step 55 = .ok (.putfield 85, 3) := by decide +kernel
theorem dX5_step_58 : decode cX5_step 58 = .ok (.aload_n 0, 1) := by decide +kernel
theorem dX5_step_59 : decode cX5_step 59 = .ok (.getfield 85, 3) := by decide +kernel
theorem dX5_step_62 : decode cX5_step 62 = .ok (.ireturn, 1) := by decide +kernel
theorem dX5_clearFunnel_0 : decode cX5_clearFunnel 0 = .ok (.aload_n 0, 1) := by decide +kernel
theorem dX5_clearFunnel_1 : decode cX5_clearFunnel 1 = .ok (.iconst 0, 1) := by decide +kernel
theorem dX5_clearFunnel_2 : decode cX5_clearFunnel 2 = .ok (.putfield 50, 3) := by decide +kernel
theorem dX5_clearFunnel_5 : decode cX5_clearFunnel 5 = .ok (.aload_n 0, 1) := by decide +kernel
theorem dX5_clearFunnel_6 : decode cX5_clearFunnel 6 = .ok (.iconst 0, 1) := by decide +kernel
theorem dX5_clearFunnel_7 : decode cX5_clearFunnel 7 = .ok (.putfield 85, 3) := by decide +kernel
theorem dX5_clearFunnel_10 : decode cX5_clearFunnel 10 = .ok (.return_, 1) := by decide +kernel
set_option maxRecDepth 20000 in
theorem ggX5_window_X5_may : GoodIn wsX5_window wsX5_may := goodIn_r _ [6, 7, 8, 9, 10, 11, 12, 13, 14, 15, 16, 17, 18, 19, 20, 21, 22, 23, 24, 25, 26] (by decide +kernel) (by decide +kernel)
set_option maxRecDepth 20000 in
theorem gX5_window_X5_may : GoodIn wsX5_window (wsV RX5 67 RX5 yX5_may wsX5_may) := goodIn_app (goodIn_of _ (by decide +kernel)) ggX5_window_X5_may
theorem dX5_window_0 : decode cX5_window 0 = .ok (.aload_n 0, 1) := by decide +kernel
theorem dX5_window_1 : decode cX5_window 1 = .ok (.iload_n 1, 1) := by decide +kernel
theorem dX5_window_2 : decode cX5_window 2 = .ok (.ifCond .lt 14, 3) := by decide +kernel
theorem dX5_window_5 : decode cX5_window 5 = .ok (.iload_n 1, 1) := by decide +kernel
theorem dX5_window_6 : decode cX5_window 6 = .ok (.sipush 1999, 3) := by decide +kernel
theorem dX5_window_9 : decode cX5_window 9 = .ok (.if_icmp .gt 7, 3) := by decide +kernel
theorem dX5_window_12 : decode cX5_window 12 = .ok (.iconst 1, 1) := by decide +kernel
theorem dX5_window_13 : decode cX5_window 13 = .ok (.goto 4, 3) := by decide +kernel
theorem dX5_window_16 : decode cX5_window 16 = .ok (.iconst 0, 1) := by decide +kernel
theorem dX5_window_17 : decode cX5_window 17 = .ok (.invokevirtual 67, 3) := by decide +kernel
theorem dX5_window_20 : decode cX5_window 20 = .ok (.ifCond .ne 5, 3) := by decide +kernel
theorem dX5_window_23 : decode cX5_window 23 = .ok (.iconst 0, 1) := by decide +kernel
theorem dX5_window_24 : decode cX5_window 24 = .ok (.ireturn, 1) := by decide +kernel
theorem dX5_window_25 : decode cX5_window 25 = .ok (.aload_n 0, 1) := by decide +kernel
theorem dX5_window_26 : decode cX5_window 26 = .ok (.getfield 32, 3) := by decide +kernel
theorem dX5_window_29 : decode cX5_window 29 = .ok (.istore_n 2, 1) := by decide +kernel
theorem dX5_window_30 : decode cX5_window 30 = .ok (.aload_n 0, 1) := by decide +kernel
theorem dX5_window_31 : decode cX5_window 31 = .ok (.iload_n 1, 1) := by decide +kernel
theorem dX5_window_32 : decode cX5_window 32 = .ok (.putfield 32, 3) := by decide +kernel
theorem dX5_window_35 : decode cX5_window 35 = .ok (.iload_n 2, 1) := by decide +kernel
theorem dX5_window_36 : decode cX5_window 36 = .ok (.ireturn, 1) := by decide +kernel
theorem dX5_passedFrom_0 : decode cX5_passedFrom 0 = .ok (.iconst 0, 1) := by decide +kernel
theorem dX5_passedFrom_1 : decode cX5_passedFrom 1 = .ok (.istore_n 2, 1) := by decide +kernel
theorem dX5_passedFrom_2 : decode cX5_passedFrom 2 = .ok (.iload_n 1, 1) := by decide +kernel
theorem dX5_passedFrom_3 : decode cX5_passedFrom 3 = .ok (.istore_n 3, 1) := by decide +kernel
theorem dX5_passedFrom_4 : decode cX5_passedFrom 4 = .ok (.iload_n 3, 1) := by decide +kernel
theorem dX5_passedFrom_5 : decode cX5_passedFrom 5 = .ok (.aload_n 0, 1) := by decide +kernel
theorem dX5_passedFrom_6 : decode cX5_passedFrom 6 = .ok (.getfield 71, 3) := by decide +kernel
theorem dX5_passedFrom_9 : decode cX5_passedFrom 9 = .ok (.if_icmp .ge 99, 3) := by decide +kernel
theorem dX5_passedFrom_12 : decode cX5_passedFrom 12 = .ok (.iload_n 2, 1) := by decide +kernel
theorem dX5_passedFrom_13 : decode cX5_passedFrom 13 = .ok (.aload_n 0, 1) := by decide +kernel
theorem dX5_passedFrom_14 : decode cX5_passedFrom 14 = .ok (.getfield 85, 3) := by decide +kernel
theorem dX5_passedFrom_17 : decode cX5_passedFrom 17 = .ok (.if_icmp .ge 91, 3) := by decide +kernel
theorem dX5_passedFrom_20 : decode cX5_passedFrom 20 = .ok (.aload_n 0, 1) := by decide +kernel
theorem dX5_passedFrom_21 : decode cX5_passedFrom 21 = .ok (.getfield 19, 3) := by decide +kernel
theorem dX5_passedFrom_24 : decode cX5_passedFrom 24 = .ok (.aload_n 0, 1) := by decide +kernel
theorem dX5_passedFrom_25 : decode cX5_passedFrom 25 = .ok (.getfield 44, 3) := by decide +kernel
theorem dX5_passedFrom_28 : decode cX5_passedFrom 28 = .ok (.iload_n 3, 1) := by decide +kernel
theorem dX5_passedFrom_29 : decode cX5_passedFrom 29 = .ok (.iaload, 1) := by decide +kernel
theorem dX5_passedFrom_30 : decode cX5_passedFrom 30 = .ok (.iaload, 1) := by decide +kernel
theorem dX5_passedFrom_31 : decode cX5_passedFrom 31 = .ok (.aload_n 0, 1) := by decide +kernel
theorem dX5_passedFrom_32 : decode cX5_passedFrom 32 = .ok (.getfield 19, 3) := by decide +kernel
theorem dX5_passedFrom_35 : decode cX5_passedFrom 35 = .ok (.aload_n 0, 1) := by decide +kernel
theorem dX5_passedFrom_36 : decode cX5_passedFrom 36 = .ok (.getfield 44, 3) := by decide +kernel
theorem dX5_passedFrom_39 : decode cX5_passedFrom 39 = .ok (.iload_n 1, 1) := by decide +kernel
theorem dX5_passedFrom_40 : decode cX5_passedFrom 40 = .ok (.iaload, 1) := by decide +kernel
theorem dX5_passedFrom_41 : decode cX5_passedFrom 41 = .ok (.iaload, 1) := by decide +kernel
theorem dX5_passedFrom_42 : decode cX5_passedFrom 42 = .ok (.isub, 1) := by decide +kernel
theorem dX5_passedFrom_43 : decode cX5_passedFrom 43 = .ok (.aload_n 0, 1) := by decide +kernel
theorem dX5_passedFrom_44 : decode cX5_passedFrom 44 = .ok (.getfield 32, 3) := by decide +kernel
theorem dX5_passedFrom_47 : decode cX5_passedFrom 47 = .ok (.if_icmp .gt 61, 3) := by decide +kernel
theorem dX5_passedFrom_50 : decode cX5_passedFrom 50 = .ok (.aload_n 0, 1) := by decide +kernel
theorem dX5_passedFrom_51 : decode cX5_passedFrom 51 = .ok (.getfield 16, 3) := by decide +kernel
theorem dX5_passedFrom_54 : decode cX5_passedFrom 54 = .ok (.aload_n 0, 1) := by decide +kernel
theorem dX5_passedFrom_55 : decode cX5_passedFrom 55 = .ok (.getfield 44, 3) := by decide +kernel
theorem dX5_passedFrom_58 : decode cX5_passedFrom 58 = .ok (.iload_n 3, 1) := by decide +kernel
theorem dX5_passedFrom_59 : decode cX5_passedFrom 59 = .ok (.iaload, 1) := by decide +kernel
theorem dX5_passedFrom_60 : decode cX5_passedFrom 60 = .ok (.iaload, 1) := by decide +kernel
theorem dX5_passedFrom_61 : decode cX5_passedFrom 61 = .ok (.aload_n 0, 1) := by decide +kernel
theorem dX5_passedFrom_62 : decode cX5_passedFrom 62 = .ok (.getfield 29, 3) := by decide +kernel
theorem dX5_passedFrom_65 : decode cX5_passedFrom 65 = .ok (.iload_n 2, 1) := by decide +kernel
theorem dX5_passedFrom_66 : decode cX5_passedFrom 66 = .ok (.iaload, 1) := by decide +kernel
theorem dX5_passedFrom_67 : decode cX5_passedFrom 67 = .ok (.if_icmp .ne 7, 3) := by decide +kernel
theorem dX5_passedFrom_70 : decode cX5_passedFrom 70 = .ok (.iconst 1, 1) := by decide +kernel
theorem dX5_passedFrom_71 : decode cX5_passedFrom 71 = .ok (.goto 4, 3) := by decide +kernel
theorem dX5_passedFrom_74 : decode cX5_passedFrom 74 = .ok (.iconst 0, 1) := by decide +kernel
theorem dX5_passedFrom_75 : decode cX5_passedFrom 75 = .ok (.istore 4, 2) := by decide +kernel
theorem dX5_passedFrom_77 : decode cX5_passedFrom 77 = .ok (.iload_n 3, 1) := by decide +kernel
theorem dX5_passedFrom_78 : decode cX5_passedFrom 78 = .ok (.iload_n 1, 1) := by decide +kernel
theorem dX5_passedFrom_79 : decode cX5_passedFrom 79 = .ok (.if_icmp .ne 10, 3) := by decide +kernel
theorem dX5_passedFrom_82 : decode cX5_passedFrom 82 = .ok (.iload 4, 2) := by decide +kernel
theorem dX5_passedFrom_84 : decode cX5_passedFrom 84 = .ok (.ifCond .ne 5, 3) := by decide +kernel
theorem dX5_passedFrom_87 : decode cX5_passedFrom 87 = .ok (.iconst 0, 1) := by decide +kernel
theorem dX5_passedFrom_88 : decode cX5_passedFrom 88 = .ok (.ireturn, 1) := by decide +kernel
theorem dX5_passedFrom_89 : decode cX5_passedFrom 89 = .ok (.iload_n 2, 1) := by decide +kernel
theorem dX5_passedFrom_90 : decode cX5_passedFrom 90 = .ok (.iload 4, 2) := by decide +kernel
theorem dX5_passedFrom_92 : decode cX5_passedFrom 92 = .ok (.ifCond .eq 7, 3) := by decide +kernel
theorem dX5_passedFrom_95 : decode cX5_passedFrom 95 = .ok (.iconst 1, 1) := by decide +kernel
theorem dX5_passedFrom_96 : decode cX5_passedFrom 96 = .ok (.goto 4, 3) := by decide +kernel
theorem dX5_passedFrom_99 : decode cX5_passedFrom 99 = .ok (.iconst 0, 1) := by decide +kernel
theorem dX5_passedFrom_100 : decode cX5_passedFrom 100 = .ok (.iadd, 1) := by decide +kernel
theorem dX5_passedFrom_101 : decode cX5_passedFrom 101 = .ok (.istore_n 2, 1) := by decide +kernel
theorem dX5_passedFrom_102 : decode cX5_passedFrom 102 = .ok (.iinc 3 1, 3) := by decide +kernel
theorem dX5_passedFrom_105 : decode cX5_passedFrom 105 = .ok (.goto (-101), 3) := by decide +kernel
theorem dX5_passedFrom_108 : decode cX5_passedFrom 108 = .ok (.iload_n 2, 1) := by decide +kernel
theorem dX5_passedFrom_109 : decode cX5_passedFrom 109 = .ok (.ireturn, 1) := by decide +kernel
set_option maxRecDepth 20000 in
theorem ggX5_depthOf_X5_look : GoodIn wsX5_depthOf wsX5_look := goodIn_r _ [6, 1, 7, 8, 9, 10, 11, 12, 13, 14, 15, 24, 25, 26, 27, 28, 29, 30, 31, 32, 33, 34, 35, 36, 37, 38, 39, 40, 41, 42] (by decide +kernel) (by decide +kernel)
set_option maxRecDepth 20000 in
theorem gX5_depthOf_X5_look : GoodIn wsX5_depthOf (wsV RX5 77 RX5 yX5_look wsX5_look) := goodIn_app (goodIn_of _ (by decide +kernel)) ggX5_depthOf_X5_look
set_option maxRecDepth 20000 in
theorem ggX5_depthOf_X5_passedFrom : GoodIn wsX5_depthOf wsX5_passedFrom := goodIn_r _ [19, 1, 20, 12, 13, 21, 22, 23, 24, 25, 26, 27, 28, 29, 30, 31, 32, 33, 34, 35, 36, 37, 38, 39, 40, 41, 42] (by decide +kernel) (by decide +kernel)
set_option maxRecDepth 20000 in
theorem gX5_depthOf_X5_passedFrom : GoodIn wsX5_depthOf (wsV RX5 88 RX5 yX5_passedFrom wsX5_passedFrom) := goodIn_app (goodIn_of _ (by decide +kernel)) ggX5_depthOf_X5_passedFrom
theorem dX5_depthOf_0 : decode cX5_depthOf 0 = .ok (.aload_n 0, 1) := by decide +kernel
theorem dX5_depthOf_1 : decode cX5_depthOf 1 = .ok (.iload_n 1, 1) := by decide +kernel
theorem dX5_depthOf_2 : decode cX5_depthOf 2 = .ok (.invokevirtual 77, 3) := by decide +kernel
theorem dX5_depthOf_5 : decode cX5_depthOf 5 = .ok (.iconst 0, 1) := by decide +kernel
theorem dX5_depthOf_6 : decode cX5_depthOf 6 = .ok (.istore_n 2, 1) := by decide +kernel
theorem dX5_depthOf_7 : decode cX5_depthOf 7 = .ok (.iconst 0, 1) := by decide +kernel
theorem dX5_depthOf_8 : decode cX5_depthOf 8 = .ok (.istore_n 3, 1) := by decide +kernel
theorem dX5_depthOf_9 : decode cX5_depthOf 9 = .ok (.iload_n 3, 1) := by decide +kernel
theorem dX5_depthOf_10 : decode cX5_depthOf 10 = .ok (.aload_n 0, 1) := by decide +kernel
theorem dX5_depthOf_11 : decode cX5_depthOf 11 = .ok (.getfield 71, 3) := by decide +kernel
theorem dX5_depthOf_14 : decode cX5_depthOf 14 = .ok (.if_icmp .ge 29, 3) := by decide +kernel
theorem dX5_depthOf_17 : decode cX5_depthOf 17 = .ok (.aload_n 0, 1) := by decide +kernel
theorem dX5_depthOf_18 : decode cX5_depthOf 18 = .ok (.iload_n 3, 1) := by decide +kernel
theorem dX5_depthOf_19 : decode cX5_depthOf 19 = .ok (.invokevirtual 88, 3) := by decide +kernel
theorem dX5_depthOf_22 : decode cX5_depthOf 22 = .ok (.istore 4, 2) := by decide +kernel
theorem dX5_depthOf_24 : decode cX5_depthOf 24 = .ok (.iload 4, 2) := by decide +kernel
