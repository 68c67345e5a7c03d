theorem dX3_numberAt_5 : decode cX3_numberAt 5 = .ok (.iaload, 1) := by decide +kernel
theorem dX3_numberAt_6 : decode cX3_numberAt 6 = .ok (.ireturn, 1) := by decide +kernel
theorem dX3_kindAt_0 : decode cX3_kindAt 0 = .ok (.aload_n 0, 1) := by decide +kernel
theorem dX3_kindAt_1 : decode cX3_kindAt 1 = .ok (.getfield 15, 3) := by decide +kernel
theorem dX3_kindAt_4 : decode cX3_kindAt 4 = .ok (.iload_n 1, 1) := by decide +kernel
theorem dX3_kindAt_5 : decode cX3_kindAt 5 = .ok (.iaload, 1) := by decide +kernel
theorem dX3_kindAt_6 : decode cX3_kindAt 6 = .ok (.ireturn, 1) := by decide +kernel
theorem dX3_timeAt_0 : decode cX3_timeAt 0 = .ok (.aload_n 0, 1) := by decide +kernel
theorem dX3_timeAt_1 : decode cX3_timeAt 1 = .ok (.getfield 18, 3) := by decide +kernel
theorem dX3_timeAt_4 : decode cX3_timeAt 4 = .ok (.iload_n 1, 1) := by decide +kernel
theorem dX3_timeAt_5 : decode cX3_timeAt 5 = .ok (.iaload, 1) := by decide +kernel
theorem dX3_timeAt_6 : decode cX3_timeAt 6 = .ok (.ireturn, 1) := by decide +kernel
set_option maxRecDepth 20000 in
theorem ggX3_firstDay_X4_dayOf : GoodIn wsX3_firstDay wsX4_dayOf := goodIn_r _ [5] (by decide +kernel) (by decide +kernel)
set_option maxRecDepth 20000 in
theorem gX3_firstDay_X4_dayOf_n25 : GoodIn wsX3_firstDay (wsX4_dayOf) := ggX3_firstDay_X4_dayOf
theorem dX3_firstDay_0 : decode cX3_firstDay 0 = .ok (.aload_n 0, 1) := by decide +kernel
theorem dX3_firstDay_1 : decode cX3_firstDay 1 = .ok (.getfield 21, 3) := by decide +kernel
theorem dX3_firstDay_4 : decode cX3_firstDay 4 = .ok (.ifCond .ne 7, 3) := by decide +kernel
theorem dX3_firstDay_7 : decode cX3_firstDay 7 = .ok (.iconst (-1), 1) := by decide +kernel
theorem dX3_firstDay_8 : decode cX3_firstDay 8 = .ok (.goto 12, 3) := by decide +kernel
theorem dX3_firstDay_11 : decode cX3_firstDay 11 = .ok (.aload_n 0, 1) := by decide +kernel
theorem dX3_firstDay_12 : decode cX3_firstDay 12 = .ok (.getfield 18, 3) := by decide +kernel
theorem dX3_firstDay_15 : decode cX3_firstDay 15 = .ok (.iconst 0, 1) := by decide +kernel
theorem dX3_firstDay_16 : decode cX3_firstDay 16 = .ok (.iaload, 1) := by decide +kernel
theorem dX3_firstDay_17 : decode cX3_firstDay 17 = .ok (.invokestatic 25, 3) := by decide +kernel
theorem dX3_firstDay_20 : decode cX3_firstDay 20 = .ok (.ireturn, 1) := by decide +kernel
set_option maxRecDepth 20000 in
theorem ggX3_sessionCount_X3_beginsSession : GoodIn wsX3_sessionCount wsX3_beginsSession := goodIn_r _ [6, 7, 8, 9, 10, 11] (by decide +kernel) (by decide +kernel)
set_option maxRecDepth 20000 in
theorem gX3_sessionCount_X3_beginsSession : GoodIn wsX3_sessionCount (wsV RX3 29 RX3 yX3_beginsSession wsX3_beginsSession) := goodIn_app (goodIn_of _ (by decide +kernel)) ggX3_sessionCount_X3_beginsSession
theorem dX3_sessionCount_0 : decode cX3_sessionCount 0 = .ok (.iconst 0, 1) := by decide +kernel
theorem dX3_sessionCount_1 : decode cX3_sessionCount 1 = .ok (.istore_n 2, 1) := by decide +kernel
theorem dX3_sessionCount_2 : decode cX3_sessionCount 2 = .ok (.iconst 0, 1) := by decide +kernel
theorem dX3_sessionCount_3 : decode cX3_sessionCount 3 = .ok (.istore_n 3, 1) := by decide +kernel
theorem dX3_sessionCount_4 : decode cX3_sessionCount 4 = .ok (.iload_n 3, 1) := by decide +kernel
theorem dX3_sessionCount_5 : decode cX3_sessionCount 5 = .ok (.aload_n 0, 1) := by decide +kernel
theorem dX3_sessionCount_6 : decode cX3_sessionCount 6 = .ok (.getfield 21, 3) := by decide +kernel
theorem dX3_sessionCount_9 : decode cX3_sessionCount 9 = .ok (.if_icmp .ge 21, 3) := by decide +kernel
theorem dX3_sessionCount_12 : decode cX3_sessionCount 12 = .ok (.aload_n 0, 1) := by decide +kernel
theorem dX3_sessionCount_13 : decode cX3_sessionCount 13 = .ok (.iload_n 3, 1) := by decide +kernel
theorem dX3_sessionCount_14 : decode cX3_sessionCount 14 = .ok (.iload_n 1, 1) := by decide +kernel
theorem dX3_sessionCount_15 : decode cX3_sessionCount 15 = .ok (.invokevirtual 29, 3) := by decide +kernel
theorem dX3_sessionCount_18 : decode cX3_sessionCount 18 = .ok (.ifCond .eq 6, 3) := by decide +kernel
theorem dX3_sessionCount_21 : decode cX3_sessionCount 21 = .ok (.iinc 2 1, 3) := by decide +kernel
theorem dX3_sessionCount_24 : decode cX3_sessionCount 24 = .ok (.iinc 3 1, 3) := by decide +kernel
theorem dX3_sessionCount_27 : decode cX3_sessionCount 27 = .ok (.goto (-23), 3) := by decide +kernel
theorem dX3_sessionCount_30 : decode cX3_sessionCount 30 = .ok (.iload_n 2, 1) := by decide +kernel
theorem dX3_sessionCount_31 : decode cX3_sessionCount 31 = .ok (.ireturn, 1) := by decide +kernel
set_option maxRecDepth 20000 in
theorem ggX3_sessionsBegunOn_X4_dayOf : GoodIn wsX3_sessionsBegunOn wsX4_dayOf := goodIn_r _ [5] (by decide +kernel) (by decide +kernel)
set_option maxRecDepth 20000 in
theorem gX3_sessionsBegunOn_X4_dayOf_n25 : GoodIn wsX3_sessionsBegunOn (wsX4_dayOf) := ggX3_sessionsBegunOn_X4_dayOf
set_option maxRecDepth 20000 in
theorem ggX3_sessionsBegunOn_X3_beginsSession : GoodIn wsX3_sessionsBegunOn wsX3_beginsSession := goodIn_r _ [10, 2, 11, 12, 13, 14] (by decide +kernel) (by decide +kernel)
set_option maxRecDepth 20000 in
theorem gX3_sessionsBegunOn_X3_beginsSession : GoodIn wsX3_sessionsBegunOn (wsV RX3 29 RX3 yX3_beginsSession wsX3_beginsSession) := goodIn_app (goodIn_of _ (by decide +kernel)) ggX3_sessionsBegunOn_X3_beginsSession
theorem dX3_sessionsBegunOn_0 : decode cX3_sessionsBegunOn 0 = .ok (.iconst 0, 1) := by decide +kernel
theorem dX3_sessionsBegunOn_1 : decode cX3_sessionsBegunOn 1 = .ok (.istore_n 3, 1) := by decide +kernel
theorem dX3_sessionsBegunOn_2 : decode cX3_sessionsBegunOn 2 = .ok (.iconst 0, 1) := by decide +kernel
theorem dX3_sessionsBegunOn_3 : decode cX3_sessionsBegunOn 3 = .ok (.istore 4, 2) := by decide +kernel
theorem dX3_sessionsBegunOn_5 : decode cX3_sessionsBegunOn 5 = .ok (.iload 4, 2) := by decide +kernel
theorem dX3_sessionsBegunOn_7 : decode cX3_sessionsBegunOn 7 = .ok (.aload_n 0, 1) := by decide +kernel
theorem dX3_sessionsBegunOn_8 : decode cX3_sessionsBegunOn 8 = .ok (.getfield 21, 3) := by decide +kernel
theorem dX3_sessionsBegunOn_11 : decode cX3_sessionsBegunOn 11 = .ok (.if_icmp .ge 36, 3) := by decide +kernel
theorem dX3_sessionsBegunOn_14 : decode cX3_sessionsBegunOn 14 = .ok (.aload_n 0, 1) := by decide +kernel
theorem dX3_sessionsBegunOn_15 : decode cX3_sessionsBegunOn 15 = .ok (.getfield 18, 3) := by decide +kernel
theorem dX3_sessionsBegunOn_18 : decode cX3_sessionsBegunOn 18 = .ok (.iload 4, 2) := by decide +kernel
theorem dX3_sessionsBegunOn_20 : decode cX3_sessionsBegunOn 20 = .ok (.iaload, 1) := by decide +kernel
theorem dX3_sessionsBegunOn_21 : decode cX3_sessionsBegunOn 21 = .ok (.invokestatic 25, 3) := by decide +kernel
theorem dX3_sessionsBegunOn_24 : decode cX3_sessionsBegunOn 24 = .ok (.iload_n 1, 1) := by decide +kernel
theorem dX3_sessionsBegunOn_25 : decode cX3_sessionsBegunOn 25 = .ok (.if_icmp .ne 16, 3) := by decide +kernel
theorem dX3_sessionsBegunOn_28 : decode cX3_sessionsBegunOn 28 = .ok (.aload_n 0, 1) := by decide +kernel
theorem dX3_sessionsBegunOn_29 : decode cX3_sessionsBegunOn 29 = .ok (.iload 4, 2) := by decide +kernel
theorem dX3_sessionsBegunOn_31 : decode cX3_sessionsBegunOn 31 = .ok (.iload_n 2, 1) := by decide +kernel
theorem dX3_sessionsBegunOn_32 : decode cX3_sessionsBegunOn 32 = .ok (.invokevirtual 29, 3) := by decide +kernel
theorem dX3_sessionsBegunOn_35 : decode cX3_sessionsBegunOn 35 = .ok (.ifCond .eq 6, 3) := by decide +kernel
theorem dX3_sessionsBegunOn_38 : decode cX3_sessionsBegunOn 38 = .ok (.iinc 3 1, 3) := by decide +kernel
theorem dX3_sessionsBegunOn_41 : decode cX3_sessionsBegunOn 41 = .ok (.iinc 4 1, 3) := by decide +kernel
theorem dX3_sessionsBegunOn_44 : decode cX3_sessionsBegunOn 44 = .ok (.goto (-39), 3) := by decide +kernel
theorem dX3_sessionsBegunOn_47 : decode cX3_sessionsBegunOn 47 = .ok (.iload_n 3, 1) := by decide +kernel
theorem dX3_sessionsBegunOn_48 : decode cX3_sessionsBegunOn 48 = .ok (.ireturn, 1) := by decide +kernel
set_option maxRecDepth 20000 in
theorem ggX3_sessionBegin_X3_beginsSession : GoodIn wsX3_sessionBegin wsX3_beginsSession := goodIn_r _ [6, 7, 8, 9, 10, 11] (by decide +kernel) (by decide +kernel)
set_option maxRecDepth 20000 in
theorem gX3_sessionBegin_X3_beginsSession : GoodIn wsX3_sessionBegin (wsV RX3 29 RX3 yX3_beginsSession wsX3_beginsSession) := goodIn_app (goodIn_of _ (by decide +kernel)) ggX3_sessionBegin_X3_beginsSession
theorem dX3_sessionBegin_0 : decode cX3_sessionBegin 0 = .ok (.iconst 0, 1) := by decide +kernel
theorem dX3_sessionBegin_1 : decode cX3_sessionBegin 1 = .ok (.istore_n 3, 1) := by decide +kernel
theorem dX3_sessionBegin_2 : decode cX3_sessionBegin 2 = .ok (.iconst 0, 1) := by decide +kernel
theorem dX3_sessionBegin_3 : decode cX3_sessionBegin 3 = .ok (.istore 4, 2) := by decide +kernel
theorem dX3_sessionBegin_5 : decode cX3_sessionBegin 5 = .ok (.iload 4, 2) := by decide +kernel
theorem dX3_sessionBegin_7 : decode cX3_sessionBegin 7 = .ok (.aload_n 0, 1) := by decide +kernel
theorem dX3_sessionBegin_8 : decode cX3_sessionBegin 8 = .ok (.getfield 21, 3) := by decide +kernel
theorem dX3_sessionBegin_11 : decode cX3_sessionBegin 11 = .ok (.if_icmp .ge 30, 3) := by decide +kernel
theorem dX3_sessionBegin_14 : decode cX3_sessionBegin 14 = .ok (.aload_n 0, 1) := by decide +kernel
theorem dX3_sessionBegin_15 : decode cX3_sessionBegin 15 = .ok (.iload 4, 2) := by decide +kernel
theorem dX3_sessionBegin_17 : decode cX3_sessionBegin 17 = .ok (.iload_n 2, 1) := by decide +kernel
theorem dX3_sessionBegin_18 : decode cX3_sessionBegin 18 = .ok (.invokevirtual 29, 3) := by decide +kernel
theorem dX3_sessionBegin_21 : decode cX3_sessionBegin 21 = .ok (.ifCond .eq 14, 3) := by decide +kernel
theorem dX3_sessionBegin_24 : decode cX3_sessionBegin 24 = .ok (.iload_n 3, 1) := by decide +kernel
theorem dX3_sessionBegin_25 : decode cX3_sessionBegin 25 = .ok (.iload_n 1, 1) := by decide +kernel
theorem dX3_sessionBegin_26 : decode cX3_sessionBegin 26 = .ok (.if_icmp .ne 6, 3) := by decide +kernel
theorem dX3_sessionBegin_29 : decode cX3_sessionBegin 29 = .ok (.iload 4, 2) := by decide +kernel
theorem dX3_sessionBegin_31 : decode cX3_sessionBegin 31 = .ok (.ireturn, 1) := by decide +kernel
theorem dX3_sessionBegin_32 : decode cX3_sessionBegin 32 = .ok (.iinc 3 1, 3) := by decide +kernel
theorem dX3_sessionBegin_35 : decode cX3_sessionBegin 35 = .ok (.iinc 4 1, 3) := by decide +kernel
theorem dX3_sessionBegin_38 : decode cX3_sessionBegin 38 = .ok (.goto (-33), 3) := by decide +kernel
theorem dX3_sessionBegin_41 : decode cX3_sessionBegin 41 = .ok (.aload_n 0, 1) := by decide +kernel
theorem dX3_sessionBegin_42 : decode cX3_sessionBegin 42 = .ok (.getfield 21, 3) := by decide +kernel
theorem dX3_sessionBegin_45 : decode cX3_sessionBegin 45 = .ok (.ireturn, 1) := by decide +kernel
set_option maxRecDepth 20000 in
theorem ggX3_sessionEnd_X3_beginsSession : GoodIn wsX3_sessionEnd wsX3_beginsSession := goodIn_r _ [6, 7, 8, 9, 10, 11] (by decide +kernel) (by decide +kernel)
set_option maxRecDepth 20000 in
theorem gX3_sessionEnd_X3_beginsSession : GoodIn wsX3_sessionEnd (wsV RX3 29 RX3 yX3_beginsSession wsX3_beginsSession) := goodIn_app (goodIn_of _ (by decide +kernel)) ggX3_sessionEnd_X3_beginsSession
theorem dX3_sessionEnd_0 : decode cX3_sessionEnd 0 = .ok (.iload_n 1, 1) := by decide +kernel
theorem dX3_sessionEnd_1 : decode cX3_sessionEnd 1 = .ok (.iconst 1, 1) := by decide +kernel
theorem dX3_sessionEnd_2 : decode cX3_sessionEnd 2 = .ok (.iadd, 1) := by decide +kernel
theorem dX3_sessionEnd_3 : decode cX3_sessionEnd 3 = .ok (.istore_n 3, 1) := by decide +kernel
theorem dX3_sessionEnd_4 : decode cX3_sessionEnd 4 = .ok (.iload_n 3, 1) := by decide +kernel
theorem dX3_sessionEnd_5 : decode cX3_sessionEnd 5 = .ok (.aload_n 0, 1) := by decide +kernel
theorem dX3_sessionEnd_6 : decode cX3_sessionEnd 6 = .ok (.getfield 21, 3) := by decide +kernel
theorem dX3_sessionEnd_9 : decode cX3_sessionEnd 9 = .ok (.if_icmp .ge 18, 3) := by decide +kernel
theorem dX3_sessionEnd_12 : decode cX3_sessionEnd 12 = .ok (.aload_n 0, 1) := by decide +kernel
theorem dX3_sessionEnd_13 : decode cX3_sessionEnd 13 = .ok (.iload_n 3, 1) := by decide +kernel
theorem dX3_sessionEnd_14 : decode cX3_sessionEnd 14 = .ok (.iload_n 2, 1) := by decide +kernel
theorem dX3_sessionEnd_15 : decode cX3_sessionEnd 15 = .ok (.invokevirtual 29, 3) := by decide +kernel
theorem dX3_sessionEnd_18 : decode cX3_sessionEnd 18 = .ok (.ifCond .ne 9, 3) := by decide +kernel
theorem dX3_sessionEnd_21 : decode cX3_sessionEnd 21 = .ok (.iinc 3 1, 3) := by decide +kernel
theorem dX3_sessionEnd_24 : decode cX3_sessionEnd 24 = .ok (.goto (-20), 3) := by decide +kernel
theorem dX3_sessionEnd_27 : decode cX3_sessionEnd 27 = .ok (.iload_n 3, 1) := by decide +kernel
theorem dX3_sessionEnd_28 : decode cX3_sessionEnd 28 = .ok (.ireturn, 1) := by decide +kernel
theorem dX3_beginsSession_0 : decode cX3_beginsSession 0 = .ok (.iload_n 1, 1) := by decide +kernel
theorem dX3_beginsSession_1 : decode cX3_beginsSession 1 = .ok (.ifCond .eq 22, 3) := by decide +kernel
theorem dX3_beginsSession_4 : decode cX3_beginsSession 4 = .ok (.aload_n 0, 1) := by decide +kernel
theorem dX3_beginsSession_5 : decode cX3_beginsSession 5 = .ok (.getfield 18, 3) := by decide +kernel
theorem dX3_beginsSession_8 : decode cX3_beginsSession 8 = .ok (.iload_n 1, 1) := by decide +kernel
theorem dX3_beginsSession_9 : decode cX3_beginsSession 9 = .ok (.iaload, 1) := by decide +kernel
theorem dX3_beginsSession_10 : decode cX3_beginsSession 10 = .ok (.aload_n 0, 1) := by decide +kernel
theorem dX3_beginsSession_11 : decode cX3_beginsSession 11 = .ok (.getfield 18, 3) := by decide +kernel
theorem dX3_beginsSession_14 : decode cX3_beginsSession 14 = .ok (.iload_n 1, 1) := by decide +kernel
theorem dX3_beginsSession_15 : decode cX3_beginsSession 15 = .ok (.iconst 1, 1) := by decide +kernel
theorem dX3_beginsSession_16 : decode cX3_beginsSession 16 = .ok (.isub, 1) := by decide +kernel
theorem dX3_beginsSession_17 : decode cX3_beginsSession 17 = .ok (.iaload, 1) := by decide +kernel
theorem dX3_beginsSession_18 : decode cX3_beginsSession 18 = .ok (.isub, 1) := by decide +kernel
theorem dX3_beginsSession_19 : decode cX3_beginsSession 19 = .ok (.iload_n 2, 1) := by decide +kernel
theorem dX3_beginsSession_20 : decode cX3_beginsSession 20 = .ok (.if_icmp .le 7, 3) := by decide +kernel
theorem dX3_beginsSession_23 : decode cX3_beginsSession 23 = .ok (.iconst 1, 1) := by decide +kernel
theorem dX3_beginsSession_24 : decode cX3_beginsSession 24 = .ok (.goto 4, 3) := by decide +kernel
theorem dX3_beginsSession_27 : decode cX3_beginsSession 27 = .ok (.iconst 0, 1) := by decide +kernel
theorem dX3_beginsSession_28 : decode cX3_beginsSession 28 = .ok (.ireturn, 1) := by decide +kernel
set_option maxRecDepth 20000 in
theorem ggX4_init_X1_init : GoodIn wsX4_init wsX1_init := goodIn_r _ [25, 26, 2, 3, 4, 27, 28, 29, 30, 31, 62, 63, 64, 65, 66] (by decide +kernel) (by decide +kernel)
set_option maxRecDepth 20000 in
theorem gX4_init_X1_init_n15 : GoodIn wsX4_init (wsX1_init) := ggX4_init_X1_init
set_option maxRecDepth 20000 in
theorem ggX4_init_X2_init : GoodIn wsX4_init wsX2_init := goodIn_r _ [33, 34, 2, 3, 4, 35, 36, 37, 38, 39, 40, 67, 68, 69, 70, 71, 72] (by decide +kernel) (by decide +kernel)
set_option maxRecDepth 20000 in
theorem gX4_init_X2_init_n22 : GoodIn wsX4_init (wsX2_init) := ggX4_init_X2_init
set_option maxRecDepth 20000 in
theorem ggX4_init_X0_init : GoodIn wsX4_init wsX0_init := goodIn_r _ [42, 43, 2, 3, 4, 44, 45, 46, 47, 73, 74, 75, 76] (by decide +kernel) (by decide +kernel)
set_option maxRecDepth 20000 in
theorem gX4_init_X0_init_n29 : GoodIn wsX4_init (wsX0_init) := ggX4_init_X0_init
set_option maxRecDepth 20000 in
theorem ggX4_init_X3_init : GoodIn wsX4_init wsX3_init := goodIn_r _ [49, 50, 2, 3, 4, 51, 52, 53, 54, 77, 78, 79, 80] (by decide +kernel) (by decide +kernel)
set_option maxRecDepth 20000 in
theorem gX4_init_X3_init_n36 : GoodIn wsX4_init (wsX3_init) := ggX4_init_X3_init
theorem dX4_init_0 : decode cX4_init 0 = .ok (.aload_n 0, 1) := by decide +kernel
theorem dX4_init_1 : decode cX4_init 1 = .ok (.invokespecial 3, 3) := by decide +kernel
theorem dX4_init_4 : decode cX4_init 4 = .ok (.aload_n 0, 1) := by decide +kernel
theorem dX4_init_5 : decode cX4_init 5 = .ok (.bipush 20, 2) := by decide +kernel
theorem dX4_init_7 : decode cX4_init 7 = .ok (.newarray .int, 2) := by decide +kernel
theorem dX4_init_9 : decode cX4_init 9 = .ok (.putfield 9, 3) := by decide +kernel
theorem dX4_init_12 : decode cX4_init 12 = .ok (.iconst 0, 1) := by decide +kernel
theorem dX4_init_13 : decode cX4_init 13 = .ok (.istore_n 1, 1) := by decide +kernel
theorem dX4_init_14 : decode cX4_init 14 = .ok (.iload_n 1, 1) := by decide +kernel
theorem dX4_init_15 : decode cX4_init 15 = .ok (.bipush 20, 2) := by decide +kernel
theorem dX4_init_17 : decode cX4_init 17 = .ok (.if_icmp .ge 16, 3) := by decide +kernel
theorem dX4_init_20 : decode cX4_init 20 = .ok (.aload_n 0, 1) := by decide +kernel
theorem dX4_init_21 : decode cX4_init 21 = .ok (.getfield 9, 3) := by decide +kernel
theorem dX4_init_24 : decode cX4_init 24 = .ok (.iload_n 1, 1) := by decide +kernel
theorem dX4_init_25 : decode cX4_init 25 = .ok (.iload_n 1, 1) := by decide +kernel
theorem dX4_init_26 : decode cX4_init 26 = .ok (.iastore, 1) := by decide +kernel
theorem dX4_init_27 : decode cX4_init 27 = .ok (.iinc 1 1, 3) := by decide +kernel
theorem dX4_init_30 : decode cX4_init 30 = .ok (.goto (-16), 3) := by decide +kernel
theorem dX4_init_33 : decode cX4_init 33 = .ok (.aload_n 0, 1) := by decide +kernel
theorem dX4_init_34 : decode cX4_init 34 = .ok (.new 13, 3) := by decide +kernel
theorem dX4_init_37 : decode cX4_init 37 = .ok (.dup, 1) := by decide +kernel
theorem dX4_init_38 : decode cX4_init 38 = .ok (.invokespecial 15, 3) := by decide +kernel
theorem dX4_init_41 : decode cX4_init 41 = .ok (.putfield 16, 3) := by decide +kernel
theorem dX4_init_44 : decode cX4_init 44 = .ok (.aload_n 0, 1) := by decide +kernel
theorem dX4_init_45 : decode cX4_init 45 = .ok (.new 20, 3) := by decide +kernel
theorem dX4_init_48 : decode cX4_init 48 = .ok (.dup, 1) := by decide +kernel
theorem dX4_init_49 : decode cX4_init 49 = .ok (.invokespecial 22, 3) := by decide +kernel
theorem dX4_init_52 : decode cX4_init 52 = .ok (.putfield 23, 3) := by decide +kernel
theorem dX4_init_55 : decode cX4_init 55 = .ok (.aload_n 0, 1) := by decide +kernel
theorem dX4_init_56 : decode cX4_init 56 = .ok (.new 27, 3) := by decide +kernel
theorem dX4_init_59 : decode cX4_init 59 = .ok (.dup, 1) := by decide +kernel
theorem dX4_init_60 : decode cX4_init 60 = .ok (.invokespecial 29, 3) := by decide +kernel
theorem dX4_init_63 : decode cX4_init 63 = .ok (.putfield 30, 3) := by decide +kernel
theorem dX4_init_66 : decode cX4_init 66 = .ok (.aload_n 0, 1) := by decide +kernel
theorem dX4_init_67 : decode cX4_init 67 = .ok (.new 34, 3) := by decide +kernel
theorem dX4_init_70 : decode cX4_init 70 = .ok (.dup, 1) := by decide +kernel
theorem dX4_init_71 : decode cX4_init 71 = .ok (.invokespecial 36, 3) := by decide +kernel
theorem dX4_init_74 : decode cX4_init 74 = .ok (.putfield 37, 3) := by decide +kernel
theorem dX4_init_77 : decode cX4_init 77 = .ok (.aload_n 0, 1) := by decide +kernel
theorem dX4_init_78 : decode cX4_init 78 = .ok (.bipush 20, 2) := by decide +kernel
theorem dX4_init_80 : decode cX4_init 80 = .ok (.newarray .int, 2) := by decide +kernel
theorem dX4_init_82 : decode cX4_init 82 = .ok (.putfield 41, 3) := by decide +kernel
theorem dX4_init_85 : decode cX4_init 85 = .ok (.aload_n 0, 1) := by decide +kernel
theorem dX4_init_86 : decode cX4_init 86 = .ok (.bipush 30, 2) := by decide +kernel
theorem dX4_init_88 : decode cX4_init 88 = .ok (.putfield 44, 3) := by decide +kernel
theorem dX4_init_91 : decode cX4_init 91 = .ok (.return_, 1) := by decide +kernel
set_option maxRecDepth 20000 in
theorem ggX4_event_X4_requireId : GoodIn wsX4_event wsX4_requireId := goodIn_ca (goodIn_r _ [8, 9, 10, 7, 11, 12, 13] (by decide +kernel) (by decide +kernel)) (goodIn_sub (fun _ h => List.mem_cons_of_mem _ (List.mem_append_right _ h)) (by decide +kernel))
set_option maxRecDepth 20000 in
theorem gX4_event_X4_requireId : GoodIn wsX4_event (va_wsS RX4 48 yX4_requireId wsX4_requireId) := goodIn_app (goodIn_of _ (by decide +kernel)) ggX4_event_X4_requireId
set_option maxRecDepth 20000 in
theorem ggX4_event_X4_requireKind : GoodIn wsX4_event wsX4_requireKind := goodIn_ca (goodIn_r _ [16, 9, 10, 7, 11, 12, 13] (by decide +kernel) (by decide +kernel)) (goodIn_sub (fun _ h => List.mem_cons_of_mem _ (List.mem_append_right _ h)) (by decide +kernel))
set_option maxRecDepth 20000 in
theorem gX4_event_X4_requireKind : GoodIn wsX4_event (va_wsS RX4 52 yX4_requireKind wsX4_requireKind) := goodIn_app (goodIn_of _ (by decide +kernel)) ggX4_event_X4_requireKind
set_option maxRecDepth 20000 in
theorem ggX4_event_X4_requireRange : GoodIn wsX4_event wsX4_requireRange := goodIn_ca (goodIn_r _ [11, 12, 13] (by decide +kernel) (by decide +kernel)) (goodIn_sub (fun _ h => List.mem_cons_of_mem _ (List.mem_append_right _ h)) (by decide +kernel))
set_option maxRecDepth 20000 in
theorem gX4_event_X4_requireRange : GoodIn wsX4_event (va_wsS RX4 55 yX4_requireRange wsX4_requireRange) := goodIn_app (goodIn_of _ (by decide +kernel)) ggX4_event_X4_requireRange
set_option maxRecDepth 20000 in
theorem ggX4_event_X4_dayOf : GoodIn wsX4_event wsX4_dayOf := goodIn_r _ [19] (by decide +kernel) (by decide +kernel)
set_option maxRecDepth 20000 in
theorem gX4_event_X4_dayOf : GoodIn wsX4_event (va_wsS RX4 59 yX4_dayOf wsX4_dayOf) := goodIn_app (goodIn_of _ (by decide +kernel)) ggX4_event_X4_dayOf
set_option maxRecDepth 20000 in
theorem ggX4_event_X0_closedCount : GoodIn wsX4_event wsX0_closedCount := goodIn_r _ [24, 25, 47, 48, 49, 50] (by decide +kernel) (by decide +kernel)
set_option maxRecDepth 20000 in
theorem gX4_event_X0_closedCount : GoodIn wsX4_event (wsV RX4 63 RX0 yX0_closedCount wsX0_closedCount) := goodIn_app (goodIn_of _ (by decide +kernel)) ggX4_event_X0_closedCount
set_option maxRecDepth 20000 in
theorem ggX4_event_X1_isFull : GoodIn wsX4_event wsX1_isFull := goodIn_r _ [30, 31, 51, 52, 53, 54, 55] (by decide +kernel) (by decide +kernel)
set_option maxRecDepth 20000 in
theorem gX4_event_X1_isFull : GoodIn wsX4_event (wsV RX4 74 RX1 yX1_isFull wsX1_isFull) := goodIn_app (goodIn_of _ (by decide +kernel)) ggX4_event_X1_isFull
set_option maxRecDepth 20000 in
theorem ggX4_event_X1_append : GoodIn wsX4_event wsX1_append := goodIn_r _ [35, 31, 36, 37, 38, 39, 51, 52, 53, 54, 55] (by decide +kernel) (by decide +kernel)
set_option maxRecDepth 20000 in
theorem gX4_event_X1_append : GoodIn wsX4_event (wsV RX4 80 RX1 yX1_append wsX1_append) := goodIn_app (goodIn_of _ (by decide +kernel)) ggX4_event_X1_append
theorem dX4_event_0 : decode cX4_event 0 = .ok (.iload_n 1, 1) := by decide +kernel
theorem dX4_event_1 : decode cX4_event 1 = .ok (.invokestatic 48, 3) := by decide +kernel
theorem dX4_event_4 : decode cX4_event 4 = .ok (.iload_n 2, 1) := by decide +kernel
theorem dX4_event_5 : decode cX4_event 5 = .ok (.invokestatic 52, 3) := by decide +kernel
theorem dX4_event_8 : decode cX4_event 8 = .ok (.iload_n 3, 1) := by decide +kernel
theorem dX4_event_9 : decode cX4_event 9 = .ok (.iconst 0, 1) := by decide +kernel
theorem dX4_event_10 : decode cX4_event 10 = .ok (.sipush 1999, 3) := by decide +kernel
theorem dX4_event_13 : decode cX4_event 13 = .ok (.invokestatic 55, 3) := by decide +kernel
theorem dX4_event_16 : decode cX4_event 16 = .ok (.iload_n 3, 1) := by decide +kernel
theorem dX4_event_17 : decode cX4_event 17 = .ok (.invokestatic 59, 3) := by decide +kernel
theorem dX4_event_20 : decode cX4_event 20 = .ok (.aload_n 0, 1) := by decide +kernel
theorem dX4_event_21 : decode cX4_event 21 = .ok (.getfield 30, 3) := by decide +kernel
theorem dX4_event_24 : decode cX4_event 24 = .ok (.invokevirtual 63, 3) := by decide +kernel
theorem dX4_event_27 : decode cX4_event 27 = .ok (.if_icmp .ge 13, 3) := by decide +kernel
theorem dX4_event_30 : decode cX4_event 30 = .ok (.new 67, 3) := by decide +kernel
theorem dX4_event_33 : decode cX4_event 33 = .ok (.dup, 1) := by decide +kernel
theorem dX4_event_34 : decode cX4_event 34 = .ok (.ldc 69, 2) := by decide +kernel
theorem dX4_event_36 : decode cX4_event 36 = .ok (.invokespecial 71, 3) := by decide +kernel
theorem dX4_event_39 : decode cX4_event 39 = .ok (.athrow, 1) := by decide +kernel
theorem dX4_event_40 : decode cX4_event 40 = .ok (.aload_n 0, 1) := by decide +kernel
theorem dX4_event_41 : decode cX4_event 41 = .ok (.getfield 16, 3) := by decide +kernel
theorem dX4_event_44 : decode cX4_event 44 = .ok (.invokevirtual 74, 3) := by decide +kernel
theorem dX4_event_47 : decode cX4_event 47 = .ok (.ifCond .eq 13, 3) := by decide +kernel
theorem dX4_event_50 : decode cX4_event 50 = .ok (.new 67, 3) := by decide +kernel
theorem dX4_event_53 : decode cX4_event 53 = .ok (.dup, 1) := by decide +kernel
theorem dX4_event_54 : decode cX4_event 54 = .ok (.ldc 78, 2) := by decide +kernel
theorem dX4_event_56 : decode cX4_event 56 = .ok (.invokespecial 71, 3) := by decide +kernel
theorem dX4_event_59 : decode cX4_event 59 = .ok (.athrow, 1) := by decide +kernel
theorem dX4_event_60 : decode cX4_event 60 = .ok (.aload_n 0, 1) := by decide +kernel
theorem dX4_event_61 : decode cX4_event 61 = .ok (.getfield 16, 3) := by decide +kernel
theorem dX4_event_64 : decode cX4_event 64 = .ok (.iload_n 1, 1) := by decide +kernel
theorem dX4_event_65 : decode cX4_event 65 = .ok (.iload_n 2, 1) := by decide +kernel
theorem dX4_event_66 : decode cX4_event 66 = .ok (.iload_n 3, 1) := by decide +kernel
theorem dX4_event_67 : decode cX4_event 67 = .ok (.invokevirtual 80, 3) := by decide +kernel
theorem dX4_event_70 : decode cX4_event 70 = .ok (.ireturn, 1) := by decide +kernel
set_option maxRecDepth 20000 in
theorem ggX4_merge_X4_requireId : GoodIn wsX4_merge wsX4_requireId := goodIn_ca (goodIn_r _ [12, 13, 14, 11, 15, 16, 17] (by decide +kernel) (by decide +kernel)) (goodIn_sub (fun _ h => List.mem_cons_of_mem _ (List.mem_append_right _ h)) (by decide +kernel))
set_option maxRecDepth 20000 in
theorem gX4_merge_X4_requireId : GoodIn wsX4_merge (va_wsS RX4 48 yX4_requireId wsX4_requireId) := goodIn_app (goodIn_of _ (by decide +kernel)) ggX4_merge_X4_requireId
theorem dX4_merge_0 : decode cX4_merge 0 = .ok (.iload_n 1, 1) := by decide +kernel
theorem dX4_merge_1 : decode cX4_merge 1 = .ok (.invokestatic 48, 3) := by decide +kernel
theorem dX4_merge_4 : decode cX4_merge 4 = .ok (.iload_n 2, 1) := by decide +kernel
theorem dX4_merge_5 : decode cX4_merge 5 = .ok (.invokestatic 48, 3) := by decide +kernel
theorem dX4_merge_8 : decode cX4_merge 8 = .ok (.aload_n 0, 1) := by decide +kernel
theorem dX4_merge_9 : decode cX4_merge 9 = .ok (.getfield 9, 3) := by decide +kernel
theorem dX4_merge_12 : decode cX4_merge 12 = .ok (.iload_n 1, 1) := by decide +kernel
theorem dX4_merge_13 : decode cX4_merge 13 = .ok (.iaload, 1) := by decide +kernel
theorem dX4_merge_14 : decode cX4_merge 14 = .ok (.aload_n 0, 1) := by decide +kernel
theorem dX4_merge_15 : decode cX4_merge 15 = .ok (.getfield 9, 3) := by decide +kernel
theorem dX4_merge_18 : decode cX4_merge 18 = .ok (.iload_n 2, 1) := by decide +kernel
theorem dX4_merge_19 : decode cX4_merge 19 = .ok (.iaload, 1) := by decide +kernel
theorem dX4_merge_20 : decode cX4_merge 20 = .ok (.invokestatic 84, 3) := by decide +kernel
theorem dX4_merge_23 : decode cX4_merge 23 = .ok (.istore_n 3, 1) := by decide +kernel
theorem dX4_merge_24 : decode cX4_merge 24 = .ok (.aload_n 0, 1) := by decide +kernel
theorem dX4_merge_25 : decode cX4_merge 25 = .ok (.getfield 9, 3) := by decide +kernel
theorem dX4_merge_28 : decode cX4_merge 28 = .ok (.iload_n 1, 1) := by decide +kernel
theorem dX4_merge_29 : decode cX4_merge 29 = .ok (.iaload, 1) := by decide +kernel
theorem dX4_merge_30 : decode cX4_merge 30 = .ok (.aload_n 0, 1) := by decide +kernel
theorem dX4_merge_31 : decode cX4_merge 31 = .ok (.getfield 9, 3) := by decide +kernel
theorem dX4_merge_34 : decode cX4_merge 34 = .ok (.iload_n 2, 1) := by decide +kernel
theorem dX4_merge_35 : decode cX4_merge 35 = .ok (.iaload, 1) := by decide +kernel
theorem dX4_merge_36 : decode cX4_merge 36 = .ok (.invokestatic 90, 3) := by decide +kernel
theorem dX4_merge_39 : decode cX4_merge 39 = .ok (.istore 4, 2) := by decide +kernel
theorem dX4_merge_41 : decode cX4_merge 41 = .ok (.iconst 0, 1) := by decide +kernel
theorem dX4_merge_42 : decode cX4_merge 42 = .ok (.istore 5, 2) := by decide +kernel
theorem dX4_merge_44 : decode cX4_merge 44 = .ok (.iload 5, 2) := by decide +kernel
theorem dX4_merge_46 : decode cX4_merge 46 = .ok (.bipush 20, 2) := by decide +kernel
theorem dX4_merge_48 : decode cX4_merge 48 = .ok (.if_icmp .ge 29, 3) := by decide +kernel
theorem dX4_merge_51 : decode cX4_merge 51 = .ok (.aload_n 0, 1) := by decide +kernel
theorem dX4_merge_52 : decode cX4_merge 52 = .ok (.getfield 9, 3) := by decide +kernel
theorem dX4_merge_55 : decode cX4_merge 55 = .ok (.iload 5, 2) := by decide +kernel
theorem dX4_merge_57 : decode cX4_merge 57 = .ok (.iaload, 1) := by decide +kernel
theorem dX4_merge_58 : decode cX4_merge 58 = .ok (.iload 4, 2) := by decide +kernel
theorem dX4_merge_60 : decode cX4_merge 60 = .ok (.if_icmp .ne 11, 3) := by decide +kernel
theorem dX4_merge_63 : decode cX4_merge 63 = .ok (.aload_n 0, 1) := by decide +kernel
theorem dX4_merge_64 : decode cX4_merge 64 = .ok (.getfield 9, 3) := by decide +kernel
theorem dX4_merge_67 : decode cX4_merge 67 = .ok (.iload 5, 2) := by decide +kernel
theorem dX4_merge_69 : decode cX4_merge 69 = .ok (.iload_n 3, 1) := by decide +kernel
theorem dX4_merge_70 : decode cX4_merge 70 = .ok (.iastore, 1) := by decide +kernel
theorem dX4_merge_71 : decode cX4_merge 71 = .ok (.iinc 5 1, 3) := by decide +kernel
theorem dX4_merge_74 : decode cX4_merge 74 = .ok (.goto (-30), 3) := by decide +kernel
theorem dX4_merge_77 : decode cX4_merge 77 = .ok (.iload_n 3, 1) := by decide +kernel
theorem dX4_merge_78 : decode cX4_merge 78 = .ok (.ireturn, 1) := by decide +kernel
set_option maxRecDepth 20000 in
theorem ggX4_userOf_X4_requireId : GoodIn wsX4_userOf wsX4_requireId := goodIn_ca (goodIn_r _ [5, 6, 7, 4, 8, 9, 10] (by decide +kernel) (by decide +kernel)) (goodIn_sub (fun _ h => List.mem_cons_of_mem _ (List.mem_append_right _ h)) (by decide +kernel))
set_option maxRecDepth 20000 in
theorem gX4_userOf_X4_requireId : GoodIn wsX4_userOf (va_wsS RX4 48 yX4_requireId wsX4_requireId) := goodIn_app (goodIn_of _ (by decide +kernel)) ggX4_userOf_X4_requireId
theorem dX4_userOf_0 : decode cX4_userOf 0 = .ok (.iload_n 1, 1) := by decide +kernel
theorem dX4_userOf_1 : decode cX4_userOf 1 = .ok (.invokestatic 48, 3) := by decide +kernel
theorem dX4_userOf_4 : decode cX4_userOf 4 = .ok (.aload_n 0, 1) := by decide +kernel
theorem dX4_userOf_5 : decode cX4_userOf 5 = .ok (.getfield 9, 3) := by decide +kernel
theorem dX4_userOf_8 : decode cX4_userOf 8 = .ok (.iload_n 1, 1) := by decide +kernel
theorem dX4_userOf_9 : decode cX4_userOf 9 = .ok (.iaload, 1) := by decide +kernel
theorem dX4_userOf_10 : decode cX4_userOf 10 = .ok (.ireturn, 1) := by decide +kernel
set_option maxRecDepth 20000 in
theorem ggX4_users_X1_count : GoodIn wsX4_users wsX1_count := goodIn_r _ [7, 8, 29, 30, 31, 32, 33] (by decide +kernel) (by decide +kernel)
set_option maxRecDepth 20000 in
theorem gX4_users_X1_count : GoodIn wsX4_users (wsV RX4 93 RX1 yX1_count wsX1_count) := goodIn_app (goodIn_of _ (by decide +kernel)) ggX4_users_X1_count
set_option maxRecDepth 20000 in
theorem ggX4_users_X1_idAt : GoodIn wsX4_users wsX1_idAt := goodIn_r _ [12, 13, 14, 29, 30, 31, 32, 33] (by decide +kernel) (by decide +kernel)
set_option maxRecDepth 20000 in
theorem gX4_users_X1_idAt : GoodIn wsX4_users (wsV RX4 96 RX1 yX1_idAt wsX1_idAt) := goodIn_app (goodIn_of _ (by decide +kernel)) ggX4_users_X1_idAt
set_option maxRecDepth 20000 in
theorem ggX4_users_J6_bitCount_0f7a4 : GoodIn wsX4_users wsJ6_bitCount_0f7a4 := goodIn_r _ [18, 19, 20, 21] (by decide +kernel) (by decide +kernel)
set_option maxRecDepth 20000 in
theorem gX4_users_J6_bitCount_0f7a4 : GoodIn wsX4_users (va_wsS RX4 99 yJ6_bitCount_0f7a4 wsJ6_bitCount_0f7a4) := goodIn_app (goodIn_of _ (by decide +kernel)) ggX4_users_J6_bitCount_0f7a4
theorem dX4_users_0 : decode cX4_users 0 = .ok (.iconst 0, 1) := by decide +kernel
theorem dX4_users_1 : decode cX4_users 1 = .ok (.istore_n 1, 1) := by decide +kernel
theorem dX4_users_2 : decode cX4_users 2 = .ok (.iconst 0, 1) := by decide +kernel
theorem dX4_users_3 : decode cX4_users 3 = .ok (.istore_n 2, 1) := by decide +kernel
theorem dX4_users_4 : decode cX4_users 4 = .ok (.iload_n 2, 1) := by decide +kernel
theorem dX4_users_5 : decode cX4_users 5 = .ok (.aload_n 0, 1) := by decide +kernel
theorem dX4_users_6 : decode cX4_users 6 = .ok (.getfield 16, 3) := by decide +kernel
theorem dX4_users_9 : decode cX4_users 9 = .ok (.invokevirtual 93, 3) := by decide +kernel
theorem dX4_users_12 : decode cX4_users 12 = .ok (.if_icmp .ge 27, 3) := by decide +kernel
theorem dX4_users_15 : decode cX4_users 15 = .ok (.iload_n 1, 1) := by decide +kernel
theorem dX4_users_16 : decode cX4_users 16 = .ok (.iconst 1, 1) := by decide +kernel
theorem dX4_users_17 : decode cX4_users 17 = .ok (.aload_n 0, 1) := by decide +kernel
theorem dX4_users_18 : decode cX4_users 18 = .ok (.getfield 9, 3) := by decide +kernel
theorem dX4_users_21 : decode cX4_users 21 = .ok (.aload_n 0, 1) := by decide +kernel
theorem dX4_users_22 : decode cX4_users 22 = .ok (.getfield 16, 3) := by decide +kernel
theorem dX4_users_25 : decode cX4_users 25 = .ok (.iload_n 2, 1) := by decide +kernel
theorem dX4_users_26 : decode cX4_users 26 = .ok (.invokevirtual 96, 3) := by decide +kernel
theorem dX4_users_29 : decode cX4_users 29 = .ok (.iaload, 1) := by decide +kernel
theorem dX4_users_30 : decode cX4_users 30 = .ok (.ishl, 1) := by decide +kernel
theorem dX4_users_31 : decode cX4_users 31 = .ok (.ior, 1) := by decide +kernel
theorem dX4_users_32 : decode cX4_users 32 = .ok (.istore_n 1, 1) := by decide +kernel
theorem dX4_users_33 : decode cX4_users 33 = .ok (.iinc 2 1, 3) := by decide +kernel
theorem dX4_users_36 : decode cX4_users 36 = .ok (.goto (-32), 3) := by decide +kernel
theorem dX4_users_39 : decode cX4_users 39 = .ok (.iload_n 1, 1) := by decide +kernel
theorem dX4_users_40 : decode cX4_users 40 = .ok (.invokestatic 99, 3) := by decide +kernel
theorem dX4_users_43 : decode cX4_users 43 = .ok (.ireturn, 1) := by decide +kernel
set_option maxRecDepth 20000 in
theorem ggX4_events_X1_count : GoodIn wsX4_events wsX1_count := goodIn_r _ [6, 7, 15, 16, 17, 18, 19] (by decide +kernel) (by decide +kernel)
set_option maxRecDepth 20000 in
theorem gX4_events_X1_count : GoodIn wsX4_events (wsV RX4 93 RX1 yX1_count wsX1_count) := goodIn_app (goodIn_of _ (by decide +kernel)) ggX4_events_X1_count
theorem dX4_events_0 : decode cX4_events 0 = .ok (.aload_n 0, 1) := by decide +kernel
theorem dX4_events_1 : decode cX4_events 1 = .ok (.getfield 16, 3) := by decide +kernel
theorem dX4_events_4 : decode cX4_events 4 = .ok (.invokevirtual 93, 3) := by decide +kernel
theorem dX4_events_7 : decode cX4_events 7 = .ok (.ireturn, 1) := by decide +kernel
set_option maxRecDepth 20000 in
theorem ggX4_eventsOf_X4_requireId : GoodIn wsX4_eventsOf wsX4_requireId := goodIn_ca (goodIn_r _ [5, 6, 7, 4, 8, 9, 10] (by decide +kernel) (by decide +kernel)) (goodIn_sub (fun _ h => List.mem_cons_of_mem _ (List.mem_append_right _ h)) (by decide +kernel))
set_option maxRecDepth 20000 in
theorem gX4_eventsOf_X4_requireId : GoodIn wsX4_eventsOf (va_wsS RX4 48 yX4_requireId wsX4_requireId) := goodIn_app (goodIn_of _ (by decide +kernel)) ggX4_eventsOf_X4_requireId
set_option maxRecDepth 20000 in
theorem ggX4_eventsOf_X4_timelineOf : GoodIn wsX4_eventsOf wsX4_timelineOf := goodIn_r _ [14, 15, 16, 1, 17, 18, 19, 20, 21, 22, 23, 24, 25, 26, 27, 28, 29, 30, 31, 32, 33, 34, 35, 36, 37, 38, 39, 40, 41, 42, 43, 44, 45, 46, 47, 48, 49, 50, 51, 52, 53, 54, 55, 60, 61, 62, 63, 64, 65, 66, 67, 68, 69, 70, 71, 72, 73, 74, 75] (by decide +kernel) (by decide +kernel)
set_option maxRecDepth 20000 in
theorem gX4_eventsOf_X4_timelineOf : GoodIn wsX4_eventsOf (wsV RX4 104 RX4 yX4_timelineOf wsX4_timelineOf) := goodIn_app (goodIn_of _ (by decide +kernel)) ggX4_eventsOf_X4_timelineOf
set_option maxRecDepth 20000 in
theorem ggX4_eventsOf_X3_count : GoodIn wsX4_eventsOf wsX3_count := goodIn_r _ [59, 22, 67, 68, 69, 70] (by decide +kernel) (by decide +kernel)
set_option maxRecDepth 20000 in
theorem gX4_eventsOf_X3_count : GoodIn wsX4_eventsOf (wsV RX4 108 RX3 yX3_count wsX3_count) := goodIn_app (goodIn_of _ (by decide +kernel)) ggX4_eventsOf_X3_count
theorem dX4_eventsOf_0 : decode cX4_eventsOf 0 = .ok (.iload_n 1, 1) := by decide +kernel
theorem dX4_eventsOf_1 : decode cX4_eventsOf 1 = .ok (.invokestatic 48, 3) := by decide +kernel
theorem dX4_eventsOf_4 : decode cX4_eventsOf 4 = .ok (.aload_n 0, 1) := by decide +kernel
theorem dX4_eventsOf_5 : decode cX4_eventsOf 5 = .ok (.aload_n 0, 1) := by decide +kernel
theorem dX4_eventsOf_6 : decode cX4_eventsOf 6 = .ok (.getfield 9, 3) := by decide +kernel
theorem dX4_eventsOf_9 : decode cX4_eventsOf 9 = .ok (.iload_n 1, 1) := by decide +kernel
theorem dX4_eventsOf_10 : decode cX4_eventsOf 10 = .ok (.iaload, 1) := by decide +kernel
theorem dX4_eventsOf_11 : decode cX4_eventsOf 11 = .ok (.invokevirtual 104, 3) := by decide +kernel
theorem dX4_eventsOf_14 : decode cX4_eventsOf 14 = .ok (.invokevirtual 108, 3) := by decide +kernel
theorem dX4_eventsOf_17 : decode cX4_eventsOf 17 = .ok (.ireturn, 1) := by decide +kernel
set_option maxRecDepth 20000 in
theorem ggX4_eventAt_X4_requireId : GoodIn wsX4_eventAt wsX4_requireId := goodIn_ca (goodIn_r _ [5, 6, 7, 4, 8, 9, 10] (by decide +kernel) (by decide +kernel)) (goodIn_sub (fun _ h => List.mem_cons_of_mem _ (List.mem_append_left _ (List.mem_append_right _ h))) (by decide +kernel))
set_option maxRecDepth 20000 in
theorem gX4_eventAt_X4_requireId : GoodIn wsX4_eventAt (va_wsS RX4 48 yX4_requireId wsX4_requireId) := goodIn_app (goodIn_of _ (by decide +kernel)) ggX4_eventAt_X4_requireId
set_option maxRecDepth 20000 in
theorem ggX4_eventAt_X4_timelineOf : GoodIn wsX4_eventAt wsX4_timelineOf := goodIn_r _ [14, 15, 16, 1, 17, 18, 19, 20, 21, 22, 23, 24, 25, 26, 27, 28, 29, 30, 31, 32, 33, 34, 35, 36, 37, 38, 39, 40, 41, 42, 43, 44, 45, 46, 47, 48, 49, 50, 51, 52, 53, 54, 55, 69, 70, 71, 72, 73, 74, 75, 76, 77, 78, 79, 80, 81, 82, 83, 84] (by decide +kernel) (by decide +kernel)
set_option maxRecDepth 20000 in
theorem gX4_eventAt_X4_timelineOf : GoodIn wsX4_eventAt (wsV RX4 104 RX4 yX4_timelineOf wsX4_timelineOf) := goodIn_app (goodIn_of _ (by decide +kernel)) ggX4_eventAt_X4_timelineOf
set_option maxRecDepth 20000 in
theorem ggX4_eventAt_X3_count : GoodIn wsX4_eventAt wsX3_count := goodIn_r _ [59, 22, 76, 77, 78, 79] (by decide +kernel) (by decide +kernel)
set_option maxRecDepth 20000 in
theorem gX4_eventAt_X3_count : GoodIn wsX4_eventAt (wsV RX4 108 RX3 yX3_count wsX3_count) := goodIn_app (goodIn_of _ (by decide +kernel)) ggX4_eventAt_X3_count
set_option maxRecDepth 20000 in
theorem ggX4_eventAt_X4_requireBelow : GoodIn wsX4_eventAt wsX4_requireBelow := goodIn_ca (goodIn_r _ [62, 63, 64] (by decide +kernel) (by decide +kernel)) (goodIn_sub (fun _ h => List.mem_cons_of_mem _ (List.mem_append_right _ h)) (by decide +kernel))
set_option maxRecDepth 20000 in
theorem gX4_eventAt_X4_requireBelow : GoodIn wsX4_eventAt (va_wsS RX4 109 yX4_requireBelow wsX4_requireBelow) := goodIn_app (goodIn_of _ (by decide +kernel)) ggX4_eventAt_X4_requireBelow
set_option maxRecDepth 20000 in
theorem ggX4_eventAt_X3_numberAt : GoodIn wsX4_eventAt wsX3_numberAt := goodIn_r _ [68, 53, 76, 77, 78, 79] (by decide +kernel) (by decide +kernel)
set_option maxRecDepth 20000 in
theorem gX4_eventAt_X3_numberAt : GoodIn wsX4_eventAt (wsV RX4 113 RX3 yX3_numberAt wsX3_numberAt) := goodIn_app (goodIn_of _ (by decide +kernel)) ggX4_eventAt_X3_numberAt
theorem dX4_eventAt_0 : decode cX4_eventAt 0 = .ok (.iload_n 1, 1) := by decide +kernel
theorem dX4_eventAt_1 : decode cX4_eventAt 1 = .ok (.invokestatic 48, 3) := by decide +kernel
theorem dX4_eventAt_4 : decode cX4_eventAt 4 = .ok (.aload_n 0, 1) := by decide +kernel
theorem dX4_eventAt_5 : decode cX4_eventAt 5 = .ok (.aload_n 0, 1) := by decide +kernel
theorem dX4_eventAt_6 : decode cX4_eventAt 6 = .ok (.getfield 9, 3) := by decide +kernel
theorem dX4_eventAt_9 : decode cX4_eventAt 9 = .ok (.iload_n 1, 1) := by decide +kernel
theorem dX4_eventAt_10 : decode cX4_eventAt 10 = .ok (.iaload, 1) := by decide +kernel
theorem dX4_eventAt_11 : decode cX4_eventAt 11 = .ok (.invokevirtual 104, 3) := by decide +kernel
theorem dX4_eventAt_14 : decode cX4_eventAt 14 = .ok (.astore_n 3, 1) := by decide +kernel
theorem dX4_eventAt_15 : decode cX4_eventAt 15 = .ok (.iload_n 2, 1) := by decide +kernel
theorem dX4_eventAt_16 : decode cX4_eventAt 16 = .ok (.aload_n 3, 1) := by decide +kernel
theorem dX4_eventAt_17 : decode cX4_eventAt 17 = .ok (.invokevirtual 108, 3) := by decide +kernel
theorem dX4_eventAt_20 : decode cX4_eventAt 20 = .ok (.invokestatic 109, 3) := by decide +kernel
theorem dX4_eventAt_23 : decode cX4_eventAt 23 = .ok (.aload_n 3, 1) := by decide +kernel
theorem dX4_eventAt_24 : decode cX4_eventAt 24 = .ok (.iload_n 2, 1) := by decide +kernel
theorem dX4_eventAt_25 : decode cX4_eventAt 25 = .ok (.invokevirtual 113, 3) := by decide +kernel
theorem dX4_eventAt_28 : decode cX4_eventAt 28 = .ok (.ireturn, 1) := by decide +kernel
set_option maxRecDepth 20000 in
theorem ggX4_gap_X4_requireRange : GoodIn wsX4_gap wsX4_requireRange := goodIn_ca (goodIn_r _ [5, 6, 7] (by decide +kernel) (by decide +kernel)) (goodIn_sub (fun _ h => List.mem_cons_of_mem _ (List.mem_append_right _ h)) (by decide +kernel))
set_option maxRecDepth 20000 in
theorem gX4_gap_X4_requireRange : GoodIn wsX4_gap (va_wsS RX4 55 yX4_requireRange wsX4_requireRange) := goodIn_app (goodIn_of _ (by decide +kernel)) ggX4_gap_X4_requireRange
theorem dX4_gap_0 : decode cX4_gap 0 = .ok (.iload_n 1, 1) := by decide +kernel
theorem dX4_gap_1 : decode cX4_gap 1 = .ok (.iconst 1, 1) := by decide +kernel
theorem dX4_gap_2 : decode cX4_gap 2 = .ok (.sipush 500, 3) := by decide +kernel
theorem dX4_gap_5 : decode cX4_gap 5 = .ok (.invokestatic 55, 3) := by decide +kernel
theorem dX4_gap_8 : decode cX4_gap 8 = .ok (.aload_n 0, 1) := by decide +kernel
theorem dX4_gap_9 : decode cX4_gap 9 = .ok (.getfield 44, 3) := by decide +kernel
theorem dX4_gap_12 : decode cX4_gap 12 = .ok (.istore_n 2, 1) := by decide +kernel
