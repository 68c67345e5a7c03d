theorem dX4_scoreOf_10 : decode cX4_scoreOf 10 = .ok (.ifCond .ne 5, 3) := by decide +kernel
theorem dX4_scoreOf_13 : decode cX4_scoreOf 13 = .ok (.iconst (-1), 1) := by decide +kernel
theorem dX4_scoreOf_14 : decode cX4_scoreOf 14 = .ok (.ireturn, 1) := by decide +kernel
theorem dX4_scoreOf_15 : decode cX4_scoreOf 15 = .ok (.iload_n 2, 1) := by decide +kernel
theorem dX4_scoreOf_16 : decode cX4_scoreOf 16 = .ok (.ifCond .ne 8, 3) := by decide +kernel
theorem dX4_scoreOf_19 : decode cX4_scoreOf 19 = .ok (.aload_n 3, 1) := by decide +kernel
theorem dX4_scoreOf_20 : decode cX4_scoreOf 20 = .ok (.invokevirtual 108, 3) := by decide +kernel
theorem dX4_scoreOf_23 : decode cX4_scoreOf 23 = .ok (.ireturn, 1) := by decide +kernel
theorem dX4_scoreOf_24 : decode cX4_scoreOf 24 = .ok (.iload_n 2, 1) := by decide +kernel
theorem dX4_scoreOf_25 : decode cX4_scoreOf 25 = .ok (.iconst 1, 1) := by decide +kernel
theorem dX4_scoreOf_26 : decode cX4_scoreOf 26 = .ok (.if_icmp .ne 14, 3) := by decide +kernel
theorem dX4_scoreOf_29 : decode cX4_scoreOf 29 = .ok (.aload_n 3, 1) := by decide +kernel
theorem dX4_scoreOf_30 : decode cX4_scoreOf 30 = .ok (.aload_n 0, 1) := by decide +kernel
theorem dX4_scoreOf_31 : decode cX4_scoreOf 31 = .ok (.getfield 44, 3) := by decide +kernel
theorem dX4_scoreOf_34 : decode cX4_scoreOf 34 = .ok (.invokevirtual 116, 3) := by decide +kernel
theorem dX4_scoreOf_37 : decode cX4_scoreOf 37 = .ok (.goto 11, 3) := by decide +kernel
theorem dX4_scoreOf_40 : decode cX4_scoreOf 40 = .ok (.aload_n 0, 1) := by decide +kernel
theorem dX4_scoreOf_41 : decode cX4_scoreOf 41 = .ok (.getfield 23, 3) := by decide +kernel
theorem dX4_scoreOf_44 : decode cX4_scoreOf 44 = .ok (.aload_n 3, 1) := by decide +kernel
theorem dX4_scoreOf_45 : decode cX4_scoreOf 45 = .ok (.invokevirtual 140, 3) := by decide +kernel
theorem dX4_scoreOf_48 : decode cX4_scoreOf 48 = .ok (.ireturn, 1) := by decide +kernel
theorem dX4_usersAheadOf_0 : decode cX4_usersAheadOf 0 = .ok (.iconst 0, 1) := by decide +kernel
theorem dX4_usersAheadOf_1 : decode cX4_usersAheadOf 1 = .ok (.istore_n 2, 1) := by decide +kernel
theorem dX4_usersAheadOf_2 : decode cX4_usersAheadOf 2 = .ok (.iconst 0, 1) := by decide +kernel
theorem dX4_usersAheadOf_3 : decode cX4_usersAheadOf 3 = .ok (.istore_n 3, 1) := by decide +kernel
theorem dX4_usersAheadOf_4 : decode cX4_usersAheadOf 4 = .ok (.iload_n 3, 1) := by decide +kernel
theorem dX4_usersAheadOf_5 : decode cX4_usersAheadOf 5 = .ok (.bipush 20, 2) := by decide +kernel
theorem dX4_usersAheadOf_7 : decode cX4_usersAheadOf 7 = .ok (.if_icmp .ge 47, 3) := by decide +kernel
theorem dX4_usersAheadOf_10 : decode cX4_usersAheadOf 10 = .ok (.aload_n 0, 1) := by decide +kernel
theorem dX4_usersAheadOf_11 : decode cX4_usersAheadOf 11 = .ok (.getfield 41, 3) := by decide +kernel
theorem dX4_usersAheadOf_14 : decode cX4_usersAheadOf 14 = .ok (.iload_n 3, 1) := by decide +kernel
theorem dX4_usersAheadOf_15 : decode cX4_usersAheadOf 15 = .ok (.iaload, 1) := by decide +kernel
theorem dX4_usersAheadOf_16 : decode cX4_usersAheadOf 16 = .ok (.aload_n 0, 1) := by decide +kernel
theorem dX4_usersAheadOf_17 : decode cX4_usersAheadOf 17 = .ok (.getfield 41, 3) := by decide +kernel
theorem dX4_usersAheadOf_20 : decode cX4_usersAheadOf 20 = .ok (.iload_n 1, 1) := by decide +kernel
theorem dX4_usersAheadOf_21 : decode cX4_usersAheadOf 21 = .ok (.iaload, 1) := by decide +kernel
theorem dX4_usersAheadOf_22 : decode cX4_usersAheadOf 22 = .ok (.if_icmp .gt 23, 3) := by decide +kernel
theorem dX4_usersAheadOf_25 : decode cX4_usersAheadOf 25 = .ok (.aload_n 0, 1) := by decide +kernel
theorem dX4_usersAheadOf_26 : decode cX4_usersAheadOf 26 = .ok (.getfield 41, 3) := by decide +kernel
theorem dX4_usersAheadOf_29 : decode cX4_usersAheadOf 29 = .ok (.iload_n 3, 1) := by decide +kernel
theorem dX4_usersAheadOf_30 : decode cX4_usersAheadOf 30 = .ok (.iaload, 1) := by decide +kernel
theorem dX4_usersAheadOf_31 : decode cX4_usersAheadOf 31 = .ok (.aload_n 0, 1) := by decide +kernel
theorem dX4_usersAheadOf_32 : decode cX4_usersAheadOf 32 = .ok (.getfield 41, 3) := by decide +kernel
theorem dX4_usersAheadOf_35 : decode cX4_usersAheadOf 35 = .ok (.iload_n 1, 1) := by decide +kernel
theorem dX4_usersAheadOf_36 : decode cX4_usersAheadOf 36 = .ok (.iaload, 1) := by decide +kernel
theorem dX4_usersAheadOf_37 : decode cX4_usersAheadOf 37 = .ok (.if_icmp .ne 11, 3) := by decide +kernel
theorem dX4_usersAheadOf_40 : decode cX4_usersAheadOf 40 = .ok (.iload_n 3, 1) := by decide +kernel
theorem dX4_usersAheadOf_41 : decode cX4_usersAheadOf 41 = .ok (.iload_n 1, 1) := by decide +kernel
theorem dX4_usersAheadOf_42 : decode cX4_usersAheadOf 42 = .ok (.if_icmp .ge 6, 3) := by decide +kernel
theorem dX4_usersAheadOf_45 : decode cX4_usersAheadOf 45 = .ok (.iinc 2 1, 3) := by decide +kernel
theorem dX4_usersAheadOf_48 : decode cX4_usersAheadOf 48 = .ok (.iinc 3 1, 3) := by decide +kernel
theorem dX4_usersAheadOf_51 : decode cX4_usersAheadOf 51 = .ok (.goto (-47), 3) := by decide +kernel
theorem dX4_usersAheadOf_54 : decode cX4_usersAheadOf 54 = .ok (.iload_n 2, 1) := by decide +kernel
theorem dX4_usersAheadOf_55 : decode cX4_usersAheadOf 55 = .ok (.ireturn, 1) := by decide +kernel
theorem dX5_init_0 : decode cX5_init 0 = .ok (.aload_n 0, 1) := by decide +kernel
theorem dX5_init_1 : decode cX5_init 1 = .ok (.invokespecial 1, 3) := by decide +kernel
theorem dX5_init_4 : decode cX5_init 4 = .ok (.aload_n 0, 1) := by decide +kernel
theorem dX5_init_5 : decode cX5_init 5 = .ok (.bipush 20, 2) := by decide +kernel
theorem dX5_init_7 : decode cX5_init 7 = .ok (.newarray .int, 2) := by decide +kernel
theorem dX5_init_9 : decode cX5_init 9 = .ok (.putfield 7, 3) := by decide +kernel
theorem dX5_init_12 : decode cX5_init 12 = .ok (.aload_n 0, 1) := by decide +kernel
theorem dX5_init_13 : decode cX5_init 13 = .ok (.sipush 250, 3) := by decide +kernel
theorem dX5_init_16 : decode cX5_init 16 = .ok (.newarray .int, 2) := by decide +kernel
theorem dX5_init_18 : decode cX5_init 18 = .ok (.putfield 13, 3) := by decide +kernel
theorem dX5_init_21 : decode cX5_init 21 = .ok (.aload_n 0, 1) := by decide +kernel
theorem dX5_init_22 : decode cX5_init 22 = .ok (.sipush 250, 3) := by decide +kernel
theorem dX5_init_25 : decode cX5_init 25 = .ok (.newarray .int, 2) := by decide +kernel
theorem dX5_init_27 : decode cX5_init 27 = .ok (.putfield 16, 3) := by decide +kernel
theorem dX5_init_30 : decode cX5_init 30 = .ok (.aload_n 0, 1) := by decide +kernel
theorem dX5_init_31 : decode cX5_init 31 = .ok (.sipush 250, 3) := by decide +kernel
theorem dX5_init_34 : decode cX5_init 34 = .ok (.newarray .int, 2) := by decide +kernel
theorem dX5_init_36 : decode cX5_init 36 = .ok (.putfield 19, 3) := by decide +kernel
theorem dX5_init_39 : decode cX5_init 39 = .ok (.aload_n 0, 1) := by decide +kernel
theorem dX5_init_40 : decode cX5_init 40 = .ok (.sipush 250, 3) := by decide +kernel
theorem dX5_init_43 : decode cX5_init 43 = .ok (.newarray .int, 2) := by decide +kernel
theorem dX5_init_45 : decode cX5_init 45 = .ok (.putfield 22, 3) := by decide +kernel
theorem dX5_init_48 : decode cX5_init 48 = .ok (.aload_n 0, 1) := by decide +kernel
theorem dX5_init_49 : decode cX5_init 49 = .ok (.bipush 30, 2) := by decide +kernel
theorem dX5_init_51 : decode cX5_init 51 = .ok (.putfield 25, 3) := by decide +kernel
theorem dX5_init_54 : decode cX5_init 54 = .ok (.aload_n 0, 1) := by decide +kernel
theorem dX5_init_55 : decode cX5_init 55 = .ok (.bipush 6, 2) := by decide +kernel
theorem dX5_init_57 : decode cX5_init 57 = .ok (.newarray .int, 2) := by decide +kernel
theorem dX5_init_59 : decode cX5_init 59 = .ok (.putfield 29, 3) := by decide +kernel
theorem dX5_init_62 : decode cX5_init 62 = .ok (.aload_n 0, 1) := by decide +kernel
theorem dX5_init_63 : decode cX5_init 63 = .ok (.bipush 100, 2) := by decide +kernel
theorem dX5_init_65 : decode cX5_init 65 = .ok (.putfield 32, 3) := by decide +kernel
theorem dX5_init_68 : decode cX5_init 68 = .ok (.aload_n 0, 1) := by decide +kernel
theorem dX5_init_69 : decode cX5_init 69 = .ok (.bipush 20, 2) := by decide +kernel
theorem dX5_init_71 : decode cX5_init 71 = .ok (.newarray .int, 2) := by decide +kernel
theorem dX5_init_73 : decode cX5_init 73 = .ok (.putfield 35, 3) := by decide +kernel
theorem dX5_init_76 : decode cX5_init 76 = .ok (.aload_n 0, 1) := by decide +kernel
theorem dX5_init_77 : decode cX5_init 77 = .ok (.bipush 20, 2) := by decide +kernel
theorem dX5_init_79 : decode cX5_init 79 = .ok (.newarray .int, 2) := by decide +kernel
theorem dX5_init_81 : decode cX5_init 81 = .ok (.putfield 38, 3) := by decide +kernel
theorem dX5_init_84 : decode cX5_init 84 = .ok (.aload_n 0, 1) := by decide +kernel
theorem dX5_init_85 : decode cX5_init 85 = .ok (.bipush 20, 2) := by decide +kernel
theorem dX5_init_87 : decode cX5_init 87 = .ok (.newarray .int, 2) := by decide +kernel
theorem dX5_init_89 : decode cX5_init 89 = .ok (.putfield 41, 3) := by decide +kernel
theorem dX5_init_92 : decode cX5_init 92 = .ok (.aload_n 0, 1) := by decide +kernel
theorem dX5_init_93 : decode cX5_init 93 = .ok (.sipush 250, 3) := by decide +kernel
theorem dX5_init_96 : decode cX5_init 96 = .ok (.newarray .int, 2) := by decide +kernel
theorem dX5_init_98 : decode cX5_init 98 = .ok (.putfield 44, 3) := by decide +kernel
theorem dX5_init_101 : decode cX5_init 101 = .ok (.aload_n 0, 1) := by decide +kernel
theorem dX5_init_102 : decode cX5_init 102 = .ok (.sipush 251, 3) := by decide +kernel
theorem dX5_init_105 : decode cX5_init 105 = .ok (.newarray .int, 2) := by decide +kernel
theorem dX5_init_107 : decode cX5_init 107 = .ok (.putfield 47, 3) := by decide +kernel
theorem dX5_init_110 : decode cX5_init 110 = .ok (.iconst 0, 1) := by decide +kernel
theorem dX5_init_111 : decode cX5_init 111 = .ok (.istore_n 1, 1) := by decide +kernel
theorem dX5_init_112 : decode cX5_init 112 = .ok (.iload_n 1, 1) := by decide +kernel
theorem dX5_init_113 : decode cX5_init 113 = .ok (.bipush 20, 2) := by decide +kernel
theorem dX5_init_115 : decode cX5_init 115 = .ok (.if_icmp .ge 16, 3) := by decide +kernel
theorem dX5_init_118 : decode cX5_init 118 = .ok (.aload_n 0, 1) := by decide +kernel
theorem dX5_init_119 : decode cX5_init 119 = .ok (.getfield 7, 3) := by decide +kernel
theorem dX5_init_122 : decode cX5_init 122 = .ok (.iload_n 1, 1) := by decide +kernel
theorem dX5_init_123 : decode cX5_init 123 = .ok (.iload_n 1, 1) := by decide +kernel
theorem dX5_init_124 : decode cX5_init 124 = .ok (.iastore, 1) := by decide +kernel
theorem dX5_init_125 : decode cX5_init 125 = .ok (.iinc 1 1, 3) := by decide +kernel
theorem dX5_init_128 : decode cX5_init 128 = .ok (.goto (-16), 3) := by decide +kernel
theorem dX5_init_131 : decode cX5_init 131 = .ok (.return_, 1) := by decide +kernel
theorem dX5_thrown_0 : decode cX5_thrown 0 = .ok (.aload_n 0, 1) := by decide +kernel
theorem dX5_thrown_1 : decode cX5_thrown 1 = .ok (.getfield 50, 3) := by decide +kernel
theorem dX5_thrown_4 : decode cX5_thrown 4 = .ok (.ireturn, 1) := by decide +kernel
theorem dX5_may_0 : decode cX5_may 0 = .ok (.aload_n 0, 1) := by decide +kernel
theorem dX5_may_1 : decode cX5_may 1 = .ok (.iload_n 1, 1) := by decide +kernel
theorem dX5_may_2 : decode cX5_may 2 = .ok (.ifCond .eq 7, 3) := by decide +kernel
theorem dX5_may_5 : decode cX5_may 5 = .ok (.iconst 0, 1) := by decide +kernel
theorem dX5_may_6 : decode cX5_may 6 = .ok (.goto 4, 3) := by decide +kernel
theorem dX5_may_9 : decode cX5_may 9 = .ok (.iconst 1, 1) := by decide +kernel
theorem dX5_may_10 : decode cX5_may 10 = .ok (.putfield 50, 3) := by decide +kernel
theorem dX5_may_13 : decode cX5_may 13 = .ok (.iload_n 1, 1) := by decide +kernel
theorem dX5_may_14 : decode cX5_may 14 = .ok (.ireturn, 1) := by decide +kernel
theorem dX5_mayBoth_0 : decode cX5_mayBoth 0 = .ok (.aload_n 0, 1) := by decide +kernel
theorem dX5_mayBoth_1 : decode cX5_mayBoth 1 = .ok (.iload_n 1, 1) := by decide +kernel
theorem dX5_mayBoth_2 : decode cX5_mayBoth 2 = .ok (.ifCond .ne 7, 3) := by decide +kernel
theorem dX5_mayBoth_5 : decode cX5_mayBoth 5 = .ok (.iconst 1, 1) := by decide +kernel
theorem dX5_mayBoth_6 : decode cX5_mayBoth 6 = .ok (.goto 12, 3) := by decide +kernel
theorem dX5_mayBoth_9 : decode cX5_mayBoth 9 = .ok (.iload_n 2, 1) := by decide +kernel
theorem dX5_mayBoth_10 : decode cX5_mayBoth 10 = .ok (.ifCond .ne 7, 3) := by decide +kernel
theorem dX5_mayBoth_13 : decode cX5_mayBoth 13 = .ok (.iconst 2, 1) := by decide +kernel
theorem dX5_mayBoth_14 : decode cX5_mayBoth 14 = .ok (.goto 4, 3) := by decide +kernel
theorem dX5_mayBoth_17 : decode cX5_mayBoth 17 = .ok (.iconst 0, 1) := by decide +kernel
theorem dX5_mayBoth_18 : decode cX5_mayBoth 18 = .ok (.putfield 50, 3) := by decide +kernel
theorem dX5_mayBoth_21 : decode cX5_mayBoth 21 = .ok (.aload_n 0, 1) := by decide +kernel
theorem dX5_mayBoth_22 : decode cX5_mayBoth 22 = .ok (.getfield 50, 3) := by decide +kernel
theorem dX5_mayBoth_25 : decode cX5_mayBoth 25 = .ok (.ifCond .ne 7, 3) := by decide +kernel
theorem dX5_mayBoth_28 : decode cX5_mayBoth 28 = .ok (.iconst 1, 1) := by decide +kernel
theorem dX5_mayBoth_29 : decode cX5_mayBoth 29 = .ok (.goto 4, 3) := by decide +kernel
theorem dX5_mayBoth_32 : decode cX5_mayBoth 32 = .ok (.iconst 0, 1) := by decide +kernel
theorem dX5_mayBoth_33 : decode cX5_mayBoth 33 = .ok (.ireturn, 1) := by decide +kernel
theorem dX5_isId_0 : decode cX5_isId 0 = .ok (.iload_n 0, 1) := by decide +kernel
theorem dX5_isId_1 : decode cX5_isId 1 = .ok (.ifCond .lt 13, 3) := by decide +kernel
theorem dX5_isId_4 : decode cX5_isId 4 = .ok (.iload_n 0, 1) := by decide +kernel
theorem dX5_isId_5 : decode cX5_isId 5 = .ok (.bipush 20, 2) := by decide +kernel
theorem dX5_isId_7 : decode cX5_isId 7 = .ok (.if_icmp .ge 7, 3) := by decide +kernel
theorem dX5_isId_10 : decode cX5_isId 10 = .ok (.iconst 1, 1) := by decide +kernel
theorem dX5_isId_11 : decode cX5_isId 11 = .ok (.goto 4, 3) := by decide +kernel
theorem dX5_isId_14 : decode cX5_isId 14 = .ok (.iconst 0, 1) := by decide +kernel
theorem dX5_isId_15 : decode cX5_isId 15 = .ok (.ireturn, 1) := by decide +kernel
theorem dX5_isDay_0 : decode cX5_isDay 0 = .ok (.iload_n 0, 1) := by decide +kernel
theorem dX5_isDay_1 : decode cX5_isDay 1 = .ok (.ifCond .lt 13, 3) := by decide +kernel
theorem dX5_isDay_4 : decode cX5_isDay 4 = .ok (.iload_n 0, 1) := by decide +kernel
theorem dX5_isDay_5 : decode cX5_isDay 5 = .ok (.bipush 20, 2) := by decide +kernel
theorem dX5_isDay_7 : decode cX5_isDay 7 = .ok (.if_icmp .ge 7, 3) := by decide +kernel
theorem dX5_isDay_10 : decode cX5_isDay 10 = .ok (.iconst 1, 1) := by decide +kernel
theorem dX5_isDay_11 : decode cX5_isDay 11 = .ok (.goto 4, 3) := by decide +kernel
theorem dX5_isDay_14 : decode cX5_isDay 14 = .ok (.iconst 0, 1) := by decide +kernel
theorem dX5_isDay_15 : decode cX5_isDay 15 = .ok (.ireturn, 1) := by decide +kernel
set_option maxRecDepth 20000 in
theorem ggX5_event_X5_isId : GoodIn wsX5_event wsX5_isId := goodIn_r _ [10] (by decide +kernel) (by decide +kernel)
set_option maxRecDepth 20000 in
theorem gX5_event_X5_isId : GoodIn wsX5_event (va_wsS RX5 53 yX5_isId wsX5_isId) := goodIn_app (goodIn_of _ (by decide +kernel)) ggX5_event_X5_isId
set_option maxRecDepth 20000 in
theorem ggX5_event_X5_mayBoth : GoodIn wsX5_event wsX5_mayBoth := goodIn_r _ [14, 15, 16, 17, 18, 19, 20, 21, 22, 23, 24, 25, 26, 27, 28, 29, 30, 31, 32, 33, 34] (by decide +kernel) (by decide +kernel)
set_option maxRecDepth 20000 in
theorem gX5_event_X5_mayBoth : GoodIn wsX5_event (wsV RX5 63 RX5 yX5_mayBoth wsX5_mayBoth) := goodIn_app (goodIn_of _ (by decide +kernel)) ggX5_event_X5_mayBoth
theorem dX5_event_0 : decode cX5_event 0 = .ok (.iload_n 1, 1) := by decide +kernel
theorem dX5_event_1 : decode cX5_event 1 = .ok (.invokestatic 53, 3) := by decide +kernel
theorem dX5_event_4 : decode cX5_event 4 = .ok (.ifCond .eq 28, 3) := by decide +kernel
theorem dX5_event_7 : decode cX5_event 7 = .ok (.iload_n 2, 1) := by decide +kernel
theorem dX5_event_8 : decode cX5_event 8 = .ok (.ifCond .lt 24, 3) := by decide +kernel
theorem dX5_event_11 : decode cX5_event 11 = .ok (.iload_n 2, 1) := by decide +kernel
theorem dX5_event_12 : decode cX5_event 12 = .ok (.bipush 9, 2) := by decide +kernel
theorem dX5_event_14 : decode cX5_event 14 = .ok (.if_icmp .gt 18, 3) := by decide +kernel
theorem dX5_event_17 : decode cX5_event 17 = .ok (.iload_n 3, 1) := by decide +kernel
theorem dX5_event_18 : decode cX5_event 18 = .ok (.ifCond .lt 14, 3) := by decide +kernel
theorem dX5_event_21 : decode cX5_event 21 = .ok (.iload_n 3, 1) := by decide +kernel
theorem dX5_event_22 : decode cX5_event 22 = .ok (.sipush 1999, 3) := by decide +kernel
theorem dX5_event_25 : decode cX5_event 25 = .ok (.if_icmp .gt 7, 3) := by decide +kernel
theorem dX5_event_28 : decode cX5_event 28 = .ok (.iconst 1, 1) := by decide +kernel
theorem dX5_event_29 : decode cX5_event 29 = .ok (.goto 4, 3) := by decide +kernel
theorem dX5_event_32 : decode cX5_event 32 = .ok (.iconst 0, 1) := by decide +kernel
theorem dX5_event_33 : decode cX5_event 33 = .ok (.istore 4, 2) := by decide +kernel
theorem dX5_event_35 : decode cX5_event 35 = .ok (.aload_n 0, 1) := by decide +kernel
theorem dX5_event_36 : decode cX5_event 36 = .ok (.iload 4, 2) := by decide +kernel
theorem dX5_event_38 : decode cX5_event 38 = .ok (.iload_n 3, 1) := by decide +kernel
theorem dX5_event_39 : decode cX5_event 39 = .ok (.bipush 100, 2) := by decide +kernel
theorem dX5_event_41 : decode cX5_event 41 = .ok (.idiv, 1) := by decide +kernel
theorem dX5_event_42 : decode cX5_event 42 = .ok (.aload_n 0, 1) := by decide +kernel
theorem dX5_event_43 : decode cX5_event 43 = .ok (.getfield 57, 3) := by decide +kernel
theorem dX5_event_46 : decode cX5_event 46 = .ok (.if_icmp .lt 17, 3) := by decide +kernel
theorem dX5_event_49 : decode cX5_event 49 = .ok (.aload_n 0, 1) := by decide +kernel
theorem dX5_event_50 : decode cX5_event 50 = .ok (.getfield 60, 3) := by decide +kernel
theorem dX5_event_53 : decode cX5_event 53 = .ok (.sipush 250, 3) := by decide +kernel
theorem dX5_event_56 : decode cX5_event 56 = .ok (.if_icmp .ge 7, 3) := by decide +kernel
theorem dX5_event_59 : decode cX5_event 59 = .ok (.iconst 1, 1) := by decide +kernel
theorem dX5_event_60 : decode cX5_event 60 = .ok (.goto 4, 3) := by decide +kernel
theorem dX5_event_63 : decode cX5_event 63 = .ok (.iconst 0, 1) := by decide +kernel
theorem dX5_event_64 : decode cX5_event 64 = .ok (.invokevirtual 63, 3) := by decide +kernel
theorem dX5_event_67 : decode cX5_event 67 = .ok (.ifCond .ne 5, 3) := by decide +kernel
theorem dX5_event_70 : decode cX5_event 70 = .ok (.iconst 0, 1) := by decide +kernel
theorem dX5_event_71 : decode cX5_event 71 = .ok (.ireturn, 1) := by decide +kernel
theorem dX5_event_72 : decode cX5_event 72 = .ok (.aload_n 0, 1) := by decide +kernel
theorem dX5_event_73 : decode cX5_event 73 = .ok (.getfield 13, 3) := by decide +kernel
theorem dX5_event_76 : decode cX5_event 76 = .ok (.aload_n 0, 1) := by decide +kernel
theorem dX5_event_77 : decode cX5_event 77 = .ok (.getfield 60, 3) := by decide +kernel
theorem dX5_event_80 : decode cX5_event 80 = .ok (.iload_n 1, 1) := by decide +kernel
theorem dX5_event_81 : decode cX5_event 81 = .ok (.iastore, 1) := by decide +kernel
theorem dX5_event_82 : decode cX5_event 82 = .ok (.aload_n 0, 1) := by decide +kernel
theorem dX5_event_83 : decode cX5_event 83 = .ok (.getfield 16, 3) := by decide +kernel
theorem dX5_event_86 : decode cX5_event 86 = .ok (.aload_n 0, 1) := by decide +kernel
theorem dX5_event_87 : decode cX5_event 87 = .ok (.getfield 60, 3) := by decide +kernel
theorem dX5_event_90 : decode cX5_event 90 = .ok (.iload_n 2, 1) := by decide +kernel
theorem dX5_event_91 : decode cX5_event 91 = .ok (.iastore, 1) := by decide +kernel
theorem dX5_event_92 : decode cX5_event 92 = .ok (.aload_n 0, 1) := by decide +kernel
theorem dX5_event_93 : decode cX5_event 93 = .ok (.getfield 19, 3) := by decide +kernel
theorem dX5_event_96 : decode cX5_event 96 = .ok (.aload_n 0, 1) := by decide +kernel
theorem dX5_event_97 : decode cX5_event 97 = .ok (.getfield 60, 3) := by decide +kernel
theorem dX5_event_100 : decode cX5_event 100 = .ok (.iload_n 3, 1) := by decide +kernel
theorem dX5_event_101 : decode cX5_event 101 = .ok (.iastore, 1) := by decide +kernel
theorem dX5_event_102 : decode cX5_event 102 = .ok (.aload_n 0, 1) := by decide +kernel
theorem dX5_event_103 : decode cX5_event 103 = .ok (.getfield 60, 3) := by decide +kernel
theorem dX5_event_106 : decode cX5_event 106 = .ok (.istore 5, 2) := by decide +kernel
theorem dX5_event_108 : decode cX5_event 108 = .ok (.iload 5, 2) := by decide +kernel
theorem dX5_event_110 : decode cX5_event 110 = .ok (.ifCond .le 43, 3) := by decide +kernel
theorem dX5_event_113 : decode cX5_event 113 = .ok (.aload_n 0, 1) := by decide +kernel
theorem dX5_event_114 : decode cX5_event 114 = .ok (.getfield 19, 3) := by decide +kernel
theorem dX5_event_117 : decode cX5_event 117 = .ok (.aload_n 0, 1) := by decide +kernel
theorem dX5_event_118 : decode cX5_event 118 = .ok (.getfield 22, 3) := by decide +kernel
theorem dX5_event_121 : decode cX5_event 121 = .ok (.iload 5, 2) := by decide +kernel
theorem dX5_event_123 : decode cX5_event 123 = .ok (.iconst 1, 1) := by decide +kernel
theorem dX5_event_124 : decode cX5_event 124 = .ok (.isub, 1) := by decide +kernel
theorem dX5_event_125 : decode cX5_event 125 = .ok (.iaload, 1) := by decide +kernel
theorem dX5_event_126 : decode cX5_event 126 = .ok (.iaload, 1) := by decide +kernel
theorem dX5_event_127 : decode cX5_event 127 = .ok (.iload_n 3, 1) := by decide +kernel
theorem dX5_event_128 : decode cX5_event 128 = .ok (.if_icmp .le 25, 3) := by decide +kernel
theorem dX5_event_131 : decode cX5_event 131 = .ok (.aload_n 0, 1) := by decide +kernel
theorem dX5_event_132 : decode cX5_event 132 = .ok (.getfield 22, 3) := by decide +kernel
theorem dX5_event_135 : decode cX5_event 135 = .ok (.iload 5, 2) := by decide +kernel
theorem dX5_event_137 : decode cX5_event 137 = .ok (.aload_n 0, 1) := by decide +kernel
theorem dX5_event_138 : decode cX5_event 138 = .ok (.getfield 22, 3) := by decide +kernel
theorem dX5_event_141 : decode cX5_event 141 = .ok (.iload 5, 2) := by decide +kernel
theorem dX5_event_143 : decode cX5_event 143 = .ok (.iconst 1, 1) := by decide +kernel
theorem dX5_event_144 : decode cX5_event 144 = .ok (.isub, 1) := by decide +kernel
theorem dX5_event_145 : decode cX5_event 145 = .ok (.iaload, 1) := by decide +kernel
theorem dX5_event_146 : decode cX5_event 146 = .ok (.iastore, 1) := by decide +kernel
theorem dX5_event_147 : decode cX5_event 147 = .ok (.iinc 5 (-1), 3) := by decide +kernel
theorem dX5_event_150 : decode cX5_event 150 = .ok (.goto (-42), 3) := by decide +kernel
theorem dX5_event_153 : decode cX5_event 153 = .ok (.aload_n 0, 1) := by decide +kernel
theorem dX5_event_154 : decode cX5_event 154 = .ok (.getfield 22, 3) := by decide +kernel
theorem dX5_event_157 : decode cX5_event 157 = .ok (.iload 5, 2) := by decide +kernel
theorem dX5_event_159 : decode cX5_event 159 = .ok (.aload_n 0, 1) := by decide +kernel
theorem dX5_event_160 : decode cX5_event 160 = .ok (.getfield 60, 3) := by decide +kernel
theorem dX5_event_163 : decode cX5_event 163 = .ok (.iastore, 1) := by decide +kernel
theorem dX5_event_164 : decode cX5_event 164 = .ok (.aload_n 0, 1) := by decide +kernel
theorem dX5_event_165 : decode cX5_event 165 = .ok (.dup, 1) := by decide +kernel
theorem dX5_event_166 : decode cX5_event 166 = .ok (.getfield 60, 3) := by decide +kernel
theorem dX5_event_169 : decode cX5_event 169 = .ok (.iconst 1, 1) := by decide +kernel
theorem dX5_event_170 : decode cX5_event 170 = .ok (.iadd, 1) := by decide +kernel
theorem dX5_event_171 : decode cX5_event 171 = .ok (.putfield 60, 3) := by decide +kernel
theorem dX5_event_174 : decode cX5_event 174 = .ok (.aload_n 0, 1) := by decide +kernel
theorem dX5_event_175 : decode cX5_event 175 = .ok (.getfield 60, 3) := by decide +kernel
theorem dX5_event_178 : decode cX5_event 178 = .ok (.iconst 1, 1) := by decide +kernel
theorem dX5_event_179 : decode cX5_event 179 = .ok (.isub, 1) := by decide +kernel
theorem dX5_event_180 : decode cX5_event 180 = .ok (.ireturn, 1) := by decide +kernel
set_option maxRecDepth 20000 in
theorem ggX5_merge_X5_isId : GoodIn wsX5_merge wsX5_isId := goodIn_r _ [5] (by decide +kernel) (by decide +kernel)
set_option maxRecDepth 20000 in
theorem gX5_merge_X5_isId : GoodIn wsX5_merge (va_wsS RX5 53 yX5_isId wsX5_isId) := goodIn_app (goodIn_of _ (by decide +kernel)) ggX5_merge_X5_isId
set_option maxRecDepth 20000 in
theorem ggX5_merge_X5_may : GoodIn wsX5_merge wsX5_may := goodIn_r _ [9, 10, 11, 12, 13, 14, 15, 16, 17, 18, 19, 20, 21, 22, 23, 24, 25, 26, 27, 28, 29] (by decide +kernel) (by decide +kernel)
set_option maxRecDepth 20000 in
theorem gX5_merge_X5_may : GoodIn wsX5_merge (wsV RX5 67 RX5 yX5_may wsX5_may) := goodIn_app (goodIn_of _ (by decide +kernel)) ggX5_merge_X5_may
theorem dX5_merge_0 : decode cX5_merge 0 = .ok (.aload_n 0, 1) := by decide +kernel
theorem dX5_merge_1 : decode cX5_merge 1 = .ok (.iload_n 1, 1) := by decide +kernel
theorem dX5_merge_2 : decode cX5_merge 2 = .ok (.invokestatic 53, 3) := by decide +kernel
theorem dX5_merge_5 : decode cX5_merge 5 = .ok (.ifCond .eq 14, 3) := by decide +kernel
theorem dX5_merge_8 : decode cX5_merge 8 = .ok (.iload_n 2, 1) := by decide +kernel
theorem dX5_merge_9 : decode cX5_merge 9 = .ok (.invokestatic 53, 3) := by decide +kernel
theorem dX5_merge_12 : decode cX5_merge 12 = .ok (.ifCond .eq 7, 3) := by decide +kernel
theorem dX5_merge_15 : decode cX5_merge 15 = .ok (.iconst 1, 1) := by decide +kernel
theorem dX5_merge_16 : decode cX5_merge 16 = .ok (.goto 4, 3) := by decide +kernel
theorem dX5_merge_19 : decode cX5_merge 19 = .ok (.iconst 0, 1) := by decide +kernel
theorem dX5_merge_20 : decode cX5_merge 20 = .ok (.invokevirtual 67, 3) := by decide +kernel
theorem dX5_merge_23 : decode cX5_merge 23 = .ok (.ifCond .ne 5, 3) := by decide +kernel
theorem dX5_merge_26 : decode cX5_merge 26 = .ok (.iconst 0, 1) := by decide +kernel
theorem dX5_merge_27 : decode cX5_merge 27 = .ok (.ireturn, 1) := by decide +kernel
theorem dX5_merge_28 : decode cX5_merge 28 = .ok (.aload_n 0, 1) := by decide +kernel
theorem dX5_merge_29 : decode cX5_merge 29 = .ok (.getfield 7, 3) := by decide +kernel
theorem dX5_merge_32 : decode cX5_merge 32 = .ok (.iload_n 1, 1) := by decide +kernel
theorem dX5_merge_33 : decode cX5_merge 33 = .ok (.iaload, 1) := by decide +kernel
theorem dX5_merge_34 : decode cX5_merge 34 = .ok (.aload_n 0, 1) := by decide +kernel
theorem dX5_merge_35 : decode cX5_merge 35 = .ok (.getfield 7, 3) := by decide +kernel
theorem dX5_merge_38 : decode cX5_merge 38 = .ok (.iload_n 2, 1) := by decide +kernel
theorem dX5_merge_39 : decode cX5_merge 39 = .ok (.iaload, 1) := by decide +kernel
theorem dX5_merge_40 : decode cX5_merge 40 = .ok (.if_icmp .ge 12, 3) := by decide +kernel
theorem dX5_merge_43 : decode cX5_merge 43 = .ok (.aload_n 0, 1) := by decide +kernel
theorem dX5_merge_44 : decode cX5_merge 44 = .ok (.getfield 7, 3) := by decide +kernel
theorem dX5_merge_47 : decode cX5_merge 47 = .ok (.iload_n 1, 1) := by decide +kernel
theorem dX5_merge_48 : decode cX5_merge 48 = .ok (.iaload, 1) := by decide +kernel
theorem dX5_merge_49 : decode cX5_merge 49 = .ok (.goto 9, 3) := by decide +kernel
theorem dX5_merge_52 : decode cX5_merge 52 = .ok (.aload_n 0, 1) := by decide +kernel
theorem dX5_merge_53 : decode cX5_merge 53 = .ok (.getfield 7, 3) := by decide +kernel
theorem dX5_merge_56 : decode cX5_merge 56 = .ok (.iload_n 2, 1) := by decide +kernel
theorem dX5_merge_57 : decode cX5_merge 57 = .ok (.iaload, 1) := by decide +kernel
theorem dX5_merge_58 : decode cX5_merge 58 = .ok (.istore_n 3, 1) := by decide +kernel
theorem dX5_merge_59 : decode cX5_merge 59 = .ok (.aload_n 0, 1) := by decide +kernel
theorem dX5_merge_60 : decode cX5_merge 60 = .ok (.getfield 7, 3) := by decide +kernel
theorem dX5_merge_63 : decode cX5_merge 63 = .ok (.iload_n 1, 1) := by decide +kernel
theorem dX5_merge_64 : decode cX5_merge 64 = .ok (.iaload, 1) := by decide +kernel
theorem dX5_merge_65 : decode cX5_merge 65 = .ok (.aload_n 0, 1) := by decide +kernel
theorem dX5_merge_66 : decode cX5_merge 66 = .ok (.getfield 7, 3) := by decide +kernel
theorem dX5_merge_69 : decode cX5_merge 69 = .ok (.iload_n 2, 1) := by decide +kernel
theorem dX5_merge_70 : decode cX5_merge 70 = .ok (.iaload, 1) := by decide +kernel
theorem dX5_merge_71 : decode cX5_merge 71 = .ok (.if_icmp .ge 12, 3) := by decide +kernel
theorem dX5_merge_74 : decode cX5_merge 74 = .ok (.aload_n 0, 1) := by decide +kernel
theorem dX5_merge_75 : decode cX5_merge 75 = .ok (.getfield 7, 3) := by decide +kernel
theorem dX5_merge_78 : decode cX5_merge 78 = .ok (.iload_n 2, 1) := by decide +kernel
theorem dX5_merge_79 : decode cX5_merge 79 = .ok (.iaload, 1) := by decide +kernel
theorem dX5_merge_80 : decode cX5_merge 80 = .ok (.goto 9, 3) := by decide +kernel
theorem dX5_merge_83 : decode cX5_merge 83 = .ok (.aload_n 0, 1) := by decide +kernel
theorem dX5_merge_84 : decode cX5_merge 84 = .ok (.getfield 7, 3) := by decide +kernel
theorem dX5_merge_87 : decode cX5_merge 87 = .ok (.iload_n 1, 1) := by decide +kernel
theorem dX5_merge_88 : decode cX5_merge 88 = .ok (.iaload, 1) := by decide +kernel
theorem dX5_merge_89 : decode cX5_merge 89 = .ok (.istore 4, 2) := by decide +kernel
theorem dX5_merge_91 : decode cX5_merge 91 = .ok (.iconst 0, 1) := by decide +kernel
theorem dX5_merge_92 : decode cX5_merge 92 = .ok (.istore 5, 2) := by decide +kernel
theorem dX5_merge_94 : decode cX5_merge 94 = .ok (.iload 5, 2) := by decide +kernel
theorem dX5_merge_96 : decode cX5_merge 96 = .ok (.bipush 20, 2) := by decide +kernel
theorem dX5_merge_98 : decode cX5_merge 98 = .ok (.if_icmp .ge 39, 3) := by decide +kernel
theorem dX5_merge_101 : decode cX5_merge 101 = .ok (.aload_n 0, 1) := by decide +kernel
theorem dX5_merge_102 : decode cX5_merge 102 = .ok (.getfield 7, 3) := by decide +kernel
theorem dX5_merge_105 : decode cX5_merge 105 = .ok (.iload 5, 2) := by decide +kernel
theorem dX5_merge_107 : decode cX5_merge 107 = .ok (.aload_n 0, 1) := by decide +kernel
theorem dX5_merge_108 : decode cX5_merge 108 = .ok (.getfield 7, 3) := by decide +kernel
theorem dX5_merge_111 : decode cX5_merge 111 = .ok (.iload 5, 2) := by decide +kernel
theorem dX5_merge_113 : decode cX5_merge 113 = .ok (.iaload, 1) := by decide +kernel
theorem dX5_merge_114 : decode cX5_merge 114 = .ok (.iload 4, 2) := by decide +kernel
theorem dX5_merge_116 : decode cX5_merge 116 = .ok (.if_icmp .ne 7, 3) := by decide +kernel
theorem dX5_merge_119 : decode cX5_merge 119 = .ok (.iload_n 3, 1) := by decide +kernel
theorem dX5_merge_120 : decode cX5_merge 120 = .ok (.goto 10, 3) := by decide +kernel
theorem dX5_merge_123 : decode cX5_merge 123 = .ok (.aload_n 0, 1) := by decide +kernel
theorem dX5_merge_124 : decode cX5_merge 124 = .ok (.getfield 7, 3) := by decide +kernel
theorem dX5_merge_127 : decode cX5_merge 127 = .ok (.iload 5, 2) := by decide +kernel
theorem dX5_merge_129 : decode cX5_merge 129 = .ok (.iaload, 1) := by decide +kernel
theorem dX5_merge_130 : decode cX5_merge 130 = .ok (.iastore, 1) := by decide +kernel
theorem dX5_merge_131 : decode cX5_merge 131 = .ok (.iinc 5 1, 3) := by decide +kernel
theorem dX5_merge_134 : decode cX5_merge 134 = .ok (.goto (-40), 3) := by decide +kernel
theorem dX5_merge_137 : decode cX5_merge 137 = .ok (.iload_n 3, 1) := by decide +kernel
theorem dX5_merge_138 : decode cX5_merge 138 = .ok (.ireturn, 1) := by decide +kernel
set_option maxRecDepth 20000 in
theorem ggX5_userOf_X5_isId : GoodIn wsX5_userOf wsX5_isId := goodIn_r _ [5] (by decide +kernel) (by decide +kernel)
set_option maxRecDepth 20000 in
theorem gX5_userOf_X5_isId : GoodIn wsX5_userOf (va_wsS RX5 53 yX5_isId wsX5_isId) := goodIn_app (goodIn_of _ (by decide +kernel)) ggX5_userOf_X5_isId
set_option maxRecDepth 20000 in
theorem ggX5_userOf_X5_may : GoodIn wsX5_userOf wsX5_may := goodIn_r _ [9, 10, 11, 12, 13, 14, 15, 16, 17, 18, 19, 20, 21, 22, 23, 24, 25, 26, 27, 28, 29] (by decide +kernel) (by decide +kernel)
set_option maxRecDepth 20000 in
theorem gX5_userOf_X5_may : GoodIn wsX5_userOf (wsV RX5 67 RX5 yX5_may wsX5_may) := goodIn_app (goodIn_of _ (by decide +kernel)) ggX5_userOf_X5_may
theorem dX5_userOf_0 : decode cX5_userOf 0 = .ok (.aload_n 0, 1) := by decide +kernel
theorem dX5_userOf_1 : decode cX5_userOf 1 = .ok (.iload_n 1, 1) := by decide +kernel
theorem dX5_userOf_2 : decode cX5_userOf 2 = .ok (.invokestatic 53, 3) := by decide +kernel
theorem dX5_userOf_5 : decode cX5_userOf 5 = .ok (.invokevirtual 67, 3) := by decide +kernel
theorem dX5_userOf_8 : decode cX5_userOf 8 = .ok (.ifCond .eq 12, 3) := by decide +kernel
theorem dX5_userOf_11 : decode cX5_userOf 11 = .ok (.aload_n 0, 1) := by decide +kernel
theorem dX5_userOf_12 : decode cX5_userOf 12 = .ok (.getfield 7, 3) := by decide +kernel
theorem dX5_userOf_15 : decode cX5_userOf 15 = .ok (.iload_n 1, 1) := by decide +kernel
theorem dX5_userOf_16 : decode cX5_userOf 16 = .ok (.iaload, 1) := by decide +kernel
theorem dX5_userOf_17 : decode cX5_userOf 17 = .ok (.goto 4, 3) := by decide +kernel
theorem dX5_userOf_20 : decode cX5_userOf 20 = .ok (.iconst 0, 1) := by decide +kernel
theorem dX5_userOf_21 : decode cX5_userOf 21 = .ok (.ireturn, 1) := by decide +kernel
theorem dX5_look_0 : decode cX5_look 0 = .ok (.aload_n 0, 1) := by decide +kernel
theorem dX5_look_1 : decode cX5_look 1 = .ok (.iconst 0, 1) := by decide +kernel
theorem dX5_look_2 : decode cX5_look 2 = .ok (.putfield 71, 3) := by decide +kernel
theorem dX5_look_5 : decode cX5_look 5 = .ok (.aload_n 0, 1) := by decide +kernel
theorem dX5_look_6 : decode cX5_look 6 = .ok (.iconst 0, 1) := by decide +kernel
theorem dX5_look_7 : decode cX5_look 7 = .ok (.putfield 74, 3) := by decide +kernel
theorem dX5_look_10 : decode cX5_look 10 = .ok (.iconst 0, 1) := by decide +kernel
theorem dX5_look_11 : decode cX5_look 11 = .ok (.istore_n 2, 1) := by decide +kernel
theorem dX5_look_12 : decode cX5_look 12 = .ok (.iload_n 2, 1) := by decide +kernel
theorem dX5_look_13 : decode cX5_look 13 = .ok (.aload_n 0, 1) := by decide +kernel
theorem dX5_look_14 : decode cX5_look 14 = .ok (.getfield 60, 3) := by decide +kernel
theorem dX5_look_17 : decode cX5_look 17 = .ok (.if_icmp .ge 111, 3) := by decide +kernel
theorem dX5_look_20 : decode cX5_look 20 = .ok (.aload_n 0, 1) := by decide +kernel
theorem dX5_look_21 : decode cX5_look 21 = .ok (.getfield 22, 3) := by decide +kernel
theorem dX5_look_24 : decode cX5_look 24 = .ok (.iload_n 2, 1) := by decide +kernel
theorem dX5_look_25 : decode cX5_look 25 = .ok (.iaload, 1) := by decide +kernel
theorem dX5_look_26 : decode cX5_look 26 = .ok (.istore_n 3, 1) := by decide +kernel
theorem dX5_look_27 : decode cX5_look 27 = .ok (.aload_n 0, 1) := by decide +kernel
theorem dX5_look_28 : decode cX5_look 28 = .ok (.getfield 7, 3) := by decide +kernel
theorem dX5_look_31 : decode cX5_look 31 = .ok (.aload_n 0, 1) := by decide +kernel
theorem dX5_look_32 : decode cX5_look 32 = .ok (.getfield 13, 3) := by decide +kernel
theorem dX5_look_35 : decode cX5_look 35 = .ok (.iload_n 3, 1) := by decide +kernel
theorem dX5_look_36 : decode cX5_look 36 = .ok (.iaload, 1) := by decide +kernel
theorem dX5_look_37 : decode cX5_look 37 = .ok (.iaload, 1) := by decide +kernel
theorem dX5_look_38 : decode cX5_look 38 = .ok (.iload_n 1, 1) := by decide +kernel
theorem dX5_look_39 : decode cX5_look 39 = .ok (.if_icmp .ne 83, 3) := by decide +kernel
theorem dX5_look_42 : decode cX5_look 42 = .ok (.aload_n 0, 1) := by decide +kernel
theorem dX5_look_43 : decode cX5_look 43 = .ok (.getfield 71, 3) := by decide +kernel
theorem dX5_look_46 : decode cX5_look 46 = .ok (.ifCond .eq 33, 3) := by decide +kernel
theorem dX5_look_49 : decode cX5_look 49 = .ok (.aload_n 0, 1) := by decide +kernel
theorem dX5_look_50 : decode cX5_look 50 = .ok (.getfield 19, 3) := by decide +kernel
theorem dX5_look_53 : decode cX5_look 53 = .ok (.iload_n 3, 1) := by decide +kernel
theorem dX5_look_54 : decode cX5_look 54 = .ok (.iaload, 1) := by decide +kernel
theorem dX5_look_55 : decode cX5_look 55 = .ok (.aload_n 0, 1) := by decide +kernel
theorem dX5_look_56 : decode cX5_look 56 = .ok (.getfield 19, 3) := by decide +kernel
theorem dX5_look_59 : decode cX5_look 59 = .ok (.aload_n 0, 1) := by decide +kernel
theorem dX5_look_60 : decode cX5_look 60 = .ok (.getfield 44, 3) := by decide +kernel
theorem dX5_look_63 : decode cX5_look 63 = .ok (.aload_n 0, 1) := by decide +kernel
theorem dX5_look_64 : decode cX5_look 64 = .ok (.getfield 71, 3) := by decide +kernel
theorem dX5_look_67 : decode cX5_look 67 = .ok (.iconst 1, 1) := by decide +kernel
theorem dX5_look_68 : decode cX5_look 68 = .ok (.isub, 1) := by decide +kernel
theorem dX5_look_69 : decode cX5_look 69 = .ok (.iaload, 1) := by decide +kernel
theorem dX5_look_70 : decode cX5_look 70 = .ok (.iaload, 1) := by decide +kernel
theorem dX5_look_71 : decode cX5_look 71 = .ok (.isub, 1) := by decide +kernel
theorem dX5_look_72 : decode cX5_look 72 = .ok (.aload_n 0, 1) := by decide +kernel
theorem dX5_look_73 : decode cX5_look 73 = .ok (.getfield 25, 3) := by decide +kernel
theorem dX5_look_76 : decode cX5_look 76 = .ok (.if_icmp .le 26, 3) := by decide +kernel
theorem dX5_look_79 : decode cX5_look 79 = .ok (.aload_n 0, 1) := by decide +kernel
theorem dX5_look_80 : decode cX5_look 80 = .ok (.getfield 47, 3) := by decide +kernel
theorem dX5_look_83 : decode cX5_look 83 = .ok (.aload_n 0, 1) := by decide +kernel
theorem dX5_look_84 : decode cX5_look 84 = .ok (.getfield 74, 3) := by decide +kernel
theorem dX5_look_87 : decode cX5_look 87 = .ok (.aload_n 0, 1) := by decide +kernel
theorem dX5_look_88 : decode cX5_look 88 = .ok (.getfield 71, 3) := by decide +kernel
theorem dX5_look_91 : decode cX5_look 91 = .ok (.iastore, 1) := by decide +kernel
theorem dX5_look_92 : decode cX5_look 92 = .ok (.aload_n 0, 1) := by decide +kernel
theorem dX5_look_93 : decode cX5_look 93 = .ok (.dup, 1) := by decide +kernel
theorem dX5_look_94 : decode cX5_look 94 = .ok (.getfield 74, 3) := by decide +kernel
theorem dX5_look_97 : decode cX5_look 97 = .ok (.iconst 1, 1) := by decide +kernel
theorem dX5_look_98 : decode cX5_look 98 = .ok (.iadd, 1) := by decide +kernel
theorem dX5_look_99 : decode cX5_look 99 = .ok (.putfield 74, 3) := by decide +kernel
theorem dX5_look_102 : decode cX5_look 102 = .ok (.aload_n 0, 1) := by decide +kernel
theorem dX5_look_103 : decode cX5_look 103 = .ok (.getfield 44, 3) := by decide +kernel
theorem dX5_look_106 : decode cX5_look 106 = .ok (.aload_n 0, 1) := by decide +kernel
theorem dX5_look_107 : decode cX5_look 107 = .ok (.getfield 71, 3) := by decide +kernel
theorem dX5_look_110 : decode cX5_look 110 = .ok (.iload_n 3, 1) := by decide +kernel
theorem dX5_look_111 : decode cX5_look 111 = .ok (.iastore, 1) := by decide +kernel
theorem dX5_look_112 : decode cX5_look 112 = .ok (.aload_n 0, 1) := by decide +kernel
theorem dX5_look_113 : decode cX5_look 113 = .ok (.dup, 1) := by decide +kernel
theorem dX5_look_114 : decode cX5_look 114 = .ok (.getfield 71, 3) := by decide +kernel
theorem dX5_look_117 : decode cX5_look 117 = .ok (.iconst 1, 1) := by decide +kernel
theorem dX5_look_118 : decode cX5_look 118 = .ok (.iadd, 1) := by decide +kernel
