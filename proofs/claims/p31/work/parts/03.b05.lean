theorem dL_isOn_0 : decode cL_isOn 0 = .ok (.iconst 0, 1) := by decide +kernel
theorem dL_isOn_1 : decode cL_isOn 1 = .ok (.istore 6, 2) := by decide +kernel
theorem dL_isOn_3 : decode cL_isOn 3 = .ok (.iload 6, 2) := by decide +kernel
theorem dL_isOn_5 : decode cL_isOn 5 = .ok (.aload_n 3, 1) := by decide +kernel
theorem dL_isOn_6 : decode cL_isOn 6 = .ok (.iconst 0, 1) := by decide +kernel
theorem dL_isOn_7 : decode cL_isOn 7 = .ok (.iaload, 1) := by decide +kernel
theorem dL_isOn_8 : decode cL_isOn 8 = .ok (.if_icmp .ge 35, 3) := by decide +kernel
theorem dL_isOn_11 : decode cL_isOn 11 = .ok (.aload_n 0, 1) := by decide +kernel
theorem dL_isOn_12 : decode cL_isOn 12 = .ok (.aload_n 1, 1) := by decide +kernel
theorem dL_isOn_13 : decode cL_isOn 13 = .ok (.iload 6, 2) := by decide +kernel
theorem dL_isOn_15 : decode cL_isOn 15 = .ok (.iload 4, 2) := by decide +kernel
theorem dL_isOn_17 : decode cL_isOn 17 = .ok (.invokestatic 9, 3) := by decide +kernel
theorem dL_isOn_20 : decode cL_isOn 20 = .ok (.ifCond .eq 17, 3) := by decide +kernel
theorem dL_isOn_23 : decode cL_isOn 23 = .ok (.aload_n 2, 1) := by decide +kernel
theorem dL_isOn_24 : decode cL_isOn 24 = .ok (.iload 6, 2) := by decide +kernel
theorem dL_isOn_26 : decode cL_isOn 26 = .ok (.iaload, 1) := by decide +kernel
theorem dL_isOn_27 : decode cL_isOn 27 = .ok (.bipush 100, 2) := by decide +kernel
theorem dL_isOn_29 : decode cL_isOn 29 = .ok (.idiv, 1) := by decide +kernel
theorem dL_isOn_30 : decode cL_isOn 30 = .ok (.iload 5, 2) := by decide +kernel
theorem dL_isOn_32 : decode cL_isOn 32 = .ok (.if_icmp .ne 5, 3) := by decide +kernel
theorem dL_isOn_35 : decode cL_isOn 35 = .ok (.iconst 1, 1) := by decide +kernel
theorem dL_isOn_36 : decode cL_isOn 36 = .ok (.ireturn, 1) := by decide +kernel
theorem dL_isOn_37 : decode cL_isOn 37 = .ok (.iinc 6 1, 3) := by decide +kernel
theorem dL_isOn_40 : decode cL_isOn 40 = .ok (.goto (-37), 3) := by decide +kernel
theorem dL_isOn_43 : decode cL_isOn 43 = .ok (.iconst 0, 1) := by decide +kernel
theorem dL_isOn_44 : decode cL_isOn 44 = .ok (.ireturn, 1) := by decide +kernel
set_option maxRecDepth 20000 in
theorem ggL_many_L_isOf : GoodIn wsL_many wsL_isOf := goodIn_r _ [4] (by decide +kernel) (by decide +kernel)
set_option maxRecDepth 20000 in
theorem gL_many_L_isOf : GoodIn wsL_many (va_wsS RL 9 yL_isOf wsL_isOf) := goodIn_app (goodIn_of _ (by decide +kernel)) ggL_many_L_isOf
theorem dL_many_0 : decode cL_many 0 = .ok (.iconst 0, 1) := by decide +kernel
theorem dL_many_1 : decode cL_many 1 = .ok (.istore 4, 2) := by decide +kernel
theorem dL_many_3 : decode cL_many 3 = .ok (.iconst 0, 1) := by decide +kernel
theorem dL_many_4 : decode cL_many 4 = .ok (.istore 5, 2) := by decide +kernel
theorem dL_many_6 : decode cL_many 6 = .ok (.iload 5, 2) := by decide +kernel
theorem dL_many_8 : decode cL_many 8 = .ok (.aload_n 2, 1) := by decide +kernel
theorem dL_many_9 : decode cL_many 9 = .ok (.iconst 0, 1) := by decide +kernel
theorem dL_many_10 : decode cL_many 10 = .ok (.iaload, 1) := by decide +kernel
theorem dL_many_11 : decode cL_many 11 = .ok (.if_icmp .ge 30, 3) := by decide +kernel
theorem dL_many_14 : decode cL_many 14 = .ok (.iload 4, 2) := by decide +kernel
theorem dL_many_16 : decode cL_many 16 = .ok (.aload_n 0, 1) := by decide +kernel
theorem dL_many_17 : decode cL_many 17 = .ok (.aload_n 1, 1) := by decide +kernel
theorem dL_many_18 : decode cL_many 18 = .ok (.iload 5, 2) := by decide +kernel
theorem dL_many_20 : decode cL_many 20 = .ok (.iload_n 3, 1) := by decide +kernel
theorem dL_many_21 : decode cL_many 21 = .ok (.invokestatic 9, 3) := by decide +kernel
theorem dL_many_24 : decode cL_many 24 = .ok (.ifCond .eq 7, 3) := by decide +kernel
theorem dL_many_27 : decode cL_many 27 = .ok (.iconst 1, 1) := by decide +kernel
theorem dL_many_28 : decode cL_many 28 = .ok (.goto 4, 3) := by decide +kernel
theorem dL_many_31 : decode cL_many 31 = .ok (.iconst 0, 1) := by decide +kernel
theorem dL_many_32 : decode cL_many 32 = .ok (.iadd, 1) := by decide +kernel
theorem dL_many_33 : decode cL_many 33 = .ok (.istore 4, 2) := by decide +kernel
theorem dL_many_35 : decode cL_many 35 = .ok (.iinc 5 1, 3) := by decide +kernel
theorem dL_many_38 : decode cL_many 38 = .ok (.goto (-32), 3) := by decide +kernel
theorem dL_many_41 : decode cL_many 41 = .ok (.iload 4, 2) := by decide +kernel
theorem dL_many_43 : decode cL_many 43 = .ok (.ireturn, 1) := by decide +kernel
set_option maxRecDepth 20000 in
theorem ggL_came_X4_event : GoodIn wsL_came wsX4_event := goodIn_ca (goodIn_ca (goodIn_r _ [7, 8, 9, 10, 11, 12, 13, 6, 14, 15, 16, 17, 18, 19, 20, 21, 22, 23, 24, 25, 26, 27, 28, 29, 30, 31, 32, 33, 34, 35, 36, 37, 38, 39, 40, 41, 42, 43, 44, 45, 46, 47, 48, 49, 50, 51, 52, 53, 54, 55, 56, 57, 58, 59, 60, 61] (by decide +kernel) (by decide +kernel)) (goodIn_sub (fun _ h => List.mem_cons_of_mem _ (List.mem_append_left _ (List.mem_append_right _ h))) (by decide +kernel))) (goodIn_sub (fun _ h => List.mem_cons_of_mem _ (List.mem_append_right _ h)) (by decide +kernel))
set_option maxRecDepth 20000 in
theorem gL_came_X4_event : GoodIn wsL_came (wsV RL 19 RX4 yX4_event wsX4_event) := goodIn_app (goodIn_of _ (by decide +kernel)) ggL_came_X4_event
theorem dL_came_0 : decode cL_came 0 = .ok (.aload_n 0, 1) := by decide +kernel
theorem dL_came_1 : decode cL_came 1 = .ok (.iload_n 1, 1) := by decide +kernel
theorem dL_came_2 : decode cL_came 2 = .ok (.iload_n 2, 1) := by decide +kernel
theorem dL_came_3 : decode cL_came 3 = .ok (.iload_n 3, 1) := by decide +kernel
theorem dL_came_4 : decode cL_came 4 = .ok (.invokevirtual 19, 3) := by decide +kernel
theorem dL_came_7 : decode cL_came 7 = .ok (.ireturn, 1) := by decide +kernel
theorem dL_came_8 : decode cL_came 8 = .ok (.astore 4, 2) := by decide +kernel
theorem dL_came_10 : decode cL_came 10 = .ok (.bipush (-101), 2) := by decide +kernel
theorem dL_came_12 : decode cL_came 12 = .ok (.ireturn, 1) := by decide +kernel
theorem dL_came_13 : decode cL_came 13 = .ok (.astore 4, 2) := by decide +kernel
theorem dL_came_15 : decode cL_came 15 = .ok (.bipush (-102), 2) := by decide +kernel
theorem dL_came_17 : decode cL_came 17 = .ok (.ireturn, 1) := by decide +kernel
set_option maxRecDepth 20000 in
theorem ggL_one_X4_userOf : GoodIn wsL_one wsX4_userOf := goodIn_ca (goodIn_r _ [6, 7, 8, 9, 5, 10, 11, 12, 13, 14, 15, 169, 170, 171, 172, 173, 174, 175] (by decide +kernel) (by decide +kernel)) (goodIn_sub (fun _ h => List.mem_cons_of_mem _ (List.mem_append_right _ h)) (by decide +kernel))
set_option maxRecDepth 20000 in
theorem gL_one_X4_userOf : GoodIn wsL_one (wsV RL 29 RX4 yX4_userOf wsX4_userOf) := goodIn_app (goodIn_of _ (by decide +kernel)) ggL_one_X4_userOf
set_option maxRecDepth 20000 in
theorem ggL_one_X4_eventsOf : GoodIn wsL_one wsX4_eventsOf := goodIn_ca (goodIn_r _ [19, 7, 8, 9, 5, 10, 11, 12, 13, 14, 15, 20, 21, 22, 23, 24, 25, 26, 27, 28, 29, 30, 31, 32, 33, 34, 35, 36, 37, 38, 39, 40, 41, 42, 43, 44, 45, 46, 47, 48, 49, 50, 51, 52, 53, 54, 55, 56, 57, 58, 59, 60, 61, 62, 63, 64, 65, 66, 67, 68, 169, 170, 171, 172, 173, 174, 175, 176, 177, 178, 179, 180, 181, 182, 183, 184] (by decide +kernel) (by decide +kernel)) (goodIn_sub (fun _ h => List.mem_cons_of_mem _ (List.mem_append_right _ h)) (by decide +kernel))
set_option maxRecDepth 20000 in
theorem gL_one_X4_eventsOf : GoodIn wsL_one (wsV RL 33 RX4 yX4_eventsOf wsX4_eventsOf) := goodIn_app (goodIn_of _ (by decide +kernel)) ggL_one_X4_eventsOf
set_option maxRecDepth 20000 in
theorem ggL_one_X4_sessions : GoodIn wsL_one wsX4_sessions := goodIn_ca (goodIn_r _ [72, 7, 73, 8, 9, 5, 10, 11, 12, 13, 14, 15, 20, 21, 22, 23, 24, 25, 26, 27, 28, 29, 30, 31, 32, 33, 34, 35, 36, 37, 38, 39, 40, 41, 42, 43, 44, 45, 46, 47, 48, 49, 50, 51, 52, 53, 54, 55, 56, 57, 58, 59, 60, 61, 62, 63, 64, 74, 75, 76, 77, 78, 79, 80, 81, 169, 170, 171, 172, 173, 174, 175, 176, 177, 178, 179, 180, 181, 182, 183, 184] (by decide +kernel) (by decide +kernel)) (goodIn_sub (fun _ h => List.mem_cons_of_mem _ (List.mem_append_right _ h)) (by decide +kernel))
set_option maxRecDepth 20000 in
theorem gL_one_X4_sessions : GoodIn wsL_one (wsV RL 36 RX4 yX4_sessions wsX4_sessions) := goodIn_app (goodIn_of _ (by decide +kernel)) ggL_one_X4_sessions
set_option maxRecDepth 20000 in
theorem ggL_one_X4_depth : GoodIn wsL_one wsX4_depth := goodIn_ca (goodIn_r _ [85, 86, 7, 8, 9, 5, 10, 11, 12, 13, 14, 15, 20, 21, 22, 23, 24, 25, 26, 27, 28, 29, 30, 31, 32, 33, 34, 35, 36, 37, 38, 39, 40, 41, 42, 43, 44, 45, 46, 47, 48, 49, 50, 51, 52, 53, 54, 55, 56, 57, 58, 59, 60, 61, 62, 63, 64, 87, 88, 89, 90, 91, 92, 93, 94, 95, 96, 97, 98, 99, 100, 101, 102, 103, 66, 67, 68, 104, 105, 106, 107, 108, 109, 110, 111, 112, 113, 114, 115, 116, 117, 118, 119, 120, 121, 122, 123, 124, 125, 126, 169, 170, 171, 172, 173, 174, 175, 176, 177, 178, 179, 180, 181, 182, 183, 184, 185, 186, 187, 188, 189, 190] (by decide +kernel) (by decide +kernel)) (goodIn_sub (fun _ h => List.mem_cons_of_mem _ (List.mem_append_right _ h)) (by decide +kernel))
set_option maxRecDepth 20000 in
theorem gL_one_X4_depth : GoodIn wsL_one (wsV RL 39 RX4 yX4_depth wsX4_depth) := goodIn_app (goodIn_of _ (by decide +kernel)) ggL_one_X4_depth
set_option maxRecDepth 20000 in
theorem ggL_one_X4_fastest : GoodIn wsL_one wsX4_fastest := goodIn_ca (goodIn_r _ [130, 86, 7, 8, 9, 5, 10, 11, 12, 13, 14, 15, 20, 21, 22, 23, 24, 25, 26, 27, 28, 29, 30, 31, 32, 33, 34, 35, 36, 37, 38, 39, 40, 41, 42, 43, 44, 45, 46, 47, 48, 49, 50, 51, 52, 53, 54, 55, 56, 57, 58, 59, 60, 61, 62, 63, 64, 131, 132, 133, 90, 134, 98, 93, 94, 95, 96, 97, 92, 99, 100, 101, 102, 103, 66, 67, 68, 104, 105, 106, 107, 108, 109, 110, 111, 112, 113, 114, 115, 116, 117, 118, 119, 120, 121, 122, 123, 124, 125, 126, 169, 170, 171, 172, 173, 174, 175, 176, 177, 178, 179, 180, 181, 182, 183, 184, 185, 186, 187, 188, 189, 190] (by decide +kernel) (by decide +kernel)) (goodIn_sub (fun _ h => List.mem_cons_of_mem _ (List.mem_append_right _ h)) (by decide +kernel))
set_option maxRecDepth 20000 in
theorem gL_one_X4_fastest : GoodIn wsL_one (wsV RL 42 RX4 yX4_fastest wsX4_fastest) := goodIn_app (goodIn_of _ (by decide +kernel)) ggL_one_X4_fastest
set_option maxRecDepth 20000 in
theorem ggL_one_X4_cohort : GoodIn wsL_one wsX4_cohort := goodIn_ca (goodIn_r _ [138, 7, 8, 9, 5, 10, 11, 12, 13, 14, 15, 20, 21, 22, 23, 24, 25, 26, 27, 28, 29, 30, 31, 32, 33, 34, 35, 36, 37, 38, 39, 40, 41, 42, 43, 44, 45, 46, 47, 48, 49, 50, 51, 52, 53, 54, 55, 56, 57, 58, 59, 60, 61, 62, 63, 64, 139, 140, 141, 142, 143, 144, 169, 170, 171, 172, 173, 174, 175, 176, 177, 178, 179, 180, 181, 182, 183, 184] (by decide +kernel) (by decide +kernel)) (goodIn_sub (fun _ h => List.mem_cons_of_mem _ (List.mem_append_right _ h)) (by decide +kernel))
set_option maxRecDepth 20000 in
theorem gL_one_X4_cohort : GoodIn wsL_one (wsV RL 45 RX4 yX4_cohort wsX4_cohort) := goodIn_app (goodIn_of _ (by decide +kernel)) ggL_one_X4_cohort
set_option maxRecDepth 20000 in
theorem ggL_one_X4_active : GoodIn wsL_one wsX4_active := goodIn_ca (goodIn_r _ [148, 149, 150, 5, 151, 11, 12, 13, 14, 15, 152, 153, 154, 155, 25, 7, 32, 33, 34, 35, 36, 37, 53, 54, 55, 56, 57, 43, 156, 143, 144, 38, 39, 40, 41, 42, 169, 170, 171, 172, 173, 174, 175, 180, 181, 182, 183, 184] (by decide +kernel) (by decide +kernel)) (goodIn_sub (fun _ h => List.mem_cons_of_mem _ (List.mem_append_right _ h)) (by decide +kernel))
set_option maxRecDepth 20000 in
theorem gL_one_X4_active : GoodIn wsL_one (wsV RL 48 RX4 yX4_active wsX4_active) := goodIn_app (goodIn_of _ (by decide +kernel)) ggL_one_X4_active
set_option maxRecDepth 20000 in
theorem ggL_one_X4_gap : GoodIn wsL_one wsX4_gap := goodIn_ca (goodIn_r _ [160, 73, 11, 12, 5, 13, 14, 15, 169, 170, 171, 172, 173, 174, 175] (by decide +kernel) (by decide +kernel)) (goodIn_sub (fun _ h => List.mem_cons_of_mem _ (List.mem_append_right _ h)) (by decide +kernel))
set_option maxRecDepth 20000 in
theorem gL_one_X4_gap : GoodIn wsL_one (wsV RL 51 RX4 yX4_gap wsX4_gap) := goodIn_app (goodIn_of _ (by decide +kernel)) ggL_one_X4_gap
set_option maxRecDepth 20000 in
theorem ggL_one_X4_window : GoodIn wsL_one wsX4_window := goodIn_ca (goodIn_r _ [164, 86, 11, 12, 5, 13, 14, 15, 165, 166, 167, 90, 168, 122, 169, 170, 171, 172, 173, 174, 175, 185, 186, 187, 188, 189, 190] (by decide +kernel) (by decide +kernel)) (goodIn_sub (fun _ h => List.mem_cons_of_mem _ (List.mem_append_right _ h)) (by decide +kernel))
set_option maxRecDepth 20000 in
theorem gL_one_X4_window : GoodIn wsL_one (wsV RL 54 RX4 yX4_window wsX4_window) := goodIn_app (goodIn_of _ (by decide +kernel)) ggL_one_X4_window
theorem dL_one_0 : decode cL_one 0 = .ok (.iload_n 1, 1) := by decide +kernel
theorem dL_one_1 : decode cL_one 1 = .ok (.ifCond .ne 11, 3) := by decide +kernel
theorem dL_one_4 : decode cL_one 4 = .ok (.aload_n 0, 1) := by decide +kernel
theorem dL_one_5 : decode cL_one 5 = .ok (.iload_n 2, 1) := by decide +kernel
theorem dL_one_6 : decode cL_one 6 = .ok (.invokevirtual 29, 3) := by decide +kernel
theorem dL_one_9 : decode cL_one 9 = .ok (.goto 101, 3) := by decide +kernel
theorem dL_one_12 : decode cL_one 12 = .ok (.iload_n 1, 1) := by decide +kernel
theorem dL_one_13 : decode cL_one 13 = .ok (.iconst 1, 1) := by decide +kernel
theorem dL_one_14 : decode cL_one 14 = .ok (.if_icmp .ne 11, 3) := by decide +kernel
theorem dL_one_17 : decode cL_one 17 = .ok (.aload_n 0, 1) := by decide +kernel
theorem dL_one_18 : decode cL_one 18 = .ok (.iload_n 2, 1) := by decide +kernel
theorem dL_one_19 : decode cL_one 19 = .ok (.invokevirtual 33, 3) := by decide +kernel
theorem dL_one_22 : decode cL_one 22 = .ok (.goto 88, 3) := by decide +kernel
theorem dL_one_25 : decode cL_one 25 = .ok (.iload_n 1, 1) := by decide +kernel
theorem dL_one_26 : decode cL_one 26 = .ok (.iconst 2, 1) := by decide +kernel
theorem dL_one_27 : decode cL_one 27 = .ok (.if_icmp .ne 11, 3) := by decide +kernel
theorem dL_one_30 : decode cL_one 30 = .ok (.aload_n 0, 1) := by decide +kernel
theorem dL_one_31 : decode cL_one 31 = .ok (.iload_n 2, 1) := by decide +kernel
theorem dL_one_32 : decode cL_one 32 = .ok (.invokevirtual 36, 3) := by decide +kernel
theorem dL_one_35 : decode cL_one 35 = .ok (.goto 75, 3) := by decide +kernel
theorem dL_one_38 : decode cL_one 38 = .ok (.iload_n 1, 1) := by decide +kernel
theorem dL_one_39 : decode cL_one 39 = .ok (.iconst 3, 1) := by decide +kernel
theorem dL_one_40 : decode cL_one 40 = .ok (.if_icmp .ne 11, 3) := by decide +kernel
theorem dL_one_43 : decode cL_one 43 = .ok (.aload_n 0, 1) := by decide +kernel
theorem dL_one_44 : decode cL_one 44 = .ok (.iload_n 2, 1) := by decide +kernel
theorem dL_one_45 : decode cL_one 45 = .ok (.invokevirtual 39, 3) := by decide +kernel
theorem dL_one_48 : decode cL_one 48 = .ok (.goto 62, 3) := by decide +kernel
theorem dL_one_51 : decode cL_one 51 = .ok (.iload_n 1, 1) := by decide +kernel
theorem dL_one_52 : decode cL_one 52 = .ok (.iconst 4, 1) := by decide +kernel
theorem dL_one_53 : decode cL_one 53 = .ok (.if_icmp .ne 11, 3) := by decide +kernel
theorem dL_one_56 : decode cL_one 56 = .ok (.aload_n 0, 1) := by decide +kernel
theorem dL_one_57 : decode cL_one 57 = .ok (.iload_n 2, 1) := by decide +kernel
theorem dL_one_58 : decode cL_one 58 = .ok (.invokevirtual 42, 3) := by decide +kernel
theorem dL_one_61 : decode cL_one 61 = .ok (.goto 49, 3) := by decide +kernel
theorem dL_one_64 : decode cL_one 64 = .ok (.iload_n 1, 1) := by decide +kernel
theorem dL_one_65 : decode cL_one 65 = .ok (.iconst 5, 1) := by decide +kernel
theorem dL_one_66 : decode cL_one 66 = .ok (.if_icmp .ne 11, 3) := by decide +kernel
theorem dL_one_69 : decode cL_one 69 = .ok (.aload_n 0, 1) := by decide +kernel
theorem dL_one_70 : decode cL_one 70 = .ok (.iload_n 2, 1) := by decide +kernel
theorem dL_one_71 : decode cL_one 71 = .ok (.invokevirtual 45, 3) := by decide +kernel
theorem dL_one_74 : decode cL_one 74 = .ok (.goto 36, 3) := by decide +kernel
theorem dL_one_77 : decode cL_one 77 = .ok (.iload_n 1, 1) := by decide +kernel
theorem dL_one_78 : decode cL_one 78 = .ok (.bipush 6, 2) := by decide +kernel
theorem dL_one_80 : decode cL_one 80 = .ok (.if_icmp .ne 11, 3) := by decide +kernel
theorem dL_one_83 : decode cL_one 83 = .ok (.aload_n 0, 1) := by decide +kernel
theorem dL_one_84 : decode cL_one 84 = .ok (.iload_n 2, 1) := by decide +kernel
theorem dL_one_85 : decode cL_one 85 = .ok (.invokevirtual 48, 3) := by decide +kernel
theorem dL_one_88 : decode cL_one 88 = .ok (.goto 22, 3) := by decide +kernel
theorem dL_one_91 : decode cL_one 91 = .ok (.iload_n 1, 1) := by decide +kernel
theorem dL_one_92 : decode cL_one 92 = .ok (.bipush 7, 2) := by decide +kernel
theorem dL_one_94 : decode cL_one 94 = .ok (.if_icmp .ne 11, 3) := by decide +kernel
theorem dL_one_97 : decode cL_one 97 = .ok (.aload_n 0, 1) := by decide +kernel
theorem dL_one_98 : decode cL_one 98 = .ok (.iload_n 2, 1) := by decide +kernel
theorem dL_one_99 : decode cL_one 99 = .ok (.invokevirtual 51, 3) := by decide +kernel
theorem dL_one_102 : decode cL_one 102 = .ok (.goto 8, 3) := by decide +kernel
theorem dL_one_105 : decode cL_one 105 = .ok (.aload_n 0, 1) := by decide +kernel
theorem dL_one_106 : decode cL_one 106 = .ok (.iload_n 2, 1) := by decide +kernel
theorem dL_one_107 : decode cL_one 107 = .ok (.invokevirtual 54, 3) := by decide +kernel
theorem dL_one_110 : decode cL_one 110 = .ok (.ireturn, 1) := by decide +kernel
theorem dL_one_111 : decode cL_one 111 = .ok (.astore_n 3, 1) := by decide +kernel
theorem dL_one_112 : decode cL_one 112 = .ok (.bipush (-101), 2) := by decide +kernel
theorem dL_one_114 : decode cL_one 114 = .ok (.ireturn, 1) := by decide +kernel
set_option maxRecDepth 20000 in
theorem ggL_two_X4_merge : GoodIn wsL_two wsX4_merge := goodIn_ca (goodIn_r _ [6, 7, 8, 9, 10, 11, 12, 13, 14, 15, 16, 5, 17, 18, 19, 20, 21, 22, 70, 71, 72, 73, 74, 75, 76] (by decide +kernel) (by decide +kernel)) (goodIn_sub (fun _ h => List.mem_cons_of_mem _ (List.mem_append_right _ h)) (by decide +kernel))
set_option maxRecDepth 20000 in
theorem gL_two_X4_merge : GoodIn wsL_two (wsV RL 57 RX4 yX4_merge wsX4_merge) := goodIn_app (goodIn_of _ (by decide +kernel)) ggL_two_X4_merge
set_option maxRecDepth 20000 in
theorem ggL_two_X4_retained : GoodIn wsL_two wsX4_retained := goodIn_ca (goodIn_r _ [26, 27, 28, 5, 29, 18, 19, 20, 21, 22, 30, 31, 32, 33, 34, 7, 35, 36, 37, 38, 39, 40, 41, 42, 43, 44, 45, 46, 47, 48, 49, 50, 51, 52, 53, 54, 55, 56, 57, 58, 59, 60, 61, 62, 63, 64, 65, 70, 71, 72, 73, 74, 75, 76, 77, 78, 79, 80, 81] (by decide +kernel) (by decide +kernel)) (goodIn_sub (fun _ h => List.mem_cons_of_mem _ (List.mem_append_right _ h)) (by decide +kernel))
set_option maxRecDepth 20000 in
theorem gL_two_X4_retained : GoodIn wsL_two (wsV RL 61 RX4 yX4_retained wsX4_retained) := goodIn_app (goodIn_of _ (by decide +kernel)) ggL_two_X4_retained
set_option maxRecDepth 20000 in
theorem ggL_two_X4_activeOnEach : GoodIn wsL_two wsX4_activeOnEach := goodIn_ca (goodIn_r _ [69, 27, 28, 5, 29, 18, 19, 20, 21, 22, 55, 56, 57, 58, 34, 7, 35, 36, 37, 38, 39, 40, 47, 48, 49, 50, 51, 46, 52, 53, 54, 41, 42, 43, 44, 45, 70, 71, 72, 73, 74, 75, 76, 77, 78, 79, 80, 81] (by decide +kernel) (by decide +kernel)) (goodIn_sub (fun _ h => List.mem_cons_of_mem _ (List.mem_append_right _ h)) (by decide +kernel))
set_option maxRecDepth 20000 in
theorem gL_two_X4_activeOnEach : GoodIn wsL_two (wsV RL 64 RX4 yX4_activeOnEach wsX4_activeOnEach) := goodIn_app (goodIn_of _ (by decide +kernel)) ggL_two_X4_activeOnEach
theorem dL_two_0 : decode cL_two 0 = .ok (.iload_n 1, 1) := by decide +kernel
theorem dL_two_1 : decode cL_two 1 = .ok (.ifCond .ne 12, 3) := by decide +kernel
theorem dL_two_4 : decode cL_two 4 = .ok (.aload_n 0, 1) := by decide +kernel
theorem dL_two_5 : decode cL_two 5 = .ok (.iload_n 2, 1) := by decide +kernel
theorem dL_two_6 : decode cL_two 6 = .ok (.iload_n 3, 1) := by decide +kernel
theorem dL_two_7 : decode cL_two 7 = .ok (.invokevirtual 57, 3) := by decide +kernel
theorem dL_two_10 : decode cL_two 10 = .ok (.goto 23, 3) := by decide +kernel
theorem dL_two_13 : decode cL_two 13 = .ok (.iload_n 1, 1) := by decide +kernel
theorem dL_two_14 : decode cL_two 14 = .ok (.iconst 1, 1) := by decide +kernel
theorem dL_two_15 : decode cL_two 15 = .ok (.if_icmp .ne 12, 3) := by decide +kernel
theorem dL_two_18 : decode cL_two 18 = .ok (.aload_n 0, 1) := by decide +kernel
theorem dL_two_19 : decode cL_two 19 = .ok (.iload_n 2, 1) := by decide +kernel
theorem dL_two_20 : decode cL_two 20 = .ok (.iload_n 3, 1) := by decide +kernel
theorem dL_two_21 : decode cL_two 21 = .ok (.invokevirtual 61, 3) := by decide +kernel
theorem dL_two_24 : decode cL_two 24 = .ok (.goto 9, 3) := by decide +kernel
theorem dL_two_27 : decode cL_two 27 = .ok (.aload_n 0, 1) := by decide +kernel
theorem dL_two_28 : decode cL_two 28 = .ok (.iload_n 2, 1) := by decide +kernel
theorem dL_two_29 : decode cL_two 29 = .ok (.iload_n 3, 1) := by decide +kernel
theorem dL_two_30 : decode cL_two 30 = .ok (.invokevirtual 64, 3) := by decide +kernel
theorem dL_two_33 : decode cL_two 33 = .ok (.ireturn, 1) := by decide +kernel
theorem dL_two_34 : decode cL_two 34 = .ok (.astore 4, 2) := by decide +kernel
theorem dL_two_36 : decode cL_two 36 = .ok (.bipush (-101), 2) := by decide +kernel
theorem dL_two_38 : decode cL_two 38 = .ok (.ireturn, 1) := by decide +kernel
set_option maxRecDepth 20000 in
theorem ggL_at_X4_eventAt : GoodIn wsL_at wsX4_eventAt := goodIn_ca (goodIn_ca (goodIn_r _ [7, 8, 9, 10, 6, 11, 12, 13, 14, 15, 16, 17, 18, 19, 20, 21, 22, 23, 24, 25, 26, 27, 28, 29, 30, 31, 32, 33, 34, 35, 36, 37, 38, 39, 40, 41, 42, 43, 44, 45, 46, 47, 48, 49, 50, 51, 52, 53, 54, 55, 56, 57, 58, 59, 60, 61, 62, 63, 64, 65, 66, 67, 68, 69, 70, 71, 72, 73, 74, 163, 164, 165, 166, 167, 168, 169, 170, 171, 172, 173, 174, 175, 176, 177, 178] (by decide +kernel) (by decide +kernel)) (goodIn_sub (fun _ h => List.mem_cons_of_mem _ (List.mem_append_left _ (List.mem_append_right _ h))) (by decide +kernel))) (goodIn_sub (fun _ h => List.mem_cons_of_mem _ (List.mem_append_right _ h)) (by decide +kernel))
set_option maxRecDepth 20000 in
theorem gL_at_X4_eventAt : GoodIn wsL_at (wsV RL 67 RX4 yX4_eventAt wsX4_eventAt) := goodIn_app (goodIn_of _ (by decide +kernel)) ggL_at_X4_eventAt
set_option maxRecDepth 20000 in
theorem ggL_at_X4_sessionEvents : GoodIn wsL_at wsX4_sessionEvents := goodIn_ca (goodIn_ca (goodIn_r _ [78, 8, 79, 9, 10, 6, 11, 12, 13, 14, 15, 16, 17, 18, 19, 20, 21, 22, 23, 24, 25, 26, 27, 28, 29, 30, 31, 32, 33, 34, 35, 36, 37, 38, 39, 40, 41, 42, 43, 44, 45, 46, 47, 48, 49, 50, 51, 52, 53, 54, 55, 56, 57, 58, 59, 60, 61, 80, 81, 82, 83, 84, 85, 86, 87, 88, 89, 90, 91, 62, 63, 64, 65, 66, 67, 68, 69, 70, 92, 93, 94, 95, 163, 164, 165, 166, 167, 168, 169, 170, 171, 172, 173, 174, 175, 176, 177, 178] (by decide +kernel) (by decide +kernel)) (goodIn_sub (fun _ h => List.mem_cons_of_mem _ (List.mem_append_left _ (List.mem_append_right _ h))) (by decide +kernel))) (goodIn_sub (fun _ h => List.mem_cons_of_mem _ (List.mem_append_right _ h)) (by decide +kernel))
set_option maxRecDepth 20000 in
theorem gL_at_X4_sessionEvents : GoodIn wsL_at (wsV RL 70 RX4 yX4_sessionEvents wsX4_sessionEvents) := goodIn_app (goodIn_of _ (by decide +kernel)) ggL_at_X4_sessionEvents
set_option maxRecDepth 20000 in
theorem ggL_at_X4_sessionStart : GoodIn wsL_at wsX4_sessionStart := goodIn_ca (goodIn_ca (goodIn_r _ [99, 8, 9, 10, 6, 11, 12, 13, 14, 15, 16, 17, 18, 19, 20, 21, 22, 23, 24, 25, 26, 27, 28, 29, 30, 31, 32, 33, 34, 35, 36, 37, 38, 39, 40, 41, 42, 43, 44, 45, 46, 47, 48, 49, 50, 51, 52, 53, 54, 55, 56, 57, 58, 59, 60, 61, 80, 81, 82, 83, 79, 84, 85, 86, 87, 88, 89, 90, 91, 62, 63, 64, 65, 66, 67, 68, 69, 70, 100, 101, 102, 103, 163, 164, 165, 166, 167, 168, 169, 170, 171, 172, 173, 174, 175, 176, 177, 178] (by decide +kernel) (by decide +kernel)) (goodIn_sub (fun _ h => List.mem_cons_of_mem _ (List.mem_append_left _ (List.mem_append_right _ h))) (by decide +kernel))) (goodIn_sub (fun _ h => List.mem_cons_of_mem _ (List.mem_append_right _ h)) (by decide +kernel))
set_option maxRecDepth 20000 in
theorem gL_at_X4_sessionStart : GoodIn wsL_at (wsV RL 73 RX4 yX4_sessionStart wsX4_sessionStart) := goodIn_app (goodIn_of _ (by decide +kernel)) ggL_at_X4_sessionStart
set_option maxRecDepth 20000 in
theorem ggL_at_X4_sessionLength : GoodIn wsL_at wsX4_sessionLength := goodIn_ca (goodIn_ca (goodIn_r _ [107, 8, 79, 9, 10, 6, 11, 12, 13, 14, 15, 16, 17, 18, 19, 20, 21, 22, 23, 24, 25, 26, 27, 28, 29, 30, 31, 32, 33, 34, 35, 36, 37, 38, 39, 40, 41, 42, 43, 44, 45, 46, 47, 48, 49, 50, 51, 52, 53, 54, 55, 56, 57, 58, 59, 60, 61, 80, 81, 82, 83, 84, 85, 86, 87, 88, 89, 90, 91, 62, 63, 64, 65, 66, 67, 68, 69, 70, 92, 93, 94, 95, 100, 101, 102, 103, 163, 164, 165, 166, 167, 168, 169, 170, 171, 172, 173, 174, 175, 176, 177, 178] (by decide +kernel) (by decide +kernel)) (goodIn_sub (fun _ h => List.mem_cons_of_mem _ (List.mem_append_left _ (List.mem_append_right _ h))) (by decide +kernel))) (goodIn_sub (fun _ h => List.mem_cons_of_mem _ (List.mem_append_right _ h)) (by decide +kernel))
set_option maxRecDepth 20000 in
theorem gL_at_X4_sessionLength : GoodIn wsL_at (wsV RL 76 RX4 yX4_sessionLength wsX4_sessionLength) := goodIn_app (goodIn_of _ (by decide +kernel)) ggL_at_X4_sessionLength
set_option maxRecDepth 20000 in
theorem ggL_at_X4_ranked : GoodIn wsL_at wsX4_ranked := goodIn_ca (goodIn_ca (goodIn_r _ [111, 69, 70, 112, 12, 13, 6, 14, 15, 16, 113, 114, 115, 116, 79, 117, 17, 18, 19, 20, 21, 22, 8, 23, 24, 25, 26, 27, 28, 29, 30, 31, 32, 33, 34, 35, 36, 37, 38, 39, 40, 41, 42, 43, 44, 45, 46, 47, 48, 49, 50, 51, 52, 53, 54, 55, 56, 57, 58, 59, 60, 61, 62, 63, 64, 65, 118, 119, 120, 121, 88, 89, 90, 91, 122, 123, 124, 125, 126, 127, 128, 129, 130, 131, 132, 133, 134, 135, 136, 137, 138, 139, 140, 141, 142, 143, 101, 102, 103, 144, 145, 146, 147, 148, 149, 150, 151, 152, 153, 154, 155, 156, 157, 158, 159, 160, 161, 162, 163, 164, 165, 166, 167, 168, 169, 170, 171, 172, 173, 174, 175, 176, 177, 178, 179, 180, 181, 182, 183, 184] (by decide +kernel) (by decide +kernel)) (goodIn_sub (fun _ h => List.mem_cons_of_mem _ (List.mem_append_right _ h)) (by decide +kernel))) (goodIn_sub (fun _ h => List.mem_cons_of_mem _ (List.mem_append_left _ (List.mem_append_right _ h))) (by decide +kernel))
set_option maxRecDepth 20000 in
theorem gL_at_X4_ranked : GoodIn wsL_at (wsV RL 79 RX4 yX4_ranked wsX4_ranked) := goodIn_app (goodIn_of _ (by decide +kernel)) ggL_at_X4_ranked
theorem dL_at_0 : decode cL_at 0 = .ok (.iload_n 1, 1) := by decide +kernel
theorem dL_at_1 : decode cL_at 1 = .ok (.ifCond .ne 12, 3) := by decide +kernel
theorem dL_at_4 : decode cL_at 4 = .ok (.aload_n 0, 1) := by decide +kernel
theorem dL_at_5 : decode cL_at 5 = .ok (.iload_n 2, 1) := by decide +kernel
theorem dL_at_6 : decode cL_at 6 = .ok (.iload_n 3, 1) := by decide +kernel
theorem dL_at_7 : decode cL_at 7 = .ok (.invokevirtual 67, 3) := by decide +kernel
theorem dL_at_10 : decode cL_at 10 = .ok (.goto 51, 3) := by decide +kernel
theorem dL_at_13 : decode cL_at 13 = .ok (.iload_n 1, 1) := by decide +kernel
theorem dL_at_14 : decode cL_at 14 = .ok (.iconst 1, 1) := by decide +kernel
theorem dL_at_15 : decode cL_at 15 = .ok (.if_icmp .ne 12, 3) := by decide +kernel
theorem dL_at_18 : decode cL_at 18 = .ok (.aload_n 0, 1) := by decide +kernel
theorem dL_at_19 : decode cL_at 19 = .ok (.iload_n 2, 1) := by decide +kernel
theorem dL_at_20 : decode cL_at 20 = .ok (.iload_n 3, 1) := by decide +kernel
theorem dL_at_21 : decode cL_at 21 = .ok (.invokevirtual 70, 3) := by decide +kernel
theorem dL_at_24 : decode cL_at 24 = .ok (.goto 37, 3) := by decide +kernel
theorem dL_at_27 : decode cL_at 27 = .ok (.iload_n 1, 1) := by decide +kernel
theorem dL_at_28 : decode cL_at 28 = .ok (.iconst 2, 1) := by decide +kernel
theorem dL_at_29 : decode cL_at 29 = .ok (.if_icmp .ne 12, 3) := by decide +kernel
theorem dL_at_32 : decode cL_at 32 = .ok (.aload_n 0, 1) := by decide +kernel
theorem dL_at_33 : decode cL_at 33 = .ok (.iload_n 2, 1) := by decide +kernel
theorem dL_at_34 : decode cL_at 34 = .ok (.iload_n 3, 1) := by decide +kernel
theorem dL_at_35 : decode cL_at 35 = .ok (.invokevirtual 73, 3) := by decide +kernel
theorem dL_at_38 : decode cL_at 38 = .ok (.goto 23, 3) := by decide +kernel
theorem dL_at_41 : decode cL_at 41 = .ok (.iload_n 1, 1) := by decide +kernel
theorem dL_at_42 : decode cL_at 42 = .ok (.iconst 3, 1) := by decide +kernel
theorem dL_at_43 : decode cL_at 43 = .ok (.if_icmp .ne 12, 3) := by decide +kernel
theorem dL_at_46 : decode cL_at 46 = .ok (.aload_n 0, 1) := by decide +kernel
theorem dL_at_47 : decode cL_at 47 = .ok (.iload_n 2, 1) := by decide +kernel
theorem dL_at_48 : decode cL_at 48 = .ok (.iload_n 3, 1) := by decide +kernel
theorem dL_at_49 : decode cL_at 49 = .ok (.invokevirtual 76, 3) := by decide +kernel
theorem dL_at_52 : decode cL_at 52 = .ok (.goto 9, 3) := by decide +kernel
theorem dL_at_55 : decode cL_at 55 = .ok (.aload_n 0, 1) := by decide +kernel
theorem dL_at_56 : decode cL_at 56 = .ok (.iload_n 2, 1) := by decide +kernel
theorem dL_at_57 : decode cL_at 57 = .ok (.iload_n 3, 1) := by decide +kernel
theorem dL_at_58 : decode cL_at 58 = .ok (.invokevirtual 79, 3) := by decide +kernel
theorem dL_at_61 : decode cL_at 61 = .ok (.ireturn, 1) := by decide +kernel
theorem dL_at_62 : decode cL_at 62 = .ok (.astore 4, 2) := by decide +kernel
theorem dL_at_64 : decode cL_at 64 = .ok (.bipush (-101), 2) := by decide +kernel
theorem dL_at_66 : decode cL_at 66 = .ok (.ireturn, 1) := by decide +kernel
theorem dL_at_67 : decode cL_at 67 = .ok (.astore 4, 2) := by decide +kernel
theorem dL_at_69 : decode cL_at 69 = .ok (.bipush (-102), 2) := by decide +kernel
theorem dL_at_71 : decode cL_at 71 = .ok (.ireturn, 1) := by decide +kernel
set_option maxRecDepth 20000 in
theorem ggL_stepped_X4_step : GoodIn wsL_stepped wsX4_step := goodIn_ca (goodIn_ca (goodIn_r _ [7, 8, 9, 10, 11, 12, 6, 13, 14, 15, 16, 17, 18, 19, 20, 21, 22, 23, 24, 25, 26, 27, 28, 29, 30, 31, 32, 33, 34, 35, 36, 37, 38, 39, 40, 41, 42] (by decide +kernel) (by decide +kernel)) (goodIn_sub (fun _ h => List.mem_cons_of_mem _ (List.mem_append_left _ (List.mem_append_right _ h))) (by decide +kernel))) (goodIn_sub (fun _ h => List.mem_cons_of_mem _ (List.mem_append_right _ h)) (by decide +kernel))
set_option maxRecDepth 20000 in
theorem gL_stepped_X4_step : GoodIn wsL_stepped (wsV RL 84 RX4 yX4_step wsX4_step) := goodIn_app (goodIn_of _ (by decide +kernel)) ggL_stepped_X4_step
theorem dL_stepped_0 : decode cL_stepped 0 = .ok (.aload_n 0, 1) := by decide +kernel
theorem dL_stepped_1 : decode cL_stepped 1 = .ok (.iload_n 1, 1) := by decide +kernel
theorem dL_stepped_2 : decode cL_stepped 2 = .ok (.invokevirtual 84, 3) := by decide +kernel
theorem dL_stepped_5 : decode cL_stepped 5 = .ok (.ireturn, 1) := by decide +kernel
theorem dL_stepped_6 : decode cL_stepped 6 = .ok (.astore_n 2, 1) := by decide +kernel
theorem dL_stepped_7 : decode cL_stepped 7 = .ok (.bipush (-101), 2) := by decide +kernel
theorem dL_stepped_9 : decode cL_stepped 9 = .ok (.ireturn, 1) := by decide +kernel
theorem dL_stepped_10 : decode cL_stepped 10 = .ok (.astore_n 2, 1) := by decide +kernel
theorem dL_stepped_11 : decode cL_stepped 11 = .ok (.bipush (-102), 2) := by decide +kernel
theorem dL_stepped_13 : decode cL_stepped 13 = .ok (.ireturn, 1) := by decide +kernel
set_option maxRecDepth 20000 in
theorem ggL_closedOne_X4_closeDay : GoodIn wsL_closedOne wsX4_closeDay := goodIn_ca (goodIn_r _ [6, 7, 8, 9, 10, 11, 12, 13, 14, 15, 16, 17, 18, 19, 20, 21, 22, 5, 23, 24, 25, 26, 27, 28, 29, 30, 31, 32, 33, 34, 35, 36, 37, 38, 39, 40, 41, 42, 43, 44, 45, 46, 47, 48, 49, 50, 51, 52, 53, 54, 55, 56, 57, 58, 59, 60, 61, 62, 63, 64, 65, 66, 67, 68, 69, 70, 71, 72, 73, 74, 75, 76, 77, 78, 79, 80, 81, 82, 83, 84, 85, 86, 87, 88, 89, 90, 91, 92, 93, 94, 95, 96, 97, 98, 99, 100, 101, 102, 103, 104, 105, 106, 107, 108, 109, 110, 111, 112, 113, 114, 115, 116, 117, 118, 119, 120, 121, 122, 123] (by decide +kernel) (by decide +kernel)) (goodIn_sub (fun _ h => List.mem_cons_of_mem _ (List.mem_append_right _ h)) (by decide +kernel))
set_option maxRecDepth 20000 in
theorem gL_closedOne_X4_closeDay : GoodIn wsL_closedOne (wsV RL 87 RX4 yX4_closeDay wsX4_closeDay) := goodIn_app (goodIn_of _ (by decide +kernel)) ggL_closedOne_X4_closeDay
theorem dL_closedOne_0 : decode cL_closedOne 0 = .ok (.aload_n 0, 1) := by decide +kernel
theorem dL_closedOne_1 : decode cL_closedOne 1 = .ok (.invokevirtual 87, 3) := by decide +kernel
theorem dL_closedOne_4 : decode cL_closedOne 4 = .ok (.ireturn, 1) := by decide +kernel
theorem dL_closedOne_5 : decode cL_closedOne 5 = .ok (.astore_n 1, 1) := by decide +kernel
theorem dL_closedOne_6 : decode cL_closedOne 6 = .ok (.bipush (-101), 2) := by decide +kernel
theorem dL_closedOne_8 : decode cL_closedOne 8 = .ok (.ireturn, 1) := by decide +kernel
set_option maxRecDepth 20000 in
theorem ggL_kept_X4_passed : GoodIn wsL_kept wsX4_passed := goodIn_ca (goodIn_r _ [6, 7, 8, 9, 10, 11, 12, 13, 14, 15, 5, 16, 17, 18, 19, 20, 21, 22, 23, 24, 25, 26, 27, 28, 29, 30, 31, 32, 33, 34, 35, 36, 37, 38, 39, 40, 41, 42, 43, 44, 45, 46, 47, 48, 49, 50, 51, 52, 53, 54, 55, 56, 57, 58, 59, 60, 61, 62, 63, 64, 65, 66, 67, 68, 69, 70, 71, 72, 73, 74, 75, 76, 77, 78, 79, 80, 81, 82, 83, 84, 85, 86, 87, 88, 89, 90, 91, 92, 93, 94, 95, 96, 97, 98, 99, 100, 101, 102, 103, 104, 105, 140, 141, 142, 143, 144, 145, 146, 147, 148, 149, 150, 151, 152, 153, 154, 155, 156, 157, 158, 159, 160, 161] (by decide +kernel) (by decide +kernel)) (goodIn_sub (fun _ h => List.mem_cons_of_mem _ (List.mem_append_right _ h)) (by decide +kernel))
set_option maxRecDepth 20000 in
theorem gL_kept_X4_passed : GoodIn wsL_kept (wsV RL 91 RX4 yX4_passed wsX4_passed) := goodIn_app (goodIn_of _ (by decide +kernel)) ggL_kept_X4_passed
set_option maxRecDepth 20000 in
theorem ggL_kept_X4_keptActive : GoodIn wsL_kept wsX4_keptActive := goodIn_ca (goodIn_r _ [109, 110, 111, 112, 113, 114, 115, 116, 14, 15, 5, 16, 17, 18, 117, 118, 119, 120, 121, 140, 141, 142, 143, 144, 145, 146, 162, 163, 164, 165] (by decide +kernel) (by decide +kernel)) (goodIn_sub (fun _ h => List.mem_cons_of_mem _ (List.mem_append_right _ h)) (by decide +kernel))
set_option maxRecDepth 20000 in
theorem gL_kept_X4_keptActive : GoodIn wsL_kept (wsV RL 94 RX4 yX4_keptActive wsX4_keptActive) := goodIn_app (goodIn_of _ (by decide +kernel)) ggL_kept_X4_keptActive
set_option maxRecDepth 20000 in
theorem ggL_kept_X4_keptNew : GoodIn wsL_kept wsX4_keptNew := goodIn_ca (goodIn_r _ [125, 110, 111, 112, 113, 114, 115, 116, 14, 15, 5, 16, 17, 18, 126, 127, 128, 129, 130, 140, 141, 142, 143, 144, 145, 146, 162, 163, 164, 165] (by decide +kernel) (by decide +kernel)) (goodIn_sub (fun _ h => List.mem_cons_of_mem _ (List.mem_append_right _ h)) (by decide +kernel))
set_option maxRecDepth 20000 in
theorem gL_kept_X4_keptNew : GoodIn wsL_kept (wsV RL 97 RX4 yX4_keptNew wsX4_keptNew) := goodIn_app (goodIn_of _ (by decide +kernel)) ggL_kept_X4_keptNew
set_option maxRecDepth 20000 in
theorem ggL_kept_X4_keptSessions : GoodIn wsL_kept wsX4_keptSessions := goodIn_ca (goodIn_r _ [134, 110, 111, 112, 113, 114, 115, 116, 14, 15, 5, 16, 17, 18, 135, 136, 137, 138, 139, 140, 141, 142, 143, 144, 145, 146, 162, 163, 164, 165] (by decide +kernel) (by decide +kernel)) (goodIn_sub (fun _ h => List.mem_cons_of_mem _ (List.mem_append_right _ h)) (by decide +kernel))
set_option maxRecDepth 20000 in
theorem gL_kept_X4_keptSessions : GoodIn wsL_kept (wsV RL 100 RX4 yX4_keptSessions wsX4_keptSessions) := goodIn_app (goodIn_of _ (by decide +kernel)) ggL_kept_X4_keptSessions
theorem dL_kept_0 : decode cL_kept 0 = .ok (.iload_n 1, 1) := by decide +kernel
theorem dL_kept_1 : decode cL_kept 1 = .ok (.ifCond .ne 11, 3) := by decide +kernel
theorem dL_kept_4 : decode cL_kept 4 = .ok (.aload_n 0, 1) := by decide +kernel
theorem dL_kept_5 : decode cL_kept 5 = .ok (.iload_n 2, 1) := by decide +kernel
theorem dL_kept_6 : decode cL_kept 6 = .ok (.invokevirtual 91, 3) := by decide +kernel
theorem dL_kept_9 : decode cL_kept 9 = .ok (.goto 34, 3) := by decide +kernel
theorem dL_kept_12 : decode cL_kept 12 = .ok (.iload_n 1, 1) := by decide +kernel
theorem dL_kept_13 : decode cL_kept 13 = .ok (.iconst 1, 1) := by decide +kernel
theorem dL_kept_14 : decode cL_kept 14 = .ok (.if_icmp .ne 11, 3) := by decide +kernel
theorem dL_kept_17 : decode cL_kept 17 = .ok (.aload_n 0, 1) := by decide +kernel
theorem dL_kept_18 : decode cL_kept 18 = .ok (.iload_n 2, 1) := by decide +kernel
theorem dL_kept_19 : decode cL_kept 19 = .ok (.invokevirtual 94, 3) := by decide +kernel
theorem dL_kept_22 : decode cL_kept 22 = .ok (.goto 21, 3) := by decide +kernel
theorem dL_kept_25 : decode cL_kept 25 = .ok (.iload_n 1, 1) := by decide +kernel
theorem dL_kept_26 : decode cL_kept 26 = .ok (.iconst 2, 1) := by decide +kernel
theorem dL_kept_27 : decode cL_kept 27 = .ok (.if_icmp .ne 11, 3) := by decide +kernel
theorem dL_kept_30 : decode cL_kept 30 = .ok (.aload_n 0, 1) := by decide +kernel
theorem dL_kept_31 : decode cL_kept 31 = .ok (.iload_n 2, 1) := by decide +kernel
theorem dL_kept_32 : decode cL_kept 32 = .ok (.invokevirtual 97, 3) := by decide +kernel
theorem dL_kept_35 : decode cL_kept 35 = .ok (.goto 8, 3) := by decide +kernel
theorem dL_kept_38 : decode cL_kept 38 = .ok (.aload_n 0, 1) := by decide +kernel
theorem dL_kept_39 : decode cL_kept 39 = .ok (.iload_n 2, 1) := by decide +kernel
theorem dL_kept_40 : decode cL_kept 40 = .ok (.invokevirtual 100, 3) := by decide +kernel
theorem dL_kept_43 : decode cL_kept 43 = .ok (.ireturn, 1) := by decide +kernel
theorem dL_kept_44 : decode cL_kept 44 = .ok (.astore_n 3, 1) := by decide +kernel
theorem dL_kept_45 : decode cL_kept 45 = .ok (.bipush (-101), 2) := by decide +kernel
theorem dL_kept_47 : decode cL_kept 47 = .ok (.ireturn, 1) := by decide +kernel
set_option maxRecDepth 20000 in
theorem ggL_worth_L_many : GoodIn wsL_worth wsL_many := goodIn_r _ [4, 5, 6, 3, 7] (by decide +kernel) (by decide +kernel)
set_option maxRecDepth 20000 in
theorem gL_worth_L_many : GoodIn wsL_worth (va_wsS RL 135 yL_many wsL_many) := goodIn_app (goodIn_of _ (by decide +kernel)) ggL_worth_L_many
set_option maxRecDepth 20000 in
theorem ggL_worth_L_sessions : GoodIn wsL_worth wsL_sessions := goodIn_r _ [10, 11, 12, 3, 13, 5, 6, 7] (by decide +kernel) (by decide +kernel)
set_option maxRecDepth 20000 in
theorem gL_worth_L_sessions : GoodIn wsL_worth (va_wsS RL 128 yL_sessions wsL_sessions) := goodIn_app (goodIn_of _ (by decide +kernel)) ggL_worth_L_sessions
set_option maxRecDepth 20000 in
theorem ggL_worth_L_depth : GoodIn wsL_worth wsL_depth := goodIn_r _ [16, 17, 11, 12, 3, 13, 5, 6, 7] (by decide +kernel) (by decide +kernel)
set_option maxRecDepth 20000 in
theorem gL_worth_L_depth : GoodIn wsL_worth (va_wsS RL 142 yL_depth wsL_depth) := goodIn_app (goodIn_of _ (by decide +kernel)) ggL_worth_L_depth
theorem dL_worth_0 : decode cL_worth 0 = .ok (.iload 7, 2) := by decide +kernel
theorem dL_worth_2 : decode cL_worth 2 = .ok (.ifCond .ne 15, 3) := by decide +kernel
theorem dL_worth_5 : decode cL_worth 5 = .ok (.aload_n 0, 1) := by decide +kernel
theorem dL_worth_6 : decode cL_worth 6 = .ok (.aload_n 1, 1) := by decide +kernel
theorem dL_worth_7 : decode cL_worth 7 = .ok (.aload 4, 2) := by decide +kernel
theorem dL_worth_9 : decode cL_worth 9 = .ok (.iload 6, 2) := by decide +kernel
theorem dL_worth_11 : decode cL_worth 11 = .ok (.invokestatic 135, 3) := by decide +kernel
theorem dL_worth_14 : decode cL_worth 14 = .ok (.goto 40, 3) := by decide +kernel
theorem dL_worth_17 : decode cL_worth 17 = .ok (.iload 7, 2) := by decide +kernel
theorem dL_worth_19 : decode cL_worth 19 = .ok (.iconst 1, 1) := by decide +kernel
theorem dL_worth_20 : decode cL_worth 20 = .ok (.if_icmp .ne 19, 3) := by decide +kernel
theorem dL_worth_23 : decode cL_worth 23 = .ok (.aload_n 0, 1) := by decide +kernel
theorem dL_worth_24 : decode cL_worth 24 = .ok (.aload_n 1, 1) := by decide +kernel
theorem dL_worth_25 : decode cL_worth 25 = .ok (.aload_n 3, 1) := by decide +kernel
theorem dL_worth_26 : decode cL_worth 26 = .ok (.aload 4, 2) := by decide +kernel
theorem dL_worth_28 : decode cL_worth 28 = .ok (.iload 6, 2) := by decide +kernel
theorem dL_worth_30 : decode cL_worth 30 = .ok (.iconst (-1), 1) := by decide +kernel
theorem dL_worth_31 : decode cL_worth 31 = .ok (.aload 8, 2) := by decide +kernel
theorem dL_worth_33 : decode cL_worth 33 = .ok (.invokestatic 128, 3) := by decide +kernel
theorem dL_worth_36 : decode cL_worth 36 = .ok (.goto 18, 3) := by decide +kernel
theorem dL_worth_39 : decode cL_worth 39 = .ok (.aload_n 0, 1) := by decide +kernel
theorem dL_worth_40 : decode cL_worth 40 = .ok (.aload_n 1, 1) := by decide +kernel
theorem dL_worth_41 : decode cL_worth 41 = .ok (.aload_n 2, 1) := by decide +kernel
theorem dL_worth_42 : decode cL_worth 42 = .ok (.aload_n 3, 1) := by decide +kernel
theorem dL_worth_43 : decode cL_worth 43 = .ok (.aload 4, 2) := by decide +kernel
theorem dL_worth_45 : decode cL_worth 45 = .ok (.aload 5, 2) := by decide +kernel
theorem dL_worth_47 : decode cL_worth 47 = .ok (.iload 6, 2) := by decide +kernel
theorem dL_worth_49 : decode cL_worth 49 = .ok (.aload 8, 2) := by decide +kernel
theorem dL_worth_51 : decode cL_worth 51 = .ok (.invokestatic 142, 3) := by decide +kernel
theorem dL_worth_54 : decode cL_worth 54 = .ok (.ireturn, 1) := by decide +kernel
