theorem dX5_depthOf_26 : decode cX5_depthOf 26 = .ok (.iload_n 2, 1) := by decide +kernel
theorem dX5_depthOf_27 : decode cX5_depthOf 27 = .ok (.if_icmp .le 8, 3) := by decide +kernel
theorem dX5_depthOf_30 : decode cX5_depthOf 30 = .ok (.iload 4, 2) := by decide +kernel
theorem dX5_depthOf_32 : decode cX5_depthOf 32 = .ok (.goto 4, 3) := by decide +kernel
theorem dX5_depthOf_35 : decode cX5_depthOf 35 = .ok (.iload_n 2, 1) := by decide +kernel
theorem dX5_depthOf_36 : decode cX5_depthOf 36 = .ok (.istore_n 2, 1) := by decide +kernel
theorem dX5_depthOf_37 : decode cX5_depthOf 37 = .ok (.iinc 3 1, 3) := by decide +kernel
theorem dX5_depthOf_40 : decode cX5_depthOf 40 = .ok (.goto (-31), 3) := by decide +kernel
theorem dX5_depthOf_43 : decode cX5_depthOf 43 = .ok (.iload_n 2, 1) := by decide +kernel
theorem dX5_depthOf_44 : decode cX5_depthOf 44 = .ok (.ireturn, 1) := by decide +kernel
set_option maxRecDepth 20000 in
theorem ggX5_depth_X5_isId : GoodIn wsX5_depth wsX5_isId := goodIn_r _ [5] (by decide +kernel) (by decide +kernel)
set_option maxRecDepth 20000 in
theorem gX5_depth_X5_isId : GoodIn wsX5_depth (va_wsS RX5 53 yX5_isId wsX5_isId) := goodIn_app (goodIn_of _ (by decide +kernel)) ggX5_depth_X5_isId
set_option maxRecDepth 20000 in
theorem ggX5_depth_X5_may : GoodIn wsX5_depth wsX5_may := goodIn_r _ [9, 10, 36, 37, 38, 39, 40, 41, 42, 43, 44, 45, 46, 47, 48, 49, 50, 51, 52, 53, 54] (by decide +kernel) (by decide +kernel)
set_option maxRecDepth 20000 in
theorem gX5_depth_X5_may : GoodIn wsX5_depth (wsV RX5 67 RX5 yX5_may wsX5_may) := goodIn_app (goodIn_of _ (by decide +kernel)) ggX5_depth_X5_may
set_option maxRecDepth 20000 in
theorem ggX5_depth_X5_depthOf : GoodIn wsX5_depth wsX5_depthOf := goodIn_r _ [14, 15, 16, 17, 18, 4, 19, 20, 21, 22, 1, 23, 24, 25, 26, 27, 28, 29, 30, 31, 32, 33, 34, 35, 36, 37, 38, 39, 40, 41, 42, 43, 44, 45, 46, 47, 48, 49, 50, 51, 52, 53, 54] (by decide +kernel) (by decide +kernel)
set_option maxRecDepth 20000 in
theorem gX5_depth_X5_depthOf : GoodIn wsX5_depth (wsV RX5 92 RX5 yX5_depthOf wsX5_depthOf) := goodIn_app (goodIn_of _ (by decide +kernel)) ggX5_depth_X5_depthOf
theorem dX5_depth_0 : decode cX5_depth 0 = .ok (.aload_n 0, 1) := by decide +kernel
theorem dX5_depth_1 : decode cX5_depth 1 = .ok (.iload_n 1, 1) := by decide +kernel
theorem dX5_depth_2 : decode cX5_depth 2 = .ok (.invokestatic 53, 3) := by decide +kernel
theorem dX5_depth_5 : decode cX5_depth 5 = .ok (.invokevirtual 67, 3) := by decide +kernel
theorem dX5_depth_8 : decode cX5_depth 8 = .ok (.ifCond .eq 16, 3) := by decide +kernel
theorem dX5_depth_11 : decode cX5_depth 11 = .ok (.aload_n 0, 1) := by decide +kernel
theorem dX5_depth_12 : decode cX5_depth 12 = .ok (.aload_n 0, 1) := by decide +kernel
theorem dX5_depth_13 : decode cX5_depth 13 = .ok (.getfield 7, 3) := by decide +kernel
theorem dX5_depth_16 : decode cX5_depth 16 = .ok (.iload_n 1, 1) := by decide +kernel
theorem dX5_depth_17 : decode cX5_depth 17 = .ok (.iaload, 1) := by decide +kernel
theorem dX5_depth_18 : decode cX5_depth 18 = .ok (.invokevirtual 92, 3) := by decide +kernel
theorem dX5_depth_21 : decode cX5_depth 21 = .ok (.goto 4, 3) := by decide +kernel
theorem dX5_depth_24 : decode cX5_depth 24 = .ok (.iconst 0, 1) := by decide +kernel
theorem dX5_depth_25 : decode cX5_depth 25 = .ok (.ireturn, 1) := by decide +kernel
set_option maxRecDepth 20000 in
theorem ggX5_passed_X5_may : GoodIn wsX5_passed wsX5_may := goodIn_r _ [6, 7, 33, 34, 35, 36, 37, 38, 39, 40, 41, 42, 43, 44, 45, 46, 47, 48, 49, 50, 51] (by decide +kernel) (by decide +kernel)
set_option maxRecDepth 20000 in
theorem gX5_passed_X5_may : GoodIn wsX5_passed (wsV RX5 67 RX5 yX5_may wsX5_may) := goodIn_app (goodIn_of _ (by decide +kernel)) ggX5_passed_X5_may
set_option maxRecDepth 20000 in
theorem ggX5_passed_X5_depthOf : GoodIn wsX5_passed wsX5_depthOf := goodIn_r _ [11, 12, 13, 14, 15, 5, 16, 17, 18, 19, 20, 21, 22, 23, 24, 25, 26, 27, 28, 29, 1, 30, 31, 32, 33, 34, 35, 36, 37, 38, 39, 40, 41, 42, 43, 44, 45, 46, 47, 48, 49, 50, 51] (by decide +kernel) (by decide +kernel)
set_option maxRecDepth 20000 in
theorem gX5_passed_X5_depthOf : GoodIn wsX5_passed (wsV RX5 92 RX5 yX5_depthOf wsX5_depthOf) := goodIn_app (goodIn_of _ (by decide +kernel)) ggX5_passed_X5_depthOf
theorem dX5_passed_0 : decode cX5_passed 0 = .ok (.aload_n 0, 1) := by decide +kernel
theorem dX5_passed_1 : decode cX5_passed 1 = .ok (.iload_n 1, 1) := by decide +kernel
theorem dX5_passed_2 : decode cX5_passed 2 = .ok (.ifCond .lt 15, 3) := by decide +kernel
theorem dX5_passed_5 : decode cX5_passed 5 = .ok (.iload_n 1, 1) := by decide +kernel
theorem dX5_passed_6 : decode cX5_passed 6 = .ok (.aload_n 0, 1) := by decide +kernel
theorem dX5_passed_7 : decode cX5_passed 7 = .ok (.getfield 85, 3) := by decide +kernel
theorem dX5_passed_10 : decode cX5_passed 10 = .ok (.if_icmp .ge 7, 3) := by decide +kernel
theorem dX5_passed_13 : decode cX5_passed 13 = .ok (.iconst 1, 1) := by decide +kernel
theorem dX5_passed_14 : decode cX5_passed 14 = .ok (.goto 4, 3) := by decide +kernel
theorem dX5_passed_17 : decode cX5_passed 17 = .ok (.iconst 0, 1) := by decide +kernel
theorem dX5_passed_18 : decode cX5_passed 18 = .ok (.invokevirtual 67, 3) := by decide +kernel
theorem dX5_passed_21 : decode cX5_passed 21 = .ok (.ifCond .ne 5, 3) := by decide +kernel
theorem dX5_passed_24 : decode cX5_passed 24 = .ok (.iconst 0, 1) := by decide +kernel
theorem dX5_passed_25 : decode cX5_passed 25 = .ok (.ireturn, 1) := by decide +kernel
theorem dX5_passed_26 : decode cX5_passed 26 = .ok (.iconst 0, 1) := by decide +kernel
theorem dX5_passed_27 : decode cX5_passed 27 = .ok (.istore_n 2, 1) := by decide +kernel
theorem dX5_passed_28 : decode cX5_passed 28 = .ok (.iconst 0, 1) := by decide +kernel
theorem dX5_passed_29 : decode cX5_passed 29 = .ok (.istore_n 3, 1) := by decide +kernel
theorem dX5_passed_30 : decode cX5_passed 30 = .ok (.iload_n 3, 1) := by decide +kernel
theorem dX5_passed_31 : decode cX5_passed 31 = .ok (.bipush 20, 2) := by decide +kernel
theorem dX5_passed_33 : decode cX5_passed 33 = .ok (.if_icmp .ge 26, 3) := by decide +kernel
theorem dX5_passed_36 : decode cX5_passed 36 = .ok (.iload_n 2, 1) := by decide +kernel
theorem dX5_passed_37 : decode cX5_passed 37 = .ok (.aload_n 0, 1) := by decide +kernel
theorem dX5_passed_38 : decode cX5_passed 38 = .ok (.iload_n 3, 1) := by decide +kernel
theorem dX5_passed_39 : decode cX5_passed 39 = .ok (.invokevirtual 92, 3) := by decide +kernel
theorem dX5_passed_42 : decode cX5_passed 42 = .ok (.iload_n 1, 1) := by decide +kernel
theorem dX5_passed_43 : decode cX5_passed 43 = .ok (.if_icmp .le 7, 3) := by decide +kernel
theorem dX5_passed_46 : decode cX5_passed 46 = .ok (.iconst 1, 1) := by decide +kernel
theorem dX5_passed_47 : decode cX5_passed 47 = .ok (.goto 4, 3) := by decide +kernel
theorem dX5_passed_50 : decode cX5_passed 50 = .ok (.iconst 0, 1) := by decide +kernel
theorem dX5_passed_51 : decode cX5_passed 51 = .ok (.iadd, 1) := by decide +kernel
theorem dX5_passed_52 : decode cX5_passed 52 = .ok (.istore_n 2, 1) := by decide +kernel
theorem dX5_passed_53 : decode cX5_passed 53 = .ok (.iinc 3 1, 3) := by decide +kernel
theorem dX5_passed_56 : decode cX5_passed 56 = .ok (.goto (-26), 3) := by decide +kernel
theorem dX5_passed_59 : decode cX5_passed 59 = .ok (.iload_n 2, 1) := by decide +kernel
theorem dX5_passed_60 : decode cX5_passed 60 = .ok (.ireturn, 1) := by decide +kernel
theorem dX5_spanFrom_0 : decode cX5_spanFrom 0 = .ok (.iconst 0, 1) := by decide +kernel
theorem dX5_spanFrom_1 : decode cX5_spanFrom 1 = .ok (.istore_n 2, 1) := by decide +kernel
theorem dX5_spanFrom_2 : decode cX5_spanFrom 2 = .ok (.iload_n 1, 1) := by decide +kernel
theorem dX5_spanFrom_3 : decode cX5_spanFrom 3 = .ok (.istore_n 3, 1) := by decide +kernel
theorem dX5_spanFrom_4 : decode cX5_spanFrom 4 = .ok (.iload_n 2, 1) := by decide +kernel
theorem dX5_spanFrom_5 : decode cX5_spanFrom 5 = .ok (.aload_n 0, 1) := by decide +kernel
theorem dX5_spanFrom_6 : decode cX5_spanFrom 6 = .ok (.getfield 85, 3) := by decide +kernel
theorem dX5_spanFrom_9 : decode cX5_spanFrom 9 = .ok (.if_icmp .ge 37, 3) := by decide +kernel
theorem dX5_spanFrom_12 : decode cX5_spanFrom 12 = .ok (.iload_n 2, 1) := by decide +kernel
theorem dX5_spanFrom_13 : decode cX5_spanFrom 13 = .ok (.aload_n 0, 1) := by decide +kernel
theorem dX5_spanFrom_14 : decode cX5_spanFrom 14 = .ok (.getfield 16, 3) := by decide +kernel
theorem dX5_spanFrom_17 : decode cX5_spanFrom 17 = .ok (.aload_n 0, 1) := by decide +kernel
theorem dX5_spanFrom_18 : decode cX5_spanFrom 18 = .ok (.getfield 44, 3) := by decide +kernel
theorem dX5_spanFrom_21 : decode cX5_spanFrom 21 = .ok (.iload_n 3, 1) := by decide +kernel
theorem dX5_spanFrom_22 : decode cX5_spanFrom 22 = .ok (.iaload, 1) := by decide +kernel
theorem dX5_spanFrom_23 : decode cX5_spanFrom 23 = .ok (.iaload, 1) := by decide +kernel
theorem dX5_spanFrom_24 : decode cX5_spanFrom 24 = .ok (.aload_n 0, 1) := by decide +kernel
theorem dX5_spanFrom_25 : decode cX5_spanFrom 25 = .ok (.getfield 29, 3) := by decide +kernel
theorem dX5_spanFrom_28 : decode cX5_spanFrom 28 = .ok (.iload_n 2, 1) := by decide +kernel
theorem dX5_spanFrom_29 : decode cX5_spanFrom 29 = .ok (.iaload, 1) := by decide +kernel
theorem dX5_spanFrom_30 : decode cX5_spanFrom 30 = .ok (.if_icmp .ne 7, 3) := by decide +kernel
theorem dX5_spanFrom_33 : decode cX5_spanFrom 33 = .ok (.iconst 1, 1) := by decide +kernel
theorem dX5_spanFrom_34 : decode cX5_spanFrom 34 = .ok (.goto 4, 3) := by decide +kernel
theorem dX5_spanFrom_37 : decode cX5_spanFrom 37 = .ok (.iconst 0, 1) := by decide +kernel
theorem dX5_spanFrom_38 : decode cX5_spanFrom 38 = .ok (.iadd, 1) := by decide +kernel
theorem dX5_spanFrom_39 : decode cX5_spanFrom 39 = .ok (.istore_n 2, 1) := by decide +kernel
theorem dX5_spanFrom_40 : decode cX5_spanFrom 40 = .ok (.iinc 3 1, 3) := by decide +kernel
theorem dX5_spanFrom_43 : decode cX5_spanFrom 43 = .ok (.goto (-39), 3) := by decide +kernel
theorem dX5_spanFrom_46 : decode cX5_spanFrom 46 = .ok (.aload_n 0, 1) := by decide +kernel
theorem dX5_spanFrom_47 : decode cX5_spanFrom 47 = .ok (.getfield 19, 3) := by decide +kernel
theorem dX5_spanFrom_50 : decode cX5_spanFrom 50 = .ok (.aload_n 0, 1) := by decide +kernel
theorem dX5_spanFrom_51 : decode cX5_spanFrom 51 = .ok (.getfield 44, 3) := by decide +kernel
theorem dX5_spanFrom_54 : decode cX5_spanFrom 54 = .ok (.iload_n 3, 1) := by decide +kernel
theorem dX5_spanFrom_55 : decode cX5_spanFrom 55 = .ok (.iconst 1, 1) := by decide +kernel
theorem dX5_spanFrom_56 : decode cX5_spanFrom 56 = .ok (.isub, 1) := by decide +kernel
theorem dX5_spanFrom_57 : decode cX5_spanFrom 57 = .ok (.iaload, 1) := by decide +kernel
theorem dX5_spanFrom_58 : decode cX5_spanFrom 58 = .ok (.iaload, 1) := by decide +kernel
theorem dX5_spanFrom_59 : decode cX5_spanFrom 59 = .ok (.aload_n 0, 1) := by decide +kernel
theorem dX5_spanFrom_60 : decode cX5_spanFrom 60 = .ok (.getfield 19, 3) := by decide +kernel
theorem dX5_spanFrom_63 : decode cX5_spanFrom 63 = .ok (.aload_n 0, 1) := by decide +kernel
theorem dX5_spanFrom_64 : decode cX5_spanFrom 64 = .ok (.getfield 44, 3) := by decide +kernel
theorem dX5_spanFrom_67 : decode cX5_spanFrom 67 = .ok (.iload_n 1, 1) := by decide +kernel
theorem dX5_spanFrom_68 : decode cX5_spanFrom 68 = .ok (.iaload, 1) := by decide +kernel
theorem dX5_spanFrom_69 : decode cX5_spanFrom 69 = .ok (.iaload, 1) := by decide +kernel
theorem dX5_spanFrom_70 : decode cX5_spanFrom 70 = .ok (.isub, 1) := by decide +kernel
theorem dX5_spanFrom_71 : decode cX5_spanFrom 71 = .ok (.ireturn, 1) := by decide +kernel
set_option maxRecDepth 20000 in
theorem ggX5_fastest_X5_isId : GoodIn wsX5_fastest wsX5_isId := goodIn_r _ [7] (by decide +kernel) (by decide +kernel)
set_option maxRecDepth 20000 in
theorem gX5_fastest_X5_isId : GoodIn wsX5_fastest (va_wsS RX5 53 yX5_isId wsX5_isId) := goodIn_app (goodIn_of _ (by decide +kernel)) ggX5_fastest_X5_isId
set_option maxRecDepth 20000 in
theorem ggX5_fastest_X5_may : GoodIn wsX5_fastest wsX5_may := goodIn_r _ [11, 12, 36, 37, 38, 39, 40, 41, 42, 43, 44, 45, 46, 47, 48, 49, 50, 51, 52, 53, 54] (by decide +kernel) (by decide +kernel)
set_option maxRecDepth 20000 in
theorem gX5_fastest_X5_may : GoodIn wsX5_fastest (wsV RX5 67 RX5 yX5_may wsX5_may) := goodIn_app (goodIn_of _ (by decide +kernel)) ggX5_fastest_X5_may
set_option maxRecDepth 20000 in
theorem ggX5_fastest_X5_look : GoodIn wsX5_fastest wsX5_look := goodIn_r _ [16, 2, 17, 18, 19, 1, 20, 21, 22, 23, 24, 36, 37, 38, 39, 40, 41, 42, 43, 44, 45, 46, 47, 48, 49, 50, 51, 52, 53, 54] (by decide +kernel) (by decide +kernel)
set_option maxRecDepth 20000 in
theorem gX5_fastest_X5_look : GoodIn wsX5_fastest (wsV RX5 77 RX5 yX5_look wsX5_look) := goodIn_app (goodIn_of _ (by decide +kernel)) ggX5_fastest_X5_look
set_option maxRecDepth 20000 in
theorem ggX5_fastest_X5_passedFrom : GoodIn wsX5_fastest wsX5_passedFrom := goodIn_r _ [28, 2, 3, 21, 22, 29, 30, 31, 36, 37, 38, 39, 40, 41, 42, 43, 44, 45, 46, 47, 48, 49, 50, 51, 52, 53, 54] (by decide +kernel) (by decide +kernel)
set_option maxRecDepth 20000 in
theorem gX5_fastest_X5_passedFrom : GoodIn wsX5_fastest (wsV RX5 88 RX5 yX5_passedFrom wsX5_passedFrom) := goodIn_app (goodIn_of _ (by decide +kernel)) ggX5_fastest_X5_passedFrom
set_option maxRecDepth 20000 in
theorem ggX5_fastest_X5_spanFrom : GoodIn wsX5_fastest wsX5_spanFrom := goodIn_r _ [35, 3, 30, 22, 31, 21, 36, 37, 38, 39, 40, 41, 42, 43, 44, 45, 46, 47, 48, 49, 50, 51, 52, 53, 54] (by decide +kernel) (by decide +kernel)
set_option maxRecDepth 20000 in
theorem gX5_fastest_X5_spanFrom : GoodIn wsX5_fastest (wsV RX5 95 RX5 yX5_spanFrom wsX5_spanFrom) := goodIn_app (goodIn_of _ (by decide +kernel)) ggX5_fastest_X5_spanFrom
theorem dX5_fastest_0 : decode cX5_fastest 0 = .ok (.aload_n 0, 1) := by decide +kernel
theorem dX5_fastest_1 : decode cX5_fastest 1 = .ok (.iload_n 1, 1) := by decide +kernel
theorem dX5_fastest_2 : decode cX5_fastest 2 = .ok (.invokestatic 53, 3) := by decide +kernel
theorem dX5_fastest_5 : decode cX5_fastest 5 = .ok (.invokevirtual 67, 3) := by decide +kernel
theorem dX5_fastest_8 : decode cX5_fastest 8 = .ok (.ifCond .ne 5, 3) := by decide +kernel
theorem dX5_fastest_11 : decode cX5_fastest 11 = .ok (.iconst 0, 1) := by decide +kernel
theorem dX5_fastest_12 : decode cX5_fastest 12 = .ok (.ireturn, 1) := by decide +kernel
theorem dX5_fastest_13 : decode cX5_fastest 13 = .ok (.aload_n 0, 1) := by decide +kernel
theorem dX5_fastest_14 : decode cX5_fastest 14 = .ok (.aload_n 0, 1) := by decide +kernel
theorem dX5_fastest_15 : decode cX5_fastest 15 = .ok (.getfield 7, 3) := by decide +kernel
theorem dX5_fastest_18 : decode cX5_fastest 18 = .ok (.iload_n 1, 1) := by decide +kernel
theorem dX5_fastest_19 : decode cX5_fastest 19 = .ok (.iaload, 1) := by decide +kernel
theorem dX5_fastest_20 : decode cX5_fastest 20 = .ok (.invokevirtual 77, 3) := by decide +kernel
theorem dX5_fastest_23 : decode cX5_fastest 23 = .ok (.iconst (-1), 1) := by decide +kernel
theorem dX5_fastest_24 : decode cX5_fastest 24 = .ok (.istore_n 2, 1) := by decide +kernel
theorem dX5_fastest_25 : decode cX5_fastest 25 = .ok (.iconst 0, 1) := by decide +kernel
theorem dX5_fastest_26 : decode cX5_fastest 26 = .ok (.istore_n 3, 1) := by decide +kernel
theorem dX5_fastest_27 : decode cX5_fastest 27 = .ok (.iload_n 3, 1) := by decide +kernel
theorem dX5_fastest_28 : decode cX5_fastest 28 = .ok (.aload_n 0, 1) := by decide +kernel
theorem dX5_fastest_29 : decode cX5_fastest 29 = .ok (.getfield 71, 3) := by decide +kernel
theorem dX5_fastest_32 : decode cX5_fastest 32 = .ok (.if_icmp .ge 53, 3) := by decide +kernel
theorem dX5_fastest_35 : decode cX5_fastest 35 = .ok (.aload_n 0, 1) := by decide +kernel
theorem dX5_fastest_36 : decode cX5_fastest 36 = .ok (.getfield 85, 3) := by decide +kernel
theorem dX5_fastest_39 : decode cX5_fastest 39 = .ok (.ifCond .le 46, 3) := by decide +kernel
theorem dX5_fastest_42 : decode cX5_fastest 42 = .ok (.aload_n 0, 1) := by decide +kernel
theorem dX5_fastest_43 : decode cX5_fastest 43 = .ok (.iload_n 3, 1) := by decide +kernel
theorem dX5_fastest_44 : decode cX5_fastest 44 = .ok (.invokevirtual 88, 3) := by decide +kernel
theorem dX5_fastest_47 : decode cX5_fastest 47 = .ok (.aload_n 0, 1) := by decide +kernel
theorem dX5_fastest_48 : decode cX5_fastest 48 = .ok (.getfield 85, 3) := by decide +kernel
theorem dX5_fastest_51 : decode cX5_fastest 51 = .ok (.if_icmp .ne 28, 3) := by decide +kernel
theorem dX5_fastest_54 : decode cX5_fastest 54 = .ok (.aload_n 0, 1) := by decide +kernel
theorem dX5_fastest_55 : decode cX5_fastest 55 = .ok (.iload_n 3, 1) := by decide +kernel
theorem dX5_fastest_56 : decode cX5_fastest 56 = .ok (.invokevirtual 95, 3) := by decide +kernel
theorem dX5_fastest_59 : decode cX5_fastest 59 = .ok (.istore 4, 2) := by decide +kernel
theorem dX5_fastest_61 : decode cX5_fastest 61 = .ok (.iload_n 2, 1) := by decide +kernel
theorem dX5_fastest_62 : decode cX5_fastest 62 = .ok (.iconst (-1), 1) := by decide +kernel
theorem dX5_fastest_63 : decode cX5_fastest 63 = .ok (.if_icmp .eq 9, 3) := by decide +kernel
theorem dX5_fastest_66 : decode cX5_fastest 66 = .ok (.iload 4, 2) := by decide +kernel
theorem dX5_fastest_68 : decode cX5_fastest 68 = .ok (.iload_n 2, 1) := by decide +kernel
theorem dX5_fastest_69 : decode cX5_fastest 69 = .ok (.if_icmp .ge 8, 3) := by decide +kernel
theorem dX5_fastest_72 : decode cX5_fastest 72 = .ok (.iload 4, 2) := by decide +kernel
theorem dX5_fastest_74 : decode cX5_fastest 74 = .ok (.goto 4, 3) := by decide +kernel
theorem dX5_fastest_77 : decode cX5_fastest 77 = .ok (.iload_n 2, 1) := by decide +kernel
theorem dX5_fastest_78 : decode cX5_fastest 78 = .ok (.istore_n 2, 1) := by decide +kernel
theorem dX5_fastest_79 : decode cX5_fastest 79 = .ok (.iinc 3 1, 3) := by decide +kernel
theorem dX5_fastest_82 : decode cX5_fastest 82 = .ok (.goto (-55), 3) := by decide +kernel
theorem dX5_fastest_85 : decode cX5_fastest 85 = .ok (.iload_n 2, 1) := by decide +kernel
theorem dX5_fastest_86 : decode cX5_fastest 86 = .ok (.ireturn, 1) := by decide +kernel
set_option maxRecDepth 20000 in
theorem ggX5_cohortOf_X5_look : GoodIn wsX5_cohortOf wsX5_look := goodIn_r _ [8, 1, 9, 10, 11, 12, 13, 2, 3, 14, 15, 16, 17, 18, 19, 20, 21, 22, 23, 24, 25, 26, 27, 28, 29, 30, 31, 32, 33, 34] (by decide +kernel) (by decide +kernel)
set_option maxRecDepth 20000 in
theorem gX5_cohortOf_X5_look : GoodIn wsX5_cohortOf (wsV RX5 77 RX5 yX5_look wsX5_look) := goodIn_app (goodIn_of _ (by decide +kernel)) ggX5_cohortOf_X5_look
theorem dX5_cohortOf_0 : decode cX5_cohortOf 0 = .ok (.aload_n 0, 1) := by decide +kernel
theorem dX5_cohortOf_1 : decode cX5_cohortOf 1 = .ok (.iload_n 1, 1) := by decide +kernel
theorem dX5_cohortOf_2 : decode cX5_cohortOf 2 = .ok (.invokevirtual 77, 3) := by decide +kernel
theorem dX5_cohortOf_5 : decode cX5_cohortOf 5 = .ok (.aload_n 0, 1) := by decide +kernel
theorem dX5_cohortOf_6 : decode cX5_cohortOf 6 = .ok (.getfield 71, 3) := by decide +kernel
theorem dX5_cohortOf_9 : decode cX5_cohortOf 9 = .ok (.ifCond .ne 7, 3) := by decide +kernel
theorem dX5_cohortOf_12 : decode cX5_cohortOf 12 = .ok (.iconst (-1), 1) := by decide +kernel
theorem dX5_cohortOf_13 : decode cX5_cohortOf 13 = .ok (.goto 17, 3) := by decide +kernel
theorem dX5_cohortOf_16 : decode cX5_cohortOf 16 = .ok (.aload_n 0, 1) := by decide +kernel
theorem dX5_cohortOf_17 : decode cX5_cohortOf 17 = .ok (.getfield 19, 3) := by decide +kernel
theorem dX5_cohortOf_20 : decode cX5_cohortOf 20 = .ok (.aload_n 0, 1) := by decide +kernel
theorem dX5_cohortOf_21 : decode cX5_cohortOf 21 = .ok (.getfield 44, 3) := by decide +kernel
theorem dX5_cohortOf_24 : decode cX5_cohortOf 24 = .ok (.iconst 0, 1) := by decide +kernel
theorem dX5_cohortOf_25 : decode cX5_cohortOf 25 = .ok (.iaload, 1) := by decide +kernel
theorem dX5_cohortOf_26 : decode cX5_cohortOf 26 = .ok (.iaload, 1) := by decide +kernel
theorem dX5_cohortOf_27 : decode cX5_cohortOf 27 = .ok (.bipush 100, 2) := by decide +kernel
theorem dX5_cohortOf_29 : decode cX5_cohortOf 29 = .ok (.idiv, 1) := by decide +kernel
theorem dX5_cohortOf_30 : decode cX5_cohortOf 30 = .ok (.ireturn, 1) := by decide +kernel
theorem dX5_isActive_0 : decode cX5_isActive 0 = .ok (.iconst 0, 1) := by decide +kernel
theorem dX5_isActive_1 : decode cX5_isActive 1 = .ok (.istore_n 3, 1) := by decide +kernel
theorem dX5_isActive_2 : decode cX5_isActive 2 = .ok (.iload_n 3, 1) := by decide +kernel
theorem dX5_isActive_3 : decode cX5_isActive 3 = .ok (.aload_n 0, 1) := by decide +kernel
theorem dX5_isActive_4 : decode cX5_isActive 4 = .ok (.getfield 60, 3) := by decide +kernel
theorem dX5_isActive_7 : decode cX5_isActive 7 = .ok (.if_icmp .ge 39, 3) := by decide +kernel
theorem dX5_isActive_10 : decode cX5_isActive 10 = .ok (.aload_n 0, 1) := by decide +kernel
theorem dX5_isActive_11 : decode cX5_isActive 11 = .ok (.getfield 7, 3) := by decide +kernel
theorem dX5_isActive_14 : decode cX5_isActive 14 = .ok (.aload_n 0, 1) := by decide +kernel
theorem dX5_isActive_15 : decode cX5_isActive 15 = .ok (.getfield 13, 3) := by decide +kernel
theorem dX5_isActive_18 : decode cX5_isActive 18 = .ok (.iload_n 3, 1) := by decide +kernel
theorem dX5_isActive_19 : decode cX5_isActive 19 = .ok (.iaload, 1) := by decide +kernel
theorem dX5_isActive_20 : decode cX5_isActive 20 = .ok (.iaload, 1) := by decide +kernel
theorem dX5_isActive_21 : decode cX5_isActive 21 = .ok (.iload_n 1, 1) := by decide +kernel
theorem dX5_isActive_22 : decode cX5_isActive 22 = .ok (.if_icmp .ne 18, 3) := by decide +kernel
theorem dX5_isActive_25 : decode cX5_isActive 25 = .ok (.aload_n 0, 1) := by decide +kernel
theorem dX5_isActive_26 : decode cX5_isActive 26 = .ok (.getfield 19, 3) := by decide +kernel
theorem dX5_isActive_29 : decode cX5_isActive 29 = .ok (.iload_n 3, 1) := by decide +kernel
theorem dX5_isActive_30 : decode cX5_isActive 30 = .ok (.iaload, 1) := by decide +kernel
theorem dX5_isActive_31 : decode cX5_isActive 31 = .ok (.bipush 100, 2) := by decide +kernel
theorem dX5_isActive_33 : decode cX5_isActive 33 = .ok (.idiv, 1) := by decide +kernel
theorem dX5_isActive_34 : decode cX5_isActive 34 = .ok (.iload_n 2, 1) := by decide +kernel
theorem dX5_isActive_35 : decode cX5_isActive 35 = .ok (.if_icmp .ne 5, 3) := by decide +kernel
theorem dX5_isActive_38 : decode cX5_isActive 38 = .ok (.iconst 1, 1) := by decide +kernel
theorem dX5_isActive_39 : decode cX5_isActive 39 = .ok (.ireturn, 1) := by decide +kernel
theorem dX5_isActive_40 : decode cX5_isActive 40 = .ok (.iinc 3 1, 3) := by decide +kernel
theorem dX5_isActive_43 : decode cX5_isActive 43 = .ok (.goto (-41), 3) := by decide +kernel
theorem dX5_isActive_46 : decode cX5_isActive 46 = .ok (.iconst 0, 1) := by decide +kernel
theorem dX5_isActive_47 : decode cX5_isActive 47 = .ok (.ireturn, 1) := by decide +kernel
set_option maxRecDepth 20000 in
theorem ggX5_cohort_X5_isId : GoodIn wsX5_cohort wsX5_isId := goodIn_r _ [5] (by decide +kernel) (by decide +kernel)
set_option maxRecDepth 20000 in
theorem gX5_cohort_X5_isId : GoodIn wsX5_cohort (va_wsS RX5 53 yX5_isId wsX5_isId) := goodIn_app (goodIn_of _ (by decide +kernel)) ggX5_cohort_X5_isId
set_option maxRecDepth 20000 in
theorem ggX5_cohort_X5_may : GoodIn wsX5_cohort wsX5_may := goodIn_r _ [9, 10, 28, 29, 30, 31, 32, 33, 34, 35, 36, 37, 38, 39, 40, 41, 42, 43, 44, 45, 46] (by decide +kernel) (by decide +kernel)
set_option maxRecDepth 20000 in
theorem gX5_cohort_X5_may : GoodIn wsX5_cohort (wsV RX5 67 RX5 yX5_may wsX5_may) := goodIn_app (goodIn_of _ (by decide +kernel)) ggX5_cohort_X5_may
set_option maxRecDepth 20000 in
theorem ggX5_cohort_X5_cohortOf : GoodIn wsX5_cohort wsX5_cohortOf := goodIn_r _ [14, 15, 16, 17, 18, 19, 20, 4, 21, 22, 23, 24, 1, 25, 26, 27, 28, 29, 30, 31, 32, 33, 34, 35, 36, 37, 38, 39, 40, 41, 42, 43, 44, 45, 46] (by decide +kernel) (by decide +kernel)
set_option maxRecDepth 20000 in
theorem gX5_cohort_X5_cohortOf : GoodIn wsX5_cohort (wsV RX5 98 RX5 yX5_cohortOf wsX5_cohortOf) := goodIn_app (goodIn_of _ (by decide +kernel)) ggX5_cohort_X5_cohortOf
theorem dX5_cohort_0 : decode cX5_cohort 0 = .ok (.aload_n 0, 1) := by decide +kernel
theorem dX5_cohort_1 : decode cX5_cohort 1 = .ok (.iload_n 1, 1) := by decide +kernel
theorem dX5_cohort_2 : decode cX5_cohort 2 = .ok (.invokestatic 53, 3) := by decide +kernel
theorem dX5_cohort_5 : decode cX5_cohort 5 = .ok (.invokevirtual 67, 3) := by decide +kernel
theorem dX5_cohort_8 : decode cX5_cohort 8 = .ok (.ifCond .eq 16, 3) := by decide +kernel
theorem dX5_cohort_11 : decode cX5_cohort 11 = .ok (.aload_n 0, 1) := by decide +kernel
theorem dX5_cohort_12 : decode cX5_cohort 12 = .ok (.aload_n 0, 1) := by decide +kernel
theorem dX5_cohort_13 : decode cX5_cohort 13 = .ok (.getfield 7, 3) := by decide +kernel
theorem dX5_cohort_16 : decode cX5_cohort 16 = .ok (.iload_n 1, 1) := by decide +kernel
theorem dX5_cohort_17 : decode cX5_cohort 17 = .ok (.iaload, 1) := by decide +kernel
theorem dX5_cohort_18 : decode cX5_cohort 18 = .ok (.invokevirtual 98, 3) := by decide +kernel
theorem dX5_cohort_21 : decode cX5_cohort 21 = .ok (.goto 4, 3) := by decide +kernel
theorem dX5_cohort_24 : decode cX5_cohort 24 = .ok (.iconst 0, 1) := by decide +kernel
theorem dX5_cohort_25 : decode cX5_cohort 25 = .ok (.ireturn, 1) := by decide +kernel
set_option maxRecDepth 20000 in
theorem ggX5_retained_X5_isDay : GoodIn wsX5_retained wsX5_isDay := goodIn_r _ [4] (by decide +kernel) (by decide +kernel)
set_option maxRecDepth 20000 in
theorem gX5_retained_X5_isDay : GoodIn wsX5_retained (va_wsS RX5 101 yX5_isDay wsX5_isDay) := goodIn_app (goodIn_of _ (by decide +kernel)) ggX5_retained_X5_isDay
set_option maxRecDepth 20000 in
theorem ggX5_retained_X5_may : GoodIn wsX5_retained wsX5_may := goodIn_r _ [8, 9, 32, 33, 34, 35, 36, 37, 38, 39, 40, 41, 42, 43, 44, 45, 46, 47, 48, 49, 50] (by decide +kernel) (by decide +kernel)
set_option maxRecDepth 20000 in
theorem gX5_retained_X5_may : GoodIn wsX5_retained (wsV RX5 67 RX5 yX5_may wsX5_may) := goodIn_app (goodIn_of _ (by decide +kernel)) ggX5_retained_X5_may
set_option maxRecDepth 20000 in
theorem ggX5_retained_X5_cohortOf : GoodIn wsX5_retained wsX5_cohortOf := goodIn_r _ [13, 14, 15, 16, 17, 18, 19, 3, 20, 21, 22, 23, 24, 25, 26, 27, 32, 33, 34, 35, 36, 37, 38, 39, 40, 41, 42, 43, 44, 45, 46, 47, 48, 49, 50] (by decide +kernel) (by decide +kernel)
set_option maxRecDepth 20000 in
theorem gX5_retained_X5_cohortOf : GoodIn wsX5_retained (wsV RX5 98 RX5 yX5_cohortOf wsX5_cohortOf) := goodIn_app (goodIn_of _ (by decide +kernel)) ggX5_retained_X5_cohortOf
set_option maxRecDepth 20000 in
theorem ggX5_retained_X5_isActive : GoodIn wsX5_retained wsX5_isActive := goodIn_r _ [31, 22, 24, 25, 15, 32, 33, 34, 35, 36, 37, 38, 39, 40, 41, 42, 43, 44, 45, 46, 47, 48, 49, 50] (by decide +kernel) (by decide +kernel)
set_option maxRecDepth 20000 in
theorem gX5_retained_X5_isActive : GoodIn wsX5_retained (wsV RX5 104 RX5 yX5_isActive wsX5_isActive) := goodIn_app (goodIn_of _ (by decide +kernel)) ggX5_retained_X5_isActive
theorem dX5_retained_0 : decode cX5_retained 0 = .ok (.aload_n 0, 1) := by decide +kernel
theorem dX5_retained_1 : decode cX5_retained 1 = .ok (.iload_n 1, 1) := by decide +kernel
theorem dX5_retained_2 : decode cX5_retained 2 = .ok (.invokestatic 101, 3) := by decide +kernel
theorem dX5_retained_5 : decode cX5_retained 5 = .ok (.ifCond .eq 19, 3) := by decide +kernel
theorem dX5_retained_8 : decode cX5_retained 8 = .ok (.iload_n 2, 1) := by decide +kernel
theorem dX5_retained_9 : decode cX5_retained 9 = .ok (.ifCond .lt 15, 3) := by decide +kernel
theorem dX5_retained_12 : decode cX5_retained 12 = .ok (.iload_n 2, 1) := by decide +kernel
theorem dX5_retained_13 : decode cX5_retained 13 = .ok (.bipush 19, 2) := by decide +kernel
theorem dX5_retained_15 : decode cX5_retained 15 = .ok (.iload_n 1, 1) := by decide +kernel
theorem dX5_retained_16 : decode cX5_retained 16 = .ok (.isub, 1) := by decide +kernel
theorem dX5_retained_17 : decode cX5_retained 17 = .ok (.if_icmp .gt 7, 3) := by decide +kernel
theorem dX5_retained_20 : decode cX5_retained 20 = .ok (.iconst 1, 1) := by decide +kernel
theorem dX5_retained_21 : decode cX5_retained 21 = .ok (.goto 4, 3) := by decide +kernel
theorem dX5_retained_24 : decode cX5_retained 24 = .ok (.iconst 0, 1) := by decide +kernel
theorem dX5_retained_25 : decode cX5_retained 25 = .ok (.invokevirtual 67, 3) := by decide +kernel
theorem dX5_retained_28 : decode cX5_retained 28 = .ok (.ifCond .ne 5, 3) := by decide +kernel
theorem dX5_retained_31 : decode cX5_retained 31 = .ok (.iconst 0, 1) := by decide +kernel
theorem dX5_retained_32 : decode cX5_retained 32 = .ok (.ireturn, 1) := by decide +kernel
theorem dX5_retained_33 : decode cX5_retained 33 = .ok (.iconst 0, 1) := by decide +kernel
theorem dX5_retained_34 : decode cX5_retained 34 = .ok (.istore_n 3, 1) := by decide +kernel
theorem dX5_retained_35 : decode cX5_retained 35 = .ok (.iconst 0, 1) := by decide +kernel
theorem dX5_retained_36 : decode cX5_retained 36 = .ok (.istore 4, 2) := by decide +kernel
theorem dX5_retained_38 : decode cX5_retained 38 = .ok (.iload 4, 2) := by decide +kernel
theorem dX5_retained_40 : decode cX5_retained 40 = .ok (.bipush 20, 2) := by decide +kernel
theorem dX5_retained_42 : decode cX5_retained 42 = .ok (.if_icmp .ge 39, 3) := by decide +kernel
theorem dX5_retained_45 : decode cX5_retained 45 = .ok (.iload_n 3, 1) := by decide +kernel
theorem dX5_retained_46 : decode cX5_retained 46 = .ok (.aload_n 0, 1) := by decide +kernel
theorem dX5_retained_47 : decode cX5_retained 47 = .ok (.iload 4, 2) := by decide +kernel
theorem dX5_retained_49 : decode cX5_retained 49 = .ok (.invokevirtual 98, 3) := by decide +kernel
theorem dX5_retained_52 : decode cX5_retained 52 = .ok (.iload_n 1, 1) := by decide +kernel
theorem dX5_retained_53 : decode cX5_retained 53 = .ok (.if_icmp .ne 19, 3) := by decide +kernel
theorem dX5_retained_56 : decode cX5_retained 56 = .ok (.aload_n 0, 1) := by decide +kernel
theorem dX5_retained_57 : decode cX5_retained 57 = .ok (.iload 4, 2) := by decide +kernel
theorem dX5_retained_59 : decode cX5_retained 59 = .ok (.iload_n 1, 1) := by decide +kernel
theorem dX5_retained_60 : decode cX5_retained 60 = .ok (.iload_n 2, 1) := by decide +kernel
theorem dX5_retained_61 : decode cX5_retained 61 = .ok (.iadd, 1) := by decide +kernel
theorem dX5_retained_62 : decode cX5_retained 62 = .ok (.invokevirtual 104, 3) := by decide +kernel
theorem dX5_retained_65 : decode cX5_retained 65 = .ok (.ifCond .eq 7, 3) := by decide +kernel
theorem dX5_retained_68 : decode cX5_retained 68 = .ok (.iconst 1, 1) := by decide +kernel
theorem dX5_retained_69 : decode cX5_retained 69 = .ok (.goto 4, 3) := by decide +kernel
theorem dX5_retained_72 : decode cX5_retained 72 = .ok (.iconst 0, 1) := by decide +kernel
theorem dX5_retained_73 : decode cX5_retained 73 = .ok (.iadd, 1) := by decide +kernel
theorem dX5_retained_74 : decode cX5_retained 74 = .ok (.istore_n 3, 1) := by decide +kernel
theorem dX5_retained_75 : decode cX5_retained 75 = .ok (.iinc 4 1, 3) := by decide +kernel
theorem dX5_retained_78 : decode cX5_retained 78 = .ok (.goto (-40), 3) := by decide +kernel
theorem dX5_retained_81 : decode cX5_retained 81 = .ok (.iload_n 3, 1) := by decide +kernel
theorem dX5_retained_82 : decode cX5_retained 82 = .ok (.ireturn, 1) := by decide +kernel
set_option maxRecDepth 20000 in
theorem ggX5_activeFrom_X5_isActive : GoodIn wsX5_activeFrom wsX5_isActive := goodIn_r _ [5, 6, 7, 8, 9, 10, 11, 12, 13, 14, 15, 16, 17, 18, 19, 20, 21, 22, 23, 24, 25, 26, 27, 28] (by decide +kernel) (by decide +kernel)
set_option maxRecDepth 20000 in
theorem gX5_activeFrom_X5_isActive : GoodIn wsX5_activeFrom (wsV RX5 104 RX5 yX5_isActive wsX5_isActive) := goodIn_app (goodIn_of _ (by decide +kernel)) ggX5_activeFrom_X5_isActive
theorem dX5_activeFrom_0 : decode cX5_activeFrom 0 = .ok (.iconst 0, 1) := by decide +kernel
theorem dX5_activeFrom_1 : decode cX5_activeFrom 1 = .ok (.istore_n 3, 1) := by decide +kernel
theorem dX5_activeFrom_2 : decode cX5_activeFrom 2 = .ok (.iconst 0, 1) := by decide +kernel
theorem dX5_activeFrom_3 : decode cX5_activeFrom 3 = .ok (.istore 4, 2) := by decide +kernel
theorem dX5_activeFrom_5 : decode cX5_activeFrom 5 = .ok (.iload 4, 2) := by decide +kernel
theorem dX5_activeFrom_7 : decode cX5_activeFrom 7 = .ok (.bipush 20, 2) := by decide +kernel
theorem dX5_activeFrom_9 : decode cX5_activeFrom 9 = .ok (.if_icmp .ge 66, 3) := by decide +kernel
theorem dX5_activeFrom_12 : decode cX5_activeFrom 12 = .ok (.iconst 1, 1) := by decide +kernel
theorem dX5_activeFrom_13 : decode cX5_activeFrom 13 = .ok (.istore 5, 2) := by decide +kernel
theorem dX5_activeFrom_15 : decode cX5_activeFrom 15 = .ok (.iload_n 1, 1) := by decide +kernel
theorem dX5_activeFrom_16 : decode cX5_activeFrom 16 = .ok (.istore 6, 2) := by decide +kernel
theorem dX5_activeFrom_18 : decode cX5_activeFrom 18 = .ok (.iload 6, 2) := by decide +kernel
theorem dX5_activeFrom_20 : decode cX5_activeFrom 20 = .ok (.iload_n 2, 1) := by decide +kernel
theorem dX5_activeFrom_21 : decode cX5_activeFrom 21 = .ok (.if_icmp .gt 32, 3) := by decide +kernel
theorem dX5_activeFrom_24 : decode cX5_activeFrom 24 = .ok (.iload 5, 2) := by decide +kernel
theorem dX5_activeFrom_26 : decode cX5_activeFrom 26 = .ok (.ifCond .eq 18, 3) := by decide +kernel
theorem dX5_activeFrom_29 : decode cX5_activeFrom 29 = .ok (.aload_n 0, 1) := by decide +kernel
theorem dX5_activeFrom_30 : decode cX5_activeFrom 30 = .ok (.iload 4, 2) := by decide +kernel
theorem dX5_activeFrom_32 : decode cX5_activeFrom 32 = .ok (.iload 6, 2) := by decide +kernel
theorem dX5_activeFrom_34 : decode cX5_activeFrom 34 = .ok (.invokevirtual 104, 3) := by decide +kernel
theorem dX5_activeFrom_37 : decode cX5_activeFrom 37 = .ok (.ifCond .eq 7, 3) := by decide +kernel
theorem dX5_activeFrom_40 : decode cX5_activeFrom 40 = .ok (.iconst 1, 1) := by decide +kernel
theorem dX5_activeFrom_41 : decode cX5_activeFrom 41 = .ok (.goto 4, 3) := by decide +kernel
theorem dX5_activeFrom_44 : decode cX5_activeFrom 44 = .ok (.iconst 0, 1) := by decide +kernel
theorem dX5_activeFrom_45 : decode cX5_activeFrom 45 = .ok (.istore 5, 2) := by decide +kernel
theorem dX5_activeFrom_47 : decode cX5_activeFrom 47 = .ok (.iinc 6 1, 3) := by decide +kernel
theorem dX5_activeFrom_50 : decode cX5_activeFrom 50 = .ok (.goto (-32), 3) := by decide +kernel
theorem dX5_activeFrom_53 : decode cX5_activeFrom 53 = .ok (.iload_n 3, 1) := by decide +kernel
theorem dX5_activeFrom_54 : decode cX5_activeFrom 54 = .ok (.iload 5, 2) := by decide +kernel
theorem dX5_activeFrom_56 : decode cX5_activeFrom 56 = .ok (.ifCond .eq 10, 3) := by decide +kernel
theorem dX5_activeFrom_59 : decode cX5_activeFrom 59 = .ok (.iconst 1, 1) := by decide +kernel
theorem dX5_activeFrom_60 : decode cX5_activeFrom 60 = .ok (.iload 4, 2) := by decide +kernel
theorem dX5_activeFrom_62 : decode cX5_activeFrom 62 = .ok (.ishl, 1) := by decide +kernel
theorem dX5_activeFrom_63 : decode cX5_activeFrom 63 = .ok (.goto 4, 3) := by decide +kernel
theorem dX5_activeFrom_66 : decode cX5_activeFrom 66 = .ok (.iconst 0, 1) := by decide +kernel
theorem dX5_activeFrom_67 : decode cX5_activeFrom 67 = .ok (.ior, 1) := by decide +kernel
theorem dX5_activeFrom_68 : decode cX5_activeFrom 68 = .ok (.istore_n 3, 1) := by decide +kernel
theorem dX5_activeFrom_69 : decode cX5_activeFrom 69 = .ok (.iinc 4 1, 3) := by decide +kernel
theorem dX5_activeFrom_72 : decode cX5_activeFrom 72 = .ok (.goto (-67), 3) := by decide +kernel
theorem dX5_activeFrom_75 : decode cX5_activeFrom 75 = .ok (.iload_n 3, 1) := by decide +kernel
theorem dX5_activeFrom_76 : decode cX5_activeFrom 76 = .ok (.ireturn, 1) := by decide +kernel
set_option maxRecDepth 20000 in
theorem ggX5_active_X5_isDay : GoodIn wsX5_active wsX5_isDay := goodIn_r _ [4] (by decide +kernel) (by decide +kernel)
set_option maxRecDepth 20000 in
theorem gX5_active_X5_isDay : GoodIn wsX5_active (va_wsS RX5 101 yX5_isDay wsX5_isDay) := goodIn_app (goodIn_of _ (by decide +kernel)) ggX5_active_X5_isDay
set_option maxRecDepth 20000 in
theorem ggX5_active_X5_may : GoodIn wsX5_active wsX5_may := goodIn_r _ [8, 9, 22, 23, 24, 25, 26, 27, 28, 29, 30, 31, 32, 33, 34, 35, 36, 37, 38, 39, 40] (by decide +kernel) (by decide +kernel)
set_option maxRecDepth 20000 in
theorem gX5_active_X5_may : GoodIn wsX5_active (wsV RX5 67 RX5 yX5_may wsX5_may) := goodIn_app (goodIn_of _ (by decide +kernel)) ggX5_active_X5_may
set_option maxRecDepth 20000 in
theorem ggX5_active_X5_activeFrom : GoodIn wsX5_active wsX5_activeFrom := goodIn_r _ [13, 14, 15, 16, 3, 17, 18, 19, 20, 21, 22, 23, 24, 25, 26, 27, 28, 29, 30, 31, 32, 33, 34, 35, 36, 37, 38, 39, 40] (by decide +kernel) (by decide +kernel)
set_option maxRecDepth 20000 in
theorem gX5_active_X5_activeFrom : GoodIn wsX5_active (wsV RX5 107 RX5 yX5_activeFrom wsX5_activeFrom) := goodIn_app (goodIn_of _ (by decide +kernel)) ggX5_active_X5_activeFrom
theorem dX5_active_0 : decode cX5_active 0 = .ok (.aload_n 0, 1) := by decide +kernel
theorem dX5_active_1 : decode cX5_active 1 = .ok (.iload_n 1, 1) := by decide +kernel
theorem dX5_active_2 : decode cX5_active 2 = .ok (.invokestatic 101, 3) := by decide +kernel
theorem dX5_active_5 : decode cX5_active 5 = .ok (.invokevirtual 67, 3) := by decide +kernel
theorem dX5_active_8 : decode cX5_active 8 = .ok (.ifCond .eq 12, 3) := by decide +kernel
theorem dX5_active_11 : decode cX5_active 11 = .ok (.aload_n 0, 1) := by decide +kernel
theorem dX5_active_12 : decode cX5_active 12 = .ok (.iload_n 1, 1) := by decide +kernel
theorem dX5_active_13 : decode cX5_active 13 = .ok (.iload_n 1, 1) := by decide +kernel
theorem dX5_active_14 : decode cX5_active 14 = .ok (.invokevirtual 107, 3) := by decide +kernel
theorem dX5_active_17 : decode cX5_active 17 = .ok (.goto 4, 3) := by decide +kernel
theorem dX5_active_20 : decode cX5_active 20 = .ok (.iconst 0, 1) := by decide +kernel
theorem dX5_active_21 : decode cX5_active 21 = .ok (.ireturn, 1) := by decide +kernel
set_option maxRecDepth 20000 in
theorem ggX5_activeOnEach_X5_isDay : GoodIn wsX5_activeOnEach wsX5_isDay := goodIn_r _ [4] (by decide +kernel) (by decide +kernel)
set_option maxRecDepth 20000 in
theorem gX5_activeOnEach_X5_isDay : GoodIn wsX5_activeOnEach (va_wsS RX5 101 yX5_isDay wsX5_isDay) := goodIn_app (goodIn_of _ (by decide +kernel)) ggX5_activeOnEach_X5_isDay
set_option maxRecDepth 20000 in
theorem ggX5_activeOnEach_X5_may : GoodIn wsX5_activeOnEach wsX5_may := goodIn_r _ [8, 9, 22, 23, 24, 25, 26, 27, 28, 29, 30, 31, 32, 33, 34, 35, 36, 37, 38, 39, 40] (by decide +kernel) (by decide +kernel)
set_option maxRecDepth 20000 in
theorem gX5_activeOnEach_X5_may : GoodIn wsX5_activeOnEach (wsV RX5 67 RX5 yX5_may wsX5_may) := goodIn_app (goodIn_of _ (by decide +kernel)) ggX5_activeOnEach_X5_may
set_option maxRecDepth 20000 in
theorem ggX5_activeOnEach_X5_activeFrom : GoodIn wsX5_activeOnEach wsX5_activeFrom := goodIn_r _ [13, 14, 15, 16, 3, 17, 18, 19, 20, 21, 22, 23, 24, 25, 26, 27, 28, 29, 30, 31, 32, 33, 34, 35, 36, 37, 38, 39, 40] (by decide +kernel) (by decide +kernel)
set_option maxRecDepth 20000 in
theorem gX5_activeOnEach_X5_activeFrom : GoodIn wsX5_activeOnEach (wsV RX5 107 RX5 yX5_activeFrom wsX5_activeFrom) := goodIn_app (goodIn_of _ (by decide +kernel)) ggX5_activeOnEach_X5_activeFrom
theorem dX5_activeOnEach_0 : decode cX5_activeOnEach 0 = .ok (.aload_n 0, 1) := by decide +kernel
theorem dX5_activeOnEach_1 : decode cX5_activeOnEach 1 = .ok (.iload_n 1, 1) := by decide +kernel
theorem dX5_activeOnEach_2 : decode cX5_activeOnEach 2 = .ok (.invokestatic 101, 3) := by decide +kernel
theorem dX5_activeOnEach_5 : decode cX5_activeOnEach 5 = .ok (.ifCond .eq 19, 3) := by decide +kernel
theorem dX5_activeOnEach_8 : decode cX5_activeOnEach 8 = .ok (.iload_n 2, 1) := by decide +kernel
theorem dX5_activeOnEach_9 : decode cX5_activeOnEach 9 = .ok (.invokestatic 101, 3) := by decide +kernel
theorem dX5_activeOnEach_12 : decode cX5_activeOnEach 12 = .ok (.ifCond .eq 12, 3) := by decide +kernel
theorem dX5_activeOnEach_15 : decode cX5_activeOnEach 15 = .ok (.iload_n 1, 1) := by decide +kernel
theorem dX5_activeOnEach_16 : decode cX5_activeOnEach 16 = .ok (.iload_n 2, 1) := by decide +kernel
theorem dX5_activeOnEach_17 : decode cX5_activeOnEach 17 = .ok (.if_icmp .gt 7, 3) := by decide +kernel
theorem dX5_activeOnEach_20 : decode cX5_activeOnEach 20 = .ok (.iconst 1, 1) := by decide +kernel
theorem dX5_activeOnEach_21 : decode cX5_activeOnEach 21 = .ok (.goto 4, 3) := by decide +kernel
theorem dX5_activeOnEach_24 : decode cX5_activeOnEach 24 = .ok (.iconst 0, 1) := by decide +kernel
theorem dX5_activeOnEach_25 : decode cX5_activeOnEach 25 = .ok (.invokevirtual 67, 3) := by decide +kernel
theorem dX5_activeOnEach_28 : decode cX5_activeOnEach 28 = .ok (.ifCond .eq 12, 3) := by decide +kernel
theorem dX5_activeOnEach_31 : decode cX5_activeOnEach 31 = .ok (.aload_n 0, 1) := by decide +kernel
theorem dX5_activeOnEach_32 : decode cX5_activeOnEach 32 = .ok (.iload_n 1, 1) := by decide +kernel
theorem dX5_activeOnEach_33 : decode cX5_activeOnEach 33 = .ok (.iload_n 2, 1) := by decide +kernel
theorem dX5_activeOnEach_34 : decode cX5_activeOnEach 34 = .ok (.invokevirtual 107, 3) := by decide +kernel
theorem dX5_activeOnEach_37 : decode cX5_activeOnEach 37 = .ok (.goto 4, 3) := by decide +kernel
theorem dX5_activeOnEach_40 : decode cX5_activeOnEach 40 = .ok (.iconst 0, 1) := by decide +kernel
theorem dX5_activeOnEach_41 : decode cX5_activeOnEach 41 = .ok (.ireturn, 1) := by decide +kernel
set_option maxRecDepth 20000 in
theorem ggX5_worth_X5_look : GoodIn wsX5_worth wsX5_look := goodIn_r _ [7, 1, 2, 8, 9, 10, 11, 12, 13, 14, 15, 28, 29, 30, 31, 32, 33, 34, 35, 36, 37, 38, 39, 40, 41, 42, 43, 44, 45, 46] (by decide +kernel) (by decide +kernel)
set_option maxRecDepth 20000 in
theorem gX5_worth_X5_look : GoodIn wsX5_worth (wsV RX5 77 RX5 yX5_look wsX5_look) := goodIn_app (goodIn_of _ (by decide +kernel)) ggX5_worth_X5_look
set_option maxRecDepth 20000 in
theorem ggX5_worth_X5_depthOf : GoodIn wsX5_worth wsX5_depthOf := goodIn_r _ [19, 1, 3, 4, 5, 6, 7, 2, 8, 9, 10, 11, 12, 13, 14, 15, 20, 21, 22, 23, 24, 25, 26, 27, 28, 29, 30, 31, 32, 33, 34, 35, 36, 37, 38, 39, 40, 41, 42, 43, 44, 45, 46] (by decide +kernel) (by decide +kernel)
set_option maxRecDepth 20000 in
theorem gX5_worth_X5_depthOf : GoodIn wsX5_worth (wsV RX5 92 RX5 yX5_depthOf wsX5_depthOf) := goodIn_app (goodIn_of _ (by decide +kernel)) ggX5_worth_X5_depthOf
theorem dX5_worth_0 : decode cX5_worth 0 = .ok (.aload_n 0, 1) := by decide +kernel
theorem dX5_worth_1 : decode cX5_worth 1 = .ok (.iload_n 1, 1) := by decide +kernel
theorem dX5_worth_2 : decode cX5_worth 2 = .ok (.invokevirtual 77, 3) := by decide +kernel
theorem dX5_worth_5 : decode cX5_worth 5 = .ok (.aload_n 0, 1) := by decide +kernel
theorem dX5_worth_6 : decode cX5_worth 6 = .ok (.getfield 71, 3) := by decide +kernel
