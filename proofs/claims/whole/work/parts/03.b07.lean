theorem dX5_worth_9 : decode cX5_worth 9 = .ok (.ifCond .ne 7, 3) := by decide +kernel
theorem dX5_worth_12 : decode cX5_worth 12 = .ok (.iconst (-1), 1) := by decide +kernel
theorem dX5_worth_13 : decode cX5_worth 13 = .ok (.goto 31, 3) := by decide +kernel
theorem dX5_worth_16 : decode cX5_worth 16 = .ok (.iload_n 2, 1) := by decide +kernel
theorem dX5_worth_17 : decode cX5_worth 17 = .ok (.ifCond .ne 10, 3) := by decide +kernel
theorem dX5_worth_20 : decode cX5_worth 20 = .ok (.aload_n 0, 1) := by decide +kernel
theorem dX5_worth_21 : decode cX5_worth 21 = .ok (.getfield 71, 3) := by decide +kernel
theorem dX5_worth_24 : decode cX5_worth 24 = .ok (.goto 20, 3) := by decide +kernel
theorem dX5_worth_27 : decode cX5_worth 27 = .ok (.iload_n 2, 1) := by decide +kernel
theorem dX5_worth_28 : decode cX5_worth 28 = .ok (.iconst 1, 1) := by decide +kernel
theorem dX5_worth_29 : decode cX5_worth 29 = .ok (.if_icmp .ne 10, 3) := by decide +kernel
theorem dX5_worth_32 : decode cX5_worth 32 = .ok (.aload_n 0, 1) := by decide +kernel
theorem dX5_worth_33 : decode cX5_worth 33 = .ok (.getfield 74, 3) := by decide +kernel
theorem dX5_worth_36 : decode cX5_worth 36 = .ok (.goto 8, 3) := by decide +kernel
theorem dX5_worth_39 : decode cX5_worth 39 = .ok (.aload_n 0, 1) := by decide +kernel
theorem dX5_worth_40 : decode cX5_worth 40 = .ok (.iload_n 1, 1) := by decide +kernel
theorem dX5_worth_41 : decode cX5_worth 41 = .ok (.invokevirtual 92, 3) := by decide +kernel
theorem dX5_worth_44 : decode cX5_worth 44 = .ok (.ireturn, 1) := by decide +kernel
set_option maxRecDepth 20000 in
theorem ggX5_ranked_X5_worth : GoodIn wsX5_ranked wsX5_worth := goodIn_r _ [5, 6, 7, 8, 9, 10, 4, 11, 12, 13, 14, 15, 16, 17, 18, 19, 20, 21, 22, 23, 24, 25, 26, 27, 28, 29, 30, 31, 37, 38, 39, 40, 41, 42, 43, 44, 45, 46, 47, 48, 49, 50, 51, 52, 53, 54, 55] (by decide +kernel) (by decide +kernel)
set_option maxRecDepth 20000 in
theorem gX5_ranked_X5_worth : GoodIn wsX5_ranked (wsV RX5 111 RX5 yX5_worth wsX5_worth) := goodIn_app (goodIn_of _ (by decide +kernel)) ggX5_ranked_X5_worth
set_option maxRecDepth 20000 in
theorem ggX5_ranked_X5_mayBoth : GoodIn wsX5_ranked wsX5_mayBoth := goodIn_r _ [35, 36, 37, 38, 39, 40, 41, 42, 43, 44, 45, 46, 47, 48, 49, 50, 51, 52, 53, 54, 55] (by decide +kernel) (by decide +kernel)
set_option maxRecDepth 20000 in
theorem gX5_ranked_X5_mayBoth : GoodIn wsX5_ranked (wsV RX5 63 RX5 yX5_mayBoth wsX5_mayBoth) := goodIn_app (goodIn_of _ (by decide +kernel)) ggX5_ranked_X5_mayBoth
theorem dX5_ranked_0 : decode cX5_ranked 0 = .ok (.iload_n 1, 1) := by decide +kernel
theorem dX5_ranked_1 : decode cX5_ranked 1 = .ok (.ifCond .lt 12, 3) := by decide +kernel
theorem dX5_ranked_4 : decode cX5_ranked 4 = .ok (.iload_n 1, 1) := by decide +kernel
theorem dX5_ranked_5 : decode cX5_ranked 5 = .ok (.iconst 2, 1) := by decide +kernel
theorem dX5_ranked_6 : decode cX5_ranked 6 = .ok (.if_icmp .gt 7, 3) := by decide +kernel
theorem dX5_ranked_9 : decode cX5_ranked 9 = .ok (.iconst 1, 1) := by decide +kernel
theorem dX5_ranked_10 : decode cX5_ranked 10 = .ok (.goto 4, 3) := by decide +kernel
theorem dX5_ranked_13 : decode cX5_ranked 13 = .ok (.iconst 0, 1) := by decide +kernel
theorem dX5_ranked_14 : decode cX5_ranked 14 = .ok (.istore_n 3, 1) := by decide +kernel
theorem dX5_ranked_15 : decode cX5_ranked 15 = .ok (.iload_n 2, 1) := by decide +kernel
theorem dX5_ranked_16 : decode cX5_ranked 16 = .ok (.istore 4, 2) := by decide +kernel
theorem dX5_ranked_18 : decode cX5_ranked 18 = .ok (.iconst (-1), 1) := by decide +kernel
theorem dX5_ranked_19 : decode cX5_ranked 19 = .ok (.istore 5, 2) := by decide +kernel
theorem dX5_ranked_21 : decode cX5_ranked 21 = .ok (.sipush 250, 3) := by decide +kernel
theorem dX5_ranked_24 : decode cX5_ranked 24 = .ok (.istore 6, 2) := by decide +kernel
theorem dX5_ranked_26 : decode cX5_ranked 26 = .ok (.iload 6, 2) := by decide +kernel
theorem dX5_ranked_28 : decode cX5_ranked 28 = .ok (.ifCond .lt 62, 3) := by decide +kernel
theorem dX5_ranked_31 : decode cX5_ranked 31 = .ok (.iload_n 3, 1) := by decide +kernel
theorem dX5_ranked_32 : decode cX5_ranked 32 = .ok (.ifCond .eq 58, 3) := by decide +kernel
theorem dX5_ranked_35 : decode cX5_ranked 35 = .ok (.iload_n 2, 1) := by decide +kernel
theorem dX5_ranked_36 : decode cX5_ranked 36 = .ok (.ifCond .lt 54, 3) := by decide +kernel
theorem dX5_ranked_39 : decode cX5_ranked 39 = .ok (.iconst 0, 1) := by decide +kernel
theorem dX5_ranked_40 : decode cX5_ranked 40 = .ok (.istore 7, 2) := by decide +kernel
theorem dX5_ranked_42 : decode cX5_ranked 42 = .ok (.iload 7, 2) := by decide +kernel
theorem dX5_ranked_44 : decode cX5_ranked 44 = .ok (.bipush 20, 2) := by decide +kernel
theorem dX5_ranked_46 : decode cX5_ranked 46 = .ok (.if_icmp .ge 38, 3) := by decide +kernel
theorem dX5_ranked_49 : decode cX5_ranked 49 = .ok (.aload_n 0, 1) := by decide +kernel
theorem dX5_ranked_50 : decode cX5_ranked 50 = .ok (.iload 7, 2) := by decide +kernel
theorem dX5_ranked_52 : decode cX5_ranked 52 = .ok (.iload_n 1, 1) := by decide +kernel
theorem dX5_ranked_53 : decode cX5_ranked 53 = .ok (.invokevirtual 111, 3) := by decide +kernel
theorem dX5_ranked_56 : decode cX5_ranked 56 = .ok (.iload 6, 2) := by decide +kernel
theorem dX5_ranked_58 : decode cX5_ranked 58 = .ok (.if_icmp .ne 20, 3) := by decide +kernel
theorem dX5_ranked_61 : decode cX5_ranked 61 = .ok (.iload 4, 2) := by decide +kernel
theorem dX5_ranked_63 : decode cX5_ranked 63 = .ok (.ifCond .ne 8, 3) := by decide +kernel
theorem dX5_ranked_66 : decode cX5_ranked 66 = .ok (.iload 7, 2) := by decide +kernel
theorem dX5_ranked_68 : decode cX5_ranked 68 = .ok (.goto 5, 3) := by decide +kernel
theorem dX5_ranked_71 : decode cX5_ranked 71 = .ok (.iload 5, 2) := by decide +kernel
theorem dX5_ranked_73 : decode cX5_ranked 73 = .ok (.istore 5, 2) := by decide +kernel
theorem dX5_ranked_75 : decode cX5_ranked 75 = .ok (.iinc 4 (-1), 3) := by decide +kernel
theorem dX5_ranked_78 : decode cX5_ranked 78 = .ok (.iinc 7 1, 3) := by decide +kernel
theorem dX5_ranked_81 : decode cX5_ranked 81 = .ok (.goto (-39), 3) := by decide +kernel
theorem dX5_ranked_84 : decode cX5_ranked 84 = .ok (.iinc 6 (-1), 3) := by decide +kernel
theorem dX5_ranked_87 : decode cX5_ranked 87 = .ok (.goto (-61), 3) := by decide +kernel
theorem dX5_ranked_90 : decode cX5_ranked 90 = .ok (.aload_n 0, 1) := by decide +kernel
theorem dX5_ranked_91 : decode cX5_ranked 91 = .ok (.iload_n 3, 1) := by decide +kernel
theorem dX5_ranked_92 : decode cX5_ranked 92 = .ok (.iload 5, 2) := by decide +kernel
theorem dX5_ranked_94 : decode cX5_ranked 94 = .ok (.iconst (-1), 1) := by decide +kernel
theorem dX5_ranked_95 : decode cX5_ranked 95 = .ok (.if_icmp .eq 7, 3) := by decide +kernel
theorem dX5_ranked_98 : decode cX5_ranked 98 = .ok (.iconst 1, 1) := by decide +kernel
theorem dX5_ranked_99 : decode cX5_ranked 99 = .ok (.goto 4, 3) := by decide +kernel
theorem dX5_ranked_102 : decode cX5_ranked 102 = .ok (.iconst 0, 1) := by decide +kernel
theorem dX5_ranked_103 : decode cX5_ranked 103 = .ok (.invokevirtual 63, 3) := by decide +kernel
theorem dX5_ranked_106 : decode cX5_ranked 106 = .ok (.ifCond .eq 8, 3) := by decide +kernel
theorem dX5_ranked_109 : decode cX5_ranked 109 = .ok (.iload 5, 2) := by decide +kernel
theorem dX5_ranked_111 : decode cX5_ranked 111 = .ok (.goto 4, 3) := by decide +kernel
theorem dX5_ranked_114 : decode cX5_ranked 114 = .ok (.iconst 0, 1) := by decide +kernel
theorem dX5_ranked_115 : decode cX5_ranked 115 = .ok (.ireturn, 1) := by decide +kernel
set_option maxRecDepth 20000 in
theorem ggX5_closeDay_X5_may : GoodIn wsX5_closeDay wsX5_may := goodIn_r _ [13, 14, 33, 34, 35, 36, 37, 38, 39, 40, 41, 42, 43, 44, 45, 46, 47, 48, 49, 50, 51] (by decide +kernel) (by decide +kernel)
set_option maxRecDepth 20000 in
theorem gX5_closeDay_X5_may : GoodIn wsX5_closeDay (wsV RX5 67 RX5 yX5_may wsX5_may) := goodIn_app (goodIn_of _ (by decide +kernel)) ggX5_closeDay_X5_may
set_option maxRecDepth 20000 in
theorem ggX5_closeDay_X5_isActive : GoodIn wsX5_closeDay wsX5_isActive := goodIn_r _ [18, 19, 20, 21, 3, 33, 34, 35, 36, 37, 38, 39, 40, 41, 42, 43, 44, 45, 46, 47, 48, 49, 50, 51] (by decide +kernel) (by decide +kernel)
set_option maxRecDepth 20000 in
theorem gX5_closeDay_X5_isActive : GoodIn wsX5_closeDay (wsV RX5 104 RX5 yX5_isActive wsX5_isActive) := goodIn_app (goodIn_of _ (by decide +kernel)) ggX5_closeDay_X5_isActive
set_option maxRecDepth 20000 in
theorem ggX5_closeDay_X5_cohortOf : GoodIn wsX5_closeDay wsX5_cohortOf := goodIn_r _ [25, 26, 3, 4, 27, 28, 29, 12, 30, 2, 19, 31, 20, 21, 32, 5, 33, 34, 35, 36, 37, 38, 39, 40, 41, 42, 43, 44, 45, 46, 47, 48, 49, 50, 51] (by decide +kernel) (by decide +kernel)
set_option maxRecDepth 20000 in
theorem gX5_closeDay_X5_cohortOf : GoodIn wsX5_closeDay (wsV RX5 98 RX5 yX5_cohortOf wsX5_cohortOf) := goodIn_app (goodIn_of _ (by decide +kernel)) ggX5_closeDay_X5_cohortOf
theorem dX5_closeDay_0 : decode cX5_closeDay 0 = .ok (.aload_n 0, 1) := by decide +kernel
theorem dX5_closeDay_1 : decode cX5_closeDay 1 = .ok (.aload_n 0, 1) := by decide +kernel
theorem dX5_closeDay_2 : decode cX5_closeDay 2 = .ok (.getfield 57, 3) := by decide +kernel
theorem dX5_closeDay_5 : decode cX5_closeDay 5 = .ok (.bipush 20, 2) := by decide +kernel
theorem dX5_closeDay_7 : decode cX5_closeDay 7 = .ok (.if_icmp .ge 7, 3) := by decide +kernel
theorem dX5_closeDay_10 : decode cX5_closeDay 10 = .ok (.iconst 1, 1) := by decide +kernel
theorem dX5_closeDay_11 : decode cX5_closeDay 11 = .ok (.goto 4, 3) := by decide +kernel
theorem dX5_closeDay_14 : decode cX5_closeDay 14 = .ok (.iconst 0, 1) := by decide +kernel
theorem dX5_closeDay_15 : decode cX5_closeDay 15 = .ok (.invokevirtual 67, 3) := by decide +kernel
theorem dX5_closeDay_18 : decode cX5_closeDay 18 = .ok (.ifCond .ne 5, 3) := by decide +kernel
theorem dX5_closeDay_21 : decode cX5_closeDay 21 = .ok (.iconst 0, 1) := by decide +kernel
theorem dX5_closeDay_22 : decode cX5_closeDay 22 = .ok (.ireturn, 1) := by decide +kernel
theorem dX5_closeDay_23 : decode cX5_closeDay 23 = .ok (.aload_n 0, 1) := by decide +kernel
theorem dX5_closeDay_24 : decode cX5_closeDay 24 = .ok (.getfield 57, 3) := by decide +kernel
theorem dX5_closeDay_27 : decode cX5_closeDay 27 = .ok (.istore_n 1, 1) := by decide +kernel
theorem dX5_closeDay_28 : decode cX5_closeDay 28 = .ok (.iconst 0, 1) := by decide +kernel
theorem dX5_closeDay_29 : decode cX5_closeDay 29 = .ok (.istore_n 2, 1) := by decide +kernel
theorem dX5_closeDay_30 : decode cX5_closeDay 30 = .ok (.iconst 0, 1) := by decide +kernel
theorem dX5_closeDay_31 : decode cX5_closeDay 31 = .ok (.istore_n 3, 1) := by decide +kernel
theorem dX5_closeDay_32 : decode cX5_closeDay 32 = .ok (.iconst 0, 1) := by decide +kernel
theorem dX5_closeDay_33 : decode cX5_closeDay 33 = .ok (.istore 4, 2) := by decide +kernel
theorem dX5_closeDay_35 : decode cX5_closeDay 35 = .ok (.iconst 0, 1) := by decide +kernel
theorem dX5_closeDay_36 : decode cX5_closeDay 36 = .ok (.istore 5, 2) := by decide +kernel
theorem dX5_closeDay_38 : decode cX5_closeDay 38 = .ok (.iload 5, 2) := by decide +kernel
theorem dX5_closeDay_40 : decode cX5_closeDay 40 = .ok (.bipush 20, 2) := by decide +kernel
theorem dX5_closeDay_42 : decode cX5_closeDay 42 = .ok (.if_icmp .ge 97, 3) := by decide +kernel
theorem dX5_closeDay_45 : decode cX5_closeDay 45 = .ok (.iload_n 2, 1) := by decide +kernel
theorem dX5_closeDay_46 : decode cX5_closeDay 46 = .ok (.aload_n 0, 1) := by decide +kernel
theorem dX5_closeDay_47 : decode cX5_closeDay 47 = .ok (.iload 5, 2) := by decide +kernel
theorem dX5_closeDay_49 : decode cX5_closeDay 49 = .ok (.iload_n 1, 1) := by decide +kernel
theorem dX5_closeDay_50 : decode cX5_closeDay 50 = .ok (.invokevirtual 104, 3) := by decide +kernel
theorem dX5_closeDay_53 : decode cX5_closeDay 53 = .ok (.ifCond .eq 7, 3) := by decide +kernel
theorem dX5_closeDay_56 : decode cX5_closeDay 56 = .ok (.iconst 1, 1) := by decide +kernel
theorem dX5_closeDay_57 : decode cX5_closeDay 57 = .ok (.goto 4, 3) := by decide +kernel
theorem dX5_closeDay_60 : decode cX5_closeDay 60 = .ok (.iconst 0, 1) := by decide +kernel
theorem dX5_closeDay_61 : decode cX5_closeDay 61 = .ok (.iadd, 1) := by decide +kernel
theorem dX5_closeDay_62 : decode cX5_closeDay 62 = .ok (.istore_n 2, 1) := by decide +kernel
theorem dX5_closeDay_63 : decode cX5_closeDay 63 = .ok (.iload_n 3, 1) := by decide +kernel
theorem dX5_closeDay_64 : decode cX5_closeDay 64 = .ok (.aload_n 0, 1) := by decide +kernel
theorem dX5_closeDay_65 : decode cX5_closeDay 65 = .ok (.iload 5, 2) := by decide +kernel
theorem dX5_closeDay_67 : decode cX5_closeDay 67 = .ok (.invokevirtual 98, 3) := by decide +kernel
theorem dX5_closeDay_70 : decode cX5_closeDay 70 = .ok (.iload_n 1, 1) := by decide +kernel
theorem dX5_closeDay_71 : decode cX5_closeDay 71 = .ok (.if_icmp .ne 7, 3) := by decide +kernel
theorem dX5_closeDay_74 : decode cX5_closeDay 74 = .ok (.iconst 1, 1) := by decide +kernel
theorem dX5_closeDay_75 : decode cX5_closeDay 75 = .ok (.goto 4, 3) := by decide +kernel
theorem dX5_closeDay_78 : decode cX5_closeDay 78 = .ok (.iconst 0, 1) := by decide +kernel
theorem dX5_closeDay_79 : decode cX5_closeDay 79 = .ok (.iadd, 1) := by decide +kernel
theorem dX5_closeDay_80 : decode cX5_closeDay 80 = .ok (.istore_n 3, 1) := by decide +kernel
theorem dX5_closeDay_81 : decode cX5_closeDay 81 = .ok (.iconst 0, 1) := by decide +kernel
theorem dX5_closeDay_82 : decode cX5_closeDay 82 = .ok (.istore 6, 2) := by decide +kernel
theorem dX5_closeDay_84 : decode cX5_closeDay 84 = .ok (.iload 6, 2) := by decide +kernel
theorem dX5_closeDay_86 : decode cX5_closeDay 86 = .ok (.aload_n 0, 1) := by decide +kernel
theorem dX5_closeDay_87 : decode cX5_closeDay 87 = .ok (.getfield 74, 3) := by decide +kernel
theorem dX5_closeDay_90 : decode cX5_closeDay 90 = .ok (.if_icmp .ge 43, 3) := by decide +kernel
theorem dX5_closeDay_93 : decode cX5_closeDay 93 = .ok (.iload 4, 2) := by decide +kernel
theorem dX5_closeDay_95 : decode cX5_closeDay 95 = .ok (.aload_n 0, 1) := by decide +kernel
theorem dX5_closeDay_96 : decode cX5_closeDay 96 = .ok (.getfield 19, 3) := by decide +kernel
theorem dX5_closeDay_99 : decode cX5_closeDay 99 = .ok (.aload_n 0, 1) := by decide +kernel
theorem dX5_closeDay_100 : decode cX5_closeDay 100 = .ok (.getfield 44, 3) := by decide +kernel
theorem dX5_closeDay_103 : decode cX5_closeDay 103 = .ok (.aload_n 0, 1) := by decide +kernel
theorem dX5_closeDay_104 : decode cX5_closeDay 104 = .ok (.getfield 47, 3) := by decide +kernel
theorem dX5_closeDay_107 : decode cX5_closeDay 107 = .ok (.iload 6, 2) := by decide +kernel
theorem dX5_closeDay_109 : decode cX5_closeDay 109 = .ok (.iaload, 1) := by decide +kernel
theorem dX5_closeDay_110 : decode cX5_closeDay 110 = .ok (.iaload, 1) := by decide +kernel
theorem dX5_closeDay_111 : decode cX5_closeDay 111 = .ok (.iaload, 1) := by decide +kernel
theorem dX5_closeDay_112 : decode cX5_closeDay 112 = .ok (.bipush 100, 2) := by decide +kernel
theorem dX5_closeDay_114 : decode cX5_closeDay 114 = .ok (.idiv, 1) := by decide +kernel
theorem dX5_closeDay_115 : decode cX5_closeDay 115 = .ok (.iload_n 1, 1) := by decide +kernel
theorem dX5_closeDay_116 : decode cX5_closeDay 116 = .ok (.if_icmp .ne 7, 3) := by decide +kernel
theorem dX5_closeDay_119 : decode cX5_closeDay 119 = .ok (.iconst 1, 1) := by decide +kernel
theorem dX5_closeDay_120 : decode cX5_closeDay 120 = .ok (.goto 4, 3) := by decide +kernel
theorem dX5_closeDay_123 : decode cX5_closeDay 123 = .ok (.iconst 0, 1) := by decide +kernel
theorem dX5_closeDay_124 : decode cX5_closeDay 124 = .ok (.iadd, 1) := by decide +kernel
theorem dX5_closeDay_125 : decode cX5_closeDay 125 = .ok (.istore 4, 2) := by decide +kernel
theorem dX5_closeDay_127 : decode cX5_closeDay 127 = .ok (.iinc 6 1, 3) := by decide +kernel
theorem dX5_closeDay_130 : decode cX5_closeDay 130 = .ok (.goto (-46), 3) := by decide +kernel
theorem dX5_closeDay_133 : decode cX5_closeDay 133 = .ok (.iinc 5 1, 3) := by decide +kernel
theorem dX5_closeDay_136 : decode cX5_closeDay 136 = .ok (.goto (-98), 3) := by decide +kernel
theorem dX5_closeDay_139 : decode cX5_closeDay 139 = .ok (.aload_n 0, 1) := by decide +kernel
theorem dX5_closeDay_140 : decode cX5_closeDay 140 = .ok (.getfield 35, 3) := by decide +kernel
theorem dX5_closeDay_143 : decode cX5_closeDay 143 = .ok (.iload_n 1, 1) := by decide +kernel
theorem dX5_closeDay_144 : decode cX5_closeDay 144 = .ok (.iload_n 2, 1) := by decide +kernel
theorem dX5_closeDay_145 : decode cX5_closeDay 145 = .ok (.iastore, 1) := by decide +kernel
theorem dX5_closeDay_146 : decode cX5_closeDay 146 = .ok (.aload_n 0, 1) := by decide +kernel
theorem dX5_closeDay_147 : decode cX5_closeDay 147 = .ok (.getfield 38, 3) := by decide +kernel
theorem dX5_closeDay_150 : decode cX5_closeDay 150 = .ok (.iload_n 1, 1) := by decide +kernel
theorem dX5_closeDay_151 : decode cX5_closeDay 151 = .ok (.iload_n 3, 1) := by decide +kernel
theorem dX5_closeDay_152 : decode cX5_closeDay 152 = .ok (.iastore, 1) := by decide +kernel
theorem dX5_closeDay_153 : decode cX5_closeDay 153 = .ok (.aload_n 0, 1) := by decide +kernel
theorem dX5_closeDay_154 : decode cX5_closeDay 154 = .ok (.getfield 41, 3) := by decide +kernel
theorem dX5_closeDay_157 : decode cX5_closeDay 157 = .ok (.iload_n 1, 1) := by decide +kernel
theorem dX5_closeDay_158 : decode cX5_closeDay 158 = .ok (.iload 4, 2) := by decide +kernel
theorem dX5_closeDay_160 : decode cX5_closeDay 160 = .ok (.iastore, 1) := by decide +kernel
theorem dX5_closeDay_161 : decode cX5_closeDay 161 = .ok (.aload_n 0, 1) := by decide +kernel
theorem dX5_closeDay_162 : decode cX5_closeDay 162 = .ok (.dup, 1) := by decide +kernel
theorem dX5_closeDay_163 : decode cX5_closeDay 163 = .ok (.getfield 57, 3) := by decide +kernel
theorem dX5_closeDay_166 : decode cX5_closeDay 166 = .ok (.iconst 1, 1) := by decide +kernel
theorem dX5_closeDay_167 : decode cX5_closeDay 167 = .ok (.iadd, 1) := by decide +kernel
theorem dX5_closeDay_168 : decode cX5_closeDay 168 = .ok (.putfield 57, 3) := by decide +kernel
theorem dX5_closeDay_171 : decode cX5_closeDay 171 = .ok (.iload_n 1, 1) := by decide +kernel
theorem dX5_closeDay_172 : decode cX5_closeDay 172 = .ok (.ireturn, 1) := by decide +kernel
theorem dX5_closedDays_0 : decode cX5_closedDays 0 = .ok (.aload_n 0, 1) := by decide +kernel
theorem dX5_closedDays_1 : decode cX5_closedDays 1 = .ok (.iconst 0, 1) := by decide +kernel
theorem dX5_closedDays_2 : decode cX5_closedDays 2 = .ok (.putfield 50, 3) := by decide +kernel
theorem dX5_closedDays_5 : decode cX5_closedDays 5 = .ok (.aload_n 0, 1) := by decide +kernel
theorem dX5_closedDays_6 : decode cX5_closedDays 6 = .ok (.getfield 57, 3) := by decide +kernel
theorem dX5_closedDays_9 : decode cX5_closedDays 9 = .ok (.ireturn, 1) := by decide +kernel
set_option maxRecDepth 20000 in
theorem ggX5_isClosed_X5_may : GoodIn wsX5_isClosed wsX5_may := goodIn_r _ [6, 7, 8, 9, 10, 11, 12, 13, 14, 15, 16, 17, 18, 19, 20, 21, 22, 23, 24, 25, 26] (by decide +kernel) (by decide +kernel)
set_option maxRecDepth 20000 in
theorem gX5_isClosed_X5_may : GoodIn wsX5_isClosed (wsV RX5 67 RX5 yX5_may wsX5_may) := goodIn_app (goodIn_of _ (by decide +kernel)) ggX5_isClosed_X5_may
theorem dX5_isClosed_0 : decode cX5_isClosed 0 = .ok (.aload_n 0, 1) := by decide +kernel
theorem dX5_isClosed_1 : decode cX5_isClosed 1 = .ok (.iload_n 1, 1) := by decide +kernel
theorem dX5_isClosed_2 : decode cX5_isClosed 2 = .ok (.ifCond .lt 15, 3) := by decide +kernel
theorem dX5_isClosed_5 : decode cX5_isClosed 5 = .ok (.iload_n 1, 1) := by decide +kernel
theorem dX5_isClosed_6 : decode cX5_isClosed 6 = .ok (.aload_n 0, 1) := by decide +kernel
theorem dX5_isClosed_7 : decode cX5_isClosed 7 = .ok (.getfield 57, 3) := by decide +kernel
theorem dX5_isClosed_10 : decode cX5_isClosed 10 = .ok (.if_icmp .ge 7, 3) := by decide +kernel
theorem dX5_isClosed_13 : decode cX5_isClosed 13 = .ok (.iconst 1, 1) := by decide +kernel
theorem dX5_isClosed_14 : decode cX5_isClosed 14 = .ok (.goto 4, 3) := by decide +kernel
theorem dX5_isClosed_17 : decode cX5_isClosed 17 = .ok (.iconst 0, 1) := by decide +kernel
theorem dX5_isClosed_18 : decode cX5_isClosed 18 = .ok (.invokevirtual 67, 3) := by decide +kernel
theorem dX5_isClosed_21 : decode cX5_isClosed 21 = .ok (.ireturn, 1) := by decide +kernel
set_option maxRecDepth 20000 in
theorem ggX5_keptActive_X5_isClosed : GoodIn wsX5_keptActive wsX5_isClosed := goodIn_r _ [6, 7, 8, 9, 10, 5, 11, 12, 13, 14, 15, 16, 17, 18, 19, 20, 21, 22, 23, 24, 25, 26, 27, 28, 29, 30, 31] (by decide +kernel) (by decide +kernel)
set_option maxRecDepth 20000 in
theorem gX5_keptActive_X5_isClosed : GoodIn wsX5_keptActive (wsV RX5 114 RX5 yX5_isClosed wsX5_isClosed) := goodIn_app (goodIn_of _ (by decide +kernel)) ggX5_keptActive_X5_isClosed
theorem dX5_keptActive_0 : decode cX5_keptActive 0 = .ok (.aload_n 0, 1) := by decide +kernel
theorem dX5_keptActive_1 : decode cX5_keptActive 1 = .ok (.iload_n 1, 1) := by decide +kernel
theorem dX5_keptActive_2 : decode cX5_keptActive 2 = .ok (.invokevirtual 114, 3) := by decide +kernel
theorem dX5_keptActive_5 : decode cX5_keptActive 5 = .ok (.ifCond .eq 12, 3) := by decide +kernel
theorem dX5_keptActive_8 : decode cX5_keptActive 8 = .ok (.aload_n 0, 1) := by decide +kernel
theorem dX5_keptActive_9 : decode cX5_keptActive 9 = .ok (.getfield 35, 3) := by decide +kernel
theorem dX5_keptActive_12 : decode cX5_keptActive 12 = .ok (.iload_n 1, 1) := by decide +kernel
theorem dX5_keptActive_13 : decode cX5_keptActive 13 = .ok (.iaload, 1) := by decide +kernel
theorem dX5_keptActive_14 : decode cX5_keptActive 14 = .ok (.goto 4, 3) := by decide +kernel
theorem dX5_keptActive_17 : decode cX5_keptActive 17 = .ok (.iconst 0, 1) := by decide +kernel
theorem dX5_keptActive_18 : decode cX5_keptActive 18 = .ok (.ireturn, 1) := by decide +kernel
set_option maxRecDepth 20000 in
theorem ggX5_keptNew_X5_isClosed : GoodIn wsX5_keptNew wsX5_isClosed := goodIn_r _ [6, 7, 8, 9, 10, 5, 11, 12, 13, 14, 15, 16, 17, 18, 19, 20, 21, 22, 23, 24, 25, 26, 27, 28, 29, 30, 31] (by decide +kernel) (by decide +kernel)
set_option maxRecDepth 20000 in
theorem gX5_keptNew_X5_isClosed : GoodIn wsX5_keptNew (wsV RX5 114 RX5 yX5_isClosed wsX5_isClosed) := goodIn_app (goodIn_of _ (by decide +kernel)) ggX5_keptNew_X5_isClosed
theorem dX5_keptNew_0 : decode cX5_keptNew 0 = .ok (.aload_n 0, 1) := by decide +kernel
theorem dX5_keptNew_1 : decode cX5_keptNew 1 = .ok (.iload_n 1, 1) := by decide +kernel
theorem dX5_keptNew_2 : decode cX5_keptNew 2 = .ok (.invokevirtual 114, 3) := by decide +kernel
theorem dX5_keptNew_5 : decode cX5_keptNew 5 = .ok (.ifCond .eq 12, 3) := by decide +kernel
theorem dX5_keptNew_8 : decode cX5_keptNew 8 = .ok (.aload_n 0, 1) := by decide +kernel
theorem dX5_keptNew_9 : decode cX5_keptNew 9 = .ok (.getfield 38, 3) := by decide +kernel
theorem dX5_keptNew_12 : decode cX5_keptNew 12 = .ok (.iload_n 1, 1) := by decide +kernel
theorem dX5_keptNew_13 : decode cX5_keptNew 13 = .ok (.iaload, 1) := by decide +kernel
theorem dX5_keptNew_14 : decode cX5_keptNew 14 = .ok (.goto 4, 3) := by decide +kernel
theorem dX5_keptNew_17 : decode cX5_keptNew 17 = .ok (.iconst 0, 1) := by decide +kernel
theorem dX5_keptNew_18 : decode cX5_keptNew 18 = .ok (.ireturn, 1) := by decide +kernel
set_option maxRecDepth 20000 in
theorem ggX5_keptSessions_X5_isClosed : GoodIn wsX5_keptSessions wsX5_isClosed := goodIn_r _ [6, 7, 8, 9, 10, 5, 11, 12, 13, 14, 15, 16, 17, 18, 19, 20, 21, 22, 23, 24, 25, 26, 27, 28, 29, 30, 31] (by decide +kernel) (by decide +kernel)
set_option maxRecDepth 20000 in
theorem gX5_keptSessions_X5_isClosed : GoodIn wsX5_keptSessions (wsV RX5 114 RX5 yX5_isClosed wsX5_isClosed) := goodIn_app (goodIn_of _ (by decide +kernel)) ggX5_keptSessions_X5_isClosed
theorem dX5_keptSessions_0 : decode cX5_keptSessions 0 = .ok (.aload_n 0, 1) := by decide +kernel
theorem dX5_keptSessions_1 : decode cX5_keptSessions 1 = .ok (.iload_n 1, 1) := by decide +kernel
theorem dX5_keptSessions_2 : decode cX5_keptSessions 2 = .ok (.invokevirtual 114, 3) := by decide +kernel
theorem dX5_keptSessions_5 : decode cX5_keptSessions 5 = .ok (.ifCond .eq 12, 3) := by decide +kernel
theorem dX5_keptSessions_8 : decode cX5_keptSessions 8 = .ok (.aload_n 0, 1) := by decide +kernel
theorem dX5_keptSessions_9 : decode cX5_keptSessions 9 = .ok (.getfield 41, 3) := by decide +kernel
theorem dX5_keptSessions_12 : decode cX5_keptSessions 12 = .ok (.iload_n 1, 1) := by decide +kernel
theorem dX5_keptSessions_13 : decode cX5_keptSessions 13 = .ok (.iaload, 1) := by decide +kernel
theorem dX5_keptSessions_14 : decode cX5_keptSessions 14 = .ok (.goto 4, 3) := by decide +kernel
theorem dX5_keptSessions_17 : decode cX5_keptSessions 17 = .ok (.iconst 0, 1) := by decide +kernel
theorem dX5_keptSessions_18 : decode cX5_keptSessions 18 = .ok (.ireturn, 1) := by decide +kernel
theorem dJ6_bitCount_0f7a4_0 : decode cJ6_bitCount_0f7a4 0 = .ok (.iload_n 0, 1) := by decide +kernel
theorem dJ6_bitCount_0f7a4_1 : decode cJ6_bitCount_0f7a4 1 = .ok (.iload_n 0, 1) := by decide +kernel
theorem dJ6_bitCount_0f7a4_2 : decode cJ6_bitCount_0f7a4 2 = .ok (.iconst 1, 1) := by decide +kernel
theorem dJ6_bitCount_0f7a4_3 : decode cJ6_bitCount_0f7a4 3 = .ok (.iushr, 1) := by decide +kernel
theorem dJ6_bitCount_0f7a4_4 : decode cJ6_bitCount_0f7a4 4 = .ok (.ldc_w 265, 3) := by decide +kernel
theorem dJ6_bitCount_0f7a4_7 : decode cJ6_bitCount_0f7a4 7 = .ok (.iand, 1) := by decide +kernel
theorem dJ6_bitCount_0f7a4_8 : decode cJ6_bitCount_0f7a4 8 = .ok (.isub, 1) := by decide +kernel
theorem dJ6_bitCount_0f7a4_9 : decode cJ6_bitCount_0f7a4 9 = .ok (.istore_n 0, 1) := by decide +kernel
theorem dJ6_bitCount_0f7a4_10 : decode cJ6_bitCount_0f7a4 10 = .ok (.iload_n 0, 1) := by decide +kernel
theorem dJ6_bitCount_0f7a4_11 : decode cJ6_bitCount_0f7a4 11 = .ok (.ldc_w 266, 3) := by decide +kernel
theorem dJ6_bitCount_0f7a4_14 : decode cJ6_bitCount_0f7a4 14 = .ok (.iand, 1) := by decide +kernel
theorem dJ6_bitCount_0f7a4_15 : decode cJ6_bitCount_0f7a4 15 = .ok (.iload_n 0, 1) := by decide +kernel
theorem dJ6_bitCount_0f7a4_16 : decode cJ6_bitCount_0f7a4 16 = .ok (.iconst 2, 1) := by decide +kernel
theorem dJ6_bitCount_0f7a4_17 : decode cJ6_bitCount_0f7a4 17 = .ok (.iushr, 1) := by decide +kernel
theorem dJ6_bitCount_0f7a4_18 : decode cJ6_bitCount_0f7a4 18 = .ok (.ldc_w 266, 3) := by decide +kernel
theorem dJ6_bitCount_0f7a4_21 : decode cJ6_bitCount_0f7a4 21 = .ok (.iand, 1) := by decide +kernel
theorem dJ6_bitCount_0f7a4_22 : decode cJ6_bitCount_0f7a4 22 = .ok (.iadd, 1) := by decide +kernel
theorem dJ6_bitCount_0f7a4_23 : decode cJ6_bitCount_0f7a4 23 = .ok (.istore_n 0, 1) := by decide +kernel
theorem dJ6_bitCount_0f7a4_24 : decode cJ6_bitCount_0f7a4 24 = .ok (.iload_n 0, 1) := by decide +kernel
theorem dJ6_bitCount_0f7a4_25 : decode cJ6_bitCount_0f7a4 25 = .ok (.iload_n 0, 1) := by decide +kernel
theorem dJ6_bitCount_0f7a4_26 : decode cJ6_bitCount_0f7a4 26 = .ok (.iconst 4, 1) := by decide +kernel
theorem dJ6_bitCount_0f7a4_27 : decode cJ6_bitCount_0f7a4 27 = .ok (.iushr, 1) := by decide +kernel
theorem dJ6_bitCount_0f7a4_28 : decode cJ6_bitCount_0f7a4 28 = .ok (.iadd, 1) := by decide +kernel
theorem dJ6_bitCount_0f7a4_29 : decode cJ6_bitCount_0f7a4 29 = .ok (.ldc_w 267, 3) := by decide +kernel
theorem dJ6_bitCount_0f7a4_32 : decode cJ6_bitCount_0f7a4 32 = .ok (.iand, 1) := by decide +kernel
theorem dJ6_bitCount_0f7a4_33 : decode cJ6_bitCount_0f7a4 33 = .ok (.istore_n 0, 1) := by decide +kernel
theorem dJ6_bitCount_0f7a4_34 : decode cJ6_bitCount_0f7a4 34 = .ok (.iload_n 0, 1) := by decide +kernel
theorem dJ6_bitCount_0f7a4_35 : decode cJ6_bitCount_0f7a4 35 = .ok (.iload_n 0, 1) := by decide +kernel
theorem dJ6_bitCount_0f7a4_36 : decode cJ6_bitCount_0f7a4 36 = .ok (.bipush 8, 2) := by decide +kernel
theorem dJ6_bitCount_0f7a4_38 : decode cJ6_bitCount_0f7a4 38 = .ok (.iushr, 1) := by decide +kernel
theorem dJ6_bitCount_0f7a4_39 : decode cJ6_bitCount_0f7a4 39 = .ok (.iadd, 1) := by decide +kernel
theorem dJ6_bitCount_0f7a4_40 : decode cJ6_bitCount_0f7a4 40 = .ok (.istore_n 0, 1) := by decide +kernel
theorem dJ6_bitCount_0f7a4_41 : decode cJ6_bitCount_0f7a4 41 = .ok (.iload_n 0, 1) := by decide +kernel
theorem dJ6_bitCount_0f7a4_42 : decode cJ6_bitCount_0f7a4 42 = .ok (.iload_n 0, 1) := by decide +kernel
theorem dJ6_bitCount_0f7a4_43 : decode cJ6_bitCount_0f7a4 43 = .ok (.bipush 16, 2) := by decide +kernel
theorem dJ6_bitCount_0f7a4_45 : decode cJ6_bitCount_0f7a4 45 = .ok (.iushr, 1) := by decide +kernel
theorem dJ6_bitCount_0f7a4_46 : decode cJ6_bitCount_0f7a4 46 = .ok (.iadd, 1) := by decide +kernel
theorem dJ6_bitCount_0f7a4_47 : decode cJ6_bitCount_0f7a4 47 = .ok (.istore_n 0, 1) := by decide +kernel
theorem dJ6_bitCount_0f7a4_48 : decode cJ6_bitCount_0f7a4 48 = .ok (.iload_n 0, 1) := by decide +kernel
theorem dJ6_bitCount_0f7a4_49 : decode cJ6_bitCount_0f7a4 49 = .ok (.bipush 63, 2) := by decide +kernel
theorem dJ6_bitCount_0f7a4_51 : decode cJ6_bitCount_0f7a4 51 = .ok (.iand, 1) := by decide +kernel
theorem dJ6_bitCount_0f7a4_52 : decode cJ6_bitCount_0f7a4 52 = .ok (.ireturn, 1) := by decide +kernel
theorem dJ9_max_7cf53_0 : decode cJ9_max_7cf53 0 = .ok (.iload_n 0, 1) := by decide +kernel
theorem dJ9_max_7cf53_1 : decode cJ9_max_7cf53 1 = .ok (.iload_n 1, 1) := by decide +kernel
theorem dJ9_max_7cf53_2 : decode cJ9_max_7cf53 2 = .ok (.if_icmp .lt 7, 3) := by decide +kernel
theorem dJ9_max_7cf53_5 : decode cJ9_max_7cf53 5 = .ok (.iload_n 0, 1) := by decide +kernel
theorem dJ9_max_7cf53_6 : decode cJ9_max_7cf53 6 = .ok (.goto 4, 3) := by decide +kernel
theorem dJ9_max_7cf53_9 : decode cJ9_max_7cf53 9 = .ok (.iload_n 1, 1) := by decide +kernel
theorem dJ9_max_7cf53_10 : decode cJ9_max_7cf53 10 = .ok (.ireturn, 1) := by decide +kernel
theorem dJ9_min_7cf53_0 : decode cJ9_min_7cf53 0 = .ok (.iload_n 0, 1) := by decide +kernel
theorem dJ9_min_7cf53_1 : decode cJ9_min_7cf53 1 = .ok (.iload_n 1, 1) := by decide +kernel
theorem dJ9_min_7cf53_2 : decode cJ9_min_7cf53 2 = .ok (.if_icmp .gt 7, 3) := by decide +kernel
theorem dJ9_min_7cf53_5 : decode cJ9_min_7cf53 5 = .ok (.iload_n 0, 1) := by decide +kernel
theorem dJ9_min_7cf53_6 : decode cJ9_min_7cf53 6 = .ok (.goto 4, 3) := by decide +kernel
theorem dJ9_min_7cf53_9 : decode cJ9_min_7cf53 9 = .ok (.iload_n 1, 1) := by decide +kernel
theorem dJ9_min_7cf53_10 : decode cJ9_min_7cf53 10 = .ok (.ireturn, 1) := by decide +kernel
theorem dJ7_fill_53178_0 : decode cJ7_fill_53178 0 = .ok (.iconst 0, 1) := by decide +kernel
theorem dJ7_fill_53178_1 : decode cJ7_fill_53178 1 = .ok (.istore_n 2, 1) := by decide +kernel
theorem dJ7_fill_53178_2 : decode cJ7_fill_53178 2 = .ok (.aload_n 0, 1) := by decide +kernel
theorem dJ7_fill_53178_3 : decode cJ7_fill_53178 3 = .ok (.arraylength, 1) := by decide +kernel
theorem dJ7_fill_53178_4 : decode cJ7_fill_53178 4 = .ok (.istore_n 3, 1) := by decide +kernel
theorem dJ7_fill_53178_5 : decode cJ7_fill_53178 5 = .ok (.iload_n 2, 1) := by decide +kernel
theorem dJ7_fill_53178_6 : decode cJ7_fill_53178 6 = .ok (.iload_n 3, 1) := by decide +kernel
theorem dJ7_fill_53178_7 : decode cJ7_fill_53178 7 = .ok (.if_icmp .ge 13, 3) := by decide +kernel
theorem dJ7_fill_53178_10 : decode cJ7_fill_53178 10 = .ok (.aload_n 0, 1) := by decide +kernel
theorem dJ7_fill_53178_11 : decode cJ7_fill_53178 11 = .ok (.iload_n 2, 1) := by decide +kernel
theorem dJ7_fill_53178_12 : decode cJ7_fill_53178 12 = .ok (.iload_n 1, 1) := by decide +kernel
theorem dJ7_fill_53178_13 : decode cJ7_fill_53178 13 = .ok (.iastore, 1) := by decide +kernel
theorem dJ7_fill_53178_14 : decode cJ7_fill_53178 14 = .ok (.iinc 2 1, 3) := by decide +kernel
theorem dJ7_fill_53178_17 : decode cJ7_fill_53178 17 = .ok (.goto (-12), 3) := by decide +kernel
theorem dJ7_fill_53178_20 : decode cJ7_fill_53178 20 = .ok (.return_, 1) := by decide +kernel
set_option maxRecDepth 20000 in
theorem ggL_event_X4_event : GoodIn wsL_event wsX4_event := goodIn_ca (goodIn_ca (goodIn_r _ [7, 8, 9, 10, 11, 12, 13, 6, 14, 15, 16, 17, 18, 19, 20, 21, 22, 23, 24, 25, 26, 27, 28, 29, 30, 31, 32, 33, 34, 35, 36, 37, 38, 39, 40, 41, 42, 43, 44, 45, 46, 47, 48, 49, 50, 51, 52, 53, 54, 55, 56, 57, 58, 59, 60, 61] (by decide +kernel) (by decide +kernel)) (goodIn_sub (fun _ h => List.mem_cons_of_mem _ (List.mem_append_left _ (List.mem_append_right _ h))) (by decide +kernel))) (goodIn_sub (fun _ h => List.mem_cons_of_mem _ (List.mem_append_right _ h)) (by decide +kernel))
set_option maxRecDepth 20000 in
theorem gL_event_X4_event : GoodIn wsL_event (wsV RL 7 RX4 yX4_event wsX4_event) := goodIn_app (goodIn_of _ (by decide +kernel)) ggL_event_X4_event
theorem dL_event_0 : decode cL_event 0 = .ok (.aload 4, 2) := by decide +kernel
theorem dL_event_2 : decode cL_event 2 = .ok (.iconst 0, 1) := by decide +kernel
theorem dL_event_3 : decode cL_event 3 = .ok (.aload_n 0, 1) := by decide +kernel
theorem dL_event_4 : decode cL_event 4 = .ok (.iload_n 1, 1) := by decide +kernel
theorem dL_event_5 : decode cL_event 5 = .ok (.iload_n 2, 1) := by decide +kernel
theorem dL_event_6 : decode cL_event 6 = .ok (.iload_n 3, 1) := by decide +kernel
theorem dL_event_7 : decode cL_event 7 = .ok (.invokevirtual 7, 3) := by decide +kernel
theorem dL_event_10 : decode cL_event 10 = .ok (.i2l, 1) := by decide +kernel
theorem dL_event_11 : decode cL_event 11 = .ok (.lastore, 1) := by decide +kernel
theorem dL_event_12 : decode cL_event 12 = .ok (.goto 11, 3) := by decide +kernel
theorem dL_event_15 : decode cL_event 15 = .ok (.astore 5, 2) := by decide +kernel
theorem dL_event_17 : decode cL_event 17 = .ok (.iconst 1, 1) := by decide +kernel
theorem dL_event_18 : decode cL_event 18 = .ok (.ireturn, 1) := by decide +kernel
theorem dL_event_19 : decode cL_event 19 = .ok (.astore 5, 2) := by decide +kernel
theorem dL_event_21 : decode cL_event 21 = .ok (.iconst 2, 1) := by decide +kernel
theorem dL_event_22 : decode cL_event 22 = .ok (.ireturn, 1) := by decide +kernel
theorem dL_event_23 : decode cL_event 23 = .ok (.iconst 0, 1) := by decide +kernel
theorem dL_event_24 : decode cL_event 24 = .ok (.ireturn, 1) := by decide +kernel
set_option maxRecDepth 20000 in
theorem ggL_merge_X4_merge : GoodIn wsL_merge wsX4_merge := goodIn_ca (goodIn_r _ [6, 7, 8, 9, 10, 11, 12, 13, 14, 15, 16, 5, 17, 18, 19, 20, 21, 22, 23, 24, 25, 26, 27, 28, 29] (by decide +kernel) (by decide +kernel)) (goodIn_sub (fun _ h => List.mem_cons_of_mem _ (List.mem_append_right _ h)) (by decide +kernel))
set_option maxRecDepth 20000 in
theorem gL_merge_X4_merge : GoodIn wsL_merge (wsV RL 17 RX4 yX4_merge wsX4_merge) := goodIn_app (goodIn_of _ (by decide +kernel)) ggL_merge_X4_merge
theorem dL_merge_0 : decode cL_merge 0 = .ok (.aload_n 3, 1) := by decide +kernel
theorem dL_merge_1 : decode cL_merge 1 = .ok (.iconst 0, 1) := by decide +kernel
theorem dL_merge_2 : decode cL_merge 2 = .ok (.aload_n 0, 1) := by decide +kernel
theorem dL_merge_3 : decode cL_merge 3 = .ok (.iload_n 1, 1) := by decide +kernel
theorem dL_merge_4 : decode cL_merge 4 = .ok (.iload_n 2, 1) := by decide +kernel
theorem dL_merge_5 : decode cL_merge 5 = .ok (.invokevirtual 17, 3) := by decide +kernel
theorem dL_merge_8 : decode cL_merge 8 = .ok (.i2l, 1) := by decide +kernel
theorem dL_merge_9 : decode cL_merge 9 = .ok (.lastore, 1) := by decide +kernel
theorem dL_merge_10 : decode cL_merge 10 = .ok (.goto 7, 3) := by decide +kernel
theorem dL_merge_13 : decode cL_merge 13 = .ok (.astore 4, 2) := by decide +kernel
theorem dL_merge_15 : decode cL_merge 15 = .ok (.iconst 1, 1) := by decide +kernel
theorem dL_merge_16 : decode cL_merge 16 = .ok (.ireturn, 1) := by decide +kernel
theorem dL_merge_17 : decode cL_merge 17 = .ok (.iconst 0, 1) := by decide +kernel
theorem dL_merge_18 : decode cL_merge 18 = .ok (.ireturn, 1) := by decide +kernel
set_option maxRecDepth 20000 in
theorem ggL_userOf_X4_userOf : GoodIn wsL_userOf wsX4_userOf := goodIn_ca (goodIn_r _ [6, 7, 8, 9, 5, 10, 11, 12, 13, 14, 15, 16, 17, 18, 19, 20, 21, 22] (by decide +kernel) (by decide +kernel)) (goodIn_sub (fun _ h => List.mem_cons_of_mem _ (List.mem_append_right _ h)) (by decide +kernel))
set_option maxRecDepth 20000 in
theorem gL_userOf_X4_userOf : GoodIn wsL_userOf (wsV RL 21 RX4 yX4_userOf wsX4_userOf) := goodIn_app (goodIn_of _ (by decide +kernel)) ggL_userOf_X4_userOf
theorem dL_userOf_0 : decode cL_userOf 0 = .ok (.aload_n 2, 1) := by decide +kernel
theorem dL_userOf_1 : decode cL_userOf 1 = .ok (.iconst 0, 1) := by decide +kernel
theorem dL_userOf_2 : decode cL_userOf 2 = .ok (.aload_n 0, 1) := by decide +kernel
theorem dL_userOf_3 : decode cL_userOf 3 = .ok (.iload_n 1, 1) := by decide +kernel
theorem dL_userOf_4 : decode cL_userOf 4 = .ok (.invokevirtual 21, 3) := by decide +kernel
theorem dL_userOf_7 : decode cL_userOf 7 = .ok (.i2l, 1) := by decide +kernel
theorem dL_userOf_8 : decode cL_userOf 8 = .ok (.lastore, 1) := by decide +kernel
theorem dL_userOf_9 : decode cL_userOf 9 = .ok (.goto 6, 3) := by decide +kernel
theorem dL_userOf_12 : decode cL_userOf 12 = .ok (.astore_n 3, 1) := by decide +kernel
theorem dL_userOf_13 : decode cL_userOf 13 = .ok (.iconst 1, 1) := by decide +kernel
theorem dL_userOf_14 : decode cL_userOf 14 = .ok (.ireturn, 1) := by decide +kernel
theorem dL_userOf_15 : decode cL_userOf 15 = .ok (.iconst 0, 1) := by decide +kernel
theorem dL_userOf_16 : decode cL_userOf 16 = .ok (.ireturn, 1) := by decide +kernel
set_option maxRecDepth 20000 in
theorem ggL_eventsOf_X4_eventsOf : GoodIn wsL_eventsOf wsX4_eventsOf := goodIn_ca (goodIn_r _ [6, 7, 8, 9, 5, 10, 11, 12, 13, 14, 15, 16, 17, 18, 19, 20, 21, 22, 23, 24, 25, 26, 27, 28, 29, 30, 31, 32, 33, 34, 35, 36, 37, 38, 39, 40, 41, 42, 43, 44, 45, 46, 47, 48, 49, 50, 51, 52, 53, 54, 55, 56, 57, 58, 59, 60, 61, 62, 63, 64, 65, 66, 67, 68, 69, 70, 71, 72, 73, 74, 75, 76, 77, 78, 79, 80] (by decide +kernel) (by decide +kernel)) (goodIn_sub (fun _ h => List.mem_cons_of_mem _ (List.mem_append_right _ h)) (by decide +kernel))
set_option maxRecDepth 20000 in
theorem gL_eventsOf_X4_eventsOf : GoodIn wsL_eventsOf (wsV RL 25 RX4 yX4_eventsOf wsX4_eventsOf) := goodIn_app (goodIn_of _ (by decide +kernel)) ggL_eventsOf_X4_eventsOf
theorem dL_eventsOf_0 : decode cL_eventsOf 0 = .ok (.aload_n 2, 1) := by decide +kernel
theorem dL_eventsOf_1 : decode cL_eventsOf 1 = .ok (.iconst 0, 1) := by decide +kernel
theorem dL_eventsOf_2 : decode cL_eventsOf 2 = .ok (.aload_n 0, 1) := by decide +kernel
theorem dL_eventsOf_3 : decode cL_eventsOf 3 = .ok (.iload_n 1, 1) := by decide +kernel
theorem dL_eventsOf_4 : decode cL_eventsOf 4 = .ok (.invokevirtual 25, 3) := by decide +kernel
theorem dL_eventsOf_7 : decode cL_eventsOf 7 = .ok (.i2l, 1) := by decide +kernel
theorem dL_eventsOf_8 : decode cL_eventsOf 8 = .ok (.lastore, 1) := by decide +kernel
theorem dL_eventsOf_9 : decode cL_eventsOf 9 = .ok (.goto 6, 3) := by decide +kernel
theorem dL_eventsOf_12 : decode cL_eventsOf 12 = .ok (.astore_n 3, 1) := by decide +kernel
theorem dL_eventsOf_13 : decode cL_eventsOf 13 = .ok (.iconst 1, 1) := by decide +kernel
theorem dL_eventsOf_14 : decode cL_eventsOf 14 = .ok (.ireturn, 1) := by decide +kernel
theorem dL_eventsOf_15 : decode cL_eventsOf 15 = .ok (.iconst 0, 1) := by decide +kernel
theorem dL_eventsOf_16 : decode cL_eventsOf 16 = .ok (.ireturn, 1) := by decide +kernel
set_option maxRecDepth 20000 in
theorem ggL_eventAt_X4_eventAt : GoodIn wsL_eventAt wsX4_eventAt := goodIn_ca (goodIn_ca (goodIn_r _ [7, 8, 9, 10, 6, 11, 12, 13, 14, 15, 16, 17, 18, 19, 20, 21, 22, 23, 24, 25, 26, 27, 28, 29, 30, 31, 32, 33, 34, 35, 36, 37, 38, 39, 40, 41, 42, 43, 44, 45, 46, 47, 48, 49, 50, 51, 52, 53, 54, 55, 56, 57, 58, 59, 60, 61, 62, 63, 64, 65, 66, 67, 68, 69, 70, 71, 72, 73, 74, 75, 76, 77, 78, 79, 80, 81, 82, 83, 84, 85, 86, 87, 88, 89, 90] (by decide +kernel) (by decide +kernel)) (goodIn_sub (fun _ h => List.mem_cons_of_mem _ (List.mem_append_left _ (List.mem_append_right _ h))) (by decide +kernel))) (goodIn_sub (fun _ h => List.mem_cons_of_mem _ (List.mem_append_right _ h)) (by decide +kernel))
set_option maxRecDepth 20000 in
theorem gL_eventAt_X4_eventAt : GoodIn wsL_eventAt (wsV RL 28 RX4 yX4_eventAt wsX4_eventAt) := goodIn_app (goodIn_of _ (by decide +kernel)) ggL_eventAt_X4_eventAt
theorem dL_eventAt_0 : decode cL_eventAt 0 = .ok (.aload_n 3, 1) := by decide +kernel
theorem dL_eventAt_1 : decode cL_eventAt 1 = .ok (.iconst 0, 1) := by decide +kernel
theorem dL_eventAt_2 : decode cL_eventAt 2 = .ok (.aload_n 0, 1) := by decide +kernel
theorem dL_eventAt_3 : decode cL_eventAt 3 = .ok (.iload_n 1, 1) := by decide +kernel
theorem dL_eventAt_4 : decode cL_eventAt 4 = .ok (.iload_n 2, 1) := by decide +kernel
theorem dL_eventAt_5 : decode cL_eventAt 5 = .ok (.invokevirtual 28, 3) := by decide +kernel
theorem dL_eventAt_8 : decode cL_eventAt 8 = .ok (.i2l, 1) := by decide +kernel
theorem dL_eventAt_9 : decode cL_eventAt 9 = .ok (.lastore, 1) := by decide +kernel
theorem dL_eventAt_10 : decode cL_eventAt 10 = .ok (.goto 11, 3) := by decide +kernel
theorem dL_eventAt_13 : decode cL_eventAt 13 = .ok (.astore 4, 2) := by decide +kernel
theorem dL_eventAt_15 : decode cL_eventAt 15 = .ok (.iconst 1, 1) := by decide +kernel
theorem dL_eventAt_16 : decode cL_eventAt 16 = .ok (.ireturn, 1) := by decide +kernel
theorem dL_eventAt_17 : decode cL_eventAt 17 = .ok (.astore 4, 2) := by decide +kernel
theorem dL_eventAt_19 : decode cL_eventAt 19 = .ok (.iconst 2, 1) := by decide +kernel
theorem dL_eventAt_20 : decode cL_eventAt 20 = .ok (.ireturn, 1) := by decide +kernel
theorem dL_eventAt_21 : decode cL_eventAt 21 = .ok (.iconst 0, 1) := by decide +kernel
theorem dL_eventAt_22 : decode cL_eventAt 22 = .ok (.ireturn, 1) := by decide +kernel
set_option maxRecDepth 20000 in
theorem ggL_gap_X4_gap : GoodIn wsL_gap wsX4_gap := goodIn_ca (goodIn_r _ [6, 7, 8, 9, 5, 10, 11, 12, 13, 14, 15, 16, 17, 18, 19] (by decide +kernel) (by decide +kernel)) (goodIn_sub (fun _ h => List.mem_cons_of_mem _ (List.mem_append_right _ h)) (by decide +kernel))
set_option maxRecDepth 20000 in
theorem gL_gap_X4_gap : GoodIn wsL_gap (wsV RL 33 RX4 yX4_gap wsX4_gap) := goodIn_app (goodIn_of _ (by decide +kernel)) ggL_gap_X4_gap
theorem dL_gap_0 : decode cL_gap 0 = .ok (.aload_n 2, 1) := by decide +kernel
theorem dL_gap_1 : decode cL_gap 1 = .ok (.iconst 0, 1) := by decide +kernel
theorem dL_gap_2 : decode cL_gap 2 = .ok (.aload_n 0, 1) := by decide +kernel
theorem dL_gap_3 : decode cL_gap 3 = .ok (.iload_n 1, 1) := by decide +kernel
theorem dL_gap_4 : decode cL_gap 4 = .ok (.invokevirtual 33, 3) := by decide +kernel
theorem dL_gap_7 : decode cL_gap 7 = .ok (.i2l, 1) := by decide +kernel
theorem dL_gap_8 : decode cL_gap 8 = .ok (.lastore, 1) := by decide +kernel
theorem dL_gap_9 : decode cL_gap 9 = .ok (.goto 6, 3) := by decide +kernel
theorem dL_gap_12 : decode cL_gap 12 = .ok (.astore_n 3, 1) := by decide +kernel
theorem dL_gap_13 : decode cL_gap 13 = .ok (.iconst 1, 1) := by decide +kernel
theorem dL_gap_14 : decode cL_gap 14 = .ok (.ireturn, 1) := by decide +kernel
theorem dL_gap_15 : decode cL_gap 15 = .ok (.iconst 0, 1) := by decide +kernel
theorem dL_gap_16 : decode cL_gap 16 = .ok (.ireturn, 1) := by decide +kernel
set_option maxRecDepth 20000 in
theorem ggL_sessions_X4_sessions : GoodIn wsL_sessions wsX4_sessions := goodIn_ca (goodIn_r _ [6, 7, 8, 9, 10, 5, 11, 12, 13, 14, 15, 16, 17, 18, 19, 20, 21, 22, 23, 24, 25, 26, 27, 28, 29, 30, 31, 32, 33, 34, 35, 36, 37, 38, 39, 40, 41, 42, 43, 44, 45, 46, 47, 48, 49, 50, 51, 52, 53, 54, 55, 56, 57, 58, 59, 60, 61, 62, 63, 64, 65, 66, 67, 68, 69, 70, 71, 72, 73, 74, 75, 76, 77, 78, 79, 80, 81, 82, 83, 84, 85] (by decide +kernel) (by decide +kernel)) (goodIn_sub (fun _ h => List.mem_cons_of_mem _ (List.mem_append_right _ h)) (by decide +kernel))
set_option maxRecDepth 20000 in
theorem gL_sessions_X4_sessions : GoodIn wsL_sessions (wsV RL 36 RX4 yX4_sessions wsX4_sessions) := goodIn_app (goodIn_of _ (by decide +kernel)) ggL_sessions_X4_sessions
