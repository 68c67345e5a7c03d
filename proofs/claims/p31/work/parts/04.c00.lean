set_option maxRecDepth 20000 in
theorem ggL_acts_L_some : GoodIn wsL_acts wsL_some := goodIn_r _ [5] (by decide +kernel) (by decide +kernel)
set_option maxRecDepth 20000 in
theorem gL_acts_L_some : GoodIn wsL_acts (va_wsS RL 103 yL_some wsL_some) := goodIn_app (goodIn_of _ (by decide +kernel)) ggL_acts_L_some
set_option maxRecDepth 20000 in
theorem ggL_acts_L_came : GoodIn wsL_acts wsL_came := goodIn_ca (goodIn_ca (goodIn_r _ [8, 9, 10, 11, 12, 13, 14, 15, 16, 17, 18, 19, 20, 21, 22, 23, 24, 25, 26, 27, 28, 29, 30, 31, 32, 33, 34, 35, 36, 37, 38, 39, 40, 41, 42, 43, 44, 45, 46, 47, 48, 49, 50, 51, 52, 53, 296, 297, 298, 299, 300, 301, 302, 303, 304, 305, 306, 307, 308, 309, 310, 311] (by decide +kernel) (by decide +kernel)) (goodIn_sub (fun _ h => List.mem_cons_of_mem _ (List.mem_append_left _ (List.mem_append_right _ h))) (by decide +kernel))) (goodIn_sub (fun _ h => List.mem_cons_of_mem _ (List.mem_append_right _ h)) (by decide +kernel))
set_option maxRecDepth 20000 in
theorem gL_acts_L_came : GoodIn wsL_acts (va_wsS RL 106 yL_came wsL_came) := goodIn_app (goodIn_of _ (by decide +kernel)) ggL_acts_L_came
set_option maxRecDepth 20000 in
theorem ggL_acts_L_two : GoodIn wsL_acts wsL_two := goodIn_ca (goodIn_r _ [56, 9, 57, 58, 59, 14, 60, 61, 62, 63, 64, 65, 66, 67, 68, 20, 21, 22, 23, 24, 25, 26, 27, 69, 70, 71, 72, 73, 74, 75, 76, 77, 78, 79, 19, 80, 81, 82, 43, 83, 45, 84, 85, 86, 87, 50, 53, 88, 89, 90, 91, 52, 31, 32, 33, 92, 93, 94, 95, 96, 97, 98, 99, 100, 101, 102, 103, 104, 105, 106, 296, 297, 298, 299, 300, 301, 302, 307, 308, 309, 310, 311] (by decide +kernel) (by decide +kernel)) (goodIn_sub (fun _ h => List.mem_cons_of_mem _ (List.mem_append_right _ h)) (by decide +kernel))
set_option maxRecDepth 20000 in
theorem gL_acts_L_two : GoodIn wsL_acts (va_wsS RL 110 yL_two wsL_two) := goodIn_app (goodIn_of _ (by decide +kernel)) ggL_acts_L_two
set_option maxRecDepth 20000 in
theorem ggL_acts_L_one : GoodIn wsL_acts wsL_one := goodIn_ca (goodIn_r _ [109, 9, 110, 111, 112, 14, 113, 61, 20, 21, 22, 23, 24, 25, 26, 27, 114, 115, 116, 117, 118, 119, 120, 121, 122, 19, 123, 124, 125, 126, 127, 128, 80, 81, 82, 43, 83, 45, 84, 85, 86, 87, 50, 53, 129, 130, 131, 132, 133, 134, 135, 136, 51, 88, 89, 90, 91, 52, 137, 138, 139, 140, 141, 142, 143, 144, 145, 146, 147, 148, 149, 150, 151, 152, 153, 154, 155, 156, 157, 158, 159, 160, 161, 162, 163, 164, 165, 166, 167, 168, 169, 170, 171, 172, 173, 174, 175, 176, 177, 178, 179, 180, 181, 182, 183, 184, 185, 186, 187, 188, 189, 190, 191, 192, 193, 194, 195, 196, 197, 198, 199, 200, 201, 202, 67, 64, 68, 203, 204, 205, 206, 207, 208, 209, 210, 211, 212, 213, 214, 215, 216, 217, 218, 32, 33, 219, 220, 221, 222, 73, 74, 75, 92, 93, 94, 95, 31, 223, 224, 225, 226, 227, 228, 229, 230, 231, 232, 233, 234, 296, 297, 298, 299, 300, 301, 302, 312, 313, 314, 315, 307, 308, 309, 310, 311, 316, 317, 318, 319, 320, 321] (by decide +kernel) (by decide +kernel)) (goodIn_sub (fun _ h => List.mem_cons_of_mem _ (List.mem_append_right _ h)) (by decide +kernel))
set_option maxRecDepth 20000 in
theorem gL_acts_L_one : GoodIn wsL_acts (va_wsS RL 113 yL_one wsL_one) := goodIn_app (goodIn_of _ (by decide +kernel)) ggL_acts_L_one
set_option maxRecDepth 20000 in
theorem ggL_acts_X4_clearFunnel : GoodIn wsL_acts wsX4_clearFunnel := goodIn_r _ [238, 165, 239, 240, 241, 169, 242, 195, 296, 297, 298, 299, 300, 301, 302, 316, 317, 318, 319, 320, 321] (by decide +kernel) (by decide +kernel)
set_option maxRecDepth 20000 in
theorem gL_acts_X4_clearFunnel : GoodIn wsL_acts (wsV RL 117 RX4 yX4_clearFunnel wsX4_clearFunnel) := goodIn_app (goodIn_of _ (by decide +kernel)) ggL_acts_X4_clearFunnel
set_option maxRecDepth 20000 in
theorem ggL_acts_L_stepped : GoodIn wsL_acts wsL_stepped := goodIn_ca (goodIn_ca (goodIn_r _ [245, 9, 10, 246, 247, 248, 14, 249, 16, 17, 165, 28, 29, 30, 23, 24, 25, 26, 27, 250, 251, 252, 169, 253, 195, 254, 255, 256, 257, 196, 296, 297, 298, 299, 300, 301, 302, 316, 317, 318, 319, 320, 321] (by decide +kernel) (by decide +kernel)) (goodIn_sub (fun _ h => List.mem_cons_of_mem _ (List.mem_append_left _ (List.mem_append_right _ h))) (by decide +kernel))) (goodIn_sub (fun _ h => List.mem_cons_of_mem _ (List.mem_append_right _ h)) (by decide +kernel))
set_option maxRecDepth 20000 in
theorem gL_acts_L_stepped : GoodIn wsL_acts (va_wsS RL 120 yL_stepped wsL_stepped) := goodIn_app (goodIn_of _ (by decide +kernel)) ggL_acts_L_stepped
set_option maxRecDepth 20000 in
theorem ggL_acts_L_next : GoodIn wsL_acts wsL_next := goodIn_r _ [260, 261, 262, 4, 263] (by decide +kernel) (by decide +kernel)
set_option maxRecDepth 20000 in
theorem gL_acts_L_next : GoodIn wsL_acts (va_wsS RL 15 yL_next wsL_next) := goodIn_app (goodIn_of _ (by decide +kernel)) ggL_acts_L_next
set_option maxRecDepth 20000 in
theorem ggL_acts_L_isOn : GoodIn wsL_acts wsL_isOn := goodIn_r _ [266, 261, 262, 4, 263] (by decide +kernel) (by decide +kernel)
set_option maxRecDepth 20000 in
theorem gL_acts_L_isOn : GoodIn wsL_acts (va_wsS RL 124 yL_isOn wsL_isOn) := goodIn_app (goodIn_of _ (by decide +kernel)) ggL_acts_L_isOn
set_option maxRecDepth 20000 in
theorem ggL_acts_L_sessions : GoodIn wsL_acts wsL_sessions := goodIn_r _ [269, 258, 259, 4, 260, 261, 262, 263] (by decide +kernel) (by decide +kernel)
set_option maxRecDepth 20000 in
theorem gL_acts_L_sessions : GoodIn wsL_acts (va_wsS RL 128 yL_sessions wsL_sessions) := goodIn_app (goodIn_of _ (by decide +kernel)) ggL_acts_L_sessions
set_option maxRecDepth 20000 in
theorem ggL_acts_L_closedOne : GoodIn wsL_acts wsL_closedOne := goodIn_ca (goodIn_r _ [272, 10, 273, 274, 275, 14, 276, 16, 17, 18, 277, 278, 279, 37, 280, 39, 34, 35, 36, 38, 92, 93, 94, 95, 19, 61, 80, 81, 82, 43, 83, 45, 88, 89, 90, 91, 52, 53, 31, 32, 33, 84, 85, 86, 87, 50, 96, 97, 98, 99, 100, 101, 102, 76, 77, 78, 79, 281, 282, 283, 284, 152, 118, 119, 120, 121, 122, 123, 124, 125, 126, 127, 128, 129, 130, 131, 132, 133, 134, 135, 136, 51, 137, 138, 139, 140, 141, 142, 143, 285, 286, 287, 288, 157, 158, 159, 160, 289, 290, 291, 292, 293, 294, 295, 296, 297, 298, 299, 300, 301, 302, 303, 304, 305, 306, 307, 308, 309, 310, 311, 312, 313, 314, 315] (by decide +kernel) (by decide +kernel)) (goodIn_sub (fun _ h => List.mem_cons_of_mem _ (List.mem_append_left _ (List.mem_append_right _ h))) (by decide +kernel))
set_option maxRecDepth 20000 in
theorem gL_acts_L_closedOne : GoodIn wsL_acts (va_wsS RL 131 yL_closedOne wsL_closedOne) := goodIn_app (goodIn_of _ (by decide +kernel)) ggL_acts_L_closedOne
theorem dL_acts_0 : decode cL_acts 0 = .ok (.iload_n 1, 1) := by decide +kernel
theorem dL_acts_1 : decode cL_acts 1 = .ok (.bipush 10, 2) := by decide +kernel
theorem dL_acts_3 : decode cL_acts 3 = .ok (.if_icmp .ge 268, 3) := by decide +kernel
theorem dL_acts_6 : decode cL_acts 6 = .ok (.iload_n 2, 1) := by decide +kernel
theorem dL_acts_7 : decode cL_acts 7 = .ok (.bipush 60, 2) := by decide +kernel
theorem dL_acts_9 : decode cL_acts 9 = .ok (.invokestatic 103, 3) := by decide +kernel
theorem dL_acts_12 : decode cL_acts 12 = .ok (.ifCond .ne 18, 3) := by decide +kernel
theorem dL_acts_15 : decode cL_acts 15 = .ok (.iload_n 2, 1) := by decide +kernel
theorem dL_acts_16 : decode cL_acts 16 = .ok (.iconst 4, 1) := by decide +kernel
theorem dL_acts_17 : decode cL_acts 17 = .ok (.ishr, 1) := by decide +kernel
theorem dL_acts_18 : decode cL_acts 18 = .ok (.iconst 2, 1) := by decide +kernel
theorem dL_acts_19 : decode cL_acts 19 = .ok (.invokestatic 103, 3) := by decide +kernel
theorem dL_acts_22 : decode cL_acts 22 = .ok (.bipush 21, 2) := by decide +kernel
theorem dL_acts_24 : decode cL_acts 24 = .ok (.imul, 1) := by decide +kernel
theorem dL_acts_25 : decode cL_acts 25 = .ok (.iconst 1, 1) := by decide +kernel
theorem dL_acts_26 : decode cL_acts 26 = .ok (.isub, 1) := by decide +kernel
theorem dL_acts_27 : decode cL_acts 27 = .ok (.goto 9, 3) := by decide +kernel
theorem dL_acts_30 : decode cL_acts 30 = .ok (.iload_n 2, 1) := by decide +kernel
theorem dL_acts_31 : decode cL_acts 31 = .ok (.bipush 8, 2) := by decide +kernel
theorem dL_acts_33 : decode cL_acts 33 = .ok (.invokestatic 103, 3) := by decide +kernel
theorem dL_acts_36 : decode cL_acts 36 = .ok (.istore 10, 2) := by decide +kernel
theorem dL_acts_38 : decode cL_acts 38 = .ok (.iload_n 2, 1) := by decide +kernel
theorem dL_acts_39 : decode cL_acts 39 = .ok (.bipush 6, 2) := by decide +kernel
theorem dL_acts_41 : decode cL_acts 41 = .ok (.ishr, 1) := by decide +kernel
theorem dL_acts_42 : decode cL_acts 42 = .ok (.bipush 40, 2) := by decide +kernel
theorem dL_acts_44 : decode cL_acts 44 = .ok (.invokestatic 103, 3) := by decide +kernel
theorem dL_acts_47 : decode cL_acts 47 = .ok (.ifCond .ne 8, 3) := by decide +kernel
theorem dL_acts_50 : decode cL_acts 50 = .ok (.bipush 10, 2) := by decide +kernel
theorem dL_acts_52 : decode cL_acts 52 = .ok (.goto 11, 3) := by decide +kernel
theorem dL_acts_55 : decode cL_acts 55 = .ok (.iload_n 2, 1) := by decide +kernel
theorem dL_acts_56 : decode cL_acts 56 = .ok (.bipush 6, 2) := by decide +kernel
theorem dL_acts_58 : decode cL_acts 58 = .ok (.ishr, 1) := by decide +kernel
theorem dL_acts_59 : decode cL_acts 59 = .ok (.iconst 4, 1) := by decide +kernel
theorem dL_acts_60 : decode cL_acts 60 = .ok (.invokestatic 103, 3) := by decide +kernel
theorem dL_acts_63 : decode cL_acts 63 = .ok (.istore 11, 2) := by decide +kernel
theorem dL_acts_65 : decode cL_acts 65 = .ok (.iload_n 2, 1) := by decide +kernel
theorem dL_acts_66 : decode cL_acts 66 = .ok (.bipush 9, 2) := by decide +kernel
theorem dL_acts_68 : decode cL_acts 68 = .ok (.ishr, 1) := by decide +kernel
theorem dL_acts_69 : decode cL_acts 69 = .ok (.bipush 50, 2) := by decide +kernel
theorem dL_acts_71 : decode cL_acts 71 = .ok (.invokestatic 103, 3) := by decide +kernel
theorem dL_acts_74 : decode cL_acts 74 = .ok (.ifCond .ne 19, 3) := by decide +kernel
theorem dL_acts_77 : decode cL_acts 77 = .ok (.iload_n 2, 1) := by decide +kernel
theorem dL_acts_78 : decode cL_acts 78 = .ok (.iconst 3, 1) := by decide +kernel
theorem dL_acts_79 : decode cL_acts 79 = .ok (.ishr, 1) := by decide +kernel
theorem dL_acts_80 : decode cL_acts 80 = .ok (.iconst 2, 1) := by decide +kernel
theorem dL_acts_81 : decode cL_acts 81 = .ok (.invokestatic 103, 3) := by decide +kernel
theorem dL_acts_84 : decode cL_acts 84 = .ok (.sipush 2001, 3) := by decide +kernel
theorem dL_acts_87 : decode cL_acts 87 = .ok (.imul, 1) := by decide +kernel
theorem dL_acts_88 : decode cL_acts 88 = .ok (.iconst 1, 1) := by decide +kernel
theorem dL_acts_89 : decode cL_acts 89 = .ok (.isub, 1) := by decide +kernel
theorem dL_acts_90 : decode cL_acts 90 = .ok (.goto 43, 3) := by decide +kernel
theorem dL_acts_93 : decode cL_acts 93 = .ok (.iload_n 2, 1) := by decide +kernel
theorem dL_acts_94 : decode cL_acts 94 = .ok (.bipush 9, 2) := by decide +kernel
theorem dL_acts_96 : decode cL_acts 96 = .ok (.ishr, 1) := by decide +kernel
theorem dL_acts_97 : decode cL_acts 97 = .ok (.iconst 3, 1) := by decide +kernel
theorem dL_acts_98 : decode cL_acts 98 = .ok (.invokestatic 103, 3) := by decide +kernel
theorem dL_acts_101 : decode cL_acts 101 = .ok (.ifCond .ne 15, 3) := by decide +kernel
theorem dL_acts_104 : decode cL_acts 104 = .ok (.iload_n 2, 1) := by decide +kernel
theorem dL_acts_105 : decode cL_acts 105 = .ok (.iconst 2, 1) := by decide +kernel
theorem dL_acts_106 : decode cL_acts 106 = .ok (.ishr, 1) := by decide +kernel
theorem dL_acts_107 : decode cL_acts 107 = .ok (.sipush 2000, 3) := by decide +kernel
theorem dL_acts_110 : decode cL_acts 110 = .ok (.invokestatic 103, 3) := by decide +kernel
theorem dL_acts_113 : decode cL_acts 113 = .ok (.goto 20, 3) := by decide +kernel
theorem dL_acts_116 : decode cL_acts 116 = .ok (.bipush 100, 2) := by decide +kernel
theorem dL_acts_118 : decode cL_acts 118 = .ok (.aload 7, 2) := by decide +kernel
theorem dL_acts_120 : decode cL_acts 120 = .ok (.iconst 4, 1) := by decide +kernel
theorem dL_acts_121 : decode cL_acts 121 = .ok (.iaload, 1) := by decide +kernel
theorem dL_acts_122 : decode cL_acts 122 = .ok (.imul, 1) := by decide +kernel
theorem dL_acts_123 : decode cL_acts 123 = .ok (.iload_n 2, 1) := by decide +kernel
theorem dL_acts_124 : decode cL_acts 124 = .ok (.iconst 3, 1) := by decide +kernel
