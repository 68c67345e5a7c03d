set_option maxRecDepth 20000 in
theorem gL_tellsAll_L_kept : GoodIn wsL_tellsAll (va_wsS RL 152 yL_kept wsL_kept) := goodIn_app (goodIn_of _ (by decide +kernel)) ggL_tellsAll_L_kept
set_option maxRecDepth 20000 in
theorem ggL_tellsAll_L_at : GoodIn wsL_tellsAll wsL_at := goodIn_ca (goodIn_ca (goodIn_r _ [285, 56, 235, 286, 287, 288, 30, 289, 33, 61, 62, 63, 64, 65, 66, 67, 68, 73, 74, 75, 76, 77, 32, 78, 79, 80, 81, 82, 83, 34, 35, 36, 37, 38, 39, 40, 41, 42, 43, 44, 45, 84, 85, 86, 87, 88, 89, 90, 91, 92, 93, 94, 95, 96, 97, 98, 99, 100, 101, 102, 103, 104, 105, 106, 107, 108, 244, 245, 246, 247, 248, 290, 291, 292, 293, 294, 295, 296, 297, 113, 298, 299, 300, 301, 302, 303, 304, 305, 118, 119, 120, 121, 306, 307, 308, 309, 310, 311, 312, 313, 314, 149, 150, 151, 315, 316, 317, 318, 319, 320, 321, 322, 323, 324, 325, 326, 327, 126, 114, 115, 116, 117, 127, 128, 129, 130, 131, 132, 133, 134, 135, 136, 137, 138, 139, 140, 141, 142, 143, 144, 145, 146, 147, 148, 152, 153, 154, 155, 156, 157, 158, 159, 160, 161, 162, 163, 164, 165, 166, 328, 329, 330, 331, 340, 341, 342, 343, 344, 345, 346, 352, 353, 354, 355, 347, 348, 349, 350, 351, 356, 357, 358, 359, 360, 361] (by decide +kernel) (by decide +kernel)) (goodIn_sub (fun _ h => List.mem_cons_of_mem _ (List.mem_append_left _ (List.mem_append_right _ h))) (by decide +kernel))) (goodIn_sub (fun _ h => List.mem_cons_of_mem _ (List.mem_append_right _ h)) (by decide +kernel))
set_option maxRecDepth 20000 in
theorem gL_tellsAll_L_at : GoodIn wsL_tellsAll (va_wsS RL 139 yL_at wsL_at) := goodIn_app (goodIn_of _ (by decide +kernel)) ggL_tellsAll_L_at
set_option maxRecDepth 20000 in
theorem ggL_tellsAll_X4_closedDays : GoodIn wsL_tellsAll wsX4_closedDays := goodIn_r _ [335, 253, 254, 255, 256, 257, 258, 259, 340, 341, 342, 343, 344, 345, 346, 362, 363, 364, 365] (by decide +kernel) (by decide +kernel)
set_option maxRecDepth 20000 in
theorem gL_tellsAll_X4_closedDays : GoodIn wsL_tellsAll (wsV RL 155 RX4 yX4_closedDays wsX4_closedDays) := goodIn_app (goodIn_of _ (by decide +kernel)) ggL_tellsAll_X4_closedDays
set_option maxRecDepth 20000 in
theorem ggL_tellsAll_X4_events : GoodIn wsL_tellsAll wsX4_events := goodIn_r _ [339, 32, 34, 35, 36, 37, 38, 39, 340, 341, 342, 343, 344, 345, 346, 347, 348, 349, 350, 351] (by decide +kernel) (by decide +kernel)
set_option maxRecDepth 20000 in
theorem gL_tellsAll_X4_events : GoodIn wsL_tellsAll (wsV RL 158 RX4 yX4_events wsX4_events) := goodIn_app (goodIn_of _ (by decide +kernel)) ggL_tellsAll_X4_events
theorem dL_tellsAll_0 : decode cL_tellsAll 0 = .ok (.iconst 3, 1) := by decide +kernel
theorem dL_tellsAll_1 : decode cL_tellsAll 1 = .ok (.newarray .int, 2) := by decide +kernel
theorem dL_tellsAll_3 : decode cL_tellsAll 3 = .ok (.astore 9, 2) := by decide +kernel
theorem dL_tellsAll_5 : decode cL_tellsAll 5 = .ok (.iload_n 1, 1) := by decide +kernel
theorem dL_tellsAll_6 : decode cL_tellsAll 6 = .ok (.bipush 40, 2) := by decide +kernel
theorem dL_tellsAll_8 : decode cL_tellsAll 8 = .ok (.invokestatic 103, 3) := by decide +kernel
theorem dL_tellsAll_11 : decode cL_tellsAll 11 = .ok (.ifCond .ne 8, 3) := by decide +kernel
theorem dL_tellsAll_14 : decode cL_tellsAll 14 = .ok (.bipush 20, 2) := by decide +kernel
theorem dL_tellsAll_16 : decode cL_tellsAll 16 = .ok (.goto 11, 3) := by decide +kernel
theorem dL_tellsAll_19 : decode cL_tellsAll 19 = .ok (.iload_n 1, 1) := by decide +kernel
theorem dL_tellsAll_20 : decode cL_tellsAll 20 = .ok (.iconst 2, 1) := by decide +kernel
theorem dL_tellsAll_21 : decode cL_tellsAll 21 = .ok (.ishr, 1) := by decide +kernel
theorem dL_tellsAll_22 : decode cL_tellsAll 22 = .ok (.bipush 9, 2) := by decide +kernel
theorem dL_tellsAll_24 : decode cL_tellsAll 24 = .ok (.invokestatic 103, 3) := by decide +kernel
theorem dL_tellsAll_27 : decode cL_tellsAll 27 = .ok (.istore 10, 2) := by decide +kernel
theorem dL_tellsAll_29 : decode cL_tellsAll 29 = .ok (.iload_n 1, 1) := by decide +kernel
theorem dL_tellsAll_30 : decode cL_tellsAll 30 = .ok (.iconst 5, 1) := by decide +kernel
theorem dL_tellsAll_31 : decode cL_tellsAll 31 = .ok (.ishr, 1) := by decide +kernel
theorem dL_tellsAll_32 : decode cL_tellsAll 32 = .ok (.bipush 6, 2) := by decide +kernel
theorem dL_tellsAll_34 : decode cL_tellsAll 34 = .ok (.invokestatic 103, 3) := by decide +kernel
theorem dL_tellsAll_37 : decode cL_tellsAll 37 = .ok (.iload_n 1, 1) := by decide +kernel
theorem dL_tellsAll_38 : decode cL_tellsAll 38 = .ok (.bipush 8, 2) := by decide +kernel
theorem dL_tellsAll_40 : decode cL_tellsAll 40 = .ok (.ishr, 1) := by decide +kernel
theorem dL_tellsAll_41 : decode cL_tellsAll 41 = .ok (.bipush 20, 2) := by decide +kernel
theorem dL_tellsAll_43 : decode cL_tellsAll 43 = .ok (.invokestatic 103, 3) := by decide +kernel
theorem dL_tellsAll_46 : decode cL_tellsAll 46 = .ok (.ifCond .ne 7, 3) := by decide +kernel
theorem dL_tellsAll_49 : decode cL_tellsAll 49 = .ok (.iconst 1, 1) := by decide +kernel
theorem dL_tellsAll_50 : decode cL_tellsAll 50 = .ok (.goto 4, 3) := by decide +kernel
theorem dL_tellsAll_53 : decode cL_tellsAll 53 = .ok (.iconst 0, 1) := by decide +kernel
theorem dL_tellsAll_54 : decode cL_tellsAll 54 = .ok (.isub, 1) := by decide +kernel
theorem dL_tellsAll_55 : decode cL_tellsAll 55 = .ok (.istore 11, 2) := by decide +kernel
theorem dL_tellsAll_57 : decode cL_tellsAll 57 = .ok (.iload_n 1, 1) := by decide +kernel
theorem dL_tellsAll_58 : decode cL_tellsAll 58 = .ok (.bipush 7, 2) := by decide +kernel
theorem dL_tellsAll_60 : decode cL_tellsAll 60 = .ok (.ishr, 1) := by decide +kernel
theorem dL_tellsAll_61 : decode cL_tellsAll 61 = .ok (.bipush 7, 2) := by decide +kernel
theorem dL_tellsAll_63 : decode cL_tellsAll 63 = .ok (.invokestatic 103, 3) := by decide +kernel
theorem dL_tellsAll_66 : decode cL_tellsAll 66 = .ok (.iconst 1, 1) := by decide +kernel
theorem dL_tellsAll_67 : decode cL_tellsAll 67 = .ok (.isub, 1) := by decide +kernel
theorem dL_tellsAll_68 : decode cL_tellsAll 68 = .ok (.istore 12, 2) := by decide +kernel
theorem dL_tellsAll_70 : decode cL_tellsAll 70 = .ok (.iload_n 1, 1) := by decide +kernel
theorem dL_tellsAll_71 : decode cL_tellsAll 71 = .ok (.iconst 3, 1) := by decide +kernel
theorem dL_tellsAll_72 : decode cL_tellsAll 72 = .ok (.ishr, 1) := by decide +kernel
theorem dL_tellsAll_73 : decode cL_tellsAll 73 = .ok (.bipush 25, 2) := by decide +kernel
theorem dL_tellsAll_75 : decode cL_tellsAll 75 = .ok (.invokestatic 103, 3) := by decide +kernel
theorem dL_tellsAll_78 : decode cL_tellsAll 78 = .ok (.ifCond .ne 7, 3) := by decide +kernel
theorem dL_tellsAll_81 : decode cL_tellsAll 81 = .ok (.iconst 3, 1) := by decide +kernel
theorem dL_tellsAll_82 : decode cL_tellsAll 82 = .ok (.goto 10, 3) := by decide +kernel
theorem dL_tellsAll_85 : decode cL_tellsAll 85 = .ok (.iload_n 1, 1) := by decide +kernel
theorem dL_tellsAll_86 : decode cL_tellsAll 86 = .ok (.iconst 3, 1) := by decide +kernel
theorem dL_tellsAll_87 : decode cL_tellsAll 87 = .ok (.ishr, 1) := by decide +kernel
theorem dL_tellsAll_88 : decode cL_tellsAll 88 = .ok (.iconst 3, 1) := by decide +kernel
theorem dL_tellsAll_89 : decode cL_tellsAll 89 = .ok (.invokestatic 103, 3) := by decide +kernel
theorem dL_tellsAll_92 : decode cL_tellsAll 92 = .ok (.istore 13, 2) := by decide +kernel
theorem dL_tellsAll_94 : decode cL_tellsAll 94 = .ok (.iload_n 1, 1) := by decide +kernel
theorem dL_tellsAll_95 : decode cL_tellsAll 95 = .ok (.bipush 6, 2) := by decide +kernel
theorem dL_tellsAll_97 : decode cL_tellsAll 97 = .ok (.ishr, 1) := by decide +kernel
theorem dL_tellsAll_98 : decode cL_tellsAll 98 = .ok (.bipush 6, 2) := by decide +kernel
theorem dL_tellsAll_100 : decode cL_tellsAll 100 = .ok (.invokestatic 103, 3) := by decide +kernel
theorem dL_tellsAll_103 : decode cL_tellsAll 103 = .ok (.iload_n 1, 1) := by decide +kernel
theorem dL_tellsAll_104 : decode cL_tellsAll 104 = .ok (.bipush 9, 2) := by decide +kernel
theorem dL_tellsAll_106 : decode cL_tellsAll 106 = .ok (.ishr, 1) := by decide +kernel
theorem dL_tellsAll_107 : decode cL_tellsAll 107 = .ok (.bipush 20, 2) := by decide +kernel
theorem dL_tellsAll_109 : decode cL_tellsAll 109 = .ok (.invokestatic 103, 3) := by decide +kernel
theorem dL_tellsAll_112 : decode cL_tellsAll 112 = .ok (.ifCond .ne 7, 3) := by decide +kernel
theorem dL_tellsAll_115 : decode cL_tellsAll 115 = .ok (.iconst 1, 1) := by decide +kernel
theorem dL_tellsAll_116 : decode cL_tellsAll 116 = .ok (.goto 4, 3) := by decide +kernel
theorem dL_tellsAll_119 : decode cL_tellsAll 119 = .ok (.iconst 0, 1) := by decide +kernel
theorem dL_tellsAll_120 : decode cL_tellsAll 120 = .ok (.isub, 1) := by decide +kernel
theorem dL_tellsAll_121 : decode cL_tellsAll 121 = .ok (.istore 14, 2) := by decide +kernel
theorem dL_tellsAll_123 : decode cL_tellsAll 123 = .ok (.iconst 0, 1) := by decide +kernel
theorem dL_tellsAll_124 : decode cL_tellsAll 124 = .ok (.istore 15, 2) := by decide +kernel
theorem dL_tellsAll_126 : decode cL_tellsAll 126 = .ok (.iconst 0, 1) := by decide +kernel
theorem dL_tellsAll_127 : decode cL_tellsAll 127 = .ok (.istore 16, 2) := by decide +kernel
theorem dL_tellsAll_129 : decode cL_tellsAll 129 = .ok (.iconst 0, 1) := by decide +kernel
theorem dL_tellsAll_130 : decode cL_tellsAll 130 = .ok (.istore 17, 2) := by decide +kernel
theorem dL_tellsAll_132 : decode cL_tellsAll 132 = .ok (.iconst 0, 1) := by decide +kernel
theorem dL_tellsAll_133 : decode cL_tellsAll 133 = .ok (.istore 18, 2) := by decide +kernel
theorem dL_tellsAll_135 : decode cL_tellsAll 135 = .ok (.iconst 0, 1) := by decide +kernel
theorem dL_tellsAll_136 : decode cL_tellsAll 136 = .ok (.istore 19, 2) := by decide +kernel
theorem dL_tellsAll_138 : decode cL_tellsAll 138 = .ok (.iconst (-1), 1) := by decide +kernel
theorem dL_tellsAll_139 : decode cL_tellsAll 139 = .ok (.istore 20, 2) := by decide +kernel
theorem dL_tellsAll_141 : decode cL_tellsAll 141 = .ok (.iconst 0, 1) := by decide +kernel
theorem dL_tellsAll_142 : decode cL_tellsAll 142 = .ok (.istore 21, 2) := by decide +kernel
theorem dL_tellsAll_144 : decode cL_tellsAll 144 = .ok (.iload 21, 2) := by decide +kernel
theorem dL_tellsAll_146 : decode cL_tellsAll 146 = .ok (.bipush 8, 2) := by decide +kernel
theorem dL_tellsAll_148 : decode cL_tellsAll 148 = .ok (.if_icmp .ge 327, 3) := by decide +kernel
theorem dL_tellsAll_151 : decode cL_tellsAll 151 = .ok (.aload_n 2, 1) := by decide +kernel
theorem dL_tellsAll_152 : decode cL_tellsAll 152 = .ok (.aload_n 3, 1) := by decide +kernel
theorem dL_tellsAll_153 : decode cL_tellsAll 153 = .ok (.aload 5, 2) := by decide +kernel
theorem dL_tellsAll_155 : decode cL_tellsAll 155 = .ok (.aload 6, 2) := by decide +kernel
theorem dL_tellsAll_157 : decode cL_tellsAll 157 = .ok (.iload 21, 2) := by decide +kernel
theorem dL_tellsAll_159 : decode cL_tellsAll 159 = .ok (.iconst (-1), 1) := by decide +kernel
theorem dL_tellsAll_160 : decode cL_tellsAll 160 = .ok (.invokestatic 15, 3) := by decide +kernel
theorem dL_tellsAll_163 : decode cL_tellsAll 163 = .ok (.istore 22, 2) := by decide +kernel
theorem dL_tellsAll_165 : decode cL_tellsAll 165 = .ok (.iload 22, 2) := by decide +kernel
theorem dL_tellsAll_167 : decode cL_tellsAll 167 = .ok (.ifCond .lt 302, 3) := by decide +kernel
