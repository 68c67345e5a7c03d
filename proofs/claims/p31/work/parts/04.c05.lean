theorem dL_acts_928 : decode cL_acts 928 = .ok (.iaload, 1) := by decide +kernel
theorem dL_acts_929 : decode cL_acts 929 = .ok (.iconst 1, 1) := by decide +kernel
theorem dL_acts_930 : decode cL_acts 930 = .ok (.iadd, 1) := by decide +kernel
theorem dL_acts_931 : decode cL_acts 931 = .ok (.iastore, 1) := by decide +kernel
theorem dL_acts_932 : decode cL_acts 932 = .ok (.aload_n 0, 1) := by decide +kernel
theorem dL_acts_933 : decode cL_acts 933 = .ok (.invokestatic 131, 3) := by decide +kernel
theorem dL_acts_936 : decode cL_acts 936 = .ok (.aload 7, 2) := by decide +kernel
theorem dL_acts_938 : decode cL_acts 938 = .ok (.iconst 4, 1) := by decide +kernel
theorem dL_acts_939 : decode cL_acts 939 = .ok (.iaload, 1) := by decide +kernel
theorem dL_acts_940 : decode cL_acts 940 = .ok (.iconst 1, 1) := by decide +kernel
theorem dL_acts_941 : decode cL_acts 941 = .ok (.isub, 1) := by decide +kernel
theorem dL_acts_942 : decode cL_acts 942 = .ok (.if_icmp .ne 7, 3) := by decide +kernel
theorem dL_acts_945 : decode cL_acts 945 = .ok (.iconst 1, 1) := by decide +kernel
theorem dL_acts_946 : decode cL_acts 946 = .ok (.goto 4, 3) := by decide +kernel
theorem dL_acts_949 : decode cL_acts 949 = .ok (.iconst 0, 1) := by decide +kernel
theorem dL_acts_950 : decode cL_acts 950 = .ok (.ireturn, 1) := by decide +kernel
set_option maxRecDepth 20000 in
theorem ggL_tellsOf_L_some : GoodIn wsL_tellsOf wsL_some := goodIn_r _ [5] (by decide +kernel) (by decide +kernel)
set_option maxRecDepth 20000 in
theorem gL_tellsOf_L_some : GoodIn wsL_tellsOf (va_wsS RL 103 yL_some wsL_some) := goodIn_app (goodIn_of _ (by decide +kernel)) ggL_tellsOf_L_some
set_option maxRecDepth 20000 in
theorem ggL_tellsOf_L_many : GoodIn wsL_tellsOf wsL_many := goodIn_r _ [8, 9, 10, 4, 11] (by decide +kernel) (by decide +kernel)
set_option maxRecDepth 20000 in
theorem gL_tellsOf_L_many : GoodIn wsL_tellsOf (va_wsS RL 135 yL_many wsL_many) := goodIn_app (goodIn_of _ (by decide +kernel)) ggL_tellsOf_L_many
set_option maxRecDepth 20000 in
theorem ggL_tellsOf_L_next : GoodIn wsL_tellsOf wsL_next := goodIn_r _ [14, 9, 10, 4, 11] (by decide +kernel) (by decide +kernel)
set_option maxRecDepth 20000 in
theorem gL_tellsOf_L_next : GoodIn wsL_tellsOf (va_wsS RL 15 yL_next wsL_next) := goodIn_app (goodIn_of _ (by decide +kernel)) ggL_tellsOf_L_next
set_option maxRecDepth 20000 in
theorem ggL_tellsOf_L_one : GoodIn wsL_tellsOf wsL_one := goodIn_ca (goodIn_r _ [17, 18, 19, 20, 21, 22, 23, 24, 25, 26, 27, 28, 29, 30, 31, 32, 33, 34, 35, 36, 37, 38, 39, 40, 41, 42, 43, 44, 45, 46, 47, 48, 49, 50, 51, 52, 53, 54, 55, 56, 57, 58, 59, 60, 61, 62, 63, 64, 65, 66, 67, 68, 69, 70, 71, 72, 73, 74, 75, 76, 77, 78, 79, 80, 81, 82, 83, 84, 85, 86, 87, 88, 89, 90, 91, 92, 93, 94, 95, 96, 97, 98, 99, 100, 101, 102, 103, 104, 105, 106, 107, 108, 109, 110, 111, 112, 113, 114, 115, 116, 117, 118, 119, 120, 121, 122, 123, 124, 125, 126, 127, 128, 129, 130, 131, 132, 133, 134, 135, 136, 137, 138, 139, 140, 141, 142, 143, 144, 145, 146, 147, 148, 149, 150, 151, 152, 153, 154, 155, 156, 157, 158, 159, 160, 161, 162, 163, 164, 165, 166, 167, 168, 169, 170, 171, 172, 173, 174, 175, 176, 177, 178, 179, 180, 181, 182, 183, 184, 185, 247, 248, 249, 250, 251, 252, 253, 254, 255, 256, 257, 258, 259, 260, 261, 262, 263, 264, 265, 266, 267, 268] (by decide +kernel) (by decide +kernel)) (goodIn_sub (fun _ h => List.mem_cons_of_mem _ (List.mem_append_left _ (List.mem_append_right _ h))) (by decide +kernel))
set_option maxRecDepth 20000 in
theorem gL_tellsOf_L_one : GoodIn wsL_tellsOf (va_wsS RL 113 yL_one wsL_one) := goodIn_app (goodIn_of _ (by decide +kernel)) ggL_tellsOf_L_one
set_option maxRecDepth 20000 in
theorem ggL_tellsOf_L_at : GoodIn wsL_tellsOf wsL_at := goodIn_ca (goodIn_ca (goodIn_r _ [188, 18, 189, 190, 191, 192, 22, 193, 24, 25, 26, 27, 28, 29, 30, 31, 32, 37, 38, 39, 40, 41, 42, 43, 44, 45, 46, 47, 48, 49, 50, 51, 52, 53, 54, 55, 56, 57, 58, 59, 60, 61, 62, 63, 64, 65, 66, 67, 68, 69, 70, 71, 72, 73, 74, 75, 76, 77, 78, 79, 80, 81, 82, 83, 84, 85, 194, 195, 196, 197, 198, 199, 200, 201, 202, 203, 204, 205, 206, 90, 207, 208, 209, 210, 211, 212, 213, 214, 95, 96, 97, 98, 215, 216, 217, 218, 219, 220, 221, 222, 223, 126, 127, 128, 224, 225, 226, 227, 228, 229, 230, 231, 232, 233, 234, 235, 236, 103, 91, 92, 93, 94, 104, 105, 106, 107, 108, 109, 110, 111, 112, 113, 114, 115, 116, 117, 118, 119, 120, 121, 122, 123, 124, 125, 129, 130, 131, 132, 133, 134, 135, 136, 137, 138, 139, 140, 141, 142, 143, 237, 238, 239, 240, 247, 248, 249, 250, 251, 252, 253, 254, 255, 256, 257, 258, 259, 260, 261, 262, 263, 264, 265, 266, 267, 268] (by decide +kernel) (by decide +kernel)) (goodIn_sub (fun _ h => List.mem_cons_of_mem _ (List.mem_append_left _ (List.mem_append_right _ h))) (by decide +kernel))) (goodIn_sub (fun _ h => List.mem_cons_of_mem _ (List.mem_append_right _ h)) (by decide +kernel))
set_option maxRecDepth 20000 in
theorem gL_tellsOf_L_at : GoodIn wsL_tellsOf (va_wsS RL 139 yL_at wsL_at) := goodIn_app (goodIn_of _ (by decide +kernel)) ggL_tellsOf_L_at
set_option maxRecDepth 20000 in
theorem ggL_tellsOf_L_sessions : GoodIn wsL_tellsOf wsL_sessions := goodIn_r _ [243, 12, 13, 4, 14, 9, 10, 11] (by decide +kernel) (by decide +kernel)
set_option maxRecDepth 20000 in
theorem gL_tellsOf_L_sessions : GoodIn wsL_tellsOf (va_wsS RL 128 yL_sessions wsL_sessions) := goodIn_app (goodIn_of _ (by decide +kernel)) ggL_tellsOf_L_sessions
set_option maxRecDepth 20000 in
theorem ggL_tellsOf_L_depth : GoodIn wsL_tellsOf wsL_depth := goodIn_r _ [246, 1, 12, 13, 4, 14, 9, 10, 11] (by decide +kernel) (by decide +kernel)
set_option maxRecDepth 20000 in
theorem gL_tellsOf_L_depth : GoodIn wsL_tellsOf (va_wsS RL 142 yL_depth wsL_depth) := goodIn_app (goodIn_of _ (by decide +kernel)) ggL_tellsOf_L_depth
theorem dL_tellsOf_0 : decode cL_tellsOf 0 = .ok (.iconst 3, 1) := by decide +kernel
theorem dL_tellsOf_1 : decode cL_tellsOf 1 = .ok (.newarray .int, 2) := by decide +kernel
theorem dL_tellsOf_3 : decode cL_tellsOf 3 = .ok (.astore 8, 2) := by decide +kernel
theorem dL_tellsOf_5 : decode cL_tellsOf 5 = .ok (.iload_n 1, 1) := by decide +kernel
theorem dL_tellsOf_6 : decode cL_tellsOf 6 = .ok (.bipush 30, 2) := by decide +kernel
theorem dL_tellsOf_8 : decode cL_tellsOf 8 = .ok (.invokestatic 103, 3) := by decide +kernel
theorem dL_tellsOf_11 : decode cL_tellsOf 11 = .ok (.ifCond .ne 8, 3) := by decide +kernel
theorem dL_tellsOf_14 : decode cL_tellsOf 14 = .ok (.bipush 20, 2) := by decide +kernel
theorem dL_tellsOf_16 : decode cL_tellsOf 16 = .ok (.goto 9, 3) := by decide +kernel
theorem dL_tellsOf_19 : decode cL_tellsOf 19 = .ok (.iload_n 1, 1) := by decide +kernel
theorem dL_tellsOf_20 : decode cL_tellsOf 20 = .ok (.bipush 9, 2) := by decide +kernel
theorem dL_tellsOf_22 : decode cL_tellsOf 22 = .ok (.invokestatic 103, 3) := by decide +kernel
theorem dL_tellsOf_25 : decode cL_tellsOf 25 = .ok (.istore 9, 2) := by decide +kernel
theorem dL_tellsOf_27 : decode cL_tellsOf 27 = .ok (.iload 9, 2) := by decide +kernel
theorem dL_tellsOf_29 : decode cL_tellsOf 29 = .ok (.bipush 20, 2) := by decide +kernel
theorem dL_tellsOf_31 : decode cL_tellsOf 31 = .ok (.if_icmp .ge 7, 3) := by decide +kernel
theorem dL_tellsOf_34 : decode cL_tellsOf 34 = .ok (.iconst 1, 1) := by decide +kernel
theorem dL_tellsOf_35 : decode cL_tellsOf 35 = .ok (.goto 4, 3) := by decide +kernel
theorem dL_tellsOf_38 : decode cL_tellsOf 38 = .ok (.iconst 0, 1) := by decide +kernel
theorem dL_tellsOf_39 : decode cL_tellsOf 39 = .ok (.istore 10, 2) := by decide +kernel
theorem dL_tellsOf_41 : decode cL_tellsOf 41 = .ok (.iload 9, 2) := by decide +kernel
theorem dL_tellsOf_43 : decode cL_tellsOf 43 = .ok (.bipush 8, 2) := by decide +kernel
theorem dL_tellsOf_45 : decode cL_tellsOf 45 = .ok (.if_icmp .ge 10, 3) := by decide +kernel
theorem dL_tellsOf_48 : decode cL_tellsOf 48 = .ok (.aload_n 2, 1) := by decide +kernel
theorem dL_tellsOf_49 : decode cL_tellsOf 49 = .ok (.iload 9, 2) := by decide +kernel
theorem dL_tellsOf_51 : decode cL_tellsOf 51 = .ok (.iaload, 1) := by decide +kernel
theorem dL_tellsOf_52 : decode cL_tellsOf 52 = .ok (.goto 5, 3) := by decide +kernel
theorem dL_tellsOf_55 : decode cL_tellsOf 55 = .ok (.iload 9, 2) := by decide +kernel
theorem dL_tellsOf_57 : decode cL_tellsOf 57 = .ok (.istore 11, 2) := by decide +kernel
theorem dL_tellsOf_59 : decode cL_tellsOf 59 = .ok (.aload_n 2, 1) := by decide +kernel
theorem dL_tellsOf_60 : decode cL_tellsOf 60 = .ok (.aload_n 3, 1) := by decide +kernel
theorem dL_tellsOf_61 : decode cL_tellsOf 61 = .ok (.aload 6, 2) := by decide +kernel
theorem dL_tellsOf_63 : decode cL_tellsOf 63 = .ok (.iload 11, 2) := by decide +kernel
theorem dL_tellsOf_65 : decode cL_tellsOf 65 = .ok (.invokestatic 135, 3) := by decide +kernel
theorem dL_tellsOf_68 : decode cL_tellsOf 68 = .ok (.istore 12, 2) := by decide +kernel
theorem dL_tellsOf_70 : decode cL_tellsOf 70 = .ok (.aload_n 2, 1) := by decide +kernel
theorem dL_tellsOf_71 : decode cL_tellsOf 71 = .ok (.aload_n 3, 1) := by decide +kernel
theorem dL_tellsOf_72 : decode cL_tellsOf 72 = .ok (.aload 5, 2) := by decide +kernel
theorem dL_tellsOf_74 : decode cL_tellsOf 74 = .ok (.aload 6, 2) := by decide +kernel
theorem dL_tellsOf_76 : decode cL_tellsOf 76 = .ok (.iload 11, 2) := by decide +kernel
theorem dL_tellsOf_78 : decode cL_tellsOf 78 = .ok (.iconst (-1), 1) := by decide +kernel
theorem dL_tellsOf_79 : decode cL_tellsOf 79 = .ok (.invokestatic 15, 3) := by decide +kernel
theorem dL_tellsOf_82 : decode cL_tellsOf 82 = .ok (.istore 13, 2) := by decide +kernel
theorem dL_tellsOf_84 : decode cL_tellsOf 84 = .ok (.aload_n 0, 1) := by decide +kernel
theorem dL_tellsOf_85 : decode cL_tellsOf 85 = .ok (.iconst 0, 1) := by decide +kernel
theorem dL_tellsOf_86 : decode cL_tellsOf 86 = .ok (.iload 9, 2) := by decide +kernel
theorem dL_tellsOf_88 : decode cL_tellsOf 88 = .ok (.invokestatic 113, 3) := by decide +kernel
theorem dL_tellsOf_91 : decode cL_tellsOf 91 = .ok (.iload 10, 2) := by decide +kernel
theorem dL_tellsOf_93 : decode cL_tellsOf 93 = .ok (.ifCond .eq 8, 3) := by decide +kernel
theorem dL_tellsOf_96 : decode cL_tellsOf 96 = .ok (.iload 11, 2) := by decide +kernel
theorem dL_tellsOf_98 : decode cL_tellsOf 98 = .ok (.goto 5, 3) := by decide +kernel
theorem dL_tellsOf_101 : decode cL_tellsOf 101 = .ok (.bipush (-101), 2) := by decide +kernel
theorem dL_tellsOf_103 : decode cL_tellsOf 103 = .ok (.if_icmp .ne 62, 3) := by decide +kernel
theorem dL_tellsOf_106 : decode cL_tellsOf 106 = .ok (.aload_n 0, 1) := by decide +kernel
theorem dL_tellsOf_107 : decode cL_tellsOf 107 = .ok (.iconst 1, 1) := by decide +kernel
theorem dL_tellsOf_108 : decode cL_tellsOf 108 = .ok (.iload 9, 2) := by decide +kernel
theorem dL_tellsOf_110 : decode cL_tellsOf 110 = .ok (.invokestatic 113, 3) := by decide +kernel
theorem dL_tellsOf_113 : decode cL_tellsOf 113 = .ok (.iload 10, 2) := by decide +kernel
theorem dL_tellsOf_115 : decode cL_tellsOf 115 = .ok (.ifCond .eq 8, 3) := by decide +kernel
theorem dL_tellsOf_118 : decode cL_tellsOf 118 = .ok (.iload 12, 2) := by decide +kernel
theorem dL_tellsOf_120 : decode cL_tellsOf 120 = .ok (.goto 5, 3) := by decide +kernel
theorem dL_tellsOf_123 : decode cL_tellsOf 123 = .ok (.bipush (-101), 2) := by decide +kernel
theorem dL_tellsOf_125 : decode cL_tellsOf 125 = .ok (.if_icmp .ne 40, 3) := by decide +kernel
theorem dL_tellsOf_128 : decode cL_tellsOf 128 = .ok (.aload_n 0, 1) := by decide +kernel
theorem dL_tellsOf_129 : decode cL_tellsOf 129 = .ok (.iconst 5, 1) := by decide +kernel
theorem dL_tellsOf_130 : decode cL_tellsOf 130 = .ok (.iload 9, 2) := by decide +kernel
