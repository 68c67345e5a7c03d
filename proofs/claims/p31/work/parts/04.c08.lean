theorem dL_tellsAll_746 : decode cL_tellsAll 746 = .ok (.iconst 4, 1) := by decide +kernel
theorem dL_tellsAll_747 : decode cL_tellsAll 747 = .ok (.iaload, 1) := by decide +kernel
theorem dL_tellsAll_748 : decode cL_tellsAll 748 = .ok (.if_icmp .ne 18, 3) := by decide +kernel
theorem dL_tellsAll_751 : decode cL_tellsAll 751 = .ok (.aload_n 0, 1) := by decide +kernel
theorem dL_tellsAll_752 : decode cL_tellsAll 752 = .ok (.invokevirtual 158, 3) := by decide +kernel
theorem dL_tellsAll_755 : decode cL_tellsAll 755 = .ok (.aload 6, 2) := by decide +kernel
theorem dL_tellsAll_757 : decode cL_tellsAll 757 = .ok (.iconst 0, 1) := by decide +kernel
theorem dL_tellsAll_758 : decode cL_tellsAll 758 = .ok (.iaload, 1) := by decide +kernel
theorem dL_tellsAll_759 : decode cL_tellsAll 759 = .ok (.if_icmp .ne 7, 3) := by decide +kernel
theorem dL_tellsAll_762 : decode cL_tellsAll 762 = .ok (.iconst 1, 1) := by decide +kernel
theorem dL_tellsAll_763 : decode cL_tellsAll 763 = .ok (.goto 4, 3) := by decide +kernel
theorem dL_tellsAll_766 : decode cL_tellsAll 766 = .ok (.iconst 0, 1) := by decide +kernel
theorem dL_tellsAll_767 : decode cL_tellsAll 767 = .ok (.ireturn, 1) := by decide +kernel
set_option maxRecDepth 20000 in
theorem ggL_law_X4_init : GoodIn wsL_law wsX4_init := goodIn_r _ [6, 7, 8, 9, 3, 10, 11, 12, 13, 14, 15, 16, 17, 18, 19, 20, 21, 22, 23, 24, 25, 26, 27, 28, 29, 30, 31, 32, 33, 34, 35, 36, 37, 38, 39, 40, 41, 42, 43, 44, 45, 46, 47, 48, 49, 50, 51, 52, 53, 54, 55, 56, 57, 58, 59, 447, 448, 449, 450, 451, 452, 453, 454, 455, 456, 457, 458, 459, 460, 461, 462, 463, 464, 465, 466, 467, 468, 469, 470, 471, 472] (by decide +kernel) (by decide +kernel)
set_option maxRecDepth 20000 in
theorem gL_law_X4_init : GoodIn wsL_law (wsX4_init) := ggL_law_X4_init
set_option maxRecDepth 20000 in
theorem ggL_law_L_cell : GoodIn wsL_law wsL_cell := goodIn_r _ [63, 64] (by decide +kernel) (by decide +kernel)
set_option maxRecDepth 20000 in
theorem gL_law_L_cell : GoodIn wsL_law (va_wsS RL 162 yL_cell wsL_cell) := goodIn_app (goodIn_of _ (by decide +kernel)) ggL_law_L_cell
set_option maxRecDepth 20000 in
theorem ggL_law_L_some : GoodIn wsL_law wsL_some := goodIn_r _ [67] (by decide +kernel) (by decide +kernel)
set_option maxRecDepth 20000 in
theorem gL_law_L_some : GoodIn wsL_law (va_wsS RL 103 yL_some wsL_some) := goodIn_app (goodIn_of _ (by decide +kernel)) ggL_law_L_some
set_option maxRecDepth 20000 in
theorem ggL_law_L_acts : GoodIn wsL_law wsL_acts := goodIn_ca (goodIn_ca (goodIn_r _ [70, 3, 65, 66, 62, 67, 71, 72, 73, 74, 75, 76, 77, 78, 2, 79, 80, 81, 22, 14, 82, 83, 84, 85, 86, 87, 88, 89, 90, 91, 92, 93, 94, 95, 96, 97, 98, 21, 99, 52, 100, 101, 102, 13, 103, 36, 104, 105, 106, 107, 32, 33, 34, 35, 108, 109, 110, 111, 112, 113, 114, 10, 115, 116, 117, 118, 119, 120, 121, 122, 123, 124, 125, 126, 127, 128, 129, 130, 131, 132, 133, 134, 135, 136, 137, 138, 139, 140, 141, 142, 143, 144, 145, 146, 147, 148, 149, 150, 151, 152, 153, 154, 155, 156, 157, 158, 159, 160, 161, 162, 163, 164, 165, 166, 167, 168, 169, 170, 171, 172, 173, 174, 26, 175, 176, 177, 25, 178, 59, 179, 180, 181, 182, 183, 184, 185, 186, 187, 188, 189, 190, 56, 57, 58, 191, 192, 193, 194, 195, 196, 197, 198, 28, 199, 200, 201, 202, 203, 204, 205, 206, 207, 208, 209, 210, 18, 211, 212, 213, 17, 214, 44, 215, 216, 217, 218, 43, 45, 219, 220, 221, 222, 223, 224, 225, 226, 227, 228, 229, 230, 231, 232, 233, 234, 235, 41, 40, 236, 237, 238, 239, 42, 240, 241, 242, 243, 244, 245, 246, 247, 248, 249, 250, 251, 252, 253, 254, 255, 256, 257, 258, 259, 260, 261, 262, 263, 264, 265, 266, 267, 268, 269, 270, 271, 272, 273, 274, 275, 276, 277, 278, 279, 280, 281, 282, 283, 284, 285, 286, 287, 288, 289, 290, 291, 292, 293, 294, 295, 296, 297, 298, 299, 300, 301, 302, 303, 304, 305, 306, 307, 308, 309, 310, 311, 312, 313, 314, 315, 316, 317, 318, 319, 320, 321, 322, 323, 324, 325, 326, 327, 328, 329, 330, 49, 50, 51, 447, 448, 449, 450, 451, 452, 453, 465, 466, 467, 468, 454, 455, 456, 457, 458, 469, 470, 471, 472, 459, 460, 461, 462, 463, 464] (by decide +kernel) (by decide +kernel)) (goodIn_sub (fun _ h => List.mem_append_left _ (List.mem_append_left _ (List.mem_append_right _ h))) (by decide +kernel))) (goodIn_sub (fun _ h => List.mem_append_left _ (List.mem_append_right _ h)) (by decide +kernel))
set_option maxRecDepth 20000 in
theorem gL_law_L_acts : GoodIn wsL_law (va_wsS RL 166 yL_acts wsL_acts) := goodIn_app (goodIn_of _ (by decide +kernel)) ggL_law_L_acts
set_option maxRecDepth 20000 in
theorem ggL_law_L_tellsOf : GoodIn wsL_law wsL_tellsOf := goodIn_ca (goodIn_ca (goodIn_r _ [333, 3, 65, 66, 62, 67, 334, 335, 336, 299, 300, 301, 296, 297, 298, 160, 161, 162, 74, 163, 164, 165, 2, 166, 10, 82, 83, 84, 85, 86, 87, 88, 89, 167, 168, 169, 170, 171, 172, 173, 174, 26, 14, 175, 176, 177, 25, 178, 59, 133, 134, 135, 13, 136, 36, 137, 138, 139, 140, 32, 35, 179, 180, 181, 182, 183, 184, 185, 186, 33, 141, 142, 143, 144, 34, 187, 188, 189, 190, 56, 57, 58, 191, 192, 193, 194, 195, 196, 197, 198, 28, 199, 200, 201, 202, 203, 204, 205, 206, 207, 208, 209, 210, 18, 211, 212, 213, 17, 214, 44, 215, 216, 217, 218, 43, 45, 219, 220, 221, 222, 223, 224, 225, 226, 227, 228, 229, 230, 231, 232, 233, 234, 235, 41, 40, 236, 237, 238, 239, 42, 240, 120, 117, 121, 241, 242, 243, 244, 245, 246, 247, 248, 249, 250, 251, 252, 253, 254, 255, 256, 94, 95, 257, 258, 259, 260, 126, 127, 128, 145, 146, 147, 148, 93, 261, 262, 263, 264, 265, 266, 267, 268, 269, 270, 271, 272, 337, 338, 339, 340, 341, 342, 343, 344, 345, 346, 347, 348, 349, 350, 351, 352, 353, 354, 355, 356, 357, 358, 359, 360, 361, 362, 363, 364, 365, 366, 367, 368, 369, 370, 371, 372, 373, 374, 375, 376, 377, 378, 379, 380, 381, 382, 27, 383, 384, 385, 386, 387, 388, 389, 390, 305, 306, 307, 391, 392, 393, 447, 448, 449, 450, 451, 452, 453, 469, 470, 471, 472, 454, 455, 456, 457, 458, 459, 460, 461, 462, 463, 464] (by decide +kernel) (by decide +kernel)) (goodIn_sub (fun _ h => List.mem_append_left _ (List.mem_append_right _ h)) (by decide +kernel))) (goodIn_sub (fun _ h => List.mem_append_right _ h) (by decide +kernel))
set_option maxRecDepth 20000 in
theorem gL_law_L_tellsOf : GoodIn wsL_law (va_wsS RL 170 yL_tellsOf wsL_tellsOf) := goodIn_app (goodIn_of _ (by decide +kernel)) ggL_law_L_tellsOf
set_option maxRecDepth 20000 in
theorem ggL_law_L_tellsAll : GoodIn wsL_law wsL_tellsAll := goodIn_ca (goodIn_ca (goodIn_r _ [396, 3, 65, 66, 62, 67, 296, 297, 298, 299, 300, 301, 302, 303, 304, 391, 392, 393, 397, 398, 399, 334, 335, 336, 305, 306, 307, 400, 401, 402, 2, 403, 14, 10, 133, 134, 135, 13, 136, 36, 137, 138, 139, 140, 32, 35, 149, 150, 151, 152, 153, 154, 155, 160, 161, 162, 74, 163, 164, 165, 166, 82, 83, 84, 85, 86, 87, 88, 89, 167, 168, 169, 170, 171, 172, 173, 174, 26, 175, 176, 177, 25, 178, 59, 179, 180, 181, 182, 183, 184, 185, 186, 33, 141, 142, 143, 144, 34, 187, 188, 189, 190, 56, 57, 58, 191, 192, 193, 194, 195, 196, 197, 198, 28, 199, 200, 201, 202, 203, 204, 205, 206, 207, 208, 209, 210, 18, 211, 212, 213, 17, 214, 44, 215, 216, 217, 218, 43, 45, 219, 220, 221, 222, 223, 224, 225, 226, 227, 228, 229, 230, 231, 232, 233, 234, 235, 41, 40, 236, 237, 238, 239, 42, 240, 120, 117, 121, 241, 242, 243, 244, 245, 246, 247, 248, 249, 250, 251, 252, 253, 254, 255, 256, 94, 95, 257, 258, 259, 260, 126, 127, 128, 145, 146, 147, 148, 93, 261, 262, 263, 264, 265, 266, 267, 268, 269, 270, 271, 272, 108, 109, 110, 111, 112, 113, 114, 115, 116, 118, 119, 122, 123, 124, 125, 129, 130, 131, 132, 156, 157, 158, 159, 404, 405, 406, 340, 407, 408, 409, 410, 411, 412, 413, 414, 345, 346, 347, 348, 349, 415, 416, 417, 418, 22, 96, 97, 98, 21, 99, 52, 419, 420, 421, 422, 49, 423, 424, 425, 426, 427, 428, 429, 430, 50, 431, 432, 433, 434, 435, 436, 437, 438, 51, 337, 338, 339, 341, 342, 343, 344, 350, 351, 352, 353, 354, 355, 356, 357, 358, 359, 360, 361, 362, 363, 364, 365, 366, 367, 368, 369, 370, 371, 372, 373, 374, 375, 376, 377, 378, 379, 380, 381, 382, 27, 383, 384, 385, 386, 387, 388, 389, 390, 439, 440, 441, 442, 443, 444, 445, 446, 447, 448, 449, 450, 451, 452, 453, 454, 455, 456, 457, 458, 469, 470, 471, 472, 459, 460, 461, 462, 463, 464, 465, 466, 467, 468] (by decide +kernel) (by decide +kernel)) (goodIn_sub (fun _ h => List.mem_append_left _ (List.mem_append_right _ h)) (by decide +kernel))) (goodIn_sub (fun _ h => List.mem_append_right _ h) (by decide +kernel))
set_option maxRecDepth 20000 in
theorem gL_law_L_tellsAll : GoodIn wsL_law (va_wsS RL 174 yL_tellsAll wsL_tellsAll) := goodIn_app (goodIn_of _ (by decide +kernel)) ggL_law_L_tellsAll
theorem dL_law_0 : decode cL_law 0 = .ok (.new 20, 3) := by decide +kernel
theorem dL_law_3 : decode cL_law 3 = .ok (.dup, 1) := by decide +kernel
theorem dL_law_4 : decode cL_law 4 = .ok (.invokespecial 161, 3) := by decide +kernel
theorem dL_law_7 : decode cL_law 7 = .ok (.astore_n 1, 1) := by decide +kernel
theorem dL_law_8 : decode cL_law 8 = .ok (.bipush 8, 2) := by decide +kernel
theorem dL_law_10 : decode cL_law 10 = .ok (.newarray .int, 2) := by decide +kernel
theorem dL_law_12 : decode cL_law 12 = .ok (.astore_n 2, 1) := by decide +kernel
theorem dL_law_13 : decode cL_law 13 = .ok (.bipush 64, 2) := by decide +kernel
theorem dL_law_15 : decode cL_law 15 = .ok (.newarray .int, 2) := by decide +kernel
theorem dL_law_17 : decode cL_law 17 = .ok (.astore_n 3, 1) := by decide +kernel
theorem dL_law_18 : decode cL_law 18 = .ok (.bipush 64, 2) := by decide +kernel
theorem dL_law_20 : decode cL_law 20 = .ok (.newarray .int, 2) := by decide +kernel
theorem dL_law_22 : decode cL_law 22 = .ok (.astore 4, 2) := by decide +kernel
theorem dL_law_24 : decode cL_law 24 = .ok (.bipush 64, 2) := by decide +kernel
theorem dL_law_26 : decode cL_law 26 = .ok (.newarray .int, 2) := by decide +kernel
theorem dL_law_28 : decode cL_law 28 = .ok (.astore 5, 2) := by decide +kernel
theorem dL_law_30 : decode cL_law 30 = .ok (.iconst 5, 1) := by decide +kernel
theorem dL_law_31 : decode cL_law 31 = .ok (.newarray .int, 2) := by decide +kernel
theorem dL_law_33 : decode cL_law 33 = .ok (.astore 6, 2) := by decide +kernel
theorem dL_law_35 : decode cL_law 35 = .ok (.bipush 6, 2) := by decide +kernel
theorem dL_law_37 : decode cL_law 37 = .ok (.newarray .int, 2) := by decide +kernel
theorem dL_law_39 : decode cL_law 39 = .ok (.astore 7, 2) := by decide +kernel
theorem dL_law_41 : decode cL_law 41 = .ok (.bipush 60, 2) := by decide +kernel
theorem dL_law_43 : decode cL_law 43 = .ok (.newarray .int, 2) := by decide +kernel
theorem dL_law_45 : decode cL_law 45 = .ok (.astore 8, 2) := by decide +kernel
theorem dL_law_47 : decode cL_law 47 = .ok (.aload 6, 2) := by decide +kernel
theorem dL_law_49 : decode cL_law 49 = .ok (.iconst 1, 1) := by decide +kernel
theorem dL_law_50 : decode cL_law 50 = .ok (.bipush 30, 2) := by decide +kernel
theorem dL_law_52 : decode cL_law 52 = .ok (.iastore, 1) := by decide +kernel
theorem dL_law_53 : decode cL_law 53 = .ok (.aload 6, 2) := by decide +kernel
theorem dL_law_55 : decode cL_law 55 = .ok (.iconst 2, 1) := by decide +kernel
theorem dL_law_56 : decode cL_law 56 = .ok (.bipush 100, 2) := by decide +kernel
theorem dL_law_58 : decode cL_law 58 = .ok (.iastore, 1) := by decide +kernel
theorem dL_law_59 : decode cL_law 59 = .ok (.iconst 0, 1) := by decide +kernel
theorem dL_law_60 : decode cL_law 60 = .ok (.istore 9, 2) := by decide +kernel
theorem dL_law_62 : decode cL_law 62 = .ok (.iload 9, 2) := by decide +kernel
theorem dL_law_64 : decode cL_law 64 = .ok (.bipush 8, 2) := by decide +kernel
theorem dL_law_66 : decode cL_law 66 = .ok (.if_icmp .ge 15, 3) := by decide +kernel
theorem dL_law_69 : decode cL_law 69 = .ok (.aload_n 2, 1) := by decide +kernel
theorem dL_law_70 : decode cL_law 70 = .ok (.iload 9, 2) := by decide +kernel
theorem dL_law_72 : decode cL_law 72 = .ok (.iload 9, 2) := by decide +kernel
theorem dL_law_74 : decode cL_law 74 = .ok (.iastore, 1) := by decide +kernel
theorem dL_law_75 : decode cL_law 75 = .ok (.iinc 9 1, 3) := by decide +kernel
theorem dL_law_78 : decode cL_law 78 = .ok (.goto (-16), 3) := by decide +kernel
theorem dL_law_81 : decode cL_law 81 = .ok (.iconst 0, 1) := by decide +kernel
theorem dL_law_82 : decode cL_law 82 = .ok (.istore 9, 2) := by decide +kernel
theorem dL_law_84 : decode cL_law 84 = .ok (.iload 9, 2) := by decide +kernel
theorem dL_law_86 : decode cL_law 86 = .ok (.bipush 70, 2) := by decide +kernel
theorem dL_law_88 : decode cL_law 88 = .ok (.if_icmp .ge 134, 3) := by decide +kernel
theorem dL_law_91 : decode cL_law 91 = .ok (.aload_n 0, 1) := by decide +kernel
theorem dL_law_92 : decode cL_law 92 = .ok (.iload 9, 2) := by decide +kernel
theorem dL_law_94 : decode cL_law 94 = .ok (.invokestatic 162, 3) := by decide +kernel
theorem dL_law_97 : decode cL_law 97 = .ok (.istore 10, 2) := by decide +kernel
theorem dL_law_99 : decode cL_law 99 = .ok (.iload 10, 2) := by decide +kernel
theorem dL_law_101 : decode cL_law 101 = .ok (.iconst 4, 1) := by decide +kernel
theorem dL_law_102 : decode cL_law 102 = .ok (.ishr, 1) := by decide +kernel
theorem dL_law_103 : decode cL_law 103 = .ok (.istore 11, 2) := by decide +kernel
theorem dL_law_105 : decode cL_law 105 = .ok (.iload 10, 2) := by decide +kernel
theorem dL_law_107 : decode cL_law 107 = .ok (.bipush 16, 2) := by decide +kernel
theorem dL_law_109 : decode cL_law 109 = .ok (.invokestatic 103, 3) := by decide +kernel
theorem dL_law_112 : decode cL_law 112 = .ok (.istore 12, 2) := by decide +kernel
theorem dL_law_114 : decode cL_law 114 = .ok (.aload_n 1, 1) := by decide +kernel
theorem dL_law_115 : decode cL_law 115 = .ok (.iload 9, 2) := by decide +kernel
theorem dL_law_117 : decode cL_law 117 = .ok (.bipush 8, 2) := by decide +kernel
theorem dL_law_119 : decode cL_law 119 = .ok (.if_icmp .ge 7, 3) := by decide +kernel
theorem dL_law_122 : decode cL_law 122 = .ok (.iconst 0, 1) := by decide +kernel
theorem dL_law_123 : decode cL_law 123 = .ok (.goto 5, 3) := by decide +kernel
theorem dL_law_126 : decode cL_law 126 = .ok (.iload 12, 2) := by decide +kernel
theorem dL_law_128 : decode cL_law 128 = .ok (.iload 11, 2) := by decide +kernel
theorem dL_law_130 : decode cL_law 130 = .ok (.aload_n 2, 1) := by decide +kernel
theorem dL_law_131 : decode cL_law 131 = .ok (.aload_n 3, 1) := by decide +kernel
theorem dL_law_132 : decode cL_law 132 = .ok (.aload 4, 2) := by decide +kernel
theorem dL_law_134 : decode cL_law 134 = .ok (.aload 5, 2) := by decide +kernel
theorem dL_law_136 : decode cL_law 136 = .ok (.aload 6, 2) := by decide +kernel
theorem dL_law_138 : decode cL_law 138 = .ok (.aload 7, 2) := by decide +kernel
theorem dL_law_140 : decode cL_law 140 = .ok (.aload 8, 2) := by decide +kernel
theorem dL_law_142 : decode cL_law 142 = .ok (.invokestatic 166, 3) := by decide +kernel
theorem dL_law_145 : decode cL_law 145 = .ok (.istore 13, 2) := by decide +kernel
theorem dL_law_147 : decode cL_law 147 = .ok (.iload 13, 2) := by decide +kernel
theorem dL_law_149 : decode cL_law 149 = .ok (.ifCond .eq 57, 3) := by decide +kernel
theorem dL_law_152 : decode cL_law 152 = .ok (.iload 9, 2) := by decide +kernel
theorem dL_law_154 : decode cL_law 154 = .ok (.iconst 2, 1) := by decide +kernel
theorem dL_law_155 : decode cL_law 155 = .ok (.irem, 1) := by decide +kernel
theorem dL_law_156 : decode cL_law 156 = .ok (.ifCond .ne 25, 3) := by decide +kernel
theorem dL_law_159 : decode cL_law 159 = .ok (.aload_n 1, 1) := by decide +kernel
theorem dL_law_160 : decode cL_law 160 = .ok (.iload 11, 2) := by decide +kernel
theorem dL_law_162 : decode cL_law 162 = .ok (.aload_n 2, 1) := by decide +kernel
theorem dL_law_163 : decode cL_law 163 = .ok (.aload_n 3, 1) := by decide +kernel
theorem dL_law_164 : decode cL_law 164 = .ok (.aload 4, 2) := by decide +kernel
theorem dL_law_166 : decode cL_law 166 = .ok (.aload 5, 2) := by decide +kernel
theorem dL_law_168 : decode cL_law 168 = .ok (.aload 6, 2) := by decide +kernel
theorem dL_law_170 : decode cL_law 170 = .ok (.aload 7, 2) := by decide +kernel
theorem dL_law_172 : decode cL_law 172 = .ok (.invokestatic 170, 3) := by decide +kernel
theorem dL_law_175 : decode cL_law 175 = .ok (.ifCond .eq 31, 3) := by decide +kernel
theorem dL_law_178 : decode cL_law 178 = .ok (.goto 24, 3) := by decide +kernel
theorem dL_law_181 : decode cL_law 181 = .ok (.aload_n 1, 1) := by decide +kernel
theorem dL_law_182 : decode cL_law 182 = .ok (.iload 11, 2) := by decide +kernel
theorem dL_law_184 : decode cL_law 184 = .ok (.aload_n 2, 1) := by decide +kernel
theorem dL_law_185 : decode cL_law 185 = .ok (.aload_n 3, 1) := by decide +kernel
theorem dL_law_186 : decode cL_law 186 = .ok (.aload 4, 2) := by decide +kernel
theorem dL_law_188 : decode cL_law 188 = .ok (.aload 5, 2) := by decide +kernel
theorem dL_law_190 : decode cL_law 190 = .ok (.aload 6, 2) := by decide +kernel
theorem dL_law_192 : decode cL_law 192 = .ok (.aload 7, 2) := by decide +kernel
theorem dL_law_194 : decode cL_law 194 = .ok (.aload 8, 2) := by decide +kernel
theorem dL_law_196 : decode cL_law 196 = .ok (.invokestatic 174, 3) := by decide +kernel
theorem dL_law_199 : decode cL_law 199 = .ok (.ifCond .eq 7, 3) := by decide +kernel
theorem dL_law_202 : decode cL_law 202 = .ok (.iconst 1, 1) := by decide +kernel
theorem dL_law_203 : decode cL_law 203 = .ok (.goto 4, 3) := by decide +kernel
theorem dL_law_206 : decode cL_law 206 = .ok (.iconst 0, 1) := by decide +kernel
theorem dL_law_207 : decode cL_law 207 = .ok (.istore 13, 2) := by decide +kernel
theorem dL_law_209 : decode cL_law 209 = .ok (.iload 13, 2) := by decide +kernel
theorem dL_law_211 : decode cL_law 211 = .ok (.ifCond .ne 5, 3) := by decide +kernel
theorem dL_law_214 : decode cL_law 214 = .ok (.iconst 0, 1) := by decide +kernel
theorem dL_law_215 : decode cL_law 215 = .ok (.ireturn, 1) := by decide +kernel
theorem dL_law_216 : decode cL_law 216 = .ok (.iinc 9 1, 3) := by decide +kernel
theorem dL_law_219 : decode cL_law 219 = .ok (.goto (-135), 3) := by decide +kernel
theorem dL_law_222 : decode cL_law 222 = .ok (.iconst 1, 1) := by decide +kernel
theorem dL_law_223 : decode cL_law 223 = .ok (.ireturn, 1) := by decide +kernel
