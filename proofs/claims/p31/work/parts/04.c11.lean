theorem dL_tellsAll_613 : decode cL_tellsAll 613 = .ok (.aload 6, 2) := by decide +kernel
theorem dL_tellsAll_615 : decode cL_tellsAll 615 = .ok (.iconst 3, 1) := by decide +kernel
theorem dL_tellsAll_616 : decode cL_tellsAll 616 = .ok (.iaload, 1) := by decide +kernel
theorem dL_tellsAll_617 : decode cL_tellsAll 617 = .ok (.if_icmp .ge 8, 3) := by decide +kernel
theorem dL_tellsAll_620 : decode cL_tellsAll 620 = .ok (.iload 19, 2) := by decide +kernel
theorem dL_tellsAll_622 : decode cL_tellsAll 622 = .ok (.goto 5, 3) := by decide +kernel
theorem dL_tellsAll_625 : decode cL_tellsAll 625 = .ok (.bipush (-101), 2) := by decide +kernel
theorem dL_tellsAll_627 : decode cL_tellsAll 627 = .ok (.if_icmp .ne 38, 3) := by decide +kernel
theorem dL_tellsAll_630 : decode cL_tellsAll 630 = .ok (.aload_n 0, 1) := by decide +kernel
theorem dL_tellsAll_631 : decode cL_tellsAll 631 = .ok (.iconst 4, 1) := by decide +kernel
theorem dL_tellsAll_632 : decode cL_tellsAll 632 = .ok (.iload 13, 2) := by decide +kernel
theorem dL_tellsAll_634 : decode cL_tellsAll 634 = .ok (.iload 14, 2) := by decide +kernel
theorem dL_tellsAll_636 : decode cL_tellsAll 636 = .ok (.invokestatic 139, 3) := by decide +kernel
theorem dL_tellsAll_639 : decode cL_tellsAll 639 = .ok (.iload 13, 2) := by decide +kernel
theorem dL_tellsAll_641 : decode cL_tellsAll 641 = .ok (.iconst 2, 1) := by decide +kernel
theorem dL_tellsAll_642 : decode cL_tellsAll 642 = .ok (.if_icmp .le 8, 3) := by decide +kernel
theorem dL_tellsAll_645 : decode cL_tellsAll 645 = .ok (.bipush (-101), 2) := by decide +kernel
theorem dL_tellsAll_647 : decode cL_tellsAll 647 = .ok (.goto 15, 3) := by decide +kernel
theorem dL_tellsAll_650 : decode cL_tellsAll 650 = .ok (.iload 20, 2) := by decide +kernel
theorem dL_tellsAll_652 : decode cL_tellsAll 652 = .ok (.ifCond .ge 8, 3) := by decide +kernel
theorem dL_tellsAll_655 : decode cL_tellsAll 655 = .ok (.bipush (-102), 2) := by decide +kernel
theorem dL_tellsAll_657 : decode cL_tellsAll 657 = .ok (.goto 5, 3) := by decide +kernel
theorem dL_tellsAll_660 : decode cL_tellsAll 660 = .ok (.iload 20, 2) := by decide +kernel
theorem dL_tellsAll_662 : decode cL_tellsAll 662 = .ok (.if_icmp .eq 5, 3) := by decide +kernel
theorem dL_tellsAll_665 : decode cL_tellsAll 665 = .ok (.iconst 0, 1) := by decide +kernel
theorem dL_tellsAll_666 : decode cL_tellsAll 666 = .ok (.ireturn, 1) := by decide +kernel
theorem dL_tellsAll_667 : decode cL_tellsAll 667 = .ok (.iload_n 1, 1) := by decide +kernel
theorem dL_tellsAll_668 : decode cL_tellsAll 668 = .ok (.iconst 4, 1) := by decide +kernel
theorem dL_tellsAll_669 : decode cL_tellsAll 669 = .ok (.ishr, 1) := by decide +kernel
theorem dL_tellsAll_670 : decode cL_tellsAll 670 = .ok (.bipush 20, 2) := by decide +kernel
theorem dL_tellsAll_672 : decode cL_tellsAll 672 = .ok (.invokestatic 103, 3) := by decide +kernel
theorem dL_tellsAll_675 : decode cL_tellsAll 675 = .ok (.iconst 1, 1) := by decide +kernel
theorem dL_tellsAll_676 : decode cL_tellsAll 676 = .ok (.isub, 1) := by decide +kernel
theorem dL_tellsAll_677 : decode cL_tellsAll 677 = .ok (.istore 23, 2) := by decide +kernel
theorem dL_tellsAll_679 : decode cL_tellsAll 679 = .ok (.iconst 1, 1) := by decide +kernel
theorem dL_tellsAll_680 : decode cL_tellsAll 680 = .ok (.istore 24, 2) := by decide +kernel
theorem dL_tellsAll_682 : decode cL_tellsAll 682 = .ok (.iload 24, 2) := by decide +kernel
theorem dL_tellsAll_684 : decode cL_tellsAll 684 = .ok (.iconst 4, 1) := by decide +kernel
theorem dL_tellsAll_685 : decode cL_tellsAll 685 = .ok (.if_icmp .ge 55, 3) := by decide +kernel
theorem dL_tellsAll_688 : decode cL_tellsAll 688 = .ok (.aload_n 0, 1) := by decide +kernel
theorem dL_tellsAll_689 : decode cL_tellsAll 689 = .ok (.iload 24, 2) := by decide +kernel
theorem dL_tellsAll_691 : decode cL_tellsAll 691 = .ok (.iload 23, 2) := by decide +kernel
theorem dL_tellsAll_693 : decode cL_tellsAll 693 = .ok (.invokestatic 152, 3) := by decide +kernel
theorem dL_tellsAll_696 : decode cL_tellsAll 696 = .ok (.iload 23, 2) := by decide +kernel
theorem dL_tellsAll_698 : decode cL_tellsAll 698 = .ok (.ifCond .lt 29, 3) := by decide +kernel
theorem dL_tellsAll_701 : decode cL_tellsAll 701 = .ok (.iload 23, 2) := by decide +kernel
theorem dL_tellsAll_703 : decode cL_tellsAll 703 = .ok (.aload 6, 2) := by decide +kernel
theorem dL_tellsAll_705 : decode cL_tellsAll 705 = .ok (.iconst 4, 1) := by decide +kernel
theorem dL_tellsAll_706 : decode cL_tellsAll 706 = .ok (.iaload, 1) := by decide +kernel
theorem dL_tellsAll_707 : decode cL_tellsAll 707 = .ok (.if_icmp .ge 20, 3) := by decide +kernel
theorem dL_tellsAll_710 : decode cL_tellsAll 710 = .ok (.aload 8, 2) := by decide +kernel
theorem dL_tellsAll_712 : decode cL_tellsAll 712 = .ok (.bipush 20, 2) := by decide +kernel
theorem dL_tellsAll_714 : decode cL_tellsAll 714 = .ok (.iload 24, 2) := by decide +kernel
theorem dL_tellsAll_716 : decode cL_tellsAll 716 = .ok (.imul, 1) := by decide +kernel
theorem dL_tellsAll_717 : decode cL_tellsAll 717 = .ok (.bipush 20, 2) := by decide +kernel
theorem dL_tellsAll_719 : decode cL_tellsAll 719 = .ok (.isub, 1) := by decide +kernel
theorem dL_tellsAll_720 : decode cL_tellsAll 720 = .ok (.iload 23, 2) := by decide +kernel
theorem dL_tellsAll_722 : decode cL_tellsAll 722 = .ok (.iadd, 1) := by decide +kernel
theorem dL_tellsAll_723 : decode cL_tellsAll 723 = .ok (.iaload, 1) := by decide +kernel
theorem dL_tellsAll_724 : decode cL_tellsAll 724 = .ok (.goto 5, 3) := by decide +kernel
theorem dL_tellsAll_727 : decode cL_tellsAll 727 = .ok (.bipush (-101), 2) := by decide +kernel
theorem dL_tellsAll_729 : decode cL_tellsAll 729 = .ok (.if_icmp .eq 5, 3) := by decide +kernel
theorem dL_tellsAll_732 : decode cL_tellsAll 732 = .ok (.iconst 0, 1) := by decide +kernel
theorem dL_tellsAll_733 : decode cL_tellsAll 733 = .ok (.ireturn, 1) := by decide +kernel
theorem dL_tellsAll_734 : decode cL_tellsAll 734 = .ok (.iinc 24 1, 3) := by decide +kernel
theorem dL_tellsAll_737 : decode cL_tellsAll 737 = .ok (.goto (-55), 3) := by decide +kernel
theorem dL_tellsAll_740 : decode cL_tellsAll 740 = .ok (.aload_n 0, 1) := by decide +kernel
theorem dL_tellsAll_741 : decode cL_tellsAll 741 = .ok (.invokevirtual 155, 3) := by decide +kernel
theorem dL_tellsAll_744 : decode cL_tellsAll 744 = .ok (.aload 6, 2) := by decide +kernel
theorem dL_tellsAll_746 : decode cL_tellsAll 746 = .ok (.iconst 4, 1) := by decide +kernel
theorem dL_tellsAll_747 : decode cL_tellsAll 747 = .ok (.iaload, 1) := by decide +kernel
theorem dL_tellsAll_748 : decode cL_tellsAll 748 = .ok (.if_icmp .ne 18, 3) := by decide +kernel
theorem dL_tellsAll_751 : decode cL_tellsAll 751 = .ok (.aload_n 0, 1) := by decide +kernel
theorem dL_tellsAll_752 : decode cL_tellsAll 752 = .ok (.invokevirtual 158, 3) := by decide +kernel
theorem dL_tellsAll_755 : decode cL_tellsAll 755 = .ok (.aload 6, 2) := by decide +kernel
theorem dL_tellsAll_757 : decode cL_tellsAll 757 = .ok (.iconst 0, 1) := by decide +kernel
theorem dL_tellsAll_758 : decode cL_tellsAll 758 = .ok (.iaload, 1) := by decide +kernel
theorem dL_tellsAll_759 : decode cL_tellsAll 759 = .ok (.if_icmp .ne 7, 3) := by decide +kernel
theorem dL_tellsAll_762 : decode cL_tellsAll 762 = .ok (.iconst 1, 1) := by decide +kernel
theorem dL_tellsAll_763 : decode cL_tellsAll 763 = .ok (.goto 4, 3) := by decide +kernel
theorem dL_tellsAll_766 : decode cL_tellsAll 766 = .ok (.iconst 0, 1) := by decide +kernel
theorem dL_tellsAll_767 : decode cL_tellsAll 767 = .ok (.ireturn, 1) := by decide +kernel
set_option maxRecDepth 20000 in
theorem ggL_law_X4_init : GoodIn wsL_law wsX4_init := goodIn_r _ [6, 7, 8, 9, 3, 10, 11, 12, 13, 14, 15, 16, 17, 18, 19, 20, 21, 22, 23, 24, 25, 26, 27, 28, 29, 30, 31, 32, 33, 34, 35, 36, 37, 38, 39, 40, 41, 42, 43, 44, 45, 46, 47, 48, 49, 50, 51, 52, 53, 54, 55, 56, 57, 58, 59, 447, 448, 449, 450, 451, 452, 453, 454, 455, 456, 457, 458, 459, 460, 461, 462, 463, 464, 465, 466, 467, 468, 469, 470, 471, 472] (by decide +kernel) (by decide +kernel)
set_option maxRecDepth 20000 in
theorem gL_law_X4_init : GoodIn wsL_law (wsX4_init) := ggL_law_X4_init
set_option maxRecDepth 20000 in
theorem ggL_law_L_cell : GoodIn wsL_law wsL_cell := goodIn_r _ [63, 64] (by decide +kernel) (by decide +kernel)
set_option maxRecDepth 20000 in
theorem gL_law_L_cell : GoodIn wsL_law (va_wsS RL 162 yL_cell wsL_cell) := goodIn_app (goodIn_of _ (by decide +kernel)) ggL_law_L_cell
set_option maxRecDepth 20000 in
theorem ggL_law_L_some : GoodIn wsL_law wsL_some := goodIn_r _ [67] (by decide +kernel) (by decide +kernel)
set_option maxRecDepth 20000 in
theorem gL_law_L_some : GoodIn wsL_law (va_wsS RL 103 yL_some wsL_some) := goodIn_app (goodIn_of _ (by decide +kernel)) ggL_law_L_some
set_option maxRecDepth 20000 in
theorem ggL_law_L_acts : GoodIn wsL_law wsL_acts := goodIn_ca (goodIn_ca (goodIn_r _ [70, 3, 65, 66, 62, 67, 71, 72, 73, 74, 75, 76, 77, 78, 2, 79, 80, 81, 22, 14, 82, 83, 84, 85, 86, 87, 88, 89, 90, 91, 92, 93, 94, 95, 96, 97, 98, 21, 99, 52, 100, 101, 102, 13, 103, 36, 104, 105, 106, 107, 32, 33, 34, 35, 108, 109, 110, 111, 112, 113, 114, 10, 115, 116, 117, 118, 119, 120, 121, 122, 123, 124, 125, 126, 127, 128, 129, 130, 131, 132, 133, 134, 135, 136, 137, 138, 139, 140, 141, 142, 143, 144, 145, 146, 147, 148, 149, 150, 151, 152, 153, 154, 155, 156, 157, 158, 159, 160, 161, 162, 163, 164, 165, 166, 167, 168, 169, 170, 171, 172, 173, 174, 26, 175, 176, 177, 25, 178, 59, 179, 180, 181, 182, 183, 184, 185, 186, 187, 188, 189, 190, 56, 57, 58, 191, 192, 193, 194, 195, 196, 197, 198, 28, 199, 200, 201, 202, 203, 204, 205, 206, 207, 208, 209, 210, 18, 211, 212, 213, 17, 214, 44, 215, 216, 217, 218, 43, 45, 219, 220, 221, 222, 223, 224, 225, 226, 227, 228, 229, 230, 231, 232, 233, 234, 235, 41, 40, 236, 237, 238, 239, 42, 240, 241, 242, 243, 244, 245, 246, 247, 248, 249, 250, 251, 252, 253, 254, 255, 256, 257, 258, 259, 260, 261, 262, 263, 264, 265, 266, 267, 268, 269, 270, 271, 272, 273, 274, 275, 276, 277, 278, 279, 280, 281, 282, 283, 284, 285, 286, 287, 288, 289, 290, 291, 292, 293, 294, 295, 296, 297, 298, 299, 300, 301, 302, 303, 304, 305, 306, 307, 308, 309, 310, 311, 312, 313, 314, 315, 316, 317, 318, 319, 320, 321, 322, 323, 324, 325, 326, 327, 328, 329, 330, 49, 50, 51, 447, 448, 449, 450, 451, 452, 453, 465, 466, 467, 468, 454, 455, 456, 457, 458, 469, 470, 471, 472, 459, 460, 461, 462, 463, 464] rfl (by decide +kernel)) (goodIn_sub (fun _ h => List.mem_append_left _ (List.mem_append_left _ (List.mem_append_right _ h))) (by decide +kernel))) (goodIn_sub (fun _ h => List.mem_append_left _ (List.mem_append_right _ h)) (by decide +kernel))
set_option maxRecDepth 20000 in
theorem gL_law_L_acts : GoodIn wsL_law (va_wsS RL 166 yL_acts wsL_acts) := goodIn_app (goodIn_of _ (by decide +kernel)) ggL_law_L_acts
set_option maxRecDepth 20000 in
theorem ggL_law_L_tellsOf : GoodIn wsL_law wsL_tellsOf := goodIn_ca (goodIn_ca (goodIn_r _ [333, 3, 65, 66, 62, 67, 334, 335, 336, 299, 300, 301, 296, 297, 298, 160, 161, 162, 74, 163, 164, 165, 2, 166, 10, 82, 83, 84, 85, 86, 87, 88, 89, 167, 168, 169, 170, 171, 172, 173, 174, 26, 14, 175, 176, 177, 25, 178, 59, 133, 134, 135, 13, 136, 36, 137, 138, 139, 140, 32, 35, 179, 180, 181, 182, 183, 184, 185, 186, 33, 141, 142, 143, 144, 34, 187, 188, 189, 190, 56, 57, 58, 191, 192, 193, 194, 195, 196, 197, 198, 28, 199, 200, 201, 202, 203, 204, 205, 206, 207, 208, 209, 210, 18, 211, 212, 213, 17, 214, 44, 215, 216, 217, 218, 43, 45, 219, 220, 221, 222, 223, 224, 225, 226, 227, 228, 229, 230, 231, 232, 233, 234, 235, 41, 40, 236, 237, 238, 239, 42, 240, 120, 117, 121, 241, 242, 243, 244, 245, 246, 247, 248, 249, 250, 251, 252, 253, 254, 255, 256, 94, 95, 257, 258, 259, 260, 126, 127, 128, 145, 146, 147, 148, 93, 261, 262, 263, 264, 265, 266, 267, 268, 269, 270, 271, 272, 337, 338, 339, 340, 341, 342, 343, 344, 345, 346, 347, 348, 349, 350, 351, 352, 353, 354, 355, 356, 357, 358, 359, 360, 361, 362, 363, 364, 365, 366, 367, 368, 369, 370, 371, 372, 373, 374, 375, 376, 377, 378, 379, 380, 381, 382, 27, 383, 384, 385, 386, 387, 388, 389, 390, 305, 306, 307, 391, 392, 393, 447, 448, 449, 450, 451, 452, 453, 469, 470, 471, 472, 454, 455, 456, 457, 458, 459, 460, 461, 462, 463, 464] rfl (by decide +kernel)) (goodIn_sub (fun _ h => List.mem_append_left _ (List.mem_append_right _ h)) (by decide +kernel))) (goodIn_sub (fun _ h => List.mem_append_right _ h) (by decide +kernel))
set_option maxRecDepth 20000 in
theorem gL_law_L_tellsOf : GoodIn wsL_law (va_wsS RL 170 yL_tellsOf wsL_tellsOf) := goodIn_app (goodIn_of _ (by decide +kernel)) ggL_law_L_tellsOf
set_option maxRecDepth 20000 in
theorem ggL_law_L_tellsAll : GoodIn wsL_law wsL_tellsAll := goodIn_ca (goodIn_ca (goodIn_r _ [396, 3, 65, 66, 62, 67, 296, 297, 298, 299, 300, 301, 302, 303, 304, 391, 392, 393, 397, 398, 399, 334, 335, 336, 305, 306, 307, 400, 401, 402, 2, 403, 14, 10, 133, 134, 135, 13, 136, 36, 137, 138, 139, 140, 32, 35, 149, 150, 151, 152, 153, 154, 155, 160, 161, 162, 74, 163, 164, 165, 166, 82, 83, 84, 85, 86, 87, 88, 89, 167, 168, 169, 170, 171, 172, 173, 174, 26, 175, 176, 177, 25, 178, 59, 179, 180, 181, 182, 183, 184, 185, 186, 33, 141, 142, 143, 144, 34, 187, 188, 189, 190, 56, 57, 58, 191, 192, 193, 194, 195, 196, 197, 198, 28, 199, 200, 201, 202, 203, 204, 205, 206, 207, 208, 209, 210, 18, 211, 212, 213, 17, 214, 44, 215, 216, 217, 218, 43, 45, 219, 220, 221, 222, 223, 224, 225, 226, 227, 228, 229, 230, 231, 232, 233, 234, 235, 41, 40, 236, 237, 238, 239, 42, 240, 120, 117, 121, 241, 242, 243, 244, 245, 246, 247, 248, 249, 250, 251, 252, 253, 254, 255, 256, 94, 95, 257, 258, 259, 260, 126, 127, 128, 145, 146, 147, 148, 93, 261, 262, 263, 264, 265, 266, 267, 268, 269, 270, 271, 272, 108, 109, 110, 111, 112, 113, 114, 115, 116, 118, 119, 122, 123, 124, 125, 129, 130, 131, 132, 156, 157, 158, 159, 404, 405, 406, 340, 407, 408, 409, 410, 411, 412, 413, 414, 345, 346, 347, 348, 349, 415, 416, 417, 418, 22, 96, 97, 98, 21, 99, 52, 419, 420, 421, 422, 49, 423, 424, 425, 426, 427, 428, 429, 430, 50, 431, 432, 433, 434, 435, 436, 437, 438, 51, 337, 338, 339, 341, 342, 343, 344, 350, 351, 352, 353, 354, 355, 356, 357, 358, 359, 360, 361, 362, 363, 364, 365, 366, 367, 368, 369, 370, 371, 372, 373, 374, 375, 376, 377, 378, 379, 380, 381, 382, 27, 383, 384, 385, 386, 387, 388, 389, 390, 439, 440, 441, 442, 443, 444, 445, 446, 447, 448, 449, 450, 451, 452, 453, 454, 455, 456, 457, 458, 469, 470, 471, 472, 459, 460, 461, 462, 463, 464, 465, 466, 467, 468] rfl (by decide +kernel)) (goodIn_sub (fun _ h => List.mem_append_left _ (List.mem_append_right _ h)) (by decide +kernel))) (goodIn_sub (fun _ h => List.mem_append_right _ h) (by decide +kernel))
set_option maxRecDepth 20000 in
theorem gL_law_L_tellsAll : GoodIn wsL_law (va_wsS RL 174 yL_tellsAll wsL_tellsAll) := goodIn_app (goodIn_of _ (by decide +kernel)) ggL_law_L_tellsAll
theorem dL_law_0 : decode cL_law 0 = .ok (.new 20, 3) := by decide +kernel
theorem dL_law_3 : decode cL_law 3 = .ok (.dup, 1) := by decide +kernel
theorem dL_law_4 : decode cL_law 4 = .ok (.invokespecial 161, 3) := by decide +kernel
theorem dL_law_7 : decode cL_law 7 = .ok (.astore_n 1, 1) := by decide +kernel
