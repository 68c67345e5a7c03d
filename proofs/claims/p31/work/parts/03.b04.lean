theorem dX4_scoreOf_10 : decode cX4_scoreOf 10 = .ok (.ifCond .ne 5, 3) := by decide +kernel
theorem dX4_scoreOf_13 : decode cX4_scoreOf 13 = .ok (.iconst (-1), 1) := by decide +kernel
theorem dX4_scoreOf_14 : decode cX4_scoreOf 14 = .ok (.ireturn, 1) := by decide +kernel
theorem dX4_scoreOf_15 : decode cX4_scoreOf 15 = .ok (.iload_n 2, 1) := by decide +kernel
theorem dX4_scoreOf_16 : decode cX4_scoreOf 16 = .ok (.ifCond .ne 8, 3) := by decide +kernel
theorem dX4_scoreOf_19 : decode cX4_scoreOf 19 = .ok (.aload_n 3, 1) := by decide +kernel
theorem dX4_scoreOf_20 : decode cX4_scoreOf 20 = .ok (.invokevirtual 108, 3) := by decide +kernel
theorem dX4_scoreOf_23 : decode cX4_scoreOf 23 = .ok (.ireturn, 1) := by decide +kernel
theorem dX4_scoreOf_24 : decode cX4_scoreOf 24 = .ok (.iload_n 2, 1) := by decide +kernel
theorem dX4_scoreOf_25 : decode cX4_scoreOf 25 = .ok (.iconst 1, 1) := by decide +kernel
theorem dX4_scoreOf_26 : decode cX4_scoreOf 26 = .ok (.if_icmp .ne 14, 3) := by decide +kernel
theorem dX4_scoreOf_29 : decode cX4_scoreOf 29 = .ok (.aload_n 3, 1) := by decide +kernel
theorem dX4_scoreOf_30 : decode cX4_scoreOf 30 = .ok (.aload_n 0, 1) := by decide +kernel
theorem dX4_scoreOf_31 : decode cX4_scoreOf 31 = .ok (.getfield 44, 3) := by decide +kernel
theorem dX4_scoreOf_34 : decode cX4_scoreOf 34 = .ok (.invokevirtual 116, 3) := by decide +kernel
theorem dX4_scoreOf_37 : decode cX4_scoreOf 37 = .ok (.goto 11, 3) := by decide +kernel
theorem dX4_scoreOf_40 : decode cX4_scoreOf 40 = .ok (.aload_n 0, 1) := by decide +kernel
theorem dX4_scoreOf_41 : decode cX4_scoreOf 41 = .ok (.getfield 23, 3) := by decide +kernel
theorem dX4_scoreOf_44 : decode cX4_scoreOf 44 = .ok (.aload_n 3, 1) := by decide +kernel
theorem dX4_scoreOf_45 : decode cX4_scoreOf 45 = .ok (.invokevirtual 140, 3) := by decide +kernel
theorem dX4_scoreOf_48 : decode cX4_scoreOf 48 = .ok (.ireturn, 1) := by decide +kernel
theorem dX4_usersAheadOf_0 : decode cX4_usersAheadOf 0 = .ok (.iconst 0, 1) := by decide +kernel
theorem dX4_usersAheadOf_1 : decode cX4_usersAheadOf 1 = .ok (.istore_n 2, 1) := by decide +kernel
theorem dX4_usersAheadOf_2 : decode cX4_usersAheadOf 2 = .ok (.iconst 0, 1) := by decide +kernel
theorem dX4_usersAheadOf_3 : decode cX4_usersAheadOf 3 = .ok (.istore_n 3, 1) := by decide +kernel
theorem dX4_usersAheadOf_4 : decode cX4_usersAheadOf 4 = .ok (.iload_n 3, 1) := by decide +kernel
theorem dX4_usersAheadOf_5 : decode cX4_usersAheadOf 5 = .ok (.bipush 20, 2) := by decide +kernel
theorem dX4_usersAheadOf_7 : decode cX4_usersAheadOf 7 = .ok (.if_icmp .ge 47, 3) := by decide +kernel
theorem dX4_usersAheadOf_10 : decode cX4_usersAheadOf 10 = .ok (.aload_n 0, 1) := by decide +kernel
theorem dX4_usersAheadOf_11 : decode cX4_usersAheadOf 11 = .ok (.getfield 41, 3) := by decide +kernel
theorem dX4_usersAheadOf_14 : decode cX4_usersAheadOf 14 = .ok (.iload_n 3, 1) := by decide +kernel
theorem dX4_usersAheadOf_15 : decode cX4_usersAheadOf 15 = .ok (.iaload, 1) := by decide +kernel
theorem dX4_usersAheadOf_16 : decode cX4_usersAheadOf 16 = .ok (.aload_n 0, 1) := by decide +kernel
theorem dX4_usersAheadOf_17 : decode cX4_usersAheadOf 17 = .ok (.getfield 41, 3) := by decide +kernel
theorem dX4_usersAheadOf_20 : decode cX4_usersAheadOf 20 = .ok (.iload_n 1, 1) := by decide +kernel
theorem dX4_usersAheadOf_21 : decode cX4_usersAheadOf 21 = .ok (.iaload, 1) := by decide +kernel
theorem dX4_usersAheadOf_22 : decode cX4_usersAheadOf 22 = .ok (.if_icmp .gt 23, 3) := by decide +kernel
theorem dX4_usersAheadOf_25 : decode cX4_usersAheadOf 25 = .ok (.aload_n 0, 1) := by decide +kernel
theorem dX4_usersAheadOf_26 : decode cX4_usersAheadOf 26 = .ok (.getfield 41, 3) := by decide +kernel
theorem dX4_usersAheadOf_29 : decode cX4_usersAheadOf 29 = .ok (.iload_n 3, 1) := by decide +kernel
theorem dX4_usersAheadOf_30 : decode cX4_usersAheadOf 30 = .ok (.iaload, 1) := by decide +kernel
theorem dX4_usersAheadOf_31 : decode cX4_usersAheadOf 31 = .ok (.aload_n 0, 1) := by decide +kernel
theorem dX4_usersAheadOf_32 : decode cX4_usersAheadOf 32 = .ok (.getfield 41, 3) := by decide +kernel
theorem dX4_usersAheadOf_35 : decode cX4_usersAheadOf 35 = .ok (.iload_n 1, 1) := by decide +kernel
theorem dX4_usersAheadOf_36 : decode cX4_usersAheadOf 36 = .ok (.iaload, 1) := by decide +kernel
theorem dX4_usersAheadOf_37 : decode cX4_usersAheadOf 37 = .ok (.if_icmp .ne 11, 3) := by decide +kernel
theorem dX4_usersAheadOf_40 : decode cX4_usersAheadOf 40 = .ok (.iload_n 3, 1) := by decide +kernel
theorem dX4_usersAheadOf_41 : decode cX4_usersAheadOf 41 = .ok (.iload_n 1, 1) := by decide +kernel
theorem dX4_usersAheadOf_42 : decode cX4_usersAheadOf 42 = .ok (.if_icmp .ge 6, 3) := by decide +kernel
theorem dX4_usersAheadOf_45 : decode cX4_usersAheadOf 45 = .ok (.iinc 2 1, 3) := by decide +kernel
theorem dX4_usersAheadOf_48 : decode cX4_usersAheadOf 48 = .ok (.iinc 3 1, 3) := by decide +kernel
theorem dX4_usersAheadOf_51 : decode cX4_usersAheadOf 51 = .ok (.goto (-47), 3) := by decide +kernel
theorem dX4_usersAheadOf_54 : decode cX4_usersAheadOf 54 = .ok (.iload_n 2, 1) := by decide +kernel
theorem dX4_usersAheadOf_55 : decode cX4_usersAheadOf 55 = .ok (.ireturn, 1) := by decide +kernel
theorem dJ6_bitCount_0f7a4_0 : decode cJ6_bitCount_0f7a4 0 = .ok (.iload_n 0, 1) := by decide +kernel
theorem dJ6_bitCount_0f7a4_1 : decode cJ6_bitCount_0f7a4 1 = .ok (.iload_n 0, 1) := by decide +kernel
theorem dJ6_bitCount_0f7a4_2 : decode cJ6_bitCount_0f7a4 2 = .ok (.iconst 1, 1) := by decide +kernel
theorem dJ6_bitCount_0f7a4_3 : decode cJ6_bitCount_0f7a4 3 = .ok (.iushr, 1) := by decide +kernel
theorem dJ6_bitCount_0f7a4_4 : decode cJ6_bitCount_0f7a4 4 = .ok (.ldc_w 265, 3) := by decide +kernel
theorem dJ6_bitCount_0f7a4_7 : decode cJ6_bitCount_0f7a4 7 = .ok (.iand, 1) := by decide +kernel
theorem dJ6_bitCount_0f7a4_8 : decode cJ6_bitCount_0f7a4 8 = .ok (.isub, 1) := by decide +kernel
theorem dJ6_bitCount_0f7a4_9 : decode cJ6_bitCount_0f7a4 9 = .ok (.istore_n 0, 1) := by decide +kernel
theorem dJ6_bitCount_0f7a4_10 : decode cJ6_bitCount_0f7a4 10 = .ok (.iload_n 0, 1) := by decide +kernel
theorem dJ6_bitCount_0f7a4_11 : decode cJ6_bitCount_0f7a4 11 = .ok (.ldc_w 266, 3) := by decide +kernel
theorem dJ6_bitCount_0f7a4_14 : decode cJ6_bitCount_0f7a4 14 = .ok (.iand, 1) := by decide +kernel
theorem dJ6_bitCount_0f7a4_15 : decode cJ6_bitCount_0f7a4 15 = .ok (.iload_n 0, 1) := by decide +kernel
theorem dJ6_bitCount_0f7a4_16 : decode cJ6_bitCount_0f7a4 16 = .ok (.iconst 2, 1) := by decide +kernel
theorem dJ6_bitCount_0f7a4_17 : decode cJ6_bitCount_0f7a4 17 = .ok (.iushr, 1) := by decide +kernel
theorem dJ6_bitCount_0f7a4_18 : decode cJ6_bitCount_0f7a4 18 = .ok (.ldc_w 266, 3) := by decide +kernel
theorem dJ6_bitCount_0f7a4_21 : decode cJ6_bitCount_0f7a4 21 = .ok (.iand, 1) := by decide +kernel
theorem dJ6_bitCount_0f7a4_22 : decode cJ6_bitCount_0f7a4 22 = .ok (.iadd, 1) := by decide +kernel
theorem dJ6_bitCount_0f7a4_23 : decode cJ6_bitCount_0f7a4 23 = .ok (.istore_n 0, 1) := by decide +kernel
theorem dJ6_bitCount_0f7a4_24 : decode cJ6_bitCount_0f7a4 24 = .ok (.iload_n 0, 1) := by decide +kernel
theorem dJ6_bitCount_0f7a4_25 : decode cJ6_bitCount_0f7a4 25 = .ok (.iload_n 0, 1) := by decide +kernel
theorem dJ6_bitCount_0f7a4_26 : decode cJ6_bitCount_0f7a4 26 = .ok (.iconst 4, 1) := by decide +kernel
theorem dJ6_bitCount_0f7a4_27 : decode cJ6_bitCount_0f7a4 27 = .ok (.iushr, 1) := by decide +kernel
theorem dJ6_bitCount_0f7a4_28 : decode cJ6_bitCount_0f7a4 28 = .ok (.iadd, 1) := by decide +kernel
theorem dJ6_bitCount_0f7a4_29 : decode cJ6_bitCount_0f7a4 29 = .ok (.ldc_w 267, 3) := by decide +kernel
theorem dJ6_bitCount_0f7a4_32 : decode cJ6_bitCount_0f7a4 32 = .ok (.iand, 1) := by decide +kernel
theorem dJ6_bitCount_0f7a4_33 : decode cJ6_bitCount_0f7a4 33 = .ok (.istore_n 0, 1) := by decide +kernel
theorem dJ6_bitCount_0f7a4_34 : decode cJ6_bitCount_0f7a4 34 = .ok (.iload_n 0, 1) := by decide +kernel
theorem dJ6_bitCount_0f7a4_35 : decode cJ6_bitCount_0f7a4 35 = .ok (.iload_n 0, 1) := by decide +kernel
theorem dJ6_bitCount_0f7a4_36 : decode cJ6_bitCount_0f7a4 36 = .ok (.bipush 8, 2) := by decide +kernel
theorem dJ6_bitCount_0f7a4_38 : decode cJ6_bitCount_0f7a4 38 = .ok (.iushr, 1) := by decide +kernel
theorem dJ6_bitCount_0f7a4_39 : decode cJ6_bitCount_0f7a4 39 = .ok (.iadd, 1) := by decide +kernel
theorem dJ6_bitCount_0f7a4_40 : decode cJ6_bitCount_0f7a4 40 = .ok (.istore_n 0, 1) := by decide +kernel
theorem dJ6_bitCount_0f7a4_41 : decode cJ6_bitCount_0f7a4 41 = .ok (.iload_n 0, 1) := by decide +kernel
theorem dJ6_bitCount_0f7a4_42 : decode cJ6_bitCount_0f7a4 42 = .ok (.iload_n 0, 1) := by decide +kernel
theorem dJ6_bitCount_0f7a4_43 : decode cJ6_bitCount_0f7a4 43 = .ok (.bipush 16, 2) := by decide +kernel
theorem dJ6_bitCount_0f7a4_45 : decode cJ6_bitCount_0f7a4 45 = .ok (.iushr, 1) := by decide +kernel
theorem dJ6_bitCount_0f7a4_46 : decode cJ6_bitCount_0f7a4 46 = .ok (.iadd, 1) := by decide +kernel
theorem dJ6_bitCount_0f7a4_47 : decode cJ6_bitCount_0f7a4 47 = .ok (.istore_n 0, 1) := by decide +kernel
theorem dJ6_bitCount_0f7a4_48 : decode cJ6_bitCount_0f7a4 48 = .ok (.iload_n 0, 1) := by decide +kernel
theorem dJ6_bitCount_0f7a4_49 : decode cJ6_bitCount_0f7a4 49 = .ok (.bipush 63, 2) := by decide +kernel
theorem dJ6_bitCount_0f7a4_51 : decode cJ6_bitCount_0f7a4 51 = .ok (.iand, 1) := by decide +kernel
theorem dJ6_bitCount_0f7a4_52 : decode cJ6_bitCount_0f7a4 52 = .ok (.ireturn, 1) := by decide +kernel
theorem dJ9_max_7cf53_0 : decode cJ9_max_7cf53 0 = .ok (.iload_n 0, 1) := by decide +kernel
theorem dJ9_max_7cf53_1 : decode cJ9_max_7cf53 1 = .ok (.iload_n 1, 1) := by decide +kernel
theorem dJ9_max_7cf53_2 : decode cJ9_max_7cf53 2 = .ok (.if_icmp .lt 7, 3) := by decide +kernel
theorem dJ9_max_7cf53_5 : decode cJ9_max_7cf53 5 = .ok (.iload_n 0, 1) := by decide +kernel
theorem dJ9_max_7cf53_6 : decode cJ9_max_7cf53 6 = .ok (.goto 4, 3) := by decide +kernel
theorem dJ9_max_7cf53_9 : decode cJ9_max_7cf53 9 = .ok (.iload_n 1, 1) := by decide +kernel
theorem dJ9_max_7cf53_10 : decode cJ9_max_7cf53 10 = .ok (.ireturn, 1) := by decide +kernel
theorem dJ9_min_7cf53_0 : decode cJ9_min_7cf53 0 = .ok (.iload_n 0, 1) := by decide +kernel
theorem dJ9_min_7cf53_1 : decode cJ9_min_7cf53 1 = .ok (.iload_n 1, 1) := by decide +kernel
theorem dJ9_min_7cf53_2 : decode cJ9_min_7cf53 2 = .ok (.if_icmp .gt 7, 3) := by decide +kernel
theorem dJ9_min_7cf53_5 : decode cJ9_min_7cf53 5 = .ok (.iload_n 0, 1) := by decide +kernel
theorem dJ9_min_7cf53_6 : decode cJ9_min_7cf53 6 = .ok (.goto 4, 3) := by decide +kernel
theorem dJ9_min_7cf53_9 : decode cJ9_min_7cf53 9 = .ok (.iload_n 1, 1) := by decide +kernel
theorem dJ9_min_7cf53_10 : decode cJ9_min_7cf53 10 = .ok (.ireturn, 1) := by decide +kernel
theorem dJ7_fill_53178_0 : decode cJ7_fill_53178 0 = .ok (.iconst 0, 1) := by decide +kernel
theorem dJ7_fill_53178_1 : decode cJ7_fill_53178 1 = .ok (.istore_n 2, 1) := by decide +kernel
theorem dJ7_fill_53178_2 : decode cJ7_fill_53178 2 = .ok (.aload_n 0, 1) := by decide +kernel
theorem dJ7_fill_53178_3 : decode cJ7_fill_53178 3 = .ok (.arraylength, 1) := by decide +kernel
theorem dJ7_fill_53178_4 : decode cJ7_fill_53178 4 = .ok (.istore_n 3, 1) := by decide +kernel
theorem dJ7_fill_53178_5 : decode cJ7_fill_53178 5 = .ok (.iload_n 2, 1) := by decide +kernel
theorem dJ7_fill_53178_6 : decode cJ7_fill_53178 6 = .ok (.iload_n 3, 1) := by decide +kernel
theorem dJ7_fill_53178_7 : decode cJ7_fill_53178 7 = .ok (.if_icmp .ge 13, 3) := by decide +kernel
theorem dJ7_fill_53178_10 : decode cJ7_fill_53178 10 = .ok (.aload_n 0, 1) := by decide +kernel
theorem dJ7_fill_53178_11 : decode cJ7_fill_53178 11 = .ok (.iload_n 2, 1) := by decide +kernel
theorem dJ7_fill_53178_12 : decode cJ7_fill_53178 12 = .ok (.iload_n 1, 1) := by decide +kernel
theorem dJ7_fill_53178_13 : decode cJ7_fill_53178 13 = .ok (.iastore, 1) := by decide +kernel
theorem dJ7_fill_53178_14 : decode cJ7_fill_53178 14 = .ok (.iinc 2 1, 3) := by decide +kernel
theorem dJ7_fill_53178_17 : decode cJ7_fill_53178 17 = .ok (.goto (-12), 3) := by decide +kernel
theorem dJ7_fill_53178_20 : decode cJ7_fill_53178 20 = .ok (.return_, 1) := by decide +kernel
theorem dL_cell_0 : decode cL_cell 0 = .ok (.iload_n 1, 1) := by decide +kernel
theorem dL_cell_1 : decode cL_cell 1 = .ok (.aload_n 0, 1) := by decide +kernel
theorem dL_cell_2 : decode cL_cell 2 = .ok (.arraylength, 1) := by decide +kernel
theorem dL_cell_3 : decode cL_cell 3 = .ok (.if_icmp .ge 9, 3) := by decide +kernel
theorem dL_cell_6 : decode cL_cell 6 = .ok (.aload_n 0, 1) := by decide +kernel
theorem dL_cell_7 : decode cL_cell 7 = .ok (.iload_n 1, 1) := by decide +kernel
theorem dL_cell_8 : decode cL_cell 8 = .ok (.iaload, 1) := by decide +kernel
theorem dL_cell_9 : decode cL_cell 9 = .ok (.goto 16, 3) := by decide +kernel
theorem dL_cell_12 : decode cL_cell 12 = .ok (.ldc2_w 7, 3) := by decide +kernel
theorem dL_cell_15 : decode cL_cell 15 = .ok (.iload_n 1, 1) := by decide +kernel
theorem dL_cell_16 : decode cL_cell 16 = .ok (.bipush 6, 2) := by decide +kernel
theorem dL_cell_18 : decode cL_cell 18 = .ok (.iadd, 1) := by decide +kernel
theorem dL_cell_19 : decode cL_cell 19 = .ok (.i2l, 1) := by decide +kernel
theorem dL_cell_20 : decode cL_cell 20 = .ok (.lmul, 1) := by decide +kernel
theorem dL_cell_21 : decode cL_cell 21 = .ok (.bipush 6, 2) := by decide +kernel
theorem dL_cell_23 : decode cL_cell 23 = .ok (.lushr, 1) := by decide +kernel
theorem dL_cell_24 : decode cL_cell 24 = .ok (.l2i, 1) := by decide +kernel
theorem dL_cell_25 : decode cL_cell 25 = .ok (.ireturn, 1) := by decide +kernel
theorem dL_some_0 : decode cL_some 0 = .ok (.iload_n 0, 1) := by decide +kernel
theorem dL_some_1 : decode cL_some 1 = .ok (.iconst 2, 1) := by decide +kernel
theorem dL_some_2 : decode cL_some 2 = .ok (.iushr, 1) := by decide +kernel
theorem dL_some_3 : decode cL_some 3 = .ok (.iload_n 1, 1) := by decide +kernel
theorem dL_some_4 : decode cL_some 4 = .ok (.irem, 1) := by decide +kernel
theorem dL_some_5 : decode cL_some 5 = .ok (.ireturn, 1) := by decide +kernel
theorem dL_isOf_0 : decode cL_isOf 0 = .ok (.aload_n 0, 1) := by decide +kernel
theorem dL_isOf_1 : decode cL_isOf 1 = .ok (.aload_n 1, 1) := by decide +kernel
theorem dL_isOf_2 : decode cL_isOf 2 = .ok (.iload_n 2, 1) := by decide +kernel
theorem dL_isOf_3 : decode cL_isOf 3 = .ok (.iaload, 1) := by decide +kernel
theorem dL_isOf_4 : decode cL_isOf 4 = .ok (.iaload, 1) := by decide +kernel
theorem dL_isOf_5 : decode cL_isOf 5 = .ok (.iload_n 3, 1) := by decide +kernel
theorem dL_isOf_6 : decode cL_isOf 6 = .ok (.if_icmp .ne 7, 3) := by decide +kernel
theorem dL_isOf_9 : decode cL_isOf 9 = .ok (.iconst 1, 1) := by decide +kernel
theorem dL_isOf_10 : decode cL_isOf 10 = .ok (.goto 4, 3) := by decide +kernel
theorem dL_isOf_13 : decode cL_isOf 13 = .ok (.iconst 0, 1) := by decide +kernel
theorem dL_isOf_14 : decode cL_isOf 14 = .ok (.ireturn, 1) := by decide +kernel
set_option maxRecDepth 20000 in
theorem ggL_next_L_isOf : GoodIn wsL_next wsL_isOf := goodIn_r _ [4] (by decide +kernel) (by decide +kernel)
set_option maxRecDepth 20000 in
theorem gL_next_L_isOf : GoodIn wsL_next (va_wsS RL 9 yL_isOf wsL_isOf) := goodIn_app (goodIn_of _ (by decide +kernel)) ggL_next_L_isOf
theorem dL_next_0 : decode cL_next 0 = .ok (.iconst (-1), 1) := by decide +kernel
theorem dL_next_1 : decode cL_next 1 = .ok (.istore 6, 2) := by decide +kernel
theorem dL_next_3 : decode cL_next 3 = .ok (.iconst 0, 1) := by decide +kernel
theorem dL_next_4 : decode cL_next 4 = .ok (.istore 7, 2) := by decide +kernel
theorem dL_next_6 : decode cL_next 6 = .ok (.iload 7, 2) := by decide +kernel
theorem dL_next_8 : decode cL_next 8 = .ok (.aload_n 3, 1) := by decide +kernel
theorem dL_next_9 : decode cL_next 9 = .ok (.iconst 0, 1) := by decide +kernel
theorem dL_next_10 : decode cL_next 10 = .ok (.iaload, 1) := by decide +kernel
theorem dL_next_11 : decode cL_next 11 = .ok (.if_icmp .ge 87, 3) := by decide +kernel
theorem dL_next_14 : decode cL_next 14 = .ok (.iload 5, 2) := by decide +kernel
theorem dL_next_16 : decode cL_next 16 = .ok (.ifCond .lt 32, 3) := by decide +kernel
theorem dL_next_19 : decode cL_next 19 = .ok (.aload_n 2, 1) := by decide +kernel
theorem dL_next_20 : decode cL_next 20 = .ok (.iload 7, 2) := by decide +kernel
theorem dL_next_22 : decode cL_next 22 = .ok (.iaload, 1) := by decide +kernel
theorem dL_next_23 : decode cL_next 23 = .ok (.aload_n 2, 1) := by decide +kernel
theorem dL_next_24 : decode cL_next 24 = .ok (.iload 5, 2) := by decide +kernel
theorem dL_next_26 : decode cL_next 26 = .ok (.iaload, 1) := by decide +kernel
theorem dL_next_27 : decode cL_next 27 = .ok (.if_icmp .gt 21, 3) := by decide +kernel
theorem dL_next_30 : decode cL_next 30 = .ok (.aload_n 2, 1) := by decide +kernel
theorem dL_next_31 : decode cL_next 31 = .ok (.iload 7, 2) := by decide +kernel
theorem dL_next_33 : decode cL_next 33 = .ok (.iaload, 1) := by decide +kernel
theorem dL_next_34 : decode cL_next 34 = .ok (.aload_n 2, 1) := by decide +kernel
theorem dL_next_35 : decode cL_next 35 = .ok (.iload 5, 2) := by decide +kernel
theorem dL_next_37 : decode cL_next 37 = .ok (.iaload, 1) := by decide +kernel
theorem dL_next_38 : decode cL_next 38 = .ok (.if_icmp .ne 14, 3) := by decide +kernel
theorem dL_next_41 : decode cL_next 41 = .ok (.iload 7, 2) := by decide +kernel
theorem dL_next_43 : decode cL_next 43 = .ok (.iload 5, 2) := by decide +kernel
theorem dL_next_45 : decode cL_next 45 = .ok (.if_icmp .le 7, 3) := by decide +kernel
theorem dL_next_48 : decode cL_next 48 = .ok (.iconst 1, 1) := by decide +kernel
theorem dL_next_49 : decode cL_next 49 = .ok (.goto 4, 3) := by decide +kernel
theorem dL_next_52 : decode cL_next 52 = .ok (.iconst 0, 1) := by decide +kernel
theorem dL_next_53 : decode cL_next 53 = .ok (.istore 8, 2) := by decide +kernel
theorem dL_next_55 : decode cL_next 55 = .ok (.aload_n 0, 1) := by decide +kernel
theorem dL_next_56 : decode cL_next 56 = .ok (.aload_n 1, 1) := by decide +kernel
theorem dL_next_57 : decode cL_next 57 = .ok (.iload 7, 2) := by decide +kernel
theorem dL_next_59 : decode cL_next 59 = .ok (.iload 4, 2) := by decide +kernel
theorem dL_next_61 : decode cL_next 61 = .ok (.invokestatic 9, 3) := by decide +kernel
theorem dL_next_64 : decode cL_next 64 = .ok (.ifCond .eq 28, 3) := by decide +kernel
theorem dL_next_67 : decode cL_next 67 = .ok (.iload 8, 2) := by decide +kernel
theorem dL_next_69 : decode cL_next 69 = .ok (.ifCond .eq 23, 3) := by decide +kernel
theorem dL_next_72 : decode cL_next 72 = .ok (.iload 6, 2) := by decide +kernel
theorem dL_next_74 : decode cL_next 74 = .ok (.ifCond .lt 14, 3) := by decide +kernel
theorem dL_next_77 : decode cL_next 77 = .ok (.aload_n 2, 1) := by decide +kernel
theorem dL_next_78 : decode cL_next 78 = .ok (.iload 7, 2) := by decide +kernel
theorem dL_next_80 : decode cL_next 80 = .ok (.iaload, 1) := by decide +kernel
theorem dL_next_81 : decode cL_next 81 = .ok (.aload_n 2, 1) := by decide +kernel
theorem dL_next_82 : decode cL_next 82 = .ok (.iload 6, 2) := by decide +kernel
theorem dL_next_84 : decode cL_next 84 = .ok (.iaload, 1) := by decide +kernel
theorem dL_next_85 : decode cL_next 85 = .ok (.if_icmp .ge 7, 3) := by decide +kernel
theorem dL_next_88 : decode cL_next 88 = .ok (.iload 7, 2) := by decide +kernel
theorem dL_next_90 : decode cL_next 90 = .ok (.istore 6, 2) := by decide +kernel
theorem dL_next_92 : decode cL_next 92 = .ok (.iinc 7 1, 3) := by decide +kernel
theorem dL_next_95 : decode cL_next 95 = .ok (.goto (-89), 3) := by decide +kernel
theorem dL_next_98 : decode cL_next 98 = .ok (.iload 6, 2) := by decide +kernel
theorem dL_next_100 : decode cL_next 100 = .ok (.ireturn, 1) := by decide +kernel
set_option maxRecDepth 20000 in
theorem ggL_sessions_L_next : GoodIn wsL_sessions wsL_next := goodIn_r _ [4, 5, 6, 3, 7] (by decide +kernel) (by decide +kernel)
set_option maxRecDepth 20000 in
theorem gL_sessions_L_next : GoodIn wsL_sessions (va_wsS RL 15 yL_next wsL_next) := goodIn_app (goodIn_of _ (by decide +kernel)) ggL_sessions_L_next
theorem dL_sessions_0 : decode cL_sessions 0 = .ok (.iconst 0, 1) := by decide +kernel
theorem dL_sessions_1 : decode cL_sessions 1 = .ok (.istore 7, 2) := by decide +kernel
theorem dL_sessions_3 : decode cL_sessions 3 = .ok (.iconst (-1), 1) := by decide +kernel
theorem dL_sessions_4 : decode cL_sessions 4 = .ok (.istore 8, 2) := by decide +kernel
theorem dL_sessions_6 : decode cL_sessions 6 = .ok (.aload 6, 2) := by decide +kernel
theorem dL_sessions_8 : decode cL_sessions 8 = .ok (.iconst 0, 1) := by decide +kernel
theorem dL_sessions_9 : decode cL_sessions 9 = .ok (.iconst 0, 1) := by decide +kernel
theorem dL_sessions_10 : decode cL_sessions 10 = .ok (.iastore, 1) := by decide +kernel
theorem dL_sessions_11 : decode cL_sessions 11 = .ok (.aload_n 0, 1) := by decide +kernel
theorem dL_sessions_12 : decode cL_sessions 12 = .ok (.aload_n 1, 1) := by decide +kernel
theorem dL_sessions_13 : decode cL_sessions 13 = .ok (.aload_n 2, 1) := by decide +kernel
theorem dL_sessions_14 : decode cL_sessions 14 = .ok (.aload_n 3, 1) := by decide +kernel
theorem dL_sessions_15 : decode cL_sessions 15 = .ok (.iload 4, 2) := by decide +kernel
theorem dL_sessions_17 : decode cL_sessions 17 = .ok (.iconst (-1), 1) := by decide +kernel
theorem dL_sessions_18 : decode cL_sessions 18 = .ok (.invokestatic 15, 3) := by decide +kernel
theorem dL_sessions_21 : decode cL_sessions 21 = .ok (.istore 9, 2) := by decide +kernel
theorem dL_sessions_23 : decode cL_sessions 23 = .ok (.iload 9, 2) := by decide +kernel
theorem dL_sessions_25 : decode cL_sessions 25 = .ok (.ifCond .lt 100, 3) := by decide +kernel
theorem dL_sessions_28 : decode cL_sessions 28 = .ok (.iload 8, 2) := by decide +kernel
theorem dL_sessions_30 : decode cL_sessions 30 = .ok (.ifCond .lt 18, 3) := by decide +kernel
theorem dL_sessions_33 : decode cL_sessions 33 = .ok (.aload_n 2, 1) := by decide +kernel
theorem dL_sessions_34 : decode cL_sessions 34 = .ok (.iload 9, 2) := by decide +kernel
theorem dL_sessions_36 : decode cL_sessions 36 = .ok (.iaload, 1) := by decide +kernel
theorem dL_sessions_37 : decode cL_sessions 37 = .ok (.aload_n 2, 1) := by decide +kernel
theorem dL_sessions_38 : decode cL_sessions 38 = .ok (.iload 8, 2) := by decide +kernel
theorem dL_sessions_40 : decode cL_sessions 40 = .ok (.iaload, 1) := by decide +kernel
theorem dL_sessions_41 : decode cL_sessions 41 = .ok (.isub, 1) := by decide +kernel
theorem dL_sessions_42 : decode cL_sessions 42 = .ok (.aload_n 3, 1) := by decide +kernel
theorem dL_sessions_43 : decode cL_sessions 43 = .ok (.iconst 1, 1) := by decide +kernel
theorem dL_sessions_44 : decode cL_sessions 44 = .ok (.iaload, 1) := by decide +kernel
theorem dL_sessions_45 : decode cL_sessions 45 = .ok (.if_icmp .le 30, 3) := by decide +kernel
theorem dL_sessions_48 : decode cL_sessions 48 = .ok (.iinc 7 1, 3) := by decide +kernel
theorem dL_sessions_51 : decode cL_sessions 51 = .ok (.aload 6, 2) := by decide +kernel
theorem dL_sessions_53 : decode cL_sessions 53 = .ok (.iconst 1, 1) := by decide +kernel
theorem dL_sessions_54 : decode cL_sessions 54 = .ok (.iload 7, 2) := by decide +kernel
theorem dL_sessions_56 : decode cL_sessions 56 = .ok (.iconst 1, 1) := by decide +kernel
theorem dL_sessions_57 : decode cL_sessions 57 = .ok (.isub, 1) := by decide +kernel
theorem dL_sessions_58 : decode cL_sessions 58 = .ok (.iload 5, 2) := by decide +kernel
theorem dL_sessions_60 : decode cL_sessions 60 = .ok (.if_icmp .ne 10, 3) := by decide +kernel
theorem dL_sessions_63 : decode cL_sessions 63 = .ok (.aload_n 2, 1) := by decide +kernel
theorem dL_sessions_64 : decode cL_sessions 64 = .ok (.iload 9, 2) := by decide +kernel
theorem dL_sessions_66 : decode cL_sessions 66 = .ok (.iaload, 1) := by decide +kernel
theorem dL_sessions_67 : decode cL_sessions 67 = .ok (.goto 7, 3) := by decide +kernel
theorem dL_sessions_70 : decode cL_sessions 70 = .ok (.aload 6, 2) := by decide +kernel
theorem dL_sessions_72 : decode cL_sessions 72 = .ok (.iconst 1, 1) := by decide +kernel
theorem dL_sessions_73 : decode cL_sessions 73 = .ok (.iaload, 1) := by decide +kernel
theorem dL_sessions_74 : decode cL_sessions 74 = .ok (.iastore, 1) := by decide +kernel
theorem dL_sessions_75 : decode cL_sessions 75 = .ok (.iload 7, 2) := by decide +kernel
theorem dL_sessions_77 : decode cL_sessions 77 = .ok (.iconst 1, 1) := by decide +kernel
theorem dL_sessions_78 : decode cL_sessions 78 = .ok (.isub, 1) := by decide +kernel
theorem dL_sessions_79 : decode cL_sessions 79 = .ok (.iload 5, 2) := by decide +kernel
theorem dL_sessions_81 : decode cL_sessions 81 = .ok (.if_icmp .ne 24, 3) := by decide +kernel
theorem dL_sessions_84 : decode cL_sessions 84 = .ok (.aload 6, 2) := by decide +kernel
theorem dL_sessions_86 : decode cL_sessions 86 = .ok (.iconst 0, 1) := by decide +kernel
theorem dL_sessions_87 : decode cL_sessions 87 = .ok (.dup2, 1) := by decide +kernel
theorem dL_sessions_88 : decode cL_sessions 88 = .ok (.iaload, 1) := by decide +kernel
theorem dL_sessions_89 : decode cL_sessions 89 = .ok (.iconst 1, 1) := by decide +kernel
theorem dL_sessions_90 : decode cL_sessions 90 = .ok (.iadd, 1) := by decide +kernel
theorem dL_sessions_91 : decode cL_sessions 91 = .ok (.iastore, 1) := by decide +kernel
theorem dL_sessions_92 : decode cL_sessions 92 = .ok (.aload 6, 2) := by decide +kernel
theorem dL_sessions_94 : decode cL_sessions 94 = .ok (.iconst 2, 1) := by decide +kernel
theorem dL_sessions_95 : decode cL_sessions 95 = .ok (.aload_n 2, 1) := by decide +kernel
theorem dL_sessions_96 : decode cL_sessions 96 = .ok (.iload 9, 2) := by decide +kernel
theorem dL_sessions_98 : decode cL_sessions 98 = .ok (.iaload, 1) := by decide +kernel
theorem dL_sessions_99 : decode cL_sessions 99 = .ok (.aload 6, 2) := by decide +kernel
theorem dL_sessions_101 : decode cL_sessions 101 = .ok (.iconst 1, 1) := by decide +kernel
theorem dL_sessions_102 : decode cL_sessions 102 = .ok (.iaload, 1) := by decide +kernel
theorem dL_sessions_103 : decode cL_sessions 103 = .ok (.isub, 1) := by decide +kernel
theorem dL_sessions_104 : decode cL_sessions 104 = .ok (.iastore, 1) := by decide +kernel
theorem dL_sessions_105 : decode cL_sessions 105 = .ok (.iload 9, 2) := by decide +kernel
theorem dL_sessions_107 : decode cL_sessions 107 = .ok (.istore 8, 2) := by decide +kernel
theorem dL_sessions_109 : decode cL_sessions 109 = .ok (.aload_n 0, 1) := by decide +kernel
theorem dL_sessions_110 : decode cL_sessions 110 = .ok (.aload_n 1, 1) := by decide +kernel
theorem dL_sessions_111 : decode cL_sessions 111 = .ok (.aload_n 2, 1) := by decide +kernel
theorem dL_sessions_112 : decode cL_sessions 112 = .ok (.aload_n 3, 1) := by decide +kernel
theorem dL_sessions_113 : decode cL_sessions 113 = .ok (.iload 4, 2) := by decide +kernel
theorem dL_sessions_115 : decode cL_sessions 115 = .ok (.iload 9, 2) := by decide +kernel
theorem dL_sessions_117 : decode cL_sessions 117 = .ok (.invokestatic 15, 3) := by decide +kernel
theorem dL_sessions_120 : decode cL_sessions 120 = .ok (.istore 9, 2) := by decide +kernel
theorem dL_sessions_122 : decode cL_sessions 122 = .ok (.goto (-99), 3) := by decide +kernel
theorem dL_sessions_125 : decode cL_sessions 125 = .ok (.iload 7, 2) := by decide +kernel
theorem dL_sessions_127 : decode cL_sessions 127 = .ok (.ireturn, 1) := by decide +kernel
set_option maxRecDepth 20000 in
theorem ggL_depth_L_next : GoodIn wsL_depth wsL_next := goodIn_r _ [5, 6, 7, 4, 8] (by decide +kernel) (by decide +kernel)
set_option maxRecDepth 20000 in
theorem gL_depth_L_next : GoodIn wsL_depth (va_wsS RL 15 yL_next wsL_next) := goodIn_app (goodIn_of _ (by decide +kernel)) ggL_depth_L_next
theorem dL_depth_0 : decode cL_depth 0 = .ok (.bipush 7, 2) := by decide +kernel
theorem dL_depth_2 : decode cL_depth 2 = .ok (.newarray .int, 2) := by decide +kernel
theorem dL_depth_4 : decode cL_depth 4 = .ok (.astore 8, 2) := by decide +kernel
theorem dL_depth_6 : decode cL_depth 6 = .ok (.iconst 0, 1) := by decide +kernel
theorem dL_depth_7 : decode cL_depth 7 = .ok (.istore 9, 2) := by decide +kernel
theorem dL_depth_9 : decode cL_depth 9 = .ok (.aload 7, 2) := by decide +kernel
theorem dL_depth_11 : decode cL_depth 11 = .ok (.iconst 0, 1) := by decide +kernel
theorem dL_depth_12 : decode cL_depth 12 = .ok (.iconst (-1), 1) := by decide +kernel
theorem dL_depth_13 : decode cL_depth 13 = .ok (.iastore, 1) := by decide +kernel
theorem dL_depth_14 : decode cL_depth 14 = .ok (.iconst 0, 1) := by decide +kernel
theorem dL_depth_15 : decode cL_depth 15 = .ok (.istore 10, 2) := by decide +kernel
theorem dL_depth_17 : decode cL_depth 17 = .ok (.iload 10, 2) := by decide +kernel
theorem dL_depth_19 : decode cL_depth 19 = .ok (.bipush 7, 2) := by decide +kernel
theorem dL_depth_21 : decode cL_depth 21 = .ok (.if_icmp .ge 15, 3) := by decide +kernel
theorem dL_depth_24 : decode cL_depth 24 = .ok (.aload 8, 2) := by decide +kernel
theorem dL_depth_26 : decode cL_depth 26 = .ok (.iload 10, 2) := by decide +kernel
theorem dL_depth_28 : decode cL_depth 28 = .ok (.iconst (-1), 1) := by decide +kernel
theorem dL_depth_29 : decode cL_depth 29 = .ok (.iastore, 1) := by decide +kernel
theorem dL_depth_30 : decode cL_depth 30 = .ok (.iinc 10 1, 3) := by decide +kernel
theorem dL_depth_33 : decode cL_depth 33 = .ok (.goto (-16), 3) := by decide +kernel
theorem dL_depth_36 : decode cL_depth 36 = .ok (.aload_n 0, 1) := by decide +kernel
theorem dL_depth_37 : decode cL_depth 37 = .ok (.aload_n 1, 1) := by decide +kernel
theorem dL_depth_38 : decode cL_depth 38 = .ok (.aload_n 3, 1) := by decide +kernel
theorem dL_depth_39 : decode cL_depth 39 = .ok (.aload 4, 2) := by decide +kernel
theorem dL_depth_41 : decode cL_depth 41 = .ok (.iload 6, 2) := by decide +kernel
theorem dL_depth_43 : decode cL_depth 43 = .ok (.iconst (-1), 1) := by decide +kernel
theorem dL_depth_44 : decode cL_depth 44 = .ok (.invokestatic 15, 3) := by decide +kernel
theorem dL_depth_47 : decode cL_depth 47 = .ok (.istore 10, 2) := by decide +kernel
theorem dL_depth_49 : decode cL_depth 49 = .ok (.iload 10, 2) := by decide +kernel
theorem dL_depth_51 : decode cL_depth 51 = .ok (.ifCond .lt 186, 3) := by decide +kernel
theorem dL_depth_54 : decode cL_depth 54 = .ok (.aload 4, 2) := by decide +kernel
theorem dL_depth_56 : decode cL_depth 56 = .ok (.iconst 3, 1) := by decide +kernel
theorem dL_depth_57 : decode cL_depth 57 = .ok (.iaload, 1) := by decide +kernel
theorem dL_depth_58 : decode cL_depth 58 = .ok (.iconst 1, 1) := by decide +kernel
theorem dL_depth_59 : decode cL_depth 59 = .ok (.isub, 1) := by decide +kernel
theorem dL_depth_60 : decode cL_depth 60 = .ok (.istore 11, 2) := by decide +kernel
theorem dL_depth_62 : decode cL_depth 62 = .ok (.iload 11, 2) := by decide +kernel
theorem dL_depth_64 : decode cL_depth 64 = .ok (.ifCond .lt 156, 3) := by decide +kernel
theorem dL_depth_67 : decode cL_depth 67 = .ok (.aload 5, 2) := by decide +kernel
theorem dL_depth_69 : decode cL_depth 69 = .ok (.iload 11, 2) := by decide +kernel
theorem dL_depth_71 : decode cL_depth 71 = .ok (.iaload, 1) := by decide +kernel
theorem dL_depth_72 : decode cL_depth 72 = .ok (.aload_n 2, 1) := by decide +kernel
theorem dL_depth_73 : decode cL_depth 73 = .ok (.iload 10, 2) := by decide +kernel
theorem dL_depth_75 : decode cL_depth 75 = .ok (.iaload, 1) := by decide +kernel
theorem dL_depth_76 : decode cL_depth 76 = .ok (.if_icmp .ne 138, 3) := by decide +kernel
theorem dL_depth_79 : decode cL_depth 79 = .ok (.iload 11, 2) := by decide +kernel
theorem dL_depth_81 : decode cL_depth 81 = .ok (.ifCond .ne 10, 3) := by decide +kernel
theorem dL_depth_84 : decode cL_depth 84 = .ok (.aload_n 3, 1) := by decide +kernel
theorem dL_depth_85 : decode cL_depth 85 = .ok (.iload 10, 2) := by decide +kernel
theorem dL_depth_87 : decode cL_depth 87 = .ok (.iaload, 1) := by decide +kernel
theorem dL_depth_88 : decode cL_depth 88 = .ok (.goto 10, 3) := by decide +kernel
theorem dL_depth_91 : decode cL_depth 91 = .ok (.aload 8, 2) := by decide +kernel
theorem dL_depth_93 : decode cL_depth 93 = .ok (.iload 11, 2) := by decide +kernel
theorem dL_depth_95 : decode cL_depth 95 = .ok (.iconst 1, 1) := by decide +kernel
theorem dL_depth_96 : decode cL_depth 96 = .ok (.isub, 1) := by decide +kernel
theorem dL_depth_97 : decode cL_depth 97 = .ok (.iaload, 1) := by decide +kernel
theorem dL_depth_98 : decode cL_depth 98 = .ok (.istore 12, 2) := by decide +kernel
theorem dL_depth_100 : decode cL_depth 100 = .ok (.aload 8, 2) := by decide +kernel
theorem dL_depth_102 : decode cL_depth 102 = .ok (.iload 11, 2) := by decide +kernel
theorem dL_depth_104 : decode cL_depth 104 = .ok (.iload 12, 2) := by decide +kernel
theorem dL_depth_106 : decode cL_depth 106 = .ok (.aload 8, 2) := by decide +kernel
theorem dL_depth_108 : decode cL_depth 108 = .ok (.iload 11, 2) := by decide +kernel
theorem dL_depth_110 : decode cL_depth 110 = .ok (.iaload, 1) := by decide +kernel
theorem dL_depth_111 : decode cL_depth 111 = .ok (.if_icmp .le 8, 3) := by decide +kernel
theorem dL_depth_114 : decode cL_depth 114 = .ok (.iload 12, 2) := by decide +kernel
theorem dL_depth_116 : decode cL_depth 116 = .ok (.goto 8, 3) := by decide +kernel
theorem dL_depth_119 : decode cL_depth 119 = .ok (.aload 8, 2) := by decide +kernel
theorem dL_depth_121 : decode cL_depth 121 = .ok (.iload 11, 2) := by decide +kernel
theorem dL_depth_123 : decode cL_depth 123 = .ok (.iaload, 1) := by decide +kernel
theorem dL_depth_124 : decode cL_depth 124 = .ok (.iastore, 1) := by decide +kernel
theorem dL_depth_125 : decode cL_depth 125 = .ok (.iload 12, 2) := by decide +kernel
theorem dL_depth_127 : decode cL_depth 127 = .ok (.ifCond .lt 87, 3) := by decide +kernel
theorem dL_depth_130 : decode cL_depth 130 = .ok (.aload_n 3, 1) := by decide +kernel
theorem dL_depth_131 : decode cL_depth 131 = .ok (.iload 10, 2) := by decide +kernel
theorem dL_depth_133 : decode cL_depth 133 = .ok (.iaload, 1) := by decide +kernel
theorem dL_depth_134 : decode cL_depth 134 = .ok (.iload 12, 2) := by decide +kernel
theorem dL_depth_136 : decode cL_depth 136 = .ok (.isub, 1) := by decide +kernel
theorem dL_depth_137 : decode cL_depth 137 = .ok (.aload 4, 2) := by decide +kernel
theorem dL_depth_139 : decode cL_depth 139 = .ok (.iconst 2, 1) := by decide +kernel
theorem dL_depth_140 : decode cL_depth 140 = .ok (.iaload, 1) := by decide +kernel
theorem dL_depth_141 : decode cL_depth 141 = .ok (.if_icmp .gt 73, 3) := by decide +kernel
theorem dL_depth_144 : decode cL_depth 144 = .ok (.iload 11, 2) := by decide +kernel
theorem dL_depth_146 : decode cL_depth 146 = .ok (.iconst 1, 1) := by decide +kernel
theorem dL_depth_147 : decode cL_depth 147 = .ok (.iadd, 1) := by decide +kernel
theorem dL_depth_148 : decode cL_depth 148 = .ok (.iload 9, 2) := by decide +kernel
theorem dL_depth_150 : decode cL_depth 150 = .ok (.if_icmp .le 10, 3) := by decide +kernel
theorem dL_depth_153 : decode cL_depth 153 = .ok (.iload 11, 2) := by decide +kernel
theorem dL_depth_155 : decode cL_depth 155 = .ok (.iconst 1, 1) := by decide +kernel
theorem dL_depth_156 : decode cL_depth 156 = .ok (.iadd, 1) := by decide +kernel
theorem dL_depth_157 : decode cL_depth 157 = .ok (.goto 5, 3) := by decide +kernel
theorem dL_depth_160 : decode cL_depth 160 = .ok (.iload 9, 2) := by decide +kernel
theorem dL_depth_162 : decode cL_depth 162 = .ok (.istore 9, 2) := by decide +kernel
theorem dL_depth_164 : decode cL_depth 164 = .ok (.aload 7, 2) := by decide +kernel
theorem dL_depth_166 : decode cL_depth 166 = .ok (.iconst 0, 1) := by decide +kernel
theorem dL_depth_167 : decode cL_depth 167 = .ok (.iload 11, 2) := by decide +kernel
theorem dL_depth_169 : decode cL_depth 169 = .ok (.aload 4, 2) := by decide +kernel
theorem dL_depth_171 : decode cL_depth 171 = .ok (.iconst 3, 1) := by decide +kernel
theorem dL_depth_172 : decode cL_depth 172 = .ok (.iaload, 1) := by decide +kernel
theorem dL_depth_173 : decode cL_depth 173 = .ok (.iconst 1, 1) := by decide +kernel
theorem dL_depth_174 : decode cL_depth 174 = .ok (.isub, 1) := by decide +kernel
theorem dL_depth_175 : decode cL_depth 175 = .ok (.if_icmp .ne 34, 3) := by decide +kernel
theorem dL_depth_178 : decode cL_depth 178 = .ok (.aload 7, 2) := by decide +kernel
theorem dL_depth_180 : decode cL_depth 180 = .ok (.iconst 0, 1) := by decide +kernel
theorem dL_depth_181 : decode cL_depth 181 = .ok (.iaload, 1) := by decide +kernel
theorem dL_depth_182 : decode cL_depth 182 = .ok (.ifCond .lt 17, 3) := by decide +kernel
theorem dL_depth_185 : decode cL_depth 185 = .ok (.aload_n 3, 1) := by decide +kernel
theorem dL_depth_186 : decode cL_depth 186 = .ok (.iload 10, 2) := by decide +kernel
theorem dL_depth_188 : decode cL_depth 188 = .ok (.iaload, 1) := by decide +kernel
theorem dL_depth_189 : decode cL_depth 189 = .ok (.iload 12, 2) := by decide +kernel
theorem dL_depth_191 : decode cL_depth 191 = .ok (.isub, 1) := by decide +kernel
theorem dL_depth_192 : decode cL_depth 192 = .ok (.aload 7, 2) := by decide +kernel
theorem dL_depth_194 : decode cL_depth 194 = .ok (.iconst 0, 1) := by decide +kernel
theorem dL_depth_195 : decode cL_depth 195 = .ok (.iaload, 1) := by decide +kernel
theorem dL_depth_196 : decode cL_depth 196 = .ok (.if_icmp .ge 13, 3) := by decide +kernel
theorem dL_depth_199 : decode cL_depth 199 = .ok (.aload_n 3, 1) := by decide +kernel
theorem dL_depth_200 : decode cL_depth 200 = .ok (.iload 10, 2) := by decide +kernel
theorem dL_depth_202 : decode cL_depth 202 = .ok (.iaload, 1) := by decide +kernel
theorem dL_depth_203 : decode cL_depth 203 = .ok (.iload 12, 2) := by decide +kernel
theorem dL_depth_205 : decode cL_depth 205 = .ok (.isub, 1) := by decide +kernel
theorem dL_depth_206 : decode cL_depth 206 = .ok (.goto 7, 3) := by decide +kernel
theorem dL_depth_209 : decode cL_depth 209 = .ok (.aload 7, 2) := by decide +kernel
theorem dL_depth_211 : decode cL_depth 211 = .ok (.iconst 0, 1) := by decide +kernel
theorem dL_depth_212 : decode cL_depth 212 = .ok (.iaload, 1) := by decide +kernel
theorem dL_depth_213 : decode cL_depth 213 = .ok (.iastore, 1) := by decide +kernel
theorem dL_depth_214 : decode cL_depth 214 = .ok (.iinc 11 (-1), 3) := by decide +kernel
theorem dL_depth_217 : decode cL_depth 217 = .ok (.goto (-155), 3) := by decide +kernel
theorem dL_depth_220 : decode cL_depth 220 = .ok (.aload_n 0, 1) := by decide +kernel
theorem dL_depth_221 : decode cL_depth 221 = .ok (.aload_n 1, 1) := by decide +kernel
theorem dL_depth_222 : decode cL_depth 222 = .ok (.aload_n 3, 1) := by decide +kernel
theorem dL_depth_223 : decode cL_depth 223 = .ok (.aload 4, 2) := by decide +kernel
theorem dL_depth_225 : decode cL_depth 225 = .ok (.iload 6, 2) := by decide +kernel
theorem dL_depth_227 : decode cL_depth 227 = .ok (.iload 10, 2) := by decide +kernel
theorem dL_depth_229 : decode cL_depth 229 = .ok (.invokestatic 15, 3) := by decide +kernel
theorem dL_depth_232 : decode cL_depth 232 = .ok (.istore 10, 2) := by decide +kernel
theorem dL_depth_234 : decode cL_depth 234 = .ok (.goto (-185), 3) := by decide +kernel
theorem dL_depth_237 : decode cL_depth 237 = .ok (.iload 9, 2) := by decide +kernel
theorem dL_depth_239 : decode cL_depth 239 = .ok (.ireturn, 1) := by decide +kernel
set_option maxRecDepth 20000 in
theorem ggL_isOn_L_isOf : GoodIn wsL_isOn wsL_isOf := goodIn_r _ [4] (by decide +kernel) (by decide +kernel)
set_option maxRecDepth 20000 in
theorem gL_isOn_L_isOf : GoodIn wsL_isOn (va_wsS RL 9 yL_isOf wsL_isOf) := goodIn_app (goodIn_of _ (by decide +kernel)) ggL_isOn_L_isOf
