theorem dL_tellsOf_358 : decode cL_tellsOf 358 = .ok (.iconst 0, 1) := by decide +kernel
theorem dL_tellsOf_359 : decode cL_tellsOf 359 = .ok (.iaload, 1) := by decide +kernel
theorem dL_tellsOf_360 : decode cL_tellsOf 360 = .ok (.goto 5, 3) := by decide +kernel
theorem dL_tellsOf_363 : decode cL_tellsOf 363 = .ok (.iload 18, 2) := by decide +kernel
theorem dL_tellsOf_365 : decode cL_tellsOf 365 = .ok (.if_icmp .ne 65, 3) := by decide +kernel
theorem dL_tellsOf_368 : decode cL_tellsOf 368 = .ok (.aload_n 0, 1) := by decide +kernel
theorem dL_tellsOf_369 : decode cL_tellsOf 369 = .ok (.iconst 2, 1) := by decide +kernel
theorem dL_tellsOf_370 : decode cL_tellsOf 370 = .ok (.iload 9, 2) := by decide +kernel
theorem dL_tellsOf_372 : decode cL_tellsOf 372 = .ok (.iload 15, 2) := by decide +kernel
theorem dL_tellsOf_374 : decode cL_tellsOf 374 = .ok (.invokestatic 139, 3) := by decide +kernel
theorem dL_tellsOf_377 : decode cL_tellsOf 377 = .ok (.iload 17, 2) := by decide +kernel
theorem dL_tellsOf_379 : decode cL_tellsOf 379 = .ok (.ifCond .eq 15, 3) := by decide +kernel
theorem dL_tellsOf_382 : decode cL_tellsOf 382 = .ok (.iload 10, 2) := by decide +kernel
theorem dL_tellsOf_384 : decode cL_tellsOf 384 = .ok (.ifCond .eq 10, 3) := by decide +kernel
theorem dL_tellsOf_387 : decode cL_tellsOf 387 = .ok (.aload 8, 2) := by decide +kernel
theorem dL_tellsOf_389 : decode cL_tellsOf 389 = .ok (.iconst 1, 1) := by decide +kernel
theorem dL_tellsOf_390 : decode cL_tellsOf 390 = .ok (.iaload, 1) := by decide +kernel
theorem dL_tellsOf_391 : decode cL_tellsOf 391 = .ok (.goto 5, 3) := by decide +kernel
theorem dL_tellsOf_394 : decode cL_tellsOf 394 = .ok (.iload 18, 2) := by decide +kernel
theorem dL_tellsOf_396 : decode cL_tellsOf 396 = .ok (.if_icmp .ne 34, 3) := by decide +kernel
theorem dL_tellsOf_399 : decode cL_tellsOf 399 = .ok (.aload_n 0, 1) := by decide +kernel
theorem dL_tellsOf_400 : decode cL_tellsOf 400 = .ok (.iconst 3, 1) := by decide +kernel
theorem dL_tellsOf_401 : decode cL_tellsOf 401 = .ok (.iload 9, 2) := by decide +kernel
theorem dL_tellsOf_403 : decode cL_tellsOf 403 = .ok (.iload 15, 2) := by decide +kernel
theorem dL_tellsOf_405 : decode cL_tellsOf 405 = .ok (.invokestatic 139, 3) := by decide +kernel
theorem dL_tellsOf_408 : decode cL_tellsOf 408 = .ok (.iload 17, 2) := by decide +kernel
theorem dL_tellsOf_410 : decode cL_tellsOf 410 = .ok (.ifCond .eq 15, 3) := by decide +kernel
theorem dL_tellsOf_413 : decode cL_tellsOf 413 = .ok (.iload 10, 2) := by decide +kernel
theorem dL_tellsOf_415 : decode cL_tellsOf 415 = .ok (.ifCond .eq 10, 3) := by decide +kernel
theorem dL_tellsOf_418 : decode cL_tellsOf 418 = .ok (.aload 8, 2) := by decide +kernel
theorem dL_tellsOf_420 : decode cL_tellsOf 420 = .ok (.iconst 2, 1) := by decide +kernel
theorem dL_tellsOf_421 : decode cL_tellsOf 421 = .ok (.iaload, 1) := by decide +kernel
theorem dL_tellsOf_422 : decode cL_tellsOf 422 = .ok (.goto 5, 3) := by decide +kernel
theorem dL_tellsOf_425 : decode cL_tellsOf 425 = .ok (.iload 18, 2) := by decide +kernel
theorem dL_tellsOf_427 : decode cL_tellsOf 427 = .ok (.if_icmp .eq 5, 3) := by decide +kernel
theorem dL_tellsOf_430 : decode cL_tellsOf 430 = .ok (.iconst 0, 1) := by decide +kernel
theorem dL_tellsOf_431 : decode cL_tellsOf 431 = .ok (.ireturn, 1) := by decide +kernel
theorem dL_tellsOf_432 : decode cL_tellsOf 432 = .ok (.aload_n 2, 1) := by decide +kernel
theorem dL_tellsOf_433 : decode cL_tellsOf 433 = .ok (.aload_n 3, 1) := by decide +kernel
theorem dL_tellsOf_434 : decode cL_tellsOf 434 = .ok (.aload 4, 2) := by decide +kernel
theorem dL_tellsOf_436 : decode cL_tellsOf 436 = .ok (.aload 5, 2) := by decide +kernel
theorem dL_tellsOf_438 : decode cL_tellsOf 438 = .ok (.aload 6, 2) := by decide +kernel
theorem dL_tellsOf_440 : decode cL_tellsOf 440 = .ok (.aload 7, 2) := by decide +kernel
theorem dL_tellsOf_442 : decode cL_tellsOf 442 = .ok (.iload 11, 2) := by decide +kernel
theorem dL_tellsOf_444 : decode cL_tellsOf 444 = .ok (.aload 8, 2) := by decide +kernel
theorem dL_tellsOf_446 : decode cL_tellsOf 446 = .ok (.invokestatic 142, 3) := by decide +kernel
theorem dL_tellsOf_449 : decode cL_tellsOf 449 = .ok (.istore 19, 2) := by decide +kernel
theorem dL_tellsOf_451 : decode cL_tellsOf 451 = .ok (.aload_n 0, 1) := by decide +kernel
theorem dL_tellsOf_452 : decode cL_tellsOf 452 = .ok (.iconst 3, 1) := by decide +kernel
theorem dL_tellsOf_453 : decode cL_tellsOf 453 = .ok (.iload 9, 2) := by decide +kernel
theorem dL_tellsOf_455 : decode cL_tellsOf 455 = .ok (.invokestatic 113, 3) := by decide +kernel
theorem dL_tellsOf_458 : decode cL_tellsOf 458 = .ok (.iload 10, 2) := by decide +kernel
theorem dL_tellsOf_460 : decode cL_tellsOf 460 = .ok (.ifCond .eq 8, 3) := by decide +kernel
theorem dL_tellsOf_463 : decode cL_tellsOf 463 = .ok (.iload 19, 2) := by decide +kernel
theorem dL_tellsOf_465 : decode cL_tellsOf 465 = .ok (.goto 5, 3) := by decide +kernel
theorem dL_tellsOf_468 : decode cL_tellsOf 468 = .ok (.bipush (-101), 2) := by decide +kernel
theorem dL_tellsOf_470 : decode cL_tellsOf 470 = .ok (.if_icmp .ne 31, 3) := by decide +kernel
theorem dL_tellsOf_473 : decode cL_tellsOf 473 = .ok (.aload_n 0, 1) := by decide +kernel
theorem dL_tellsOf_474 : decode cL_tellsOf 474 = .ok (.iconst 4, 1) := by decide +kernel
theorem dL_tellsOf_475 : decode cL_tellsOf 475 = .ok (.iload 9, 2) := by decide +kernel
theorem dL_tellsOf_477 : decode cL_tellsOf 477 = .ok (.invokestatic 113, 3) := by decide +kernel
theorem dL_tellsOf_480 : decode cL_tellsOf 480 = .ok (.iload 10, 2) := by decide +kernel
theorem dL_tellsOf_482 : decode cL_tellsOf 482 = .ok (.ifCond .eq 10, 3) := by decide +kernel
theorem dL_tellsOf_485 : decode cL_tellsOf 485 = .ok (.aload 8, 2) := by decide +kernel
theorem dL_tellsOf_487 : decode cL_tellsOf 487 = .ok (.iconst 0, 1) := by decide +kernel
theorem dL_tellsOf_488 : decode cL_tellsOf 488 = .ok (.iaload, 1) := by decide +kernel
theorem dL_tellsOf_489 : decode cL_tellsOf 489 = .ok (.goto 5, 3) := by decide +kernel
theorem dL_tellsOf_492 : decode cL_tellsOf 492 = .ok (.bipush (-101), 2) := by decide +kernel
theorem dL_tellsOf_494 : decode cL_tellsOf 494 = .ok (.if_icmp .ne 7, 3) := by decide +kernel
theorem dL_tellsOf_497 : decode cL_tellsOf 497 = .ok (.iconst 1, 1) := by decide +kernel
theorem dL_tellsOf_498 : decode cL_tellsOf 498 = .ok (.goto 4, 3) := by decide +kernel
theorem dL_tellsOf_501 : decode cL_tellsOf 501 = .ok (.iconst 0, 1) := by decide +kernel
theorem dL_tellsOf_502 : decode cL_tellsOf 502 = .ok (.ireturn, 1) := by decide +kernel
set_option maxRecDepth 20000 in
theorem ggL_tellsAll_L_some : GoodIn wsL_tellsAll wsL_some := goodIn_r _ [5] (by decide +kernel) (by decide +kernel)
set_option maxRecDepth 20000 in
theorem gL_tellsAll_L_some : GoodIn wsL_tellsAll (va_wsS RL 103 yL_some wsL_some) := goodIn_app (goodIn_of _ (by decide +kernel)) ggL_tellsAll_L_some
set_option maxRecDepth 20000 in
theorem ggL_tellsAll_L_next : GoodIn wsL_tellsAll wsL_next := goodIn_r _ [8, 9, 10, 4, 11] (by decide +kernel) (by decide +kernel)
set_option maxRecDepth 20000 in
theorem gL_tellsAll_L_next : GoodIn wsL_tellsAll (va_wsS RL 15 yL_next wsL_next) := goodIn_app (goodIn_of _ (by decide +kernel)) ggL_tellsAll_L_next
set_option maxRecDepth 20000 in
theorem ggL_tellsAll_L_isOn : GoodIn wsL_tellsAll wsL_isOn := goodIn_r _ [14, 9, 10, 4, 11] (by decide +kernel) (by decide +kernel)
set_option maxRecDepth 20000 in
theorem gL_tellsAll_L_isOn : GoodIn wsL_tellsAll (va_wsS RL 124 yL_isOn wsL_isOn) := goodIn_app (goodIn_of _ (by decide +kernel)) ggL_tellsAll_L_isOn
set_option maxRecDepth 20000 in
theorem ggL_tellsAll_L_depth : GoodIn wsL_tellsAll wsL_depth := goodIn_r _ [17, 1, 6, 7, 4, 8, 9, 10, 11] (by decide +kernel) (by decide +kernel)
set_option maxRecDepth 20000 in
theorem gL_tellsAll_L_depth : GoodIn wsL_tellsAll (va_wsS RL 142 yL_depth wsL_depth) := goodIn_app (goodIn_of _ (by decide +kernel)) ggL_tellsAll_L_depth
set_option maxRecDepth 20000 in
theorem ggL_tellsAll_L_worth : GoodIn wsL_tellsAll wsL_worth := goodIn_r _ [20, 21, 22, 4, 23, 9, 10, 11, 24, 25, 26, 6, 7, 8, 15, 16, 17, 1] (by decide +kernel) (by decide +kernel)
set_option maxRecDepth 20000 in
theorem gL_tellsAll_L_worth : GoodIn wsL_tellsAll (va_wsS RL 145 yL_worth wsL_worth) := goodIn_app (goodIn_of _ (by decide +kernel)) ggL_tellsAll_L_worth
set_option maxRecDepth 20000 in
theorem ggL_tellsAll_L_many : GoodIn wsL_tellsAll wsL_many := goodIn_r _ [23, 9, 10, 4, 11] (by decide +kernel) (by decide +kernel)
set_option maxRecDepth 20000 in
theorem gL_tellsAll_L_many : GoodIn wsL_tellsAll (va_wsS RL 135 yL_many wsL_many) := goodIn_app (goodIn_of _ (by decide +kernel)) ggL_tellsAll_L_many
set_option maxRecDepth 20000 in
theorem ggL_tellsAll_X4_users : GoodIn wsL_tellsAll wsX4_users := goodIn_r _ [31, 32, 33, 34, 35, 36, 37, 38, 39, 40, 41, 42, 43, 44, 45, 46, 47, 48, 49, 50, 51, 52, 340, 341, 342, 343, 344, 345, 346, 347, 348, 349, 350, 351] (by decide +kernel) (by decide +kernel)
set_option maxRecDepth 20000 in
theorem gL_tellsAll_X4_users : GoodIn wsL_tellsAll (wsV RL 149 RX4 yX4_users wsX4_users) := goodIn_app (goodIn_of _ (by decide +kernel)) ggL_tellsAll_X4_users
set_option maxRecDepth 20000 in
theorem ggL_tellsAll_L_one : GoodIn wsL_tellsAll wsL_one := goodIn_ca (goodIn_r _ [55, 56, 57, 58, 59, 30, 60, 33, 61, 62, 63, 64, 65, 66, 67, 68, 69, 70, 71, 72, 73, 74, 75, 76, 77, 32, 78, 79, 80, 81, 82, 83, 34, 35, 36, 37, 38, 39, 40, 41, 42, 43, 44, 45, 84, 85, 86, 87, 88, 89, 90, 91, 92, 93, 94, 95, 96, 97, 98, 99, 100, 101, 102, 103, 104, 105, 106, 107, 108, 109, 110, 111, 112, 113, 114, 115, 116, 117, 118, 119, 120, 121, 122, 123, 124, 125, 126, 127, 128, 129, 130, 131, 132, 133, 134, 135, 136, 137, 138, 139, 140, 141, 142, 143, 144, 145, 146, 147, 148, 149, 150, 151, 152, 153, 154, 155, 156, 157, 158, 159, 160, 161, 162, 163, 164, 165, 166, 167, 168, 169, 170, 171, 172, 173, 174, 175, 176, 177, 178, 179, 180, 181, 182, 183, 184, 185, 186, 187, 188, 189, 190, 191, 192, 193, 194, 195, 196, 197, 198, 199, 200, 201, 202, 203, 204, 205, 206, 207, 208, 340, 341, 342, 343, 344, 345, 346, 352, 353, 354, 355, 347, 348, 349, 350, 351, 356, 357, 358, 359, 360, 361] (by decide +kernel) (by decide +kernel)) (goodIn_sub (fun _ h => List.mem_cons_of_mem _ (List.mem_append_left _ (List.mem_append_right _ h))) (by decide +kernel))
set_option maxRecDepth 20000 in
theorem gL_tellsAll_L_one : GoodIn wsL_tellsAll (va_wsS RL 113 yL_one wsL_one) := goodIn_app (goodIn_of _ (by decide +kernel)) ggL_tellsAll_L_one
set_option maxRecDepth 20000 in
theorem ggL_tellsAll_L_two : GoodIn wsL_tellsAll wsL_two := goodIn_ca (goodIn_r _ [211, 56, 212, 213, 214, 30, 215, 33, 216, 217, 165, 218, 219, 164, 166, 61, 62, 63, 64, 65, 66, 67, 68, 220, 221, 222, 223, 189, 190, 191, 224, 225, 226, 227, 32, 34, 35, 36, 37, 38, 39, 40, 41, 42, 43, 44, 45, 93, 94, 95, 96, 97, 196, 183, 184, 192, 193, 194, 195, 46, 47, 48, 49, 50, 51, 52, 228, 229, 230, 231, 340, 341, 342, 343, 344, 345, 346, 347, 348, 349, 350, 351] (by decide +kernel) (by decide +kernel)) (goodIn_sub (fun _ h => List.mem_cons_of_mem _ (List.mem_append_left _ (List.mem_append_right _ h))) (by decide +kernel))
set_option maxRecDepth 20000 in
theorem gL_tellsAll_L_two : GoodIn wsL_tellsAll (va_wsS RL 110 yL_two wsL_two) := goodIn_app (goodIn_of _ (by decide +kernel)) ggL_tellsAll_L_two
set_option maxRecDepth 20000 in
theorem ggL_tellsAll_L_kept : GoodIn wsL_tellsAll wsL_kept := goodIn_ca (goodIn_r _ [234, 235, 236, 237, 238, 30, 239, 126, 240, 241, 242, 130, 243, 156, 244, 245, 246, 247, 248, 73, 74, 75, 76, 77, 32, 33, 78, 79, 80, 81, 82, 83, 34, 35, 36, 37, 38, 39, 40, 41, 42, 43, 44, 45, 84, 85, 86, 87, 88, 89, 90, 91, 92, 93, 94, 95, 96, 97, 98, 99, 100, 101, 102, 103, 104, 127, 128, 129, 131, 132, 133, 134, 135, 136, 137, 138, 139, 140, 141, 142, 143, 106, 107, 108, 144, 145, 146, 147, 148, 149, 150, 151, 152, 153, 154, 155, 157, 158, 159, 160, 161, 162, 163, 164, 165, 166, 249, 250, 251, 252, 253, 254, 255, 256, 257, 258, 259, 260, 261, 262, 263, 264, 265, 266, 267, 268, 269, 270, 271, 272, 273, 274, 275, 276, 277, 278, 279, 280, 281, 282, 340, 341, 342, 343, 344, 345, 346, 356, 357, 358, 359, 360, 361, 352, 353, 354, 355, 347, 348, 349, 350, 351, 362, 363, 364, 365] (by decide +kernel) (by decide +kernel)) (goodIn_sub (fun _ h => List.mem_cons_of_mem _ (List.mem_append_right _ h)) (by decide +kernel))
