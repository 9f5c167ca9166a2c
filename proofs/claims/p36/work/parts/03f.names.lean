theorem dX1_isSame_358 : decode cX1_isSame 358 = .ok (.aload_n 0, 1) := by decide +kernel
theorem dX1_isSame_359 : decode cX1_isSame 359 = .ok (.getfield 29, 3) := by decide +kernel
theorem dX1_isSame_362 : decode cX1_isSame 362 = .ok (.iload 7, 2) := by decide +kernel
theorem dX1_isSame_364 : decode cX1_isSame 364 = .ok (.iadd, 1) := by decide +kernel
theorem dX1_isSame_365 : decode cX1_isSame 365 = .ok (.bipush 7, 2) := by decide +kernel
theorem dX1_isSame_367 : decode cX1_isSame 367 = .ok (.irem, 1) := by decide +kernel
theorem dX1_isSame_368 : decode cX1_isSame 368 = .ok (.bipush 6, 2) := by decide +kernel
theorem dX1_isSame_370 : decode cX1_isSame 370 = .ok (.if_icmp .eq 9, 3) := by decide +kernel
theorem dX1_isSame_373 : decode cX1_isSame 373 = .ok (.iinc 7 1, 3) := by decide +kernel
theorem dX1_isSame_376 : decode cX1_isSame 376 = .ok (.goto (-18), 3) := by decide +kernel
theorem dX1_isSame_379 : decode cX1_isSame 379 = .ok (.aload_n 1, 1) := by decide +kernel
theorem dX1_isSame_380 : decode cX1_isSame 380 = .ok (.invokevirtual 93, 3) := by decide +kernel
theorem dX1_isSame_383 : decode cX1_isSame 383 = .ok (.iload_n 3, 1) := by decide +kernel
theorem dX1_isSame_384 : decode cX1_isSame 384 = .ok (.if_icmp .ne 56, 3) := by decide +kernel
theorem dX1_isSame_387 : decode cX1_isSame 387 = .ok (.aload_n 1, 1) := by decide +kernel
theorem dX1_isSame_388 : decode cX1_isSame 388 = .ok (.invokevirtual 96, 3) := by decide +kernel
theorem dX1_isSame_391 : decode cX1_isSame 391 = .ok (.iload 4, 2) := by decide +kernel
theorem dX1_isSame_393 : decode cX1_isSame 393 = .ok (.if_icmp .ne 47, 3) := by decide +kernel
theorem dX1_isSame_396 : decode cX1_isSame 396 = .ok (.aload_n 1, 1) := by decide +kernel
theorem dX1_isSame_397 : decode cX1_isSame 397 = .ok (.invokevirtual 99, 3) := by decide +kernel
theorem dX1_isSame_400 : decode cX1_isSame 400 = .ok (.iload 5, 2) := by decide +kernel
theorem dX1_isSame_402 : decode cX1_isSame 402 = .ok (.if_icmp .ne 38, 3) := by decide +kernel
theorem dX1_isSame_405 : decode cX1_isSame 405 = .ok (.aload_n 1, 1) := by decide +kernel
theorem dX1_isSame_406 : decode cX1_isSame 406 = .ok (.invokevirtual 102, 3) := by decide +kernel
theorem dX1_isSame_409 : decode cX1_isSame 409 = .ok (.iload 7, 2) := by decide +kernel
theorem dX1_isSame_411 : decode cX1_isSame 411 = .ok (.if_icmp .ne 29, 3) := by decide +kernel
theorem dX1_isSame_414 : decode cX1_isSame 414 = .ok (.aload_n 1, 1) := by decide +kernel
theorem dX1_isSame_415 : decode cX1_isSame 415 = .ok (.invokevirtual 105, 3) := by decide +kernel
theorem dX1_isSame_418 : decode cX1_isSame 418 = .ok (.iload_n 2, 1) := by decide +kernel
theorem dX1_isSame_419 : decode cX1_isSame 419 = .ok (.ifCond .ne 7, 3) := by decide +kernel
theorem dX1_isSame_422 : decode cX1_isSame 422 = .ok (.dconst 0, 1) := by decide +kernel
theorem dX1_isSame_423 : decode cX1_isSame 423 = .ok (.goto 9, 3) := by decide +kernel
theorem dX1_isSame_426 : decode cX1_isSame 426 = .ok (.iload 6, 2) := by decide +kernel
theorem dX1_isSame_428 : decode cX1_isSame 428 = .ok (.i2d, 1) := by decide +kernel
theorem dX1_isSame_429 : decode cX1_isSame 429 = .ok (.iload_n 2, 1) := by decide +kernel
theorem dX1_isSame_430 : decode cX1_isSame 430 = .ok (.i2d, 1) := by decide +kernel
theorem dX1_isSame_431 : decode cX1_isSame 431 = .ok (.ddiv, 1) := by decide +kernel
theorem dX1_isSame_432 : decode cX1_isSame 432 = .ok (.dcmp .l, 1) := by decide +kernel
theorem dX1_isSame_433 : decode cX1_isSame 433 = .ok (.ifCond .ne 7, 3) := by decide +kernel
theorem dX1_isSame_436 : decode cX1_isSame 436 = .ok (.iconst 1, 1) := by decide +kernel
theorem dX1_isSame_437 : decode cX1_isSame 437 = .ok (.goto 4, 3) := by decide +kernel
theorem dX1_isSame_440 : decode cX1_isSame 440 = .ok (.iconst 0, 1) := by decide +kernel
theorem dX1_isSame_441 : decode cX1_isSame 441 = .ok (.ireturn, 1) := by decide +kernel
theorem dJ9_max_7cf53_0 : decode cJ9_max_7cf53 0 = .ok (.iload_n 0, 1) := by decide +kernel
theorem dJ9_max_7cf53_1 : decode cJ9_max_7cf53 1 = .ok (.iload_n 1, 1) := by decide +kernel
theorem dJ9_max_7cf53_2 : decode cJ9_max_7cf53 2 = .ok (.if_icmp .lt 7, 3) := by decide +kernel
theorem dJ9_max_7cf53_5 : decode cJ9_max_7cf53 5 = .ok (.iload_n 0, 1) := by decide +kernel
theorem dJ9_max_7cf53_6 : decode cJ9_max_7cf53 6 = .ok (.goto 4, 3) := by decide +kernel
theorem dJ9_max_7cf53_9 : decode cJ9_max_7cf53 9 = .ok (.iload_n 1, 1) := by decide +kernel
theorem dJ9_max_7cf53_10 : decode cJ9_max_7cf53 10 = .ok (.ireturn, 1) := by decide +kernel
theorem dJ9_min_7cf53_0 : decode cJ9_min_7cf53 0 = .ok (.iload_n 0, 1) := by decide +kernel
theorem dJ9_min_7cf53_1 : decode cJ9_min_7cf53 1 = .ok (.iload_n 1, 1) := by decide +kernel
theorem dJ9_min_7cf53_2 : decode cJ9_min_7cf53 2 = .ok (.if_icmp .gt 7, 3) := by decide +kernel
theorem dJ9_min_7cf53_5 : decode cJ9_min_7cf53 5 = .ok (.iload_n 0, 1) := by decide +kernel
theorem dJ9_min_7cf53_6 : decode cJ9_min_7cf53 6 = .ok (.goto 4, 3) := by decide +kernel
theorem dJ9_min_7cf53_9 : decode cJ9_min_7cf53 9 = .ok (.iload_n 1, 1) := by decide +kernel
theorem dJ9_min_7cf53_10 : decode cJ9_min_7cf53 10 = .ok (.ireturn, 1) := by decide +kernel
theorem dL_below_0 : decode cL_below 0 = .ok (.iload_n 0, 1) := by decide +kernel
theorem dL_below_1 : decode cL_below 1 = .ok (.ldc 7, 2) := by decide +kernel
theorem dL_below_3 : decode cL_below 3 = .ok (.iand, 1) := by decide +kernel
theorem dL_below_4 : decode cL_below 4 = .ok (.iload_n 1, 1) := by decide +kernel
theorem dL_below_5 : decode cL_below 5 = .ok (.irem, 1) := by decide +kernel
theorem dL_below_6 : decode cL_below 6 = .ok (.ireturn, 1) := by decide +kernel
theorem dL_cell_0 : decode cL_cell 0 = .ok (.iload_n 1, 1) := by decide +kernel
theorem dL_cell_1 : decode cL_cell 1 = .ok (.aload_n 0, 1) := by decide +kernel
theorem dL_cell_2 : decode cL_cell 2 = .ok (.arraylength, 1) := by decide +kernel
theorem dL_cell_3 : decode cL_cell 3 = .ok (.if_icmp .ge 9, 3) := by decide +kernel
theorem dL_cell_6 : decode cL_cell 6 = .ok (.aload_n 0, 1) := by decide +kernel
theorem dL_cell_7 : decode cL_cell 7 = .ok (.iload_n 1, 1) := by decide +kernel
theorem dL_cell_8 : decode cL_cell 8 = .ok (.iaload, 1) := by decide +kernel
theorem dL_cell_9 : decode cL_cell 9 = .ok (.goto 9, 3) := by decide +kernel
theorem dL_cell_12 : decode cL_cell 12 = .ok (.ldc 8, 2) := by decide +kernel
theorem dL_cell_14 : decode cL_cell 14 = .ok (.iload_n 1, 1) := by decide +kernel
theorem dL_cell_15 : decode cL_cell 15 = .ok (.iconst 3, 1) := by decide +kernel
theorem dL_cell_16 : decode cL_cell 16 = .ok (.iadd, 1) := by decide +kernel
theorem dL_cell_17 : decode cL_cell 17 = .ok (.imul, 1) := by decide +kernel
theorem dL_cell_18 : decode cL_cell 18 = .ok (.ireturn, 1) := by decide +kernel
set_option maxRecDepth 20000 in
theorem ggL_act_L_below : GoodIn wsL_act wsL_below := goodIn_r _ [12, 13] (by decide +kernel) (by decide +kernel)
set_option maxRecDepth 20000 in
theorem gL_act_L_below : GoodIn wsL_act (va_wsS RL 15 yL_below wsL_below) := goodIn_app (goodIn_of _ (by decide +kernel)) ggL_act_L_below
set_option maxRecDepth 20000 in
theorem ggL_act_X1_with : GoodIn wsL_act wsX1_with := goodIn_r _ [17, 18] (by decide +kernel) (by decide +kernel)
set_option maxRecDepth 20000 in
theorem gL_act_X1_with : GoodIn wsL_act (va_wsS RL 21 yX1_with wsX1_with) := goodIn_app (goodIn_of _ (by decide +kernel)) ggL_act_X1_with
set_option maxRecDepth 20000 in
theorem ggL_act_X0_join : GoodIn wsL_act wsX0_join := goodIn_ca (goodIn_r _ [23, 24, 25, 26, 27, 28, 29, 160, 161, 162, 163, 164, 165, 166, 167, 168, 169, 170, 171, 172, 173] (by decide +kernel) (by decide +kernel)) (goodIn_sub (fun _ h => List.mem_cons_of_mem _ (List.mem_append_left _ (List.mem_append_left _ (List.mem_append_right _ h)))) (by decide +kernel))
set_option maxRecDepth 20000 in
theorem gL_act_X0_join : GoodIn wsL_act (wsV RL 25 RX0 yX0_join wsX0_join) := goodIn_app (goodIn_of _ (by decide +kernel)) ggL_act_X0_join
set_option maxRecDepth 20000 in
theorem ggL_act_X0_spill : GoodIn wsL_act wsX0_spill := goodIn_ca (goodIn_ca (goodIn_ca (goodIn_r _ [33, 34, 28, 35, 36, 37, 22, 38, 39, 40, 26, 41, 42, 43, 44, 45, 46, 47, 48, 49, 24, 25, 50, 51, 52, 53, 54, 5, 6, 7, 160, 161, 162, 163, 164, 165, 166, 167, 168, 169, 170, 171, 172, 173] (by decide +kernel) (by decide +kernel)) (goodIn_sub (fun _ h => List.mem_cons_of_mem _ (List.mem_append_left _ (List.mem_append_right _ h))) (by decide +kernel))) (goodIn_sub (fun _ h => List.mem_cons_of_mem _ (List.mem_append_right _ h)) (by decide +kernel))) (goodIn_sub (fun _ h => List.mem_cons_of_mem _ (List.mem_append_left _ (List.mem_append_left _ (List.mem_append_right _ h)))) (by decide +kernel))
set_option maxRecDepth 20000 in
theorem gL_act_X0_spill : GoodIn wsL_act (wsV RL 40 RX0 yX0_spill wsX0_spill) := goodIn_app (goodIn_of _ (by decide +kernel)) ggL_act_X0_spill
set_option maxRecDepth 20000 in
theorem ggL_act_X0_throwSalt : GoodIn wsL_act wsX0_throwSalt := goodIn_ca (goodIn_ca (goodIn_ca (goodIn_r _ [58, 34, 35, 36, 37, 22, 38, 39, 40, 26, 59, 60, 61, 41, 42, 43, 44, 45, 46, 47, 48, 49, 24, 25, 62, 63, 64, 65, 66, 67, 68, 69, 70, 28, 71, 72, 6, 73, 74, 75, 76, 77, 78, 79, 80, 81, 82, 83, 84, 85, 160, 161, 162, 163, 164, 165, 166, 167, 168, 169, 170, 171, 172, 173] (by decide +kernel) (by decide +kernel)) (goodIn_sub (fun _ h => List.mem_cons_of_mem _ (List.mem_append_left _ (List.mem_append_right _ h))) (by decide +kernel))) (goodIn_sub (fun _ h => List.mem_cons_of_mem _ (List.mem_append_right _ h)) (by decide +kernel))) (goodIn_sub (fun _ h => List.mem_cons_of_mem _ (List.mem_append_left _ (List.mem_append_left _ (List.mem_append_right _ h)))) (by decide +kernel))
set_option maxRecDepth 20000 in
theorem gL_act_X0_throwSalt : GoodIn wsL_act (wsV RL 46 RX0 yX0_throwSalt wsX0_throwSalt) := goodIn_app (goodIn_of _ (by decide +kernel)) ggL_act_X0_throwSalt
set_option maxRecDepth 20000 in
theorem ggL_act_X1_cast : GoodIn wsL_act wsX1_cast := goodIn_r _ [89, 90, 91, 92, 2, 93, 15, 16, 17, 18, 155, 156, 157, 158, 159] (by decide +kernel) (by decide +kernel)
set_option maxRecDepth 20000 in
theorem gL_act_X1_cast : GoodIn wsL_act (wsV RL 50 RX1 yX1_cast wsX1_cast) := goodIn_app (goodIn_of _ (by decide +kernel)) ggL_act_X1_cast
set_option maxRecDepth 20000 in
theorem ggL_act_X0_doPenance : GoodIn wsL_act wsX0_doPenance := goodIn_ca (goodIn_ca (goodIn_r _ [97, 29, 35, 36, 37, 22, 38, 39, 40, 26, 41, 42, 43, 44, 45, 98, 99, 100, 101, 54, 5, 6, 7, 160, 161, 162, 163, 164, 165, 166, 167, 168, 169, 170, 171, 172, 173] (by decide +kernel) (by decide +kernel)) (goodIn_sub (fun _ h => List.mem_cons_of_mem _ (List.mem_append_left _ (List.mem_append_right _ h))) (by decide +kernel))) (goodIn_sub (fun _ h => List.mem_cons_of_mem _ (List.mem_append_right _ h)) (by decide +kernel))
set_option maxRecDepth 20000 in
theorem gL_act_X0_doPenance : GoodIn wsL_act (wsV RL 53 RX0 yX0_doPenance wsX0_doPenance) := goodIn_app (goodIn_of _ (by decide +kernel)) ggL_act_X0_doPenance
set_option maxRecDepth 20000 in
theorem ggL_act_X0_bringSalt : GoodIn wsL_act wsX0_bringSalt := goodIn_ca (goodIn_r _ [105, 34, 54, 5, 6, 7, 41, 42, 22, 43, 44, 45, 160, 161, 162, 163, 164, 165, 166, 167, 168, 169, 170, 171, 172, 173] (by decide +kernel) (by decide +kernel)) (goodIn_sub (fun _ h => List.mem_cons_of_mem _ (List.mem_append_right _ h)) (by decide +kernel))
set_option maxRecDepth 20000 in
theorem gL_act_X0_bringSalt : GoodIn wsL_act (wsV RL 56 RX0 yX0_bringSalt wsX0_bringSalt) := goodIn_app (goodIn_of _ (by decide +kernel)) ggL_act_X0_bringSalt
set_option maxRecDepth 20000 in
theorem ggL_act_X0_audit : GoodIn wsL_act wsX0_audit := goodIn_r _ [109, 26, 66, 110, 111, 112, 113, 22, 114, 85, 115, 116, 117, 118, 82, 50, 51, 52, 53, 28, 54, 5, 6, 7, 160, 161, 162, 163, 164, 165, 166, 167, 168, 169, 170, 171, 172, 173] (by decide +kernel) (by decide +kernel)
set_option maxRecDepth 20000 in
theorem gL_act_X0_audit : GoodIn wsL_act (wsV RL 60 RX0 yX0_audit wsX0_audit) := goodIn_app (goodIn_of _ (by decide +kernel)) ggL_act_X0_audit
set_option maxRecDepth 20000 in
theorem ggL_act_X1_audit : GoodIn wsL_act wsX1_audit := goodIn_r _ [122, 92, 90, 18, 123, 155, 156, 157, 158, 159] (by decide +kernel) (by decide +kernel)
set_option maxRecDepth 20000 in
theorem gL_act_X1_audit : GoodIn wsL_act (wsV RL 63 RX1 yX1_audit wsX1_audit) := goodIn_app (goodIn_of _ (by decide +kernel)) ggL_act_X1_audit
set_option maxRecDepth 20000 in
theorem ggL_act_X0_pass : GoodIn wsL_act wsX0_pass := goodIn_ca (goodIn_r _ [127, 41, 42, 22, 43, 44, 45, 128, 129, 130, 131, 132, 26, 133, 134, 135, 136, 107, 108, 109, 66, 110, 111, 112, 113, 114, 85, 115, 116, 117, 118, 82, 50, 51, 52, 53, 28, 54, 5, 6, 7, 137, 138, 139, 140, 29, 27, 71, 72, 73, 74, 75, 76, 77, 141, 142, 143, 144, 160, 161, 162, 163, 164, 165, 166, 167, 168, 169, 170, 171, 172, 173] (by decide +kernel) (by decide +kernel)) (goodIn_sub (fun _ h => List.mem_cons_of_mem _ (List.mem_append_right _ h)) (by decide +kernel))
set_option maxRecDepth 20000 in
theorem gL_act_X0_pass : GoodIn wsL_act (wsV RL 64 RX0 yX0_pass wsX0_pass) := goodIn_app (goodIn_of _ (by decide +kernel)) ggL_act_X0_pass
set_option maxRecDepth 20000 in
theorem ggL_act_X1_behind : GoodIn wsL_act wsX1_behind := goodIn_r _ [148, 149, 150, 151, 16, 152, 153, 90, 154, 120, 121, 122, 92, 18, 123, 155, 156, 157, 158, 159] (by decide +kernel) (by decide +kernel)
set_option maxRecDepth 20000 in
theorem gL_act_X1_behind : GoodIn wsL_act (wsV RL 67 RX1 yX1_behind wsX1_behind) := goodIn_app (goodIn_of _ (by decide +kernel)) ggL_act_X1_behind
theorem dL_act_0 : decode cL_act 0 = .ok (.aload_n 1, 1) := by decide +kernel
theorem dL_act_1 : decode cL_act 1 = .ok (.getfield 9, 3) := by decide +kernel
theorem dL_act_4 : decode cL_act 4 = .ok (.arraylength, 1) := by decide +kernel
theorem dL_act_5 : decode cL_act 5 = .ok (.istore_n 3, 1) := by decide +kernel
theorem dL_act_6 : decode cL_act 6 = .ok (.iload_n 2, 1) := by decide +kernel
theorem dL_act_7 : decode cL_act 7 = .ok (.bipush 9, 2) := by decide +kernel
theorem dL_act_9 : decode cL_act 9 = .ok (.ishr, 1) := by decide +kernel
theorem dL_act_10 : decode cL_act 10 = .ok (.bipush 20, 2) := by decide +kernel
theorem dL_act_12 : decode cL_act 12 = .ok (.invokestatic 15, 3) := by decide +kernel
theorem dL_act_15 : decode cL_act 15 = .ok (.istore 4, 2) := by decide +kernel
theorem dL_act_17 : decode cL_act 17 = .ok (.iload_n 3, 1) := by decide +kernel
theorem dL_act_18 : decode cL_act 18 = .ok (.ifCond .eq 8, 3) := by decide +kernel
theorem dL_act_21 : decode cL_act 21 = .ok (.iload 4, 2) := by decide +kernel
theorem dL_act_23 : decode cL_act 23 = .ok (.ifCond .ne 52, 3) := by decide +kernel
theorem dL_act_26 : decode cL_act 26 = .ok (.iload_n 3, 1) := by decide +kernel
theorem dL_act_27 : decode cL_act 27 = .ok (.bipush 8, 2) := by decide +kernel
theorem dL_act_29 : decode cL_act 29 = .ok (.if_icmp .ne 5, 3) := by decide +kernel
theorem dL_act_32 : decode cL_act 32 = .ok (.iconst 1, 1) := by decide +kernel
theorem dL_act_33 : decode cL_act 33 = .ok (.ireturn, 1) := by decide +kernel
theorem dL_act_34 : decode cL_act 34 = .ok (.aload_n 1, 1) := by decide +kernel
theorem dL_act_35 : decode cL_act 35 = .ok (.aload_n 1, 1) := by decide +kernel
theorem dL_act_36 : decode cL_act 36 = .ok (.getfield 9, 3) := by decide +kernel
theorem dL_act_39 : decode cL_act 39 = .ok (.iconst 3, 1) := by decide +kernel
theorem dL_act_40 : decode cL_act 40 = .ok (.newarray .int, 2) := by decide +kernel
theorem dL_act_42 : decode cL_act 42 = .ok (.dup, 1) := by decide +kernel
theorem dL_act_43 : decode cL_act 43 = .ok (.iconst 0, 1) := by decide +kernel
theorem dL_act_44 : decode cL_act 44 = .ok (.bipush 50, 2) := by decide +kernel
theorem dL_act_46 : decode cL_act 46 = .ok (.iastore, 1) := by decide +kernel
theorem dL_act_47 : decode cL_act 47 = .ok (.dup, 1) := by decide +kernel
theorem dL_act_48 : decode cL_act 48 = .ok (.iconst 1, 1) := by decide +kernel
theorem dL_act_49 : decode cL_act 49 = .ok (.iconst 0, 1) := by decide +kernel
theorem dL_act_50 : decode cL_act 50 = .ok (.iastore, 1) := by decide +kernel
theorem dL_act_51 : decode cL_act 51 = .ok (.dup, 1) := by decide +kernel
theorem dL_act_52 : decode cL_act 52 = .ok (.iconst 2, 1) := by decide +kernel
theorem dL_act_53 : decode cL_act 53 = .ok (.iconst 0, 1) := by decide +kernel
theorem dL_act_54 : decode cL_act 54 = .ok (.iastore, 1) := by decide +kernel
theorem dL_act_55 : decode cL_act 55 = .ok (.invokestatic 21, 3) := by decide +kernel
theorem dL_act_58 : decode cL_act 58 = .ok (.putfield 9, 3) := by decide +kernel
theorem dL_act_61 : decode cL_act 61 = .ok (.aload_n 0, 1) := by decide +kernel
theorem dL_act_62 : decode cL_act 62 = .ok (.invokevirtual 25, 3) := by decide +kernel
theorem dL_act_65 : decode cL_act 65 = .ok (.iload_n 3, 1) := by decide +kernel
theorem dL_act_66 : decode cL_act 66 = .ok (.if_icmp .ne 7, 3) := by decide +kernel
theorem dL_act_69 : decode cL_act 69 = .ok (.iconst 1, 1) := by decide +kernel
theorem dL_act_70 : decode cL_act 70 = .ok (.goto 4, 3) := by decide +kernel
theorem dL_act_73 : decode cL_act 73 = .ok (.iconst 0, 1) := by decide +kernel
theorem dL_act_74 : decode cL_act 74 = .ok (.ireturn, 1) := by decide +kernel
theorem dL_act_75 : decode cL_act 75 = .ok (.iload_n 2, 1) := by decide +kernel
theorem dL_act_76 : decode cL_act 76 = .ok (.iconst 1, 1) := by decide +kernel
theorem dL_act_77 : decode cL_act 77 = .ok (.ishr, 1) := by decide +kernel
theorem dL_act_78 : decode cL_act 78 = .ok (.iload_n 3, 1) := by decide +kernel
theorem dL_act_79 : decode cL_act 79 = .ok (.invokestatic 15, 3) := by decide +kernel
theorem dL_act_82 : decode cL_act 82 = .ok (.istore 5, 2) := by decide +kernel
theorem dL_act_84 : decode cL_act 84 = .ok (.iload 4, 2) := by decide +kernel
theorem dL_act_86 : decode cL_act 86 = .ok (.tableswitch 386 1 14 #[70, 70, 70, 70, 156, 156, 156, 156, 156, 233, 233, 297, 297, 359], 70) := by decide +kernel
theorem dL_act_156 : decode cL_act 156 = .ok (.iconst 1, 1) := by decide +kernel
theorem dL_act_157 : decode cL_act 157 = .ok (.iload_n 2, 1) := by decide +kernel
theorem dL_act_158 : decode cL_act 158 = .ok (.iconst 3, 1) := by decide +kernel
theorem dL_act_159 : decode cL_act 159 = .ok (.ishr, 1) := by decide +kernel
theorem dL_act_160 : decode cL_act 160 = .ok (.bipush 30, 2) := by decide +kernel
theorem dL_act_162 : decode cL_act 162 = .ok (.invokestatic 15, 3) := by decide +kernel
theorem dL_act_165 : decode cL_act 165 = .ok (.iadd, 1) := by decide +kernel
theorem dL_act_166 : decode cL_act 166 = .ok (.istore 6, 2) := by decide +kernel
theorem dL_act_168 : decode cL_act 168 = .ok (.iload 6, 2) := by decide +kernel
theorem dL_act_170 : decode cL_act 170 = .ok (.aload_n 1, 1) := by decide +kernel
theorem dL_act_171 : decode cL_act 171 = .ok (.getfield 31, 3) := by decide +kernel
theorem dL_act_174 : decode cL_act 174 = .ok (.if_icmp .le 5, 3) := by decide +kernel
theorem dL_act_177 : decode cL_act 177 = .ok (.iconst 1, 1) := by decide +kernel
theorem dL_act_178 : decode cL_act 178 = .ok (.ireturn, 1) := by decide +kernel
theorem dL_act_179 : decode cL_act 179 = .ok (.aload_n 1, 1) := by decide +kernel
theorem dL_act_180 : decode cL_act 180 = .ok (.dup, 1) := by decide +kernel
theorem dL_act_181 : decode cL_act 181 = .ok (.getfield 31, 3) := by decide +kernel
theorem dL_act_184 : decode cL_act 184 = .ok (.iload 6, 2) := by decide +kernel
theorem dL_act_186 : decode cL_act 186 = .ok (.isub, 1) := by decide +kernel
theorem dL_act_187 : decode cL_act 187 = .ok (.putfield 31, 3) := by decide +kernel
theorem dL_act_190 : decode cL_act 190 = .ok (.aload_n 1, 1) := by decide +kernel
theorem dL_act_191 : decode cL_act 191 = .ok (.getfield 9, 3) := by decide +kernel
theorem dL_act_194 : decode cL_act 194 = .ok (.iload 5, 2) := by decide +kernel
theorem dL_act_196 : decode cL_act 196 = .ok (.aaload, 1) := by decide +kernel
theorem dL_act_197 : decode cL_act 197 = .ok (.iconst 1, 1) := by decide +kernel
theorem dL_act_198 : decode cL_act 198 = .ok (.bipush 99, 2) := by decide +kernel
theorem dL_act_200 : decode cL_act 200 = .ok (.aload_n 1, 1) := by decide +kernel
theorem dL_act_201 : decode cL_act 201 = .ok (.getfield 9, 3) := by decide +kernel
theorem dL_act_204 : decode cL_act 204 = .ok (.iload 5, 2) := by decide +kernel
theorem dL_act_206 : decode cL_act 206 = .ok (.aaload, 1) := by decide +kernel
theorem dL_act_207 : decode cL_act 207 = .ok (.iconst 1, 1) := by decide +kernel
theorem dL_act_208 : decode cL_act 208 = .ok (.iaload, 1) := by decide +kernel
theorem dL_act_209 : decode cL_act 209 = .ok (.iload 6, 2) := by decide +kernel
theorem dL_act_211 : decode cL_act 211 = .ok (.iadd, 1) := by decide +kernel
theorem dL_act_212 : decode cL_act 212 = .ok (.invokestatic 35, 3) := by decide +kernel
theorem dL_act_215 : decode cL_act 215 = .ok (.iastore, 1) := by decide +kernel
theorem dL_act_216 : decode cL_act 216 = .ok (.aload_n 0, 1) := by decide +kernel
theorem dL_act_217 : decode cL_act 217 = .ok (.iload 5, 2) := by decide +kernel
theorem dL_act_219 : decode cL_act 219 = .ok (.iload 6, 2) := by decide +kernel
theorem dL_act_221 : decode cL_act 221 = .ok (.invokevirtual 40, 3) := by decide +kernel
theorem dL_act_224 : decode cL_act 224 = .ok (.aload_n 1, 1) := by decide +kernel
theorem dL_act_225 : decode cL_act 225 = .ok (.getfield 9, 3) := by decide +kernel
theorem dL_act_228 : decode cL_act 228 = .ok (.iload 5, 2) := by decide +kernel
theorem dL_act_230 : decode cL_act 230 = .ok (.aaload, 1) := by decide +kernel
theorem dL_act_231 : decode cL_act 231 = .ok (.iconst 1, 1) := by decide +kernel
theorem dL_act_232 : decode cL_act 232 = .ok (.iaload, 1) := by decide +kernel
theorem dL_act_233 : decode cL_act 233 = .ok (.if_icmp .ne 7, 3) := by decide +kernel
theorem dL_act_236 : decode cL_act 236 = .ok (.iconst 1, 1) := by decide +kernel
theorem dL_act_237 : decode cL_act 237 = .ok (.goto 4, 3) := by decide +kernel
theorem dL_act_240 : decode cL_act 240 = .ok (.iconst 0, 1) := by decide +kernel
theorem dL_act_241 : decode cL_act 241 = .ok (.ireturn, 1) := by decide +kernel
theorem dL_act_242 : decode cL_act 242 = .ok (.iconst 1, 1) := by decide +kernel
theorem dL_act_243 : decode cL_act 243 = .ok (.iload_n 2, 1) := by decide +kernel
theorem dL_act_244 : decode cL_act 244 = .ok (.iconst 3, 1) := by decide +kernel
theorem dL_act_245 : decode cL_act 245 = .ok (.ishr, 1) := by decide +kernel
theorem dL_act_246 : decode cL_act 246 = .ok (.bipush 9, 2) := by decide +kernel
theorem dL_act_248 : decode cL_act 248 = .ok (.invokestatic 15, 3) := by decide +kernel
theorem dL_act_251 : decode cL_act 251 = .ok (.iadd, 1) := by decide +kernel
theorem dL_act_252 : decode cL_act 252 = .ok (.istore 7, 2) := by decide +kernel
theorem dL_act_254 : decode cL_act 254 = .ok (.iload_n 2, 1) := by decide +kernel
theorem dL_act_255 : decode cL_act 255 = .ok (.iconst 4, 1) := by decide +kernel
theorem dL_act_256 : decode cL_act 256 = .ok (.invokestatic 15, 3) := by decide +kernel
theorem dL_act_259 : decode cL_act 259 = .ok (.ifCond .ne 7, 3) := by decide +kernel
theorem dL_act_262 : decode cL_act 262 = .ok (.iconst 1, 1) := by decide +kernel
theorem dL_act_263 : decode cL_act 263 = .ok (.goto 4, 3) := by decide +kernel
theorem dL_act_266 : decode cL_act 266 = .ok (.iconst 0, 1) := by decide +kernel
theorem dL_act_267 : decode cL_act 267 = .ok (.istore 8, 2) := by decide +kernel
theorem dL_act_269 : decode cL_act 269 = .ok (.iload 7, 2) := by decide +kernel
theorem dL_act_271 : decode cL_act 271 = .ok (.aload_n 1, 1) := by decide +kernel
theorem dL_act_272 : decode cL_act 272 = .ok (.getfield 31, 3) := by decide +kernel
theorem dL_act_275 : decode cL_act 275 = .ok (.if_icmp .gt 13, 3) := by decide +kernel
theorem dL_act_278 : decode cL_act 278 = .ok (.aload_n 1, 1) := by decide +kernel
theorem dL_act_279 : decode cL_act 279 = .ok (.getfield 43, 3) := by decide +kernel
theorem dL_act_282 : decode cL_act 282 = .ok (.arraylength, 1) := by decide +kernel
theorem dL_act_283 : decode cL_act 283 = .ok (.bipush 30, 2) := by decide +kernel
theorem dL_act_285 : decode cL_act 285 = .ok (.if_icmp .ne 5, 3) := by decide +kernel
theorem dL_act_288 : decode cL_act 288 = .ok (.iconst 1, 1) := by decide +kernel
theorem dL_act_289 : decode cL_act 289 = .ok (.ireturn, 1) := by decide +kernel
theorem dL_act_290 : decode cL_act 290 = .ok (.aload_n 0, 1) := by decide +kernel
theorem dL_act_291 : decode cL_act 291 = .ok (.iload 5, 2) := by decide +kernel
theorem dL_act_293 : decode cL_act 293 = .ok (.iload 8, 2) := by decide +kernel
theorem dL_act_295 : decode cL_act 295 = .ok (.iload 7, 2) := by decide +kernel
theorem dL_act_297 : decode cL_act 297 = .ok (.invokevirtual 46, 3) := by decide +kernel
theorem dL_act_300 : decode cL_act 300 = .ok (.aload_n 1, 1) := by decide +kernel
theorem dL_act_301 : decode cL_act 301 = .ok (.iload 5, 2) := by decide +kernel
theorem dL_act_303 : decode cL_act 303 = .ok (.iload 8, 2) := by decide +kernel
theorem dL_act_305 : decode cL_act 305 = .ok (.iload 7, 2) := by decide +kernel
theorem dL_act_307 : decode cL_act 307 = .ok (.invokevirtual 50, 3) := by decide +kernel
theorem dL_act_310 : decode cL_act 310 = .ok (.if_icmp .ne 7, 3) := by decide +kernel
theorem dL_act_313 : decode cL_act 313 = .ok (.iconst 1, 1) := by decide +kernel
theorem dL_act_314 : decode cL_act 314 = .ok (.goto 4, 3) := by decide +kernel
theorem dL_act_317 : decode cL_act 317 = .ok (.iconst 0, 1) := by decide +kernel
theorem dL_act_318 : decode cL_act 318 = .ok (.ireturn, 1) := by decide +kernel
theorem dL_act_319 : decode cL_act 319 = .ok (.iconst 1, 1) := by decide +kernel
theorem dL_act_320 : decode cL_act 320 = .ok (.iload_n 2, 1) := by decide +kernel
theorem dL_act_321 : decode cL_act 321 = .ok (.iconst 3, 1) := by decide +kernel
theorem dL_act_322 : decode cL_act 322 = .ok (.ishr, 1) := by decide +kernel
theorem dL_act_323 : decode cL_act 323 = .ok (.bipush 9, 2) := by decide +kernel
theorem dL_act_325 : decode cL_act 325 = .ok (.invokestatic 15, 3) := by decide +kernel
theorem dL_act_328 : decode cL_act 328 = .ok (.iadd, 1) := by decide +kernel
theorem dL_act_329 : decode cL_act 329 = .ok (.istore 9, 2) := by decide +kernel
theorem dL_act_331 : decode cL_act 331 = .ok (.aload_n 1, 1) := by decide +kernel
theorem dL_act_332 : decode cL_act 332 = .ok (.getfield 9, 3) := by decide +kernel
theorem dL_act_335 : decode cL_act 335 = .ok (.iload 5, 2) := by decide +kernel
theorem dL_act_337 : decode cL_act 337 = .ok (.aaload, 1) := by decide +kernel
theorem dL_act_338 : decode cL_act 338 = .ok (.iconst 2, 1) := by decide +kernel
theorem dL_act_339 : decode cL_act 339 = .ok (.bipush 9, 2) := by decide +kernel
theorem dL_act_341 : decode cL_act 341 = .ok (.aload_n 1, 1) := by decide +kernel
theorem dL_act_342 : decode cL_act 342 = .ok (.getfield 9, 3) := by decide +kernel
theorem dL_act_345 : decode cL_act 345 = .ok (.iload 5, 2) := by decide +kernel
theorem dL_act_347 : decode cL_act 347 = .ok (.aaload, 1) := by decide +kernel
theorem dL_act_348 : decode cL_act 348 = .ok (.iconst 2, 1) := by decide +kernel
theorem dL_act_349 : decode cL_act 349 = .ok (.iaload, 1) := by decide +kernel
theorem dL_act_350 : decode cL_act 350 = .ok (.iload 9, 2) := by decide +kernel
theorem dL_act_352 : decode cL_act 352 = .ok (.iadd, 1) := by decide +kernel
theorem dL_act_353 : decode cL_act 353 = .ok (.invokestatic 35, 3) := by decide +kernel
theorem dL_act_356 : decode cL_act 356 = .ok (.iastore, 1) := by decide +kernel
theorem dL_act_357 : decode cL_act 357 = .ok (.aload_n 0, 1) := by decide +kernel
theorem dL_act_358 : decode cL_act 358 = .ok (.iload 5, 2) := by decide +kernel
theorem dL_act_360 : decode cL_act 360 = .ok (.iload 9, 2) := by decide +kernel
theorem dL_act_362 : decode cL_act 362 = .ok (.invokevirtual 53, 3) := by decide +kernel
theorem dL_act_365 : decode cL_act 365 = .ok (.aload_n 1, 1) := by decide +kernel
theorem dL_act_366 : decode cL_act 366 = .ok (.getfield 9, 3) := by decide +kernel
theorem dL_act_369 : decode cL_act 369 = .ok (.iload 5, 2) := by decide +kernel
theorem dL_act_371 : decode cL_act 371 = .ok (.aaload, 1) := by decide +kernel
theorem dL_act_372 : decode cL_act 372 = .ok (.iconst 2, 1) := by decide +kernel
theorem dL_act_373 : decode cL_act 373 = .ok (.iaload, 1) := by decide +kernel
theorem dL_act_374 : decode cL_act 374 = .ok (.if_icmp .ne 7, 3) := by decide +kernel
theorem dL_act_377 : decode cL_act 377 = .ok (.iconst 1, 1) := by decide +kernel
theorem dL_act_378 : decode cL_act 378 = .ok (.goto 4, 3) := by decide +kernel
theorem dL_act_381 : decode cL_act 381 = .ok (.iconst 0, 1) := by decide +kernel
theorem dL_act_382 : decode cL_act 382 = .ok (.ireturn, 1) := by decide +kernel
theorem dL_act_383 : decode cL_act 383 = .ok (.iconst 1, 1) := by decide +kernel
theorem dL_act_384 : decode cL_act 384 = .ok (.iload_n 2, 1) := by decide +kernel
theorem dL_act_385 : decode cL_act 385 = .ok (.iconst 3, 1) := by decide +kernel
theorem dL_act_386 : decode cL_act 386 = .ok (.ishr, 1) := by decide +kernel
theorem dL_act_387 : decode cL_act 387 = .ok (.iload_n 2, 1) := by decide +kernel
theorem dL_act_388 : decode cL_act 388 = .ok (.iconst 2, 1) := by decide +kernel
theorem dL_act_389 : decode cL_act 389 = .ok (.invokestatic 15, 3) := by decide +kernel
theorem dL_act_392 : decode cL_act 392 = .ok (.ifCond .ne 9, 3) := by decide +kernel
theorem dL_act_395 : decode cL_act 395 = .ok (.sipush 500, 3) := by decide +kernel
theorem dL_act_398 : decode cL_act 398 = .ok (.goto 5, 3) := by decide +kernel
theorem dL_act_401 : decode cL_act 401 = .ok (.bipush 60, 2) := by decide +kernel
theorem dL_act_403 : decode cL_act 403 = .ok (.invokestatic 15, 3) := by decide +kernel
theorem dL_act_406 : decode cL_act 406 = .ok (.iadd, 1) := by decide +kernel
theorem dL_act_407 : decode cL_act 407 = .ok (.istore 10, 2) := by decide +kernel
theorem dL_act_409 : decode cL_act 409 = .ok (.aload_n 1, 1) := by decide +kernel
theorem dL_act_410 : decode cL_act 410 = .ok (.sipush 500, 3) := by decide +kernel
theorem dL_act_413 : decode cL_act 413 = .ok (.aload_n 1, 1) := by decide +kernel
theorem dL_act_414 : decode cL_act 414 = .ok (.getfield 31, 3) := by decide +kernel
theorem dL_act_417 : decode cL_act 417 = .ok (.iload 10, 2) := by decide +kernel
theorem dL_act_419 : decode cL_act 419 = .ok (.iadd, 1) := by decide +kernel
theorem dL_act_420 : decode cL_act 420 = .ok (.invokestatic 35, 3) := by decide +kernel
theorem dL_act_423 : decode cL_act 423 = .ok (.putfield 31, 3) := by decide +kernel
theorem dL_act_426 : decode cL_act 426 = .ok (.aload_n 0, 1) := by decide +kernel
theorem dL_act_427 : decode cL_act 427 = .ok (.iload 10, 2) := by decide +kernel
theorem dL_act_429 : decode cL_act 429 = .ok (.invokevirtual 56, 3) := by decide +kernel
theorem dL_act_432 : decode cL_act 432 = .ok (.aload_n 1, 1) := by decide +kernel
theorem dL_act_433 : decode cL_act 433 = .ok (.getfield 31, 3) := by decide +kernel
theorem dL_act_436 : decode cL_act 436 = .ok (.if_icmp .ne 7, 3) := by decide +kernel
theorem dL_act_439 : decode cL_act 439 = .ok (.iconst 1, 1) := by decide +kernel
theorem dL_act_440 : decode cL_act 440 = .ok (.goto 4, 3) := by decide +kernel
theorem dL_act_443 : decode cL_act 443 = .ok (.iconst 0, 1) := by decide +kernel
theorem dL_act_444 : decode cL_act 444 = .ok (.ireturn, 1) := by decide +kernel
theorem dL_act_445 : decode cL_act 445 = .ok (.iload_n 2, 1) := by decide +kernel
theorem dL_act_446 : decode cL_act 446 = .ok (.iconst 3, 1) := by decide +kernel
theorem dL_act_447 : decode cL_act 447 = .ok (.invokestatic 15, 3) := by decide +kernel
theorem dL_act_450 : decode cL_act 450 = .ok (.ifCond .le 5, 3) := by decide +kernel
theorem dL_act_453 : decode cL_act 453 = .ok (.iconst 1, 1) := by decide +kernel
theorem dL_act_454 : decode cL_act 454 = .ok (.ireturn, 1) := by decide +kernel
theorem dL_act_455 : decode cL_act 455 = .ok (.aload_n 0, 1) := by decide +kernel
theorem dL_act_456 : decode cL_act 456 = .ok (.invokevirtual 60, 3) := by decide +kernel
theorem dL_act_459 : decode cL_act 459 = .ok (.aload_n 1, 1) := by decide +kernel
theorem dL_act_460 : decode cL_act 460 = .ok (.invokevirtual 63, 3) := by decide +kernel
theorem dL_act_463 : decode cL_act 463 = .ok (.if_icmp .ne 7, 3) := by decide +kernel
theorem dL_act_466 : decode cL_act 466 = .ok (.iconst 1, 1) := by decide +kernel
theorem dL_act_467 : decode cL_act 467 = .ok (.goto 4, 3) := by decide +kernel
theorem dL_act_470 : decode cL_act 470 = .ok (.iconst 0, 1) := by decide +kernel
theorem dL_act_471 : decode cL_act 471 = .ok (.ireturn, 1) := by decide +kernel
theorem dL_act_472 : decode cL_act 472 = .ok (.iconst 1, 1) := by decide +kernel
theorem dL_act_473 : decode cL_act 473 = .ok (.iload_n 2, 1) := by decide +kernel
theorem dL_act_474 : decode cL_act 474 = .ok (.iconst 2, 1) := by decide +kernel
theorem dL_act_475 : decode cL_act 475 = .ok (.ishr, 1) := by decide +kernel
theorem dL_act_476 : decode cL_act 476 = .ok (.iload_n 2, 1) := by decide +kernel
theorem dL_act_477 : decode cL_act 477 = .ok (.bipush 6, 2) := by decide +kernel
theorem dL_act_479 : decode cL_act 479 = .ok (.invokestatic 15, 3) := by decide +kernel
theorem dL_act_482 : decode cL_act 482 = .ok (.ifCond .ne 8, 3) := by decide +kernel
theorem dL_act_485 : decode cL_act 485 = .ok (.bipush 60, 2) := by decide +kernel
theorem dL_act_487 : decode cL_act 487 = .ok (.goto 4, 3) := by decide +kernel
theorem dL_act_490 : decode cL_act 490 = .ok (.iconst 4, 1) := by decide +kernel
theorem dL_act_491 : decode cL_act 491 = .ok (.invokestatic 15, 3) := by decide +kernel
theorem dL_act_494 : decode cL_act 494 = .ok (.iadd, 1) := by decide +kernel
theorem dL_act_495 : decode cL_act 495 = .ok (.istore 11, 2) := by decide +kernel
theorem dL_act_497 : decode cL_act 497 = .ok (.aload_n 0, 1) := by decide +kernel
theorem dL_act_498 : decode cL_act 498 = .ok (.iload 11, 2) := by decide +kernel
theorem dL_act_500 : decode cL_act 500 = .ok (.invokevirtual 64, 3) := by decide +kernel
theorem dL_act_503 : decode cL_act 503 = .ok (.aload_n 1, 1) := by decide +kernel
theorem dL_act_504 : decode cL_act 504 = .ok (.iload 11, 2) := by decide +kernel
theorem dL_act_506 : decode cL_act 506 = .ok (.invokevirtual 67, 3) := by decide +kernel
theorem dL_act_509 : decode cL_act 509 = .ok (.if_icmp .ne 7, 3) := by decide +kernel
theorem dL_act_512 : decode cL_act 512 = .ok (.iconst 1, 1) := by decide +kernel
theorem dL_act_513 : decode cL_act 513 = .ok (.goto 4, 3) := by decide +kernel
theorem dL_act_516 : decode cL_act 516 = .ok (.iconst 0, 1) := by decide +kernel
theorem dL_act_517 : decode cL_act 517 = .ok (.ireturn, 1) := by decide +kernel
set_option maxRecDepth 20000 in
theorem ggL_build_X1_init : GoodIn wsL_build wsX1_init := goodIn_r _ [5, 6, 7, 8, 9, 10, 11, 12, 169, 170, 171, 172, 173] (by decide +kernel) (by decide +kernel)
set_option maxRecDepth 20000 in
theorem gL_build_X1_init_n70 : GoodIn wsL_build (wsX1_init) := ggL_build_X1_init
set_option maxRecDepth 20000 in
theorem ggL_build_L_cell : GoodIn wsL_build wsL_cell := goodIn_r _ [16, 17] (by decide +kernel) (by decide +kernel)
set_option maxRecDepth 20000 in
theorem gL_build_L_cell : GoodIn wsL_build (va_wsS RL 71 yL_cell wsL_cell) := goodIn_app (goodIn_of _ (by decide +kernel)) ggL_build_L_cell
set_option maxRecDepth 20000 in
theorem ggL_build_L_below : GoodIn wsL_build wsL_below := goodIn_r _ [20, 21] (by decide +kernel) (by decide +kernel)
set_option maxRecDepth 20000 in
theorem gL_build_L_below : GoodIn wsL_build (va_wsS RL 15 yL_below wsL_below) := goodIn_app (goodIn_of _ (by decide +kernel)) ggL_build_L_below
set_option maxRecDepth 20000 in
theorem ggL_build_L_act_r2 : GoodIn wsL_build wsL_act_r2 := goodIn_r _ [42, 43, 44, 45, 46, 47, 48, 49, 50, 51, 52, 53, 54, 55, 56, 57, 58, 59, 60, 61, 62, 63, 64, 65] (by decide +kernel) (by decide +kernel)
set_option maxRecDepth 20000 in
theorem ggL_build_L_act_r3 : GoodIn wsL_build wsL_act_r3 := goodIn_r _ [66, 67, 68, 69, 70, 71, 72, 73, 74, 75, 76, 77, 78, 79, 80, 81, 82, 83, 84, 85, 86, 87, 88, 89] (by decide +kernel) (by decide +kernel)
set_option maxRecDepth 20000 in
theorem ggL_build_L_act_r4 : GoodIn wsL_build wsL_act_r4 := goodIn_r _ [90, 91, 92, 93, 94, 95, 96, 97, 98, 99, 100, 101, 102, 103, 104, 105, 106, 11, 9, 12, 107, 108, 109, 110] (by decide +kernel) (by decide +kernel)
set_option maxRecDepth 20000 in
theorem ggL_build_L_act_r5 : GoodIn wsL_build wsL_act_r5 := goodIn_r _ [111, 112, 113, 114, 115, 116, 117, 118, 119, 120, 121, 122, 123, 124, 125, 126, 127, 128, 129, 130, 131, 132, 133, 134] (by decide +kernel) (by decide +kernel)
set_option maxRecDepth 20000 in
theorem ggL_build_L_act_r6 : GoodIn wsL_build wsL_act_r6 := goodIn_r _ [135, 136, 137, 138, 139, 140, 141, 142, 143, 144, 145, 146, 147, 148, 149, 150, 151, 152, 153, 154, 155, 156, 157, 158] (by decide +kernel) (by decide +kernel)
set_option maxRecDepth 20000 in
theorem ggL_build_L_act_r7 : GoodIn wsL_build wsL_act_r7 := goodIn_r _ [159, 160, 161, 162, 163, 164, 165, 166, 167, 168] (by decide +kernel) (by decide +kernel)
set_option maxRecDepth 20000 in
theorem ggL_build_L_act_r1 : GoodIn wsL_build (.code yL_act cL_act 12 (some .boolean) :: wsL_act_r1) := goodIn_r _ [24, 25, 26, 27, 28, 29, 30, 31, 32, 18, 19, 15, 20, 21, 33, 34, 3, 35, 10, 36, 37, 38, 39, 40, 41] (by decide +kernel) (by decide +kernel)
set_option maxRecDepth 20000 in
theorem ggL_build_L_act : GoodIn wsL_build wsL_act := goodIn_ca (goodIn_ca (goodIn_ca (goodIn_ca (goodIn_ca (goodIn_ca ggL_build_L_act_r1 (goodIn_app ggL_build_L_act_r2 (goodIn_app ggL_build_L_act_r3 (goodIn_app ggL_build_L_act_r4 (goodIn_app ggL_build_L_act_r5 (goodIn_app ggL_build_L_act_r6 (ggL_build_L_act_r7))))))) (goodIn_r _ [169, 170, 171, 172, 173] (by decide +kernel) (by decide +kernel))) (goodIn_r _ [174, 175, 176, 177, 178, 179, 180, 181, 182, 183, 184, 185, 186, 187] (by decide +kernel) (by decide +kernel))) (goodIn_sub (fun _ h => List.mem_cons_of_mem _ (List.mem_append_left _ (List.mem_append_left _ (List.mem_append_right _ h)))) (by decide +kernel))) (goodIn_sub (fun _ h => List.mem_cons_of_mem _ (List.mem_append_left _ (List.mem_append_right _ h))) (by decide +kernel))) (goodIn_sub (fun _ h => List.mem_cons_of_mem _ (List.mem_append_right _ h)) (by decide +kernel))
set_option maxRecDepth 20000 in
theorem gL_build_L_act : GoodIn wsL_build (va_wsS RL 75 yL_act wsL_act) := goodIn_app (goodIn_of _ (by decide +kernel)) ggL_build_L_act
theorem dL_build_0 : decode cL_build 0 = .ok (.new 10, 3) := by decide +kernel
theorem dL_build_3 : decode cL_build 3 = .ok (.dup, 1) := by decide +kernel
theorem dL_build_4 : decode cL_build 4 = .ok (.invokespecial 70, 3) := by decide +kernel
theorem dL_build_7 : decode cL_build 7 = .ok (.astore_n 2, 1) := by decide +kernel
theorem dL_build_8 : decode cL_build 8 = .ok (.bipush 10, 2) := by decide +kernel
theorem dL_build_10 : decode cL_build 10 = .ok (.aload_n 1, 1) := by decide +kernel
theorem dL_build_11 : decode cL_build 11 = .ok (.iconst 0, 1) := by decide +kernel
theorem dL_build_12 : decode cL_build 12 = .ok (.invokestatic 71, 3) := by decide +kernel
theorem dL_build_15 : decode cL_build 15 = .ok (.bipush 50, 2) := by decide +kernel
theorem dL_build_17 : decode cL_build 17 = .ok (.invokestatic 15, 3) := by decide +kernel
theorem dL_build_20 : decode cL_build 20 = .ok (.iadd, 1) := by decide +kernel
theorem dL_build_21 : decode cL_build 21 = .ok (.istore_n 3, 1) := by decide +kernel
theorem dL_build_22 : decode cL_build 22 = .ok (.iconst 0, 1) := by decide +kernel
theorem dL_build_23 : decode cL_build 23 = .ok (.istore 4, 2) := by decide +kernel
theorem dL_build_25 : decode cL_build 25 = .ok (.iload 4, 2) := by decide +kernel
theorem dL_build_27 : decode cL_build 27 = .ok (.iload_n 3, 1) := by decide +kernel
theorem dL_build_28 : decode cL_build 28 = .ok (.if_icmp .ge 43, 3) := by decide +kernel
theorem dL_build_31 : decode cL_build 31 = .ok (.aload_n 0, 1) := by decide +kernel
theorem dL_build_32 : decode cL_build 32 = .ok (.aload_n 2, 1) := by decide +kernel
theorem dL_build_33 : decode cL_build 33 = .ok (.aload_n 1, 1) := by decide +kernel
theorem dL_build_34 : decode cL_build 34 = .ok (.iload 4, 2) := by decide +kernel
theorem dL_build_36 : decode cL_build 36 = .ok (.bipush 16, 2) := by decide +kernel
theorem dL_build_38 : decode cL_build 38 = .ok (.irem, 1) := by decide +kernel
theorem dL_build_39 : decode cL_build 39 = .ok (.invokestatic 71, 3) := by decide +kernel
theorem dL_build_42 : decode cL_build 42 = .ok (.iload 4, 2) := by decide +kernel
theorem dL_build_44 : decode cL_build 44 = .ok (.bipush 16, 2) := by decide +kernel
theorem dL_build_46 : decode cL_build 46 = .ok (.idiv, 1) := by decide +kernel
theorem dL_build_47 : decode cL_build 47 = .ok (.iconst 3, 1) := by decide +kernel
theorem dL_build_48 : decode cL_build 48 = .ok (.imul, 1) := by decide +kernel
theorem dL_build_49 : decode cL_build 49 = .ok (.ishr, 1) := by decide +kernel
theorem dL_build_50 : decode cL_build 50 = .ok (.sipush 613, 3) := by decide +kernel
theorem dL_build_53 : decode cL_build 53 = .ok (.iload 4, 2) := by decide +kernel
theorem dL_build_55 : decode cL_build 55 = .ok (.imul, 1) := by decide +kernel
theorem dL_build_56 : decode cL_build 56 = .ok (.iadd, 1) := by decide +kernel
theorem dL_build_57 : decode cL_build 57 = .ok (.invokestatic 75, 3) := by decide +kernel
theorem dL_build_60 : decode cL_build 60 = .ok (.ifCond .ne 5, 3) := by decide +kernel
theorem dL_build_63 : decode cL_build 63 = .ok (.aconst_null, 1) := by decide +kernel
theorem dL_build_64 : decode cL_build 64 = .ok (.areturn, 1) := by decide +kernel
theorem dL_build_65 : decode cL_build 65 = .ok (.iinc 4 1, 3) := by decide +kernel
theorem dL_build_68 : decode cL_build 68 = .ok (.goto (-43), 3) := by decide +kernel
theorem dL_build_71 : decode cL_build 71 = .ok (.aload_n 2, 1) := by decide +kernel
theorem dL_build_72 : decode cL_build 72 = .ok (.areturn, 1) := by decide +kernel
set_option maxRecDepth 20000 in
theorem ggL_law_X0_init : GoodIn wsL_law wsX0_init := goodIn_r _ [13, 14, 15, 16, 3, 17, 18, 19, 20, 21, 22, 23, 24, 25, 26, 27, 28, 29, 293, 294, 295, 296, 297, 298, 299, 300, 301, 302, 303, 304, 305, 306] (by decide +kernel) (by decide +kernel)
set_option maxRecDepth 20000 in
theorem gL_law_X0_init : GoodIn wsL_law (wsX0_init) := ggL_law_X0_init
set_option maxRecDepth 20000 in
theorem ggL_law_L_build_r2 : GoodIn wsL_law wsL_build_r2 := goodIn_r _ [55, 3, 56, 4, 5, 6, 7, 57, 58, 59, 60, 61, 62, 63, 2, 64, 65, 66, 25, 17, 18, 19, 67, 68] (by decide +kernel) (by decide +kernel)
set_option maxRecDepth 20000 in
theorem ggL_law_L_build_r3 : GoodIn wsL_law wsL_build_r3 := goodIn_r _ [69, 70, 27, 71, 72, 73, 74, 75, 76, 77, 78, 79, 80, 81, 82, 83, 84, 85, 86, 87, 88, 89, 90, 91] (by decide +kernel) (by decide +kernel)
set_option maxRecDepth 20000 in
theorem ggL_law_L_build_r4 : GoodIn wsL_law wsL_build_r4 := goodIn_r _ [92, 93, 94, 95, 96, 97, 98, 99, 100, 101, 26, 102, 103, 104, 105, 106, 9, 10, 107, 108, 109, 110, 111, 112] (by decide +kernel) (by decide +kernel)
set_option maxRecDepth 20000 in
theorem ggL_law_L_build_r5 : GoodIn wsL_law wsL_build_r5 := goodIn_r _ [113, 114, 20, 22, 23, 24, 115, 116, 117, 118, 119, 120, 121, 122, 123, 124, 125, 126, 127, 128, 129, 130, 131, 132] (by decide +kernel) (by decide +kernel)
set_option maxRecDepth 20000 in
theorem ggL_law_L_build_r6 : GoodIn wsL_law wsL_build_r6 := goodIn_r _ [133, 134, 135, 29, 136, 137, 138, 139, 140, 141, 142, 143, 144, 145, 146, 147, 148, 149, 150, 151, 152, 153, 154, 155] (by decide +kernel) (by decide +kernel)
set_option maxRecDepth 20000 in
theorem ggL_law_L_build_r7 : GoodIn wsL_law wsL_build_r7 := goodIn_r _ [156, 28, 157, 158, 159, 160, 161, 162, 163, 164, 165, 166, 167, 168, 169, 170, 171, 172, 173, 174, 175, 176, 177, 178] (by decide +kernel) (by decide +kernel)
set_option maxRecDepth 20000 in
theorem ggL_law_L_build_r1 : GoodIn wsL_law (.code yL_build cL_build 5 (some (.object "SaltOrderLaw$Sim")) :: wsL_build_r1) := goodIn_r _ [33, 34, 35, 36, 37, 38, 39, 15, 16, 40, 41, 42, 43, 44, 45, 32, 46, 47, 48, 49, 50, 51, 52, 53, 54] (by decide +kernel) (by decide +kernel)
set_option maxRecDepth 20000 in
theorem ggL_law_L_build : GoodIn wsL_law wsL_build := goodIn_ca (goodIn_ca (goodIn_ca (goodIn_ca (goodIn_ca (goodIn_ca ggL_law_L_build_r1 (goodIn_app ggL_law_L_build_r2 (goodIn_app ggL_law_L_build_r3 (goodIn_app ggL_law_L_build_r4 (goodIn_app ggL_law_L_build_r5 (goodIn_app ggL_law_L_build_r6 (ggL_law_L_build_r7))))))) (goodIn_r _ [307, 308, 309, 310, 311] (by decide +kernel) (by decide +kernel))) (goodIn_r _ [293, 294, 295, 296, 297, 298, 299, 300, 301, 302, 303, 304, 305, 306] (by decide +kernel) (by decide +kernel))) (goodIn_sub (fun _ h => List.mem_append_left _ (List.mem_append_left _ (List.mem_append_right _ h))) (by decide +kernel))) (goodIn_sub (fun _ h => List.mem_append_left _ (List.mem_append_right _ h)) (by decide +kernel))) (goodIn_sub (fun _ h => List.mem_append_right _ h) (by decide +kernel))
set_option maxRecDepth 20000 in
theorem gL_law_L_build : GoodIn wsL_law (va_wsS RL 80 yL_build wsL_build) := goodIn_app (goodIn_of _ (by decide +kernel)) ggL_law_L_build
set_option maxRecDepth 20000 in
theorem ggL_law_L_cell : GoodIn wsL_law wsL_cell := goodIn_r _ [46, 47] (by decide +kernel) (by decide +kernel)
set_option maxRecDepth 20000 in
theorem gL_law_L_cell : GoodIn wsL_law (va_wsS RL 71 yL_cell wsL_cell) := goodIn_app (goodIn_of _ (by decide +kernel)) ggL_law_L_cell
set_option maxRecDepth 20000 in
theorem ggL_law_L_act_r2 : GoodIn wsL_law wsL_act_r2 := goodIn_r _ [66, 25, 17, 18, 19, 67, 68, 69, 70, 27, 71, 72, 73, 74, 75, 76, 77, 78, 79, 80, 81, 82, 83, 84] (by decide +kernel) (by decide +kernel)
set_option maxRecDepth 20000 in
theorem ggL_law_L_act_r3 : GoodIn wsL_law wsL_act_r3 := goodIn_r _ [85, 86, 87, 88, 89, 90, 91, 92, 93, 94, 95, 96, 97, 98, 99, 100, 101, 26, 102, 103, 104, 105, 106, 9] (by decide +kernel) (by decide +kernel)
set_option maxRecDepth 20000 in
theorem ggL_law_L_act_r4 : GoodIn wsL_law wsL_act_r4 := goodIn_r _ [10, 107, 108, 109, 110, 111, 112, 113, 114, 20, 22, 23, 24, 115, 116, 117, 118, 42, 40, 43, 119, 120, 121, 122] (by decide +kernel) (by decide +kernel)
set_option maxRecDepth 20000 in
theorem ggL_law_L_act_r5 : GoodIn wsL_law wsL_act_r5 := goodIn_r _ [123, 124, 125, 126, 127, 128, 129, 130, 131, 132, 133, 134, 135, 29, 136, 137, 138, 139, 140, 141, 142, 143, 144, 145] (by decide +kernel) (by decide +kernel)
set_option maxRecDepth 20000 in
theorem ggL_law_L_act_r6 : GoodIn wsL_law wsL_act_r6 := goodIn_r _ [146, 147, 148, 149, 150, 151, 152, 153, 154, 155, 156, 28, 157, 158, 159, 160, 161, 162, 163, 164, 165, 166, 167, 168] (by decide +kernel) (by decide +kernel)
set_option maxRecDepth 20000 in
theorem ggL_law_L_act_r7 : GoodIn wsL_law wsL_act_r7 := goodIn_r _ [169, 170, 171, 172, 173, 174, 175, 176, 177, 178] (by decide +kernel) (by decide +kernel)
set_option maxRecDepth 20000 in
theorem ggL_law_L_act_r1 : GoodIn wsL_law (.code yL_act cL_act 12 (some .boolean) :: wsL_act_r1) := goodIn_r _ [54, 55, 3, 56, 4, 5, 6, 7, 57, 48, 49, 32, 50, 51, 58, 59, 36, 60, 41, 61, 62, 63, 2, 64, 65] (by decide +kernel) (by decide +kernel)
set_option maxRecDepth 20000 in
theorem ggL_law_L_act : GoodIn wsL_law wsL_act := goodIn_ca (goodIn_ca (goodIn_ca (goodIn_ca (goodIn_ca (goodIn_ca ggL_law_L_act_r1 (goodIn_app ggL_law_L_act_r2 (goodIn_app ggL_law_L_act_r3 (goodIn_app ggL_law_L_act_r4 (goodIn_app ggL_law_L_act_r5 (goodIn_app ggL_law_L_act_r6 (ggL_law_L_act_r7))))))) (goodIn_r _ [307, 308, 309, 310, 311] (by decide +kernel) (by decide +kernel))) (goodIn_r _ [293, 294, 295, 296, 297, 298, 299, 300, 301, 302, 303, 304, 305, 306] (by decide +kernel) (by decide +kernel))) (goodIn_sub (fun _ h => List.mem_append_left _ (List.mem_append_left _ (List.mem_append_right _ h))) (by decide +kernel))) (goodIn_sub (fun _ h => List.mem_append_left _ (List.mem_append_right _ h)) (by decide +kernel))) (goodIn_sub (fun _ h => List.mem_append_right _ h) (by decide +kernel))
set_option maxRecDepth 20000 in
theorem gL_law_L_act : GoodIn wsL_law (va_wsS RL 75 yL_act wsL_act) := goodIn_app (goodIn_of _ (by decide +kernel)) ggL_law_L_act
set_option maxRecDepth 20000 in
theorem ggL_law_X0_members : GoodIn wsL_law wsX0_members := goodIn_r _ [182, 25, 293, 294, 295, 296, 297, 298, 299, 300, 301, 302, 303, 304, 305, 306] (by decide +kernel) (by decide +kernel)
set_option maxRecDepth 20000 in
theorem gL_law_X0_members : GoodIn wsL_law (wsV RL 84 RX0 yX0_members wsX0_members) := goodIn_app (goodIn_of _ (by decide +kernel)) ggL_law_X0_members
set_option maxRecDepth 20000 in
theorem ggL_law_X0_ledger : GoodIn wsL_law wsX0_ledger := goodIn_r _ [186, 26, 293, 294, 295, 296, 297, 298, 299, 300, 301, 302, 303, 304, 305, 306] (by decide +kernel) (by decide +kernel)
set_option maxRecDepth 20000 in
theorem gL_law_X0_ledger : GoodIn wsL_law (wsV RL 86 RX0 yX0_ledger wsX0_ledger) := goodIn_app (goodIn_of _ (by decide +kernel)) ggL_law_X0_ledger
set_option maxRecDepth 20000 in
theorem ggL_law_X0_excessOf : GoodIn wsL_law wsX0_excessOf := goodIn_ca (goodIn_r _ [190, 24, 191, 192, 193, 2, 194, 75, 76, 26, 293, 294, 295, 296, 297, 298, 299, 300, 301, 302, 303, 304, 305, 306] (by decide +kernel) (by decide +kernel)) (goodIn_sub (fun _ h => List.mem_append_left _ (List.mem_append_right _ h)) (by decide +kernel))
set_option maxRecDepth 20000 in
theorem gL_law_X0_excessOf : GoodIn wsL_law (wsV RL 88 RX0 yX0_excessOf wsX0_excessOf) := goodIn_app (goodIn_of _ (by decide +kernel)) ggL_law_X0_excessOf
set_option maxRecDepth 20000 in
theorem ggL_law_X0_grainsOf : GoodIn wsL_law wsX0_grainsOf := goodIn_ca (goodIn_r _ [198, 23, 191, 192, 193, 2, 194, 75, 76, 26, 293, 294, 295, 296, 297, 298, 299, 300, 301, 302, 303, 304, 305, 306] (by decide +kernel) (by decide +kernel)) (goodIn_sub (fun _ h => List.mem_append_left _ (List.mem_append_right _ h)) (by decide +kernel))
set_option maxRecDepth 20000 in
theorem gL_law_X0_grainsOf : GoodIn wsL_law (wsV RL 91 RX0 yX0_grainsOf wsX0_grainsOf) := goodIn_app (goodIn_of _ (by decide +kernel)) ggL_law_X0_grainsOf
set_option maxRecDepth 20000 in
theorem ggL_law_X0_isLeft : GoodIn wsL_law wsX0_isLeft := goodIn_ca (goodIn_r _ [202, 22, 191, 192, 193, 2, 194, 75, 76, 26, 293, 294, 295, 296, 297, 298, 299, 300, 301, 302, 303, 304, 305, 306] (by decide +kernel) (by decide +kernel)) (goodIn_sub (fun _ h => List.mem_append_left _ (List.mem_append_right _ h)) (by decide +kernel))
set_option maxRecDepth 20000 in
theorem gL_law_X0_isLeft : GoodIn wsL_law (wsV RL 94 RX0 yX0_isLeft wsX0_isLeft) := goodIn_app (goodIn_of _ (by decide +kernel)) ggL_law_X0_isLeft
set_option maxRecDepth 20000 in
theorem ggL_law_X0_memberOf : GoodIn wsL_law wsX0_memberOf := goodIn_ca (goodIn_r _ [206, 20, 191, 192, 193, 2, 194, 75, 76, 26, 293, 294, 295, 296, 297, 298, 299, 300, 301, 302, 303, 304, 305, 306] (by decide +kernel) (by decide +kernel)) (goodIn_sub (fun _ h => List.mem_append_left _ (List.mem_append_right _ h)) (by decide +kernel))
set_option maxRecDepth 20000 in
theorem gL_law_X0_memberOf : GoodIn wsL_law (wsV RL 98 RX0 yX0_memberOf wsX0_memberOf) := goodIn_app (goodIn_of _ (by decide +kernel)) ggL_law_X0_memberOf
set_option maxRecDepth 20000 in
theorem ggL_law_X0_luckOf : GoodIn wsL_law wsX0_luckOf := goodIn_ca (goodIn_r _ [210, 17, 71, 72, 73, 2, 74, 75, 76, 25, 293, 294, 295, 296, 297, 298, 299, 300, 301, 302, 303, 304, 305, 306] (by decide +kernel) (by decide +kernel)) (goodIn_sub (fun _ h => List.mem_append_left _ (List.mem_append_right _ h)) (by decide +kernel))
set_option maxRecDepth 20000 in
theorem gL_law_X0_luckOf : GoodIn wsL_law (wsV RL 101 RX0 yX0_luckOf wsX0_luckOf) := goodIn_app (goodIn_of _ (by decide +kernel)) ggL_law_X0_luckOf
set_option maxRecDepth 20000 in
theorem ggL_law_X0_arrearsOf : GoodIn wsL_law wsX0_arrearsOf := goodIn_ca (goodIn_r _ [214, 18, 71, 72, 73, 2, 74, 75, 76, 25, 293, 294, 295, 296, 297, 298, 299, 300, 301, 302, 303, 304, 305, 306] (by decide +kernel) (by decide +kernel)) (goodIn_sub (fun _ h => List.mem_append_left _ (List.mem_append_right _ h)) (by decide +kernel))
set_option maxRecDepth 20000 in
theorem gL_law_X0_arrearsOf : GoodIn wsL_law (wsV RL 104 RX0 yX0_arrearsOf wsX0_arrearsOf) := goodIn_app (goodIn_of _ (by decide +kernel)) ggL_law_X0_arrearsOf
set_option maxRecDepth 20000 in
theorem ggL_law_X0_lumpsOf : GoodIn wsL_law wsX0_lumpsOf := goodIn_ca (goodIn_r _ [218, 19, 71, 72, 73, 2, 74, 75, 76, 25, 293, 294, 295, 296, 297, 298, 299, 300, 301, 302, 303, 304, 305, 306] (by decide +kernel) (by decide +kernel)) (goodIn_sub (fun _ h => List.mem_append_left _ (List.mem_append_right _ h)) (by decide +kernel))
set_option maxRecDepth 20000 in
theorem gL_law_X0_lumpsOf : GoodIn wsL_law (wsV RL 107 RX0 yX0_lumpsOf wsX0_lumpsOf) := goodIn_app (goodIn_of _ (by decide +kernel)) ggL_law_X0_lumpsOf
set_option maxRecDepth 20000 in
theorem ggL_law_X0_arrearsByAudit : GoodIn wsL_law wsX0_arrearsByAudit := goodIn_ca (goodIn_r _ [222, 71, 72, 73, 2, 74, 75, 76, 25, 140, 141, 142, 143, 26, 20, 24, 293, 294, 295, 296, 297, 298, 299, 300, 301, 302, 303, 304, 305, 306] (by decide +kernel) (by decide +kernel)) (goodIn_sub (fun _ h => List.mem_append_left _ (List.mem_append_right _ h)) (by decide +kernel))
set_option maxRecDepth 20000 in
theorem gL_law_X0_arrearsByAudit : GoodIn wsL_law (wsV RL 110 RX0 yX0_arrearsByAudit wsX0_arrearsByAudit) := goodIn_app (goodIn_of _ (by decide +kernel)) ggL_law_X0_arrearsByAudit
set_option maxRecDepth 20000 in
theorem ggL_law_X0_luckiest : GoodIn wsL_law wsX0_luckiest := goodIn_r _ [226, 25, 17, 293, 294, 295, 296, 297, 298, 299, 300, 301, 302, 303, 304, 305, 306] (by decide +kernel) (by decide +kernel)
set_option maxRecDepth 20000 in
theorem gL_law_X0_luckiest : GoodIn wsL_law (wsV RL 113 RX0 yX0_luckiest wsX0_luckiest) := goodIn_app (goodIn_of _ (by decide +kernel)) ggL_law_X0_luckiest
set_option maxRecDepth 20000 in
theorem ggL_law_X0_dailyLoss : GoodIn wsL_law wsX0_dailyLoss := goodIn_ca (goodIn_r _ [230, 71, 72, 73, 2, 74, 75, 76, 25, 165, 166, 167, 168, 19, 18, 293, 294, 295, 296, 297, 298, 299, 300, 301, 302, 303, 304, 305, 306] (by decide +kernel) (by decide +kernel)) (goodIn_sub (fun _ h => List.mem_append_left _ (List.mem_append_right _ h)) (by decide +kernel))
set_option maxRecDepth 20000 in
theorem gL_law_X0_dailyLoss : GoodIn wsL_law (wsV RL 116 RX0 yX0_dailyLoss wsX0_dailyLoss) := goodIn_app (goodIn_of _ (by decide +kernel)) ggL_law_X0_dailyLoss
set_option maxRecDepth 20000 in
theorem ggL_law_X0_salt : GoodIn wsL_law wsX0_salt := goodIn_r _ [234, 27, 293, 294, 295, 296, 297, 298, 299, 300, 301, 302, 303, 304, 305, 306] (by decide +kernel) (by decide +kernel)
