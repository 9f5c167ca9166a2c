set_option maxRecDepth 20000 in
theorem gX1_penance_X1_let : GoodIn wsX1_penance (wsV RX1 42 RX1 yX1_let wsX1_let) := goodIn_app (goodIn_of _ (by decide +kernel)) ggX1_penance_X1_let
set_option maxRecDepth 20000 in
theorem ggX1_penance_X1_daysOn : GoodIn wsX1_penance wsX1_daysOn := goodIn_r _ [27, 28, 29, 30, 8, 31, 10, 32, 33, 34, 3, 35, 1, 2, 4, 36, 37, 38, 39, 40, 41, 42, 43, 44, 45, 46, 47, 16, 17, 18, 19, 20, 21, 22, 23, 48, 49, 50, 51, 56, 57, 58, 59] (by decide +kernel) (by decide +kernel)
set_option maxRecDepth 20000 in
theorem gX1_penance_X1_daysOn : GoodIn wsX1_penance (wsV RX1 84 RX1 yX1_daysOn wsX1_daysOn) := goodIn_app (goodIn_of _ (by decide +kernel)) ggX1_penance_X1_daysOn
set_option maxRecDepth 20000 in
theorem ggX1_penance_X1_bringBack : GoodIn wsX1_penance wsX1_bringBack := goodIn_r _ [55, 11, 10, 12, 13, 14, 15, 56, 57, 58, 59] (by decide +kernel) (by decide +kernel)
set_option maxRecDepth 20000 in
theorem gX1_penance_X1_bringBack : GoodIn wsX1_penance (wsV RX1 108 RX1 yX1_bringBack wsX1_bringBack) := goodIn_app (goodIn_of _ (by decide +kernel)) ggX1_penance_X1_bringBack
theorem dX1_penance_0 : decode cX1_penance 0 = .ok (.iconst 0, 1) := by decide +kernel
theorem dX1_penance_1 : decode cX1_penance 1 = .ok (.istore_n 2, 1) := by decide +kernel
theorem dX1_penance_2 : decode cX1_penance 2 = .ok (.iconst (-1), 1) := by decide +kernel
theorem dX1_penance_3 : decode cX1_penance 3 = .ok (.istore_n 3, 1) := by decide +kernel
theorem dX1_penance_4 : decode cX1_penance 4 = .ok (.aload_n 0, 1) := by decide +kernel
theorem dX1_penance_5 : decode cX1_penance 5 = .ok (.invokevirtual 105, 3) := by decide +kernel
theorem dX1_penance_8 : decode cX1_penance 8 = .ok (.iconst 0, 1) := by decide +kernel
theorem dX1_penance_9 : decode cX1_penance 9 = .ok (.istore 4, 2) := by decide +kernel
theorem dX1_penance_11 : decode cX1_penance 11 = .ok (.iload 4, 2) := by decide +kernel
theorem dX1_penance_13 : decode cX1_penance 13 = .ok (.bipush 9, 2) := by decide +kernel
theorem dX1_penance_15 : decode cX1_penance 15 = .ok (.if_icmp .gt 63, 3) := by decide +kernel
theorem dX1_penance_18 : decode cX1_penance 18 = .ok (.aload_n 0, 1) := by decide +kernel
theorem dX1_penance_19 : decode cX1_penance 19 = .ok (.iload_n 1, 1) := by decide +kernel
theorem dX1_penance_20 : decode cX1_penance 20 = .ok (.iconst 2, 1) := by decide +kernel
theorem dX1_penance_21 : decode cX1_penance 21 = .ok (.bipush 9, 2) := by decide +kernel
theorem dX1_penance_23 : decode cX1_penance 23 = .ok (.aload_n 0, 1) := by decide +kernel
theorem dX1_penance_24 : decode cX1_penance 24 = .ok (.iload_n 1, 1) := by decide +kernel
theorem dX1_penance_25 : decode cX1_penance 25 = .ok (.iconst 2, 1) := by decide +kernel
theorem dX1_penance_26 : decode cX1_penance 26 = .ok (.invokevirtual 33, 3) := by decide +kernel
theorem dX1_penance_29 : decode cX1_penance 29 = .ok (.iload 4, 2) := by decide +kernel
theorem dX1_penance_31 : decode cX1_penance 31 = .ok (.iadd, 1) := by decide +kernel
theorem dX1_penance_32 : decode cX1_penance 32 = .ok (.invokestatic 57, 3) := by decide +kernel
theorem dX1_penance_35 : decode cX1_penance 35 = .ok (.invokevirtual 42, 3) := by decide +kernel
theorem dX1_penance_38 : decode cX1_penance 38 = .ok (.aload_n 0, 1) := by decide +kernel
theorem dX1_penance_39 : decode cX1_penance 39 = .ok (.bipush 20, 2) := by decide +kernel
theorem dX1_penance_41 : decode cX1_penance 41 = .ok (.invokevirtual 84, 3) := by decide +kernel
theorem dX1_penance_44 : decode cX1_penance 44 = .ok (.pop, 1) := by decide +kernel
theorem dX1_penance_45 : decode cX1_penance 45 = .ok (.aload_n 0, 1) := by decide +kernel
theorem dX1_penance_46 : decode cX1_penance 46 = .ok (.iload_n 1, 1) := by decide +kernel
theorem dX1_penance_47 : decode cX1_penance 47 = .ok (.iconst 0, 1) := by decide +kernel
theorem dX1_penance_48 : decode cX1_penance 48 = .ok (.invokevirtual 33, 3) := by decide +kernel
theorem dX1_penance_51 : decode cX1_penance 51 = .ok (.istore 5, 2) := by decide +kernel
theorem dX1_penance_53 : decode cX1_penance 53 = .ok (.aload_n 0, 1) := by decide +kernel
theorem dX1_penance_54 : decode cX1_penance 54 = .ok (.invokevirtual 108, 3) := by decide +kernel
theorem dX1_penance_57 : decode cX1_penance 57 = .ok (.iload 5, 2) := by decide +kernel
theorem dX1_penance_59 : decode cX1_penance 59 = .ok (.iload_n 3, 1) := by decide +kernel
theorem dX1_penance_60 : decode cX1_penance 60 = .ok (.if_icmp .gt 6, 3) := by decide +kernel
theorem dX1_penance_63 : decode cX1_penance 63 = .ok (.goto 9, 3) := by decide +kernel
theorem dX1_penance_66 : decode cX1_penance 66 = .ok (.iload 4, 2) := by decide +kernel
theorem dX1_penance_68 : decode cX1_penance 68 = .ok (.istore_n 2, 1) := by decide +kernel
theorem dX1_penance_69 : decode cX1_penance 69 = .ok (.iload 5, 2) := by decide +kernel
theorem dX1_penance_71 : decode cX1_penance 71 = .ok (.istore_n 3, 1) := by decide +kernel
theorem dX1_penance_72 : decode cX1_penance 72 = .ok (.iinc 4 1, 3) := by decide +kernel
theorem dX1_penance_75 : decode cX1_penance 75 = .ok (.goto (-64), 3) := by decide +kernel
theorem dX1_penance_78 : decode cX1_penance 78 = .ok (.iload_n 2, 1) := by decide +kernel
theorem dX1_penance_79 : decode cX1_penance 79 = .ok (.ireturn, 1) := by decide +kernel
set_option maxRecDepth 20000 in
theorem ggX1_bestPinch_X1_isMember : GoodIn wsX1_bestPinch wsX1_isMember := goodIn_r _ [6, 7, 8, 9, 5, 10, 80, 81, 82, 83] (by decide +kernel) (by decide +kernel)
set_option maxRecDepth 20000 in
theorem gX1_bestPinch_X1_isMember : GoodIn wsX1_bestPinch (wsV RX1 73 RX1 yX1_isMember wsX1_isMember) := goodIn_app (goodIn_of _ (by decide +kernel)) ggX1_bestPinch_X1_isMember
set_option maxRecDepth 20000 in
theorem ggX1_bestPinch_X1_pinch : GoodIn wsX1_bestPinch wsX1_pinch := goodIn_r _ [14, 15, 16, 17, 18, 19, 20, 21, 22, 5, 23, 24, 25, 26, 27, 28, 29, 30, 31, 32, 33, 34, 35, 36, 37, 38, 39, 40, 41, 42, 43, 44, 45, 46, 47, 48, 49, 50, 51, 52, 53, 54, 55, 7, 56, 57, 58, 59, 60, 61, 62, 63, 64, 65, 66, 67, 68, 69, 70, 71, 72, 73, 74, 75, 80, 81, 82, 83] (by decide +kernel) (by decide +kernel)
set_option maxRecDepth 20000 in
theorem gX1_bestPinch_X1_pinch : GoodIn wsX1_bestPinch (wsV RX1 114 RX1 yX1_pinch wsX1_pinch) := goodIn_app (goodIn_of _ (by decide +kernel)) ggX1_bestPinch_X1_pinch
set_option maxRecDepth 20000 in
theorem ggX1_bestPinch_X1_fail : GoodIn wsX1_bestPinch wsX1_fail := goodIn_r _ [79, 1, 80, 81, 82, 83] (by decide +kernel) (by decide +kernel)
set_option maxRecDepth 20000 in
theorem gX1_bestPinch_X1_fail : GoodIn wsX1_bestPinch (wsV RX1 70 RX1 yX1_fail wsX1_fail) := goodIn_app (goodIn_of _ (by decide +kernel)) ggX1_bestPinch_X1_fail
theorem dX1_bestPinch_0 : decode cX1_bestPinch 0 = .ok (.aload_n 0, 1) := by decide +kernel
theorem dX1_bestPinch_1 : decode cX1_bestPinch 1 = .ok (.iconst 0, 1) := by decide +kernel
theorem dX1_bestPinch_2 : decode cX1_bestPinch 2 = .ok (.putfield 16, 3) := by decide +kernel
theorem dX1_bestPinch_5 : decode cX1_bestPinch 5 = .ok (.aload_n 0, 1) := by decide +kernel
theorem dX1_bestPinch_6 : decode cX1_bestPinch 6 = .ok (.iload_n 1, 1) := by decide +kernel
theorem dX1_bestPinch_7 : decode cX1_bestPinch 7 = .ok (.invokevirtual 73, 3) := by decide +kernel
theorem dX1_bestPinch_10 : decode cX1_bestPinch 10 = .ok (.ifCond .eq 11, 3) := by decide +kernel
theorem dX1_bestPinch_13 : decode cX1_bestPinch 13 = .ok (.aload_n 0, 1) := by decide +kernel
theorem dX1_bestPinch_14 : decode cX1_bestPinch 14 = .ok (.iload_n 1, 1) := by decide +kernel
theorem dX1_bestPinch_15 : decode cX1_bestPinch 15 = .ok (.invokevirtual 114, 3) := by decide +kernel
theorem dX1_bestPinch_18 : decode cX1_bestPinch 18 = .ok (.goto 8, 3) := by decide +kernel
theorem dX1_bestPinch_21 : decode cX1_bestPinch 21 = .ok (.aload_n 0, 1) := by decide +kernel
theorem dX1_bestPinch_22 : decode cX1_bestPinch 22 = .ok (.iconst 1, 1) := by decide +kernel
theorem dX1_bestPinch_23 : decode cX1_bestPinch 23 = .ok (.invokevirtual 70, 3) := by decide +kernel
theorem dX1_bestPinch_26 : decode cX1_bestPinch 26 = .ok (.ireturn, 1) := by decide +kernel
set_option maxRecDepth 20000 in
theorem ggX1_bestPenance_X1_isMember : GoodIn wsX1_bestPenance wsX1_isMember := goodIn_r _ [6, 7, 8, 9, 5, 10, 72, 73, 74, 75] (by decide +kernel) (by decide +kernel)
set_option maxRecDepth 20000 in
theorem gX1_bestPenance_X1_isMember : GoodIn wsX1_bestPenance (wsV RX1 73 RX1 yX1_isMember wsX1_isMember) := goodIn_app (goodIn_of _ (by decide +kernel)) ggX1_bestPenance_X1_isMember
set_option maxRecDepth 20000 in
theorem ggX1_bestPenance_X1_penance : GoodIn wsX1_bestPenance wsX1_penance := goodIn_r _ [14, 15, 16, 17, 18, 19, 20, 21, 5, 22, 23, 24, 25, 26, 27, 28, 29, 30, 31, 32, 33, 34, 35, 36, 37, 38, 39, 40, 41, 42, 43, 44, 7, 45, 46, 47, 48, 49, 50, 51, 52, 53, 54, 55, 56, 57, 58, 59, 60, 61, 62, 63, 64, 65, 66, 67, 72, 73, 74, 75] (by decide +kernel) (by decide +kernel)
set_option maxRecDepth 20000 in
theorem gX1_bestPenance_X1_penance : GoodIn wsX1_bestPenance (wsV RX1 117 RX1 yX1_penance wsX1_penance) := goodIn_app (goodIn_of _ (by decide +kernel)) ggX1_bestPenance_X1_penance
set_option maxRecDepth 20000 in
theorem ggX1_bestPenance_X1_fail : GoodIn wsX1_bestPenance wsX1_fail := goodIn_r _ [71, 1, 72, 73, 74, 75] (by decide +kernel) (by decide +kernel)
set_option maxRecDepth 20000 in
theorem gX1_bestPenance_X1_fail : GoodIn wsX1_bestPenance (wsV RX1 70 RX1 yX1_fail wsX1_fail) := goodIn_app (goodIn_of _ (by decide +kernel)) ggX1_bestPenance_X1_fail
theorem dX1_bestPenance_0 : decode cX1_bestPenance 0 = .ok (.aload_n 0, 1) := by decide +kernel
theorem dX1_bestPenance_1 : decode cX1_bestPenance 1 = .ok (.iconst 0, 1) := by decide +kernel
theorem dX1_bestPenance_2 : decode cX1_bestPenance 2 = .ok (.putfield 16, 3) := by decide +kernel
theorem dX1_bestPenance_5 : decode cX1_bestPenance 5 = .ok (.aload_n 0, 1) := by decide +kernel
theorem dX1_bestPenance_6 : decode cX1_bestPenance 6 = .ok (.iload_n 1, 1) := by decide +kernel
theorem dX1_bestPenance_7 : decode cX1_bestPenance 7 = .ok (.invokevirtual 73, 3) := by decide +kernel
theorem dX1_bestPenance_10 : decode cX1_bestPenance 10 = .ok (.ifCond .eq 11, 3) := by decide +kernel
theorem dX1_bestPenance_13 : decode cX1_bestPenance 13 = .ok (.aload_n 0, 1) := by decide +kernel
theorem dX1_bestPenance_14 : decode cX1_bestPenance 14 = .ok (.iload_n 1, 1) := by decide +kernel
theorem dX1_bestPenance_15 : decode cX1_bestPenance 15 = .ok (.invokevirtual 117, 3) := by decide +kernel
theorem dX1_bestPenance_18 : decode cX1_bestPenance 18 = .ok (.goto 8, 3) := by decide +kernel
theorem dX1_bestPenance_21 : decode cX1_bestPenance 21 = .ok (.aload_n 0, 1) := by decide +kernel
theorem dX1_bestPenance_22 : decode cX1_bestPenance 22 = .ok (.iconst 1, 1) := by decide +kernel
theorem dX1_bestPenance_23 : decode cX1_bestPenance 23 = .ok (.invokevirtual 70, 3) := by decide +kernel
theorem dX1_bestPenance_26 : decode cX1_bestPenance 26 = .ok (.ireturn, 1) := by decide +kernel
set_option maxRecDepth 20000 in
theorem ggX1_meanLuck_X1_me : GoodIn wsX1_meanLuck wsX1_me := goodIn_r _ [7, 8, 9, 10, 11, 12] (by decide +kernel) (by decide +kernel)
set_option maxRecDepth 20000 in
theorem gX1_meanLuck_X1_me : GoodIn wsX1_meanLuck (wsV RX1 33 RX1 yX1_me wsX1_me) := goodIn_app (goodIn_of _ (by decide +kernel)) ggX1_meanLuck_X1_me
theorem dX1_meanLuck_0 : decode cX1_meanLuck 0 = .ok (.aload_n 0, 1) := by decide +kernel
theorem dX1_meanLuck_1 : decode cX1_meanLuck 1 = .ok (.iconst 0, 1) := by decide +kernel
theorem dX1_meanLuck_2 : decode cX1_meanLuck 2 = .ok (.putfield 16, 3) := by decide +kernel
theorem dX1_meanLuck_5 : decode cX1_meanLuck 5 = .ok (.iconst 0, 1) := by decide +kernel
theorem dX1_meanLuck_6 : decode cX1_meanLuck 6 = .ok (.istore_n 1, 1) := by decide +kernel
theorem dX1_meanLuck_7 : decode cX1_meanLuck 7 = .ok (.iconst 0, 1) := by decide +kernel
theorem dX1_meanLuck_8 : decode cX1_meanLuck 8 = .ok (.istore_n 2, 1) := by decide +kernel
theorem dX1_meanLuck_9 : decode cX1_meanLuck 9 = .ok (.iload_n 2, 1) := by decide +kernel
theorem dX1_meanLuck_10 : decode cX1_meanLuck 10 = .ok (.aload_n 0, 1) := by decide +kernel
theorem dX1_meanLuck_11 : decode cX1_meanLuck 11 = .ok (.getfield 20, 3) := by decide +kernel
theorem dX1_meanLuck_14 : decode cX1_meanLuck 14 = .ok (.if_icmp .ge 18, 3) := by decide +kernel
theorem dX1_meanLuck_17 : decode cX1_meanLuck 17 = .ok (.iload_n 1, 1) := by decide +kernel
theorem dX1_meanLuck_18 : decode cX1_meanLuck 18 = .ok (.aload_n 0, 1) := by decide +kernel
theorem dX1_meanLuck_19 : decode cX1_meanLuck 19 = .ok (.iload_n 2, 1) := by decide +kernel
theorem dX1_meanLuck_20 : decode cX1_meanLuck 20 = .ok (.iconst 0, 1) := by decide +kernel
theorem dX1_meanLuck_21 : decode cX1_meanLuck 21 = .ok (.invokevirtual 33, 3) := by decide +kernel
theorem dX1_meanLuck_24 : decode cX1_meanLuck 24 = .ok (.iadd, 1) := by decide +kernel
theorem dX1_meanLuck_25 : decode cX1_meanLuck 25 = .ok (.istore_n 1, 1) := by decide +kernel
theorem dX1_meanLuck_26 : decode cX1_meanLuck 26 = .ok (.iinc 2 1, 3) := by decide +kernel
theorem dX1_meanLuck_29 : decode cX1_meanLuck 29 = .ok (.goto (-20), 3) := by decide +kernel
theorem dX1_meanLuck_32 : decode cX1_meanLuck 32 = .ok (.aload_n 0, 1) := by decide +kernel
theorem dX1_meanLuck_33 : decode cX1_meanLuck 33 = .ok (.getfield 20, 3) := by decide +kernel
theorem dX1_meanLuck_36 : decode cX1_meanLuck 36 = .ok (.ifCond .ne 7, 3) := by decide +kernel
theorem dX1_meanLuck_39 : decode cX1_meanLuck 39 = .ok (.dconst 0, 1) := by decide +kernel
theorem dX1_meanLuck_40 : decode cX1_meanLuck 40 = .ok (.goto 11, 3) := by decide +kernel
theorem dX1_meanLuck_43 : decode cX1_meanLuck 43 = .ok (.iload_n 1, 1) := by decide +kernel
theorem dX1_meanLuck_44 : decode cX1_meanLuck 44 = .ok (.i2d, 1) := by decide +kernel
theorem dX1_meanLuck_45 : decode cX1_meanLuck 45 = .ok (.aload_n 0, 1) := by decide +kernel
theorem dX1_meanLuck_46 : decode cX1_meanLuck 46 = .ok (.getfield 20, 3) := by decide +kernel
theorem dX1_meanLuck_49 : decode cX1_meanLuck 49 = .ok (.i2d, 1) := by decide +kernel
theorem dX1_meanLuck_50 : decode cX1_meanLuck 50 = .ok (.ddiv, 1) := by decide +kernel
theorem dX1_meanLuck_51 : decode cX1_meanLuck 51 = .ok (.dreturn, 1) := by decide +kernel
set_option maxRecDepth 20000 in
theorem ggX1_digest_X1_faultsNow : GoodIn wsX1_digest wsX1_faultsNow := goodIn_r _ [11, 3, 12, 13, 14, 10, 15, 88, 89, 90, 91] (by decide +kernel) (by decide +kernel)
set_option maxRecDepth 20000 in
theorem gX1_digest_X1_faultsNow : GoodIn wsX1_digest (wsV RX1 53 RX1 yX1_faultsNow wsX1_faultsNow) := goodIn_app (goodIn_of _ (by decide +kernel)) ggX1_digest_X1_faultsNow
set_option maxRecDepth 20000 in
theorem ggX1_digest_X1_best : GoodIn wsX1_digest wsX1_best := goodIn_r _ [19, 4, 20, 21, 22, 10, 23, 3, 88, 89, 90, 91] (by decide +kernel) (by decide +kernel)
set_option maxRecDepth 20000 in
theorem gX1_digest_X1_best : GoodIn wsX1_digest (wsV RX1 90 RX1 yX1_best wsX1_best) := goodIn_app (goodIn_of _ (by decide +kernel)) ggX1_digest_X1_best
set_option maxRecDepth 20000 in
theorem ggX1_digest_X1_owed : GoodIn wsX1_digest wsX1_owed := goodIn_r _ [27, 4, 20, 21, 22, 10, 23, 3, 88, 89, 90, 91] (by decide +kernel) (by decide +kernel)
set_option maxRecDepth 20000 in
theorem gX1_digest_X1_owed : GoodIn wsX1_digest (wsV RX1 93 RX1 yX1_owed wsX1_owed) := goodIn_app (goodIn_of _ (by decide +kernel)) ggX1_digest_X1_owed
set_option maxRecDepth 20000 in
theorem ggX1_digest_X1_me : GoodIn wsX1_digest wsX1_me := goodIn_r _ [23, 3, 88, 89, 90, 91] (by decide +kernel) (by decide +kernel)
set_option maxRecDepth 20000 in
theorem gX1_digest_X1_me : GoodIn wsX1_digest (wsV RX1 33 RX1 yX1_me wsX1_me) := goodIn_app (goodIn_of _ (by decide +kernel)) ggX1_digest_X1_me
set_option maxRecDepth 20000 in
theorem ggX1_digest_X1_loss : GoodIn wsX1_digest wsX1_loss := goodIn_r _ [31, 20, 21, 22, 10, 23, 3, 88, 89, 90, 91] (by decide +kernel) (by decide +kernel)
set_option maxRecDepth 20000 in
theorem gX1_digest_X1_loss : GoodIn wsX1_digest (wsV RX1 63 RX1 yX1_loss wsX1_loss) := goodIn_app (goodIn_of _ (by decide +kernel)) ggX1_digest_X1_loss
set_option maxRecDepth 20000 in
theorem ggX1_digest_X1_adds : GoodIn wsX1_digest wsX1_adds := goodIn_r _ [35, 3, 12, 13, 14, 10, 15, 88, 89, 90, 91] (by decide +kernel) (by decide +kernel)
set_option maxRecDepth 20000 in
theorem gX1_digest_X1_adds : GoodIn wsX1_digest (wsV RX1 102 RX1 yX1_adds wsX1_adds) := goodIn_app (goodIn_of _ (by decide +kernel)) ggX1_digest_X1_adds
set_option maxRecDepth 20000 in
theorem ggX1_digest_X1_pinch : GoodIn wsX1_digest wsX1_pinch := goodIn_r _ [39, 3, 40, 41, 42, 43, 44, 45, 46, 10, 47, 48, 49, 50, 51, 52, 53, 54, 55, 56, 57, 58, 59, 20, 21, 22, 23, 60, 61, 62, 63, 64, 65, 66, 67, 68, 69, 70, 71, 72, 73, 74, 75, 4, 76, 77, 78, 79, 7, 8, 9, 11, 12, 13, 14, 15, 28, 29, 30, 31, 80, 81, 82, 83, 88, 89, 90, 91] (by decide +kernel) (by decide +kernel)
set_option maxRecDepth 20000 in
theorem gX1_digest_X1_pinch : GoodIn wsX1_digest (wsV RX1 114 RX1 yX1_pinch wsX1_pinch) := goodIn_app (goodIn_of _ (by decide +kernel)) ggX1_digest_X1_pinch
set_option maxRecDepth 20000 in
theorem ggX1_digest_X1_penance : GoodIn wsX1_digest wsX1_penance := goodIn_r _ [87, 40, 41, 42, 43, 44, 45, 46, 10, 47, 3, 48, 49, 50, 51, 52, 20, 21, 22, 23, 60, 61, 62, 63, 68, 69, 70, 71, 72, 73, 74, 75, 4, 57, 58, 59, 76, 77, 78, 79, 7, 8, 9, 11, 12, 13, 14, 15, 28, 29, 30, 31, 80, 81, 82, 83, 88, 89, 90, 91] (by decide +kernel) (by decide +kernel)
set_option maxRecDepth 20000 in
theorem gX1_digest_X1_penance : GoodIn wsX1_digest (wsV RX1 117 RX1 yX1_penance wsX1_penance) := goodIn_app (goodIn_of _ (by decide +kernel)) ggX1_digest_X1_penance
set_option maxRecDepth 20000 in
theorem ggX1_digest_X1_th : GoodIn wsX1_digest wsX1_th := goodIn_r _ [15, 3, 88, 89, 90, 91] (by decide +kernel) (by decide +kernel)
set_option maxRecDepth 20000 in
theorem gX1_digest_X1_th : GoodIn wsX1_digest (wsV RX1 50 RX1 yX1_th wsX1_th) := goodIn_app (goodIn_of _ (by decide +kernel)) ggX1_digest_X1_th
theorem dX1_digest_0 : decode cX1_digest 0 = .ok (.aload_n 0, 1) := by decide +kernel
theorem dX1_digest_1 : decode cX1_digest 1 = .ok (.iconst 0, 1) := by decide +kernel
theorem dX1_digest_2 : decode cX1_digest 2 = .ok (.putfield 16, 3) := by decide +kernel
theorem dX1_digest_5 : decode cX1_digest 5 = .ok (.bipush 8, 2) := by decide +kernel
theorem dX1_digest_7 : decode cX1_digest 7 = .ok (.newarray .int, 2) := by decide +kernel
theorem dX1_digest_9 : decode cX1_digest 9 = .ok (.dup, 1) := by decide +kernel
theorem dX1_digest_10 : decode cX1_digest 10 = .ok (.iconst 0, 1) := by decide +kernel
theorem dX1_digest_11 : decode cX1_digest 11 = .ok (.aload_n 0, 1) := by decide +kernel
theorem dX1_digest_12 : decode cX1_digest 12 = .ok (.getfield 9, 3) := by decide +kernel
theorem dX1_digest_15 : decode cX1_digest 15 = .ok (.iconst 0, 1) := by decide +kernel
theorem dX1_digest_16 : decode cX1_digest 16 = .ok (.iaload, 1) := by decide +kernel
theorem dX1_digest_17 : decode cX1_digest 17 = .ok (.iastore, 1) := by decide +kernel
theorem dX1_digest_18 : decode cX1_digest 18 = .ok (.dup, 1) := by decide +kernel
theorem dX1_digest_19 : decode cX1_digest 19 = .ok (.iconst 1, 1) := by decide +kernel
theorem dX1_digest_20 : decode cX1_digest 20 = .ok (.aload_n 0, 1) := by decide +kernel
theorem dX1_digest_21 : decode cX1_digest 21 = .ok (.getfield 20, 3) := by decide +kernel
theorem dX1_digest_24 : decode cX1_digest 24 = .ok (.iastore, 1) := by decide +kernel
theorem dX1_digest_25 : decode cX1_digest 25 = .ok (.dup, 1) := by decide +kernel
theorem dX1_digest_26 : decode cX1_digest 26 = .ok (.iconst 2, 1) := by decide +kernel
theorem dX1_digest_27 : decode cX1_digest 27 = .ok (.aload_n 0, 1) := by decide +kernel
theorem dX1_digest_28 : decode cX1_digest 28 = .ok (.getfield 9, 3) := by decide +kernel
theorem dX1_digest_31 : decode cX1_digest 31 = .ok (.iconst 1, 1) := by decide +kernel
theorem dX1_digest_32 : decode cX1_digest 32 = .ok (.iaload, 1) := by decide +kernel
theorem dX1_digest_33 : decode cX1_digest 33 = .ok (.iastore, 1) := by decide +kernel
theorem dX1_digest_34 : decode cX1_digest 34 = .ok (.dup, 1) := by decide +kernel
theorem dX1_digest_35 : decode cX1_digest 35 = .ok (.iconst 3, 1) := by decide +kernel
theorem dX1_digest_36 : decode cX1_digest 36 = .ok (.aload_n 0, 1) := by decide +kernel
theorem dX1_digest_37 : decode cX1_digest 37 = .ok (.getfield 9, 3) := by decide +kernel
theorem dX1_digest_40 : decode cX1_digest 40 = .ok (.iconst 3, 1) := by decide +kernel
theorem dX1_digest_41 : decode cX1_digest 41 = .ok (.iaload, 1) := by decide +kernel
theorem dX1_digest_42 : decode cX1_digest 42 = .ok (.iastore, 1) := by decide +kernel
theorem dX1_digest_43 : decode cX1_digest 43 = .ok (.dup, 1) := by decide +kernel
theorem dX1_digest_44 : decode cX1_digest 44 = .ok (.iconst 4, 1) := by decide +kernel
theorem dX1_digest_45 : decode cX1_digest 45 = .ok (.aload_n 0, 1) := by decide +kernel
theorem dX1_digest_46 : decode cX1_digest 46 = .ok (.invokevirtual 53, 3) := by decide +kernel
theorem dX1_digest_49 : decode cX1_digest 49 = .ok (.iastore, 1) := by decide +kernel
theorem dX1_digest_50 : decode cX1_digest 50 = .ok (.dup, 1) := by decide +kernel
theorem dX1_digest_51 : decode cX1_digest 51 = .ok (.iconst 5, 1) := by decide +kernel
theorem dX1_digest_52 : decode cX1_digest 52 = .ok (.aload_n 0, 1) := by decide +kernel
theorem dX1_digest_53 : decode cX1_digest 53 = .ok (.getfield 9, 3) := by decide +kernel
theorem dX1_digest_56 : decode cX1_digest 56 = .ok (.iconst 2, 1) := by decide +kernel
theorem dX1_digest_57 : decode cX1_digest 57 = .ok (.iaload, 1) := by decide +kernel
theorem dX1_digest_58 : decode cX1_digest 58 = .ok (.iastore, 1) := by decide +kernel
theorem dX1_digest_59 : decode cX1_digest 59 = .ok (.dup, 1) := by decide +kernel
theorem dX1_digest_60 : decode cX1_digest 60 = .ok (.bipush 6, 2) := by decide +kernel
theorem dX1_digest_62 : decode cX1_digest 62 = .ok (.aload_n 0, 1) := by decide +kernel
theorem dX1_digest_63 : decode cX1_digest 63 = .ok (.invokevirtual 90, 3) := by decide +kernel
theorem dX1_digest_66 : decode cX1_digest 66 = .ok (.iastore, 1) := by decide +kernel
theorem dX1_digest_67 : decode cX1_digest 67 = .ok (.dup, 1) := by decide +kernel
theorem dX1_digest_68 : decode cX1_digest 68 = .ok (.bipush 7, 2) := by decide +kernel
theorem dX1_digest_70 : decode cX1_digest 70 = .ok (.aload_n 0, 1) := by decide +kernel
theorem dX1_digest_71 : decode cX1_digest 71 = .ok (.invokevirtual 93, 3) := by decide +kernel
theorem dX1_digest_74 : decode cX1_digest 74 = .ok (.iastore, 1) := by decide +kernel
theorem dX1_digest_75 : decode cX1_digest 75 = .ok (.astore_n 1, 1) := by decide +kernel
theorem dX1_digest_76 : decode cX1_digest 76 = .ok (.ldc2_w 120, 3) := by decide +kernel
theorem dX1_digest_79 : decode cX1_digest 79 = .ok (.lstore_n 2, 1) := by decide +kernel
theorem dX1_digest_80 : decode cX1_digest 80 = .ok (.aload_n 1, 1) := by decide +kernel
theorem dX1_digest_81 : decode cX1_digest 81 = .ok (.astore 4, 2) := by decide +kernel
theorem dX1_digest_83 : decode cX1_digest 83 = .ok (.aload 4, 2) := by decide +kernel
theorem dX1_digest_85 : decode cX1_digest 85 = .ok (.arraylength, 1) := by decide +kernel
theorem dX1_digest_86 : decode cX1_digest 86 = .ok (.istore 5, 2) := by decide +kernel
theorem dX1_digest_88 : decode cX1_digest 88 = .ok (.iconst 0, 1) := by decide +kernel
theorem dX1_digest_89 : decode cX1_digest 89 = .ok (.istore 6, 2) := by decide +kernel
theorem dX1_digest_91 : decode cX1_digest 91 = .ok (.iload 6, 2) := by decide +kernel
theorem dX1_digest_93 : decode cX1_digest 93 = .ok (.iload 5, 2) := by decide +kernel
theorem dX1_digest_95 : decode cX1_digest 95 = .ok (.if_icmp .ge 26, 3) := by decide +kernel
theorem dX1_digest_98 : decode cX1_digest 98 = .ok (.aload 4, 2) := by decide +kernel
theorem dX1_digest_100 : decode cX1_digest 100 = .ok (.iload 6, 2) := by decide +kernel
theorem dX1_digest_102 : decode cX1_digest 102 = .ok (.iaload, 1) := by decide +kernel
theorem dX1_digest_103 : decode cX1_digest 103 = .ok (.istore 7, 2) := by decide +kernel
theorem dX1_digest_105 : decode cX1_digest 105 = .ok (.lload_n 2, 1) := by decide +kernel
theorem dX1_digest_106 : decode cX1_digest 106 = .ok (.ldc2_w 122, 3) := by decide +kernel
theorem dX1_digest_109 : decode cX1_digest 109 = .ok (.lmul, 1) := by decide +kernel
theorem dX1_digest_110 : decode cX1_digest 110 = .ok (.iload 7, 2) := by decide +kernel
theorem dX1_digest_112 : decode cX1_digest 112 = .ok (.i2l, 1) := by decide +kernel
theorem dX1_digest_113 : decode cX1_digest 113 = .ok (.ladd, 1) := by decide +kernel
theorem dX1_digest_114 : decode cX1_digest 114 = .ok (.lstore_n 2, 1) := by decide +kernel
theorem dX1_digest_115 : decode cX1_digest 115 = .ok (.iinc 6 1, 3) := by decide +kernel
theorem dX1_digest_118 : decode cX1_digest 118 = .ok (.goto (-27), 3) := by decide +kernel
theorem dX1_digest_121 : decode cX1_digest 121 = .ok (.iconst 0, 1) := by decide +kernel
theorem dX1_digest_122 : decode cX1_digest 122 = .ok (.istore 4, 2) := by decide +kernel
theorem dX1_digest_124 : decode cX1_digest 124 = .ok (.iload 4, 2) := by decide +kernel
theorem dX1_digest_126 : decode cX1_digest 126 = .ok (.aload_n 0, 1) := by decide +kernel
theorem dX1_digest_127 : decode cX1_digest 127 = .ok (.getfield 20, 3) := by decide +kernel
theorem dX1_digest_130 : decode cX1_digest 130 = .ok (.if_icmp .ge 124, 3) := by decide +kernel
theorem dX1_digest_133 : decode cX1_digest 133 = .ok (.bipush 7, 2) := by decide +kernel
theorem dX1_digest_135 : decode cX1_digest 135 = .ok (.newarray .int, 2) := by decide +kernel
theorem dX1_digest_137 : decode cX1_digest 137 = .ok (.dup, 1) := by decide +kernel
theorem dX1_digest_138 : decode cX1_digest 138 = .ok (.iconst 0, 1) := by decide +kernel
theorem dX1_digest_139 : decode cX1_digest 139 = .ok (.aload_n 0, 1) := by decide +kernel
theorem dX1_digest_140 : decode cX1_digest 140 = .ok (.iload 4, 2) := by decide +kernel
theorem dX1_digest_142 : decode cX1_digest 142 = .ok (.iconst 0, 1) := by decide +kernel
theorem dX1_digest_143 : decode cX1_digest 143 = .ok (.invokevirtual 33, 3) := by decide +kernel
theorem dX1_digest_146 : decode cX1_digest 146 = .ok (.iastore, 1) := by decide +kernel
theorem dX1_digest_147 : decode cX1_digest 147 = .ok (.dup, 1) := by decide +kernel
theorem dX1_digest_148 : decode cX1_digest 148 = .ok (.iconst 1, 1) := by decide +kernel
theorem dX1_digest_149 : decode cX1_digest 149 = .ok (.aload_n 0, 1) := by decide +kernel
theorem dX1_digest_150 : decode cX1_digest 150 = .ok (.iload 4, 2) := by decide +kernel
theorem dX1_digest_152 : decode cX1_digest 152 = .ok (.iconst 1, 1) := by decide +kernel
theorem dX1_digest_153 : decode cX1_digest 153 = .ok (.invokevirtual 33, 3) := by decide +kernel
theorem dX1_digest_156 : decode cX1_digest 156 = .ok (.iastore, 1) := by decide +kernel
theorem dX1_digest_157 : decode cX1_digest 157 = .ok (.dup, 1) := by decide +kernel
theorem dX1_digest_158 : decode cX1_digest 158 = .ok (.iconst 2, 1) := by decide +kernel
theorem dX1_digest_159 : decode cX1_digest 159 = .ok (.aload_n 0, 1) := by decide +kernel
theorem dX1_digest_160 : decode cX1_digest 160 = .ok (.iload 4, 2) := by decide +kernel
theorem dX1_digest_162 : decode cX1_digest 162 = .ok (.iconst 2, 1) := by decide +kernel
theorem dX1_digest_163 : decode cX1_digest 163 = .ok (.invokevirtual 33, 3) := by decide +kernel
theorem dX1_digest_166 : decode cX1_digest 166 = .ok (.iastore, 1) := by decide +kernel
theorem dX1_digest_167 : decode cX1_digest 167 = .ok (.dup, 1) := by decide +kernel
theorem dX1_digest_168 : decode cX1_digest 168 = .ok (.iconst 3, 1) := by decide +kernel
theorem dX1_digest_169 : decode cX1_digest 169 = .ok (.aload_n 0, 1) := by decide +kernel
theorem dX1_digest_170 : decode cX1_digest 170 = .ok (.iload 4, 2) := by decide +kernel
theorem dX1_digest_172 : decode cX1_digest 172 = .ok (.invokevirtual 63, 3) := by decide +kernel
theorem dX1_digest_175 : decode cX1_digest 175 = .ok (.iastore, 1) := by decide +kernel
theorem dX1_digest_176 : decode cX1_digest 176 = .ok (.dup, 1) := by decide +kernel
theorem dX1_digest_177 : decode cX1_digest 177 = .ok (.iconst 4, 1) := by decide +kernel
theorem dX1_digest_178 : decode cX1_digest 178 = .ok (.aload_n 0, 1) := by decide +kernel
theorem dX1_digest_179 : decode cX1_digest 179 = .ok (.iload 4, 2) := by decide +kernel
theorem dX1_digest_181 : decode cX1_digest 181 = .ok (.invokevirtual 102, 3) := by decide +kernel
theorem dX1_digest_184 : decode cX1_digest 184 = .ok (.iastore, 1) := by decide +kernel
theorem dX1_digest_185 : decode cX1_digest 185 = .ok (.dup, 1) := by decide +kernel
theorem dX1_digest_186 : decode cX1_digest 186 = .ok (.iconst 5, 1) := by decide +kernel
theorem dX1_digest_187 : decode cX1_digest 187 = .ok (.aload_n 0, 1) := by decide +kernel
theorem dX1_digest_188 : decode cX1_digest 188 = .ok (.iload 4, 2) := by decide +kernel
theorem dX1_digest_190 : decode cX1_digest 190 = .ok (.invokevirtual 114, 3) := by decide +kernel
theorem dX1_digest_193 : decode cX1_digest 193 = .ok (.iastore, 1) := by decide +kernel
theorem dX1_digest_194 : decode cX1_digest 194 = .ok (.dup, 1) := by decide +kernel
theorem dX1_digest_195 : decode cX1_digest 195 = .ok (.bipush 6, 2) := by decide +kernel
theorem dX1_digest_197 : decode cX1_digest 197 = .ok (.aload_n 0, 1) := by decide +kernel
theorem dX1_digest_198 : decode cX1_digest 198 = .ok (.iload 4, 2) := by decide +kernel
theorem dX1_digest_200 : decode cX1_digest 200 = .ok (.invokevirtual 117, 3) := by decide +kernel
theorem dX1_digest_203 : decode cX1_digest 203 = .ok (.iastore, 1) := by decide +kernel
theorem dX1_digest_204 : decode cX1_digest 204 = .ok (.astore 5, 2) := by decide +kernel
theorem dX1_digest_206 : decode cX1_digest 206 = .ok (.aload 5, 2) := by decide +kernel
theorem dX1_digest_208 : decode cX1_digest 208 = .ok (.astore 6, 2) := by decide +kernel
theorem dX1_digest_210 : decode cX1_digest 210 = .ok (.aload 6, 2) := by decide +kernel
theorem dX1_digest_212 : decode cX1_digest 212 = .ok (.arraylength, 1) := by decide +kernel
theorem dX1_digest_213 : decode cX1_digest 213 = .ok (.istore 7, 2) := by decide +kernel
theorem dX1_digest_215 : decode cX1_digest 215 = .ok (.iconst 0, 1) := by decide +kernel
theorem dX1_digest_216 : decode cX1_digest 216 = .ok (.istore 8, 2) := by decide +kernel
theorem dX1_digest_218 : decode cX1_digest 218 = .ok (.iload 8, 2) := by decide +kernel
theorem dX1_digest_220 : decode cX1_digest 220 = .ok (.iload 7, 2) := by decide +kernel
theorem dX1_digest_222 : decode cX1_digest 222 = .ok (.if_icmp .ge 26, 3) := by decide +kernel
theorem dX1_digest_225 : decode cX1_digest 225 = .ok (.aload 6, 2) := by decide +kernel
theorem dX1_digest_227 : decode cX1_digest 227 = .ok (.iload 8, 2) := by decide +kernel
theorem dX1_digest_229 : decode cX1_digest 229 = .ok (.iaload, 1) := by decide +kernel
theorem dX1_digest_230 : decode cX1_digest 230 = .ok (.istore 9, 2) := by decide +kernel
theorem dX1_digest_232 : decode cX1_digest 232 = .ok (.lload_n 2, 1) := by decide +kernel
theorem dX1_digest_233 : decode cX1_digest 233 = .ok (.ldc2_w 122, 3) := by decide +kernel
theorem dX1_digest_236 : decode cX1_digest 236 = .ok (.lmul, 1) := by decide +kernel
theorem dX1_digest_237 : decode cX1_digest 237 = .ok (.iload 9, 2) := by decide +kernel
theorem dX1_digest_239 : decode cX1_digest 239 = .ok (.i2l, 1) := by decide +kernel
theorem dX1_digest_240 : decode cX1_digest 240 = .ok (.ladd, 1) := by decide +kernel
theorem dX1_digest_241 : decode cX1_digest 241 = .ok (.lstore_n 2, 1) := by decide +kernel
theorem dX1_digest_242 : decode cX1_digest 242 = .ok (.iinc 8 1, 3) := by decide +kernel
theorem dX1_digest_245 : decode cX1_digest 245 = .ok (.goto (-27), 3) := by decide +kernel
theorem dX1_digest_248 : decode cX1_digest 248 = .ok (.iinc 4 1, 3) := by decide +kernel
theorem dX1_digest_251 : decode cX1_digest 251 = .ok (.goto (-127), 3) := by decide +kernel
theorem dX1_digest_254 : decode cX1_digest 254 = .ok (.iconst 0, 1) := by decide +kernel
theorem dX1_digest_255 : decode cX1_digest 255 = .ok (.istore 4, 2) := by decide +kernel
theorem dX1_digest_257 : decode cX1_digest 257 = .ok (.iload 4, 2) := by decide +kernel
theorem dX1_digest_259 : decode cX1_digest 259 = .ok (.aload_n 0, 1) := by decide +kernel
theorem dX1_digest_260 : decode cX1_digest 260 = .ok (.getfield 9, 3) := by decide +kernel
theorem dX1_digest_263 : decode cX1_digest 263 = .ok (.iconst 3, 1) := by decide +kernel
theorem dX1_digest_264 : decode cX1_digest 264 = .ok (.iaload, 1) := by decide +kernel
theorem dX1_digest_265 : decode cX1_digest 265 = .ok (.if_icmp .ge 40, 3) := by decide +kernel
theorem dX1_digest_268 : decode cX1_digest 268 = .ok (.iconst 0, 1) := by decide +kernel
theorem dX1_digest_269 : decode cX1_digest 269 = .ok (.istore 5, 2) := by decide +kernel
theorem dX1_digest_271 : decode cX1_digest 271 = .ok (.iload 5, 2) := by decide +kernel
theorem dX1_digest_273 : decode cX1_digest 273 = .ok (.iconst 4, 1) := by decide +kernel
theorem dX1_digest_274 : decode cX1_digest 274 = .ok (.if_icmp .ge 25, 3) := by decide +kernel
theorem dX1_digest_277 : decode cX1_digest 277 = .ok (.lload_n 2, 1) := by decide +kernel
theorem dX1_digest_278 : decode cX1_digest 278 = .ok (.ldc2_w 122, 3) := by decide +kernel
theorem dX1_digest_281 : decode cX1_digest 281 = .ok (.lmul, 1) := by decide +kernel
theorem dX1_digest_282 : decode cX1_digest 282 = .ok (.aload_n 0, 1) := by decide +kernel
theorem dX1_digest_283 : decode cX1_digest 283 = .ok (.iload 4, 2) := by decide +kernel
theorem dX1_digest_285 : decode cX1_digest 285 = .ok (.iload 5, 2) := by decide +kernel
theorem dX1_digest_287 : decode cX1_digest 287 = .ok (.invokevirtual 50, 3) := by decide +kernel
theorem dX1_digest_290 : decode cX1_digest 290 = .ok (.i2l, 1) := by decide +kernel
theorem dX1_digest_291 : decode cX1_digest 291 = .ok (.ladd, 1) := by decide +kernel
theorem dX1_digest_292 : decode cX1_digest 292 = .ok (.lstore_n 2, 1) := by decide +kernel
theorem dX1_digest_293 : decode cX1_digest 293 = .ok (.iinc 5 1, 3) := by decide +kernel
theorem dX1_digest_296 : decode cX1_digest 296 = .ok (.goto (-25), 3) := by decide +kernel
theorem dX1_digest_299 : decode cX1_digest 299 = .ok (.iinc 4 1, 3) := by decide +kernel
theorem dX1_digest_302 : decode cX1_digest 302 = .ok (.goto (-45), 3) := by decide +kernel
theorem dX1_digest_305 : decode cX1_digest 305 = .ok (.lload_n 2, 1) := by decide +kernel
theorem dX1_digest_306 : decode cX1_digest 306 = .ok (.lreturn, 1) := by decide +kernel
theorem dJ9_max_7cf53_0 : decode cJ9_max_7cf53 0 = .ok (.iload_n 0, 1) := by decide +kernel
theorem dJ9_max_7cf53_1 : decode cJ9_max_7cf53 1 = .ok (.iload_n 1, 1) := by decide +kernel
theorem dJ9_max_7cf53_2 : decode cJ9_max_7cf53 2 = .ok (.if_icmp .lt 7, 3) := by decide +kernel
theorem dJ9_max_7cf53_5 : decode cJ9_max_7cf53 5 = .ok (.iload_n 0, 1) := by decide +kernel
theorem dJ9_max_7cf53_6 : decode cJ9_max_7cf53 6 = .ok (.goto 4, 3) := by decide +kernel
theorem dJ9_max_7cf53_9 : decode cJ9_max_7cf53 9 = .ok (.iload_n 1, 1) := by decide +kernel
theorem dJ9_max_7cf53_10 : decode cJ9_max_7cf53 10 = .ok (.ireturn, 1) := by decide +kernel
theorem dJ9_min_7cf53_0 : decode cJ9_min_7cf53 0 = .ok (.iload_n 0, 1) := by decide +kernel
theorem dJ9_min_7cf53_1 : decode cJ9_min_7cf53 1 = .ok (.iload_n 1, 1) := by decide +kernel
theorem dJ9_min_7cf53_2 : decode cJ9_min_7cf53 2 = .ok (.if_icmp .gt 7, 3) := by decide +kernel
theorem dJ9_min_7cf53_5 : decode cJ9_min_7cf53 5 = .ok (.iload_n 0, 1) := by decide +kernel
theorem dJ9_min_7cf53_6 : decode cJ9_min_7cf53 6 = .ok (.goto 4, 3) := by decide +kernel
theorem dJ9_min_7cf53_9 : decode cJ9_min_7cf53 9 = .ok (.iload_n 1, 1) := by decide +kernel
theorem dJ9_min_7cf53_10 : decode cJ9_min_7cf53 10 = .ok (.ireturn, 1) := by decide +kernel
set_option maxRecDepth 20000 in
theorem ggL_join_X0_join : GoodIn wsL_join wsX0_join := goodIn_ca (goodIn_r _ [6, 7, 8, 9, 10, 11, 12, 13, 14, 15, 16, 17, 18, 19, 20, 21, 22, 23, 24, 25, 26] (by decide +kernel) (by decide +kernel)) (goodIn_sub (fun _ h => List.mem_cons_of_mem _ (List.mem_append_right _ h)) (by decide +kernel))
set_option maxRecDepth 20000 in
theorem gL_join_X0_join : GoodIn wsL_join (wsV RL 7 RX0 yX0_join wsX0_join) := goodIn_app (goodIn_of _ (by decide +kernel)) ggL_join_X0_join
theorem dL_join_0 : decode cL_join 0 = .ok (.aload_n 1, 1) := by decide +kernel
theorem dL_join_1 : decode cL_join 1 = .ok (.iconst 0, 1) := by decide +kernel
theorem dL_join_2 : decode cL_join 2 = .ok (.aload_n 0, 1) := by decide +kernel
theorem dL_join_3 : decode cL_join 3 = .ok (.invokevirtual 7, 3) := by decide +kernel
theorem dL_join_6 : decode cL_join 6 = .ok (.i2l, 1) := by decide +kernel
theorem dL_join_7 : decode cL_join 7 = .ok (.lastore, 1) := by decide +kernel
theorem dL_join_8 : decode cL_join 8 = .ok (.goto 6, 3) := by decide +kernel
theorem dL_join_11 : decode cL_join 11 = .ok (.astore_n 2, 1) := by decide +kernel
theorem dL_join_12 : decode cL_join 12 = .ok (.iconst 1, 1) := by decide +kernel
theorem dL_join_13 : decode cL_join 13 = .ok (.ireturn, 1) := by decide +kernel
theorem dL_join_14 : decode cL_join 14 = .ok (.iconst 0, 1) := by decide +kernel
theorem dL_join_15 : decode cL_join 15 = .ok (.ireturn, 1) := by decide +kernel
set_option maxRecDepth 20000 in
theorem ggL_spill_X0_spill : GoodIn wsL_spill wsX0_spill := goodIn_ca (goodIn_ca (goodIn_ca (goodIn_r _ [8, 9, 10, 11, 12, 13, 7, 14, 15, 16, 17, 18, 19, 20, 21, 22, 23, 24, 25, 26, 27, 28, 29, 30, 31, 32, 33, 34, 35, 36, 37, 38, 39, 40, 41, 42, 43, 44, 45, 46, 47, 48, 49, 50] (by decide +kernel) (by decide +kernel)) (goodIn_sub (fun _ h => List.mem_cons_of_mem _ (List.mem_append_left _ (List.mem_append_left _ (List.mem_append_right _ h)))) (by decide +kernel))) (goodIn_sub (fun _ h => List.mem_cons_of_mem _ (List.mem_append_left _ (List.mem_append_right _ h))) (by decide +kernel))) (goodIn_sub (fun _ h => List.mem_cons_of_mem _ (List.mem_append_right _ h)) (by decide +kernel))
set_option maxRecDepth 20000 in
theorem gL_spill_X0_spill : GoodIn wsL_spill (wsV RL 15 RX0 yX0_spill wsX0_spill) := goodIn_app (goodIn_of _ (by decide +kernel)) ggL_spill_X0_spill
theorem dL_spill_0 : decode cL_spill 0 = .ok (.aload_n 3, 1) := by decide +kernel
theorem dL_spill_1 : decode cL_spill 1 = .ok (.iconst 0, 1) := by decide +kernel
theorem dL_spill_2 : decode cL_spill 2 = .ok (.aload_n 0, 1) := by decide +kernel
theorem dL_spill_3 : decode cL_spill 3 = .ok (.iload_n 1, 1) := by decide +kernel
theorem dL_spill_4 : decode cL_spill 4 = .ok (.iload_n 2, 1) := by decide +kernel
theorem dL_spill_5 : decode cL_spill 5 = .ok (.invokevirtual 15, 3) := by decide +kernel
theorem dL_spill_8 : decode cL_spill 8 = .ok (.i2l, 1) := by decide +kernel
theorem dL_spill_9 : decode cL_spill 9 = .ok (.lastore, 1) := by decide +kernel
theorem dL_spill_10 : decode cL_spill 10 = .ok (.goto 15, 3) := by decide +kernel
theorem dL_spill_13 : decode cL_spill 13 = .ok (.astore 4, 2) := by decide +kernel
theorem dL_spill_15 : decode cL_spill 15 = .ok (.iconst 1, 1) := by decide +kernel
theorem dL_spill_16 : decode cL_spill 16 = .ok (.ireturn, 1) := by decide +kernel
theorem dL_spill_17 : decode cL_spill 17 = .ok (.astore 4, 2) := by decide +kernel
theorem dL_spill_19 : decode cL_spill 19 = .ok (.iconst 2, 1) := by decide +kernel
theorem dL_spill_20 : decode cL_spill 20 = .ok (.ireturn, 1) := by decide +kernel
theorem dL_spill_21 : decode cL_spill 21 = .ok (.astore 4, 2) := by decide +kernel
theorem dL_spill_23 : decode cL_spill 23 = .ok (.iconst 3, 1) := by decide +kernel
theorem dL_spill_24 : decode cL_spill 24 = .ok (.ireturn, 1) := by decide +kernel
theorem dL_spill_25 : decode cL_spill 25 = .ok (.iconst 0, 1) := by decide +kernel
theorem dL_spill_26 : decode cL_spill 26 = .ok (.ireturn, 1) := by decide +kernel
set_option maxRecDepth 20000 in
theorem ggL_throwSalt_X0_throwSalt : GoodIn wsL_throwSalt wsX0_throwSalt := goodIn_ca (goodIn_ca (goodIn_ca (goodIn_r _ [8, 9, 10, 11, 12, 7, 13, 14, 15, 16, 17, 18, 19, 20, 21, 22, 23, 24, 25, 26, 27, 28, 29, 30, 31, 32, 33, 34, 35, 36, 37, 38, 39, 40, 41, 42, 43, 44, 45, 46, 47, 48, 49, 50, 51, 52, 53, 54, 55, 56, 57, 58, 59, 60, 61, 62, 63, 64, 65, 66, 67, 68, 69, 70] (by decide +kernel) (by decide +kernel)) (goodIn_sub (fun _ h => List.mem_cons_of_mem _ (List.mem_append_left _ (List.mem_append_left _ (List.mem_append_right _ h)))) (by decide +kernel))) (goodIn_sub (fun _ h => List.mem_cons_of_mem _ (List.mem_append_left _ (List.mem_append_right _ h))) (by decide +kernel))) (goodIn_sub (fun _ h => List.mem_cons_of_mem _ (List.mem_append_right _ h)) (by decide +kernel))
set_option maxRecDepth 20000 in
theorem gL_throwSalt_X0_throwSalt : GoodIn wsL_throwSalt (wsV RL 23 RX0 yX0_throwSalt wsX0_throwSalt) := goodIn_app (goodIn_of _ (by decide +kernel)) ggL_throwSalt_X0_throwSalt
theorem dL_throwSalt_0 : decode cL_throwSalt 0 = .ok (.aload 4, 2) := by decide +kernel
theorem dL_throwSalt_2 : decode cL_throwSalt 2 = .ok (.iconst 0, 1) := by decide +kernel
theorem dL_throwSalt_3 : decode cL_throwSalt 3 = .ok (.aload_n 0, 1) := by decide +kernel
theorem dL_throwSalt_4 : decode cL_throwSalt 4 = .ok (.iload_n 1, 1) := by decide +kernel
theorem dL_throwSalt_5 : decode cL_throwSalt 5 = .ok (.iload_n 2, 1) := by decide +kernel
theorem dL_throwSalt_6 : decode cL_throwSalt 6 = .ok (.iload_n 3, 1) := by decide +kernel
theorem dL_throwSalt_7 : decode cL_throwSalt 7 = .ok (.invokevirtual 23, 3) := by decide +kernel
theorem dL_throwSalt_10 : decode cL_throwSalt 10 = .ok (.i2l, 1) := by decide +kernel
theorem dL_throwSalt_11 : decode cL_throwSalt 11 = .ok (.lastore, 1) := by decide +kernel
theorem dL_throwSalt_12 : decode cL_throwSalt 12 = .ok (.goto 15, 3) := by decide +kernel
theorem dL_throwSalt_15 : decode cL_throwSalt 15 = .ok (.astore 5, 2) := by decide +kernel
theorem dL_throwSalt_17 : decode cL_throwSalt 17 = .ok (.iconst 1, 1) := by decide +kernel
theorem dL_throwSalt_18 : decode cL_throwSalt 18 = .ok (.ireturn, 1) := by decide +kernel
theorem dL_throwSalt_19 : decode cL_throwSalt 19 = .ok (.astore 5, 2) := by decide +kernel
theorem dL_throwSalt_21 : decode cL_throwSalt 21 = .ok (.iconst 2, 1) := by decide +kernel
theorem dL_throwSalt_22 : decode cL_throwSalt 22 = .ok (.ireturn, 1) := by decide +kernel
theorem dL_throwSalt_23 : decode cL_throwSalt 23 = .ok (.astore 5, 2) := by decide +kernel
theorem dL_throwSalt_25 : decode cL_throwSalt 25 = .ok (.iconst 3, 1) := by decide +kernel
theorem dL_throwSalt_26 : decode cL_throwSalt 26 = .ok (.ireturn, 1) := by decide +kernel
theorem dL_throwSalt_27 : decode cL_throwSalt 27 = .ok (.iconst 0, 1) := by decide +kernel
theorem dL_throwSalt_28 : decode cL_throwSalt 28 = .ok (.ireturn, 1) := by decide +kernel
set_option maxRecDepth 20000 in
theorem ggL_doPenance_X0_doPenance : GoodIn wsL_doPenance wsX0_doPenance := goodIn_ca (goodIn_ca (goodIn_r _ [7, 8, 9, 10, 11, 6, 12, 13, 14, 15, 16, 17, 18, 19, 20, 21, 22, 23, 24, 25, 26, 27, 28, 29, 30, 31, 32, 33, 34, 35, 36, 37, 38, 39, 40, 41, 42] (by decide +kernel) (by decide +kernel)) (goodIn_sub (fun _ h => List.mem_cons_of_mem _ (List.mem_append_left _ (List.mem_append_right _ h))) (by decide +kernel))) (goodIn_sub (fun _ h => List.mem_cons_of_mem _ (List.mem_append_right _ h)) (by decide +kernel))
set_option maxRecDepth 20000 in
theorem gL_doPenance_X0_doPenance : GoodIn wsL_doPenance (wsV RL 27 RX0 yX0_doPenance wsX0_doPenance) := goodIn_app (goodIn_of _ (by decide +kernel)) ggL_doPenance_X0_doPenance
theorem dL_doPenance_0 : decode cL_doPenance 0 = .ok (.aload_n 3, 1) := by decide +kernel
theorem dL_doPenance_1 : decode cL_doPenance 1 = .ok (.iconst 0, 1) := by decide +kernel
theorem dL_doPenance_2 : decode cL_doPenance 2 = .ok (.aload_n 0, 1) := by decide +kernel
theorem dL_doPenance_3 : decode cL_doPenance 3 = .ok (.iload_n 1, 1) := by decide +kernel
theorem dL_doPenance_4 : decode cL_doPenance 4 = .ok (.iload_n 2, 1) := by decide +kernel
theorem dL_doPenance_5 : decode cL_doPenance 5 = .ok (.invokevirtual 27, 3) := by decide +kernel
theorem dL_doPenance_8 : decode cL_doPenance 8 = .ok (.i2l, 1) := by decide +kernel
theorem dL_doPenance_9 : decode cL_doPenance 9 = .ok (.lastore, 1) := by decide +kernel
theorem dL_doPenance_10 : decode cL_doPenance 10 = .ok (.goto 11, 3) := by decide +kernel
theorem dL_doPenance_13 : decode cL_doPenance 13 = .ok (.astore 4, 2) := by decide +kernel
theorem dL_doPenance_15 : decode cL_doPenance 15 = .ok (.iconst 1, 1) := by decide +kernel
theorem dL_doPenance_16 : decode cL_doPenance 16 = .ok (.ireturn, 1) := by decide +kernel
theorem dL_doPenance_17 : decode cL_doPenance 17 = .ok (.astore 4, 2) := by decide +kernel
theorem dL_doPenance_19 : decode cL_doPenance 19 = .ok (.iconst 2, 1) := by decide +kernel
theorem dL_doPenance_20 : decode cL_doPenance 20 = .ok (.ireturn, 1) := by decide +kernel
theorem dL_doPenance_21 : decode cL_doPenance 21 = .ok (.iconst 0, 1) := by decide +kernel
theorem dL_doPenance_22 : decode cL_doPenance 22 = .ok (.ireturn, 1) := by decide +kernel
set_option maxRecDepth 20000 in
theorem ggL_bringSalt_X0_bringSalt : GoodIn wsL_bringSalt wsX0_bringSalt := goodIn_ca (goodIn_r _ [6, 7, 8, 9, 10, 11, 12, 13, 5, 14, 15, 16, 17, 18, 19, 20, 21, 22, 23, 24, 25, 26, 27, 28, 29, 30] (by decide +kernel) (by decide +kernel)) (goodIn_sub (fun _ h => List.mem_cons_of_mem _ (List.mem_append_right _ h)) (by decide +kernel))
set_option maxRecDepth 20000 in
theorem gL_bringSalt_X0_bringSalt : GoodIn wsL_bringSalt (wsV RL 30 RX0 yX0_bringSalt wsX0_bringSalt) := goodIn_app (goodIn_of _ (by decide +kernel)) ggL_bringSalt_X0_bringSalt
theorem dL_bringSalt_0 : decode cL_bringSalt 0 = .ok (.aload_n 2, 1) := by decide +kernel
theorem dL_bringSalt_1 : decode cL_bringSalt 1 = .ok (.iconst 0, 1) := by decide +kernel
theorem dL_bringSalt_2 : decode cL_bringSalt 2 = .ok (.aload_n 0, 1) := by decide +kernel
theorem dL_bringSalt_3 : decode cL_bringSalt 3 = .ok (.iload_n 1, 1) := by decide +kernel
theorem dL_bringSalt_4 : decode cL_bringSalt 4 = .ok (.invokevirtual 30, 3) := by decide +kernel
theorem dL_bringSalt_7 : decode cL_bringSalt 7 = .ok (.i2l, 1) := by decide +kernel
theorem dL_bringSalt_8 : decode cL_bringSalt 8 = .ok (.lastore, 1) := by decide +kernel
theorem dL_bringSalt_9 : decode cL_bringSalt 9 = .ok (.goto 6, 3) := by decide +kernel
theorem dL_bringSalt_12 : decode cL_bringSalt 12 = .ok (.astore_n 3, 1) := by decide +kernel
theorem dL_bringSalt_13 : decode cL_bringSalt 13 = .ok (.iconst 1, 1) := by decide +kernel
theorem dL_bringSalt_14 : decode cL_bringSalt 14 = .ok (.ireturn, 1) := by decide +kernel
theorem dL_bringSalt_15 : decode cL_bringSalt 15 = .ok (.iconst 0, 1) := by decide +kernel
theorem dL_bringSalt_16 : decode cL_bringSalt 16 = .ok (.ireturn, 1) := by decide +kernel
set_option maxRecDepth 20000 in
theorem ggL_pass_X0_pass : GoodIn wsL_pass wsX0_pass := goodIn_ca (goodIn_r _ [6, 7, 8, 5, 9, 10, 11, 12, 13, 14, 15, 16, 17, 18, 19, 20, 21, 22, 23, 24, 25, 26, 27, 28, 29, 30, 31, 32, 33, 34, 35, 36, 37, 38, 39, 40, 41, 42, 43, 44, 45, 46, 47, 48, 49, 50, 51, 52, 53, 54, 55, 56, 57, 58, 59, 60, 61, 62, 63, 64, 65, 66, 67, 68, 69, 70, 71, 72, 73, 74, 75, 76] (by decide +kernel) (by decide +kernel)) (goodIn_sub (fun _ h => List.mem_cons_of_mem _ (List.mem_append_right _ h)) (by decide +kernel))
set_option maxRecDepth 20000 in
theorem gL_pass_X0_pass : GoodIn wsL_pass (wsV RL 34 RX0 yX0_pass wsX0_pass) := goodIn_app (goodIn_of _ (by decide +kernel)) ggL_pass_X0_pass
theorem dL_pass_0 : decode cL_pass 0 = .ok (.aload_n 2, 1) := by decide +kernel
theorem dL_pass_1 : decode cL_pass 1 = .ok (.iconst 0, 1) := by decide +kernel
theorem dL_pass_2 : decode cL_pass 2 = .ok (.aload_n 0, 1) := by decide +kernel
theorem dL_pass_3 : decode cL_pass 3 = .ok (.iload_n 1, 1) := by decide +kernel
theorem dL_pass_4 : decode cL_pass 4 = .ok (.invokevirtual 34, 3) := by decide +kernel
theorem dL_pass_7 : decode cL_pass 7 = .ok (.i2l, 1) := by decide +kernel
theorem dL_pass_8 : decode cL_pass 8 = .ok (.lastore, 1) := by decide +kernel
theorem dL_pass_9 : decode cL_pass 9 = .ok (.goto 6, 3) := by decide +kernel
theorem dL_pass_12 : decode cL_pass 12 = .ok (.astore_n 3, 1) := by decide +kernel
theorem dL_pass_13 : decode cL_pass 13 = .ok (.iconst 1, 1) := by decide +kernel
theorem dL_pass_14 : decode cL_pass 14 = .ok (.ireturn, 1) := by decide +kernel
theorem dL_pass_15 : decode cL_pass 15 = .ok (.iconst 0, 1) := by decide +kernel
theorem dL_pass_16 : decode cL_pass 16 = .ok (.ireturn, 1) := by decide +kernel
set_option maxRecDepth 20000 in
theorem ggL_luckOf_X0_luckOf : GoodIn wsL_luckOf wsX0_luckOf := goodIn_ca (goodIn_r _ [6, 7, 8, 9, 10, 5, 11, 12, 13, 14, 15, 16, 17, 18, 19, 20, 21, 22, 23, 24, 25, 26, 27, 28] (by decide +kernel) (by decide +kernel)) (goodIn_sub (fun _ h => List.mem_cons_of_mem _ (List.mem_append_right _ h)) (by decide +kernel))
set_option maxRecDepth 20000 in
theorem gL_luckOf_X0_luckOf : GoodIn wsL_luckOf (wsV RL 37 RX0 yX0_luckOf wsX0_luckOf) := goodIn_app (goodIn_of _ (by decide +kernel)) ggL_luckOf_X0_luckOf
theorem dL_luckOf_0 : decode cL_luckOf 0 = .ok (.aload_n 2, 1) := by decide +kernel
theorem dL_luckOf_1 : decode cL_luckOf 1 = .ok (.iconst 0, 1) := by decide +kernel
theorem dL_luckOf_2 : decode cL_luckOf 2 = .ok (.aload_n 0, 1) := by decide +kernel
theorem dL_luckOf_3 : decode cL_luckOf 3 = .ok (.iload_n 1, 1) := by decide +kernel
theorem dL_luckOf_4 : decode cL_luckOf 4 = .ok (.invokevirtual 37, 3) := by decide +kernel
theorem dL_luckOf_7 : decode cL_luckOf 7 = .ok (.i2l, 1) := by decide +kernel
theorem dL_luckOf_8 : decode cL_luckOf 8 = .ok (.lastore, 1) := by decide +kernel
theorem dL_luckOf_9 : decode cL_luckOf 9 = .ok (.goto 6, 3) := by decide +kernel
theorem dL_luckOf_12 : decode cL_luckOf 12 = .ok (.astore_n 3, 1) := by decide +kernel
theorem dL_luckOf_13 : decode cL_luckOf 13 = .ok (.iconst 1, 1) := by decide +kernel
theorem dL_luckOf_14 : decode cL_luckOf 14 = .ok (.ireturn, 1) := by decide +kernel
theorem dL_luckOf_15 : decode cL_luckOf 15 = .ok (.iconst 0, 1) := by decide +kernel
theorem dL_luckOf_16 : decode cL_luckOf 16 = .ok (.ireturn, 1) := by decide +kernel
set_option maxRecDepth 20000 in
theorem ggL_arrearsOf_X0_arrearsOf : GoodIn wsL_arrearsOf wsX0_arrearsOf := goodIn_ca (goodIn_r _ [6, 7, 8, 9, 10, 5, 11, 12, 13, 14, 15, 16, 17, 18, 19, 20, 21, 22, 23, 24, 25, 26, 27, 28] (by decide +kernel) (by decide +kernel)) (goodIn_sub (fun _ h => List.mem_cons_of_mem _ (List.mem_append_right _ h)) (by decide +kernel))
set_option maxRecDepth 20000 in
theorem gL_arrearsOf_X0_arrearsOf : GoodIn wsL_arrearsOf (wsV RL 40 RX0 yX0_arrearsOf wsX0_arrearsOf) := goodIn_app (goodIn_of _ (by decide +kernel)) ggL_arrearsOf_X0_arrearsOf
theorem dL_arrearsOf_0 : decode cL_arrearsOf 0 = .ok (.aload_n 2, 1) := by decide +kernel
theorem dL_arrearsOf_1 : decode cL_arrearsOf 1 = .ok (.iconst 0, 1) := by decide +kernel
theorem dL_arrearsOf_2 : decode cL_arrearsOf 2 = .ok (.aload_n 0, 1) := by decide +kernel
theorem dL_arrearsOf_3 : decode cL_arrearsOf 3 = .ok (.iload_n 1, 1) := by decide +kernel
theorem dL_arrearsOf_4 : decode cL_arrearsOf 4 = .ok (.invokevirtual 40, 3) := by decide +kernel
theorem dL_arrearsOf_7 : decode cL_arrearsOf 7 = .ok (.i2l, 1) := by decide +kernel
theorem dL_arrearsOf_8 : decode cL_arrearsOf 8 = .ok (.lastore, 1) := by decide +kernel
theorem dL_arrearsOf_9 : decode cL_arrearsOf 9 = .ok (.goto 6, 3) := by decide +kernel
theorem dL_arrearsOf_12 : decode cL_arrearsOf 12 = .ok (.astore_n 3, 1) := by decide +kernel
theorem dL_arrearsOf_13 : decode cL_arrearsOf 13 = .ok (.iconst 1, 1) := by decide +kernel
theorem dL_arrearsOf_14 : decode cL_arrearsOf 14 = .ok (.ireturn, 1) := by decide +kernel
theorem dL_arrearsOf_15 : decode cL_arrearsOf 15 = .ok (.iconst 0, 1) := by decide +kernel
theorem dL_arrearsOf_16 : decode cL_arrearsOf 16 = .ok (.ireturn, 1) := by decide +kernel
set_option maxRecDepth 20000 in
theorem ggL_lumpsOf_X0_lumpsOf : GoodIn wsL_lumpsOf wsX0_lumpsOf := goodIn_ca (goodIn_r _ [6, 7, 8, 9, 10, 5, 11, 12, 13, 14, 15, 16, 17, 18, 19, 20, 21, 22, 23, 24, 25, 26, 27, 28] (by decide +kernel) (by decide +kernel)) (goodIn_sub (fun _ h => List.mem_cons_of_mem _ (List.mem_append_right _ h)) (by decide +kernel))
set_option maxRecDepth 20000 in
theorem gL_lumpsOf_X0_lumpsOf : GoodIn wsL_lumpsOf (wsV RL 43 RX0 yX0_lumpsOf wsX0_lumpsOf) := goodIn_app (goodIn_of _ (by decide +kernel)) ggL_lumpsOf_X0_lumpsOf
theorem dL_lumpsOf_0 : decode cL_lumpsOf 0 = .ok (.aload_n 2, 1) := by decide +kernel
theorem dL_lumpsOf_1 : decode cL_lumpsOf 1 = .ok (.iconst 0, 1) := by decide +kernel
theorem dL_lumpsOf_2 : decode cL_lumpsOf 2 = .ok (.aload_n 0, 1) := by decide +kernel
theorem dL_lumpsOf_3 : decode cL_lumpsOf 3 = .ok (.iload_n 1, 1) := by decide +kernel
theorem dL_lumpsOf_4 : decode cL_lumpsOf 4 = .ok (.invokevirtual 43, 3) := by decide +kernel
theorem dL_lumpsOf_7 : decode cL_lumpsOf 7 = .ok (.i2l, 1) := by decide +kernel
theorem dL_lumpsOf_8 : decode cL_lumpsOf 8 = .ok (.lastore, 1) := by decide +kernel
theorem dL_lumpsOf_9 : decode cL_lumpsOf 9 = .ok (.goto 6, 3) := by decide +kernel
theorem dL_lumpsOf_12 : decode cL_lumpsOf 12 = .ok (.astore_n 3, 1) := by decide +kernel
theorem dL_lumpsOf_13 : decode cL_lumpsOf 13 = .ok (.iconst 1, 1) := by decide +kernel
theorem dL_lumpsOf_14 : decode cL_lumpsOf 14 = .ok (.ireturn, 1) := by decide +kernel
theorem dL_lumpsOf_15 : decode cL_lumpsOf 15 = .ok (.iconst 0, 1) := by decide +kernel
theorem dL_lumpsOf_16 : decode cL_lumpsOf 16 = .ok (.ireturn, 1) := by decide +kernel
set_option maxRecDepth 20000 in
theorem ggL_dailyLoss_X0_dailyLoss : GoodIn wsL_dailyLoss wsX0_dailyLoss := goodIn_ca (goodIn_r _ [6, 7, 8, 9, 5, 10, 11, 12, 13, 14, 15, 16, 17, 18, 19, 20, 21, 22, 23, 24, 25, 26, 27, 28, 29, 30, 31, 32, 33] (by decide +kernel) (by decide +kernel)) (goodIn_sub (fun _ h => List.mem_cons_of_mem _ (List.mem_append_right _ h)) (by decide +kernel))
set_option maxRecDepth 20000 in
theorem gL_dailyLoss_X0_dailyLoss : GoodIn wsL_dailyLoss (wsV RL 46 RX0 yX0_dailyLoss wsX0_dailyLoss) := goodIn_app (goodIn_of _ (by decide +kernel)) ggL_dailyLoss_X0_dailyLoss
theorem dL_dailyLoss_0 : decode cL_dailyLoss 0 = .ok (.aload_n 2, 1) := by decide +kernel
theorem dL_dailyLoss_1 : decode cL_dailyLoss 1 = .ok (.iconst 0, 1) := by decide +kernel
theorem dL_dailyLoss_2 : decode cL_dailyLoss 2 = .ok (.aload_n 0, 1) := by decide +kernel
theorem dL_dailyLoss_3 : decode cL_dailyLoss 3 = .ok (.iload_n 1, 1) := by decide +kernel
theorem dL_dailyLoss_4 : decode cL_dailyLoss 4 = .ok (.invokevirtual 46, 3) := by decide +kernel
theorem dL_dailyLoss_7 : decode cL_dailyLoss 7 = .ok (.i2l, 1) := by decide +kernel
theorem dL_dailyLoss_8 : decode cL_dailyLoss 8 = .ok (.lastore, 1) := by decide +kernel
theorem dL_dailyLoss_9 : decode cL_dailyLoss 9 = .ok (.goto 6, 3) := by decide +kernel
theorem dL_dailyLoss_12 : decode cL_dailyLoss 12 = .ok (.astore_n 3, 1) := by decide +kernel
theorem dL_dailyLoss_13 : decode cL_dailyLoss 13 = .ok (.iconst 1, 1) := by decide +kernel
theorem dL_dailyLoss_14 : decode cL_dailyLoss 14 = .ok (.ireturn, 1) := by decide +kernel
theorem dL_dailyLoss_15 : decode cL_dailyLoss 15 = .ok (.iconst 0, 1) := by decide +kernel
theorem dL_dailyLoss_16 : decode cL_dailyLoss 16 = .ok (.ireturn, 1) := by decide +kernel
set_option maxRecDepth 20000 in
theorem ggL_memberOf_X0_memberOf : GoodIn wsL_memberOf wsX0_memberOf := goodIn_ca (goodIn_r _ [6, 7, 8, 9, 10, 5, 11, 12, 13, 14, 15, 16, 17, 18, 19, 20, 21, 22, 23, 24, 25, 26, 27, 28] (by decide +kernel) (by decide +kernel)) (goodIn_sub (fun _ h => List.mem_cons_of_mem _ (List.mem_append_right _ h)) (by decide +kernel))
set_option maxRecDepth 20000 in
theorem gL_memberOf_X0_memberOf : GoodIn wsL_memberOf (wsV RL 49 RX0 yX0_memberOf wsX0_memberOf) := goodIn_app (goodIn_of _ (by decide +kernel)) ggL_memberOf_X0_memberOf
theorem dL_memberOf_0 : decode cL_memberOf 0 = .ok (.aload_n 2, 1) := by decide +kernel
theorem dL_memberOf_1 : decode cL_memberOf 1 = .ok (.iconst 0, 1) := by decide +kernel
theorem dL_memberOf_2 : decode cL_memberOf 2 = .ok (.aload_n 0, 1) := by decide +kernel
theorem dL_memberOf_3 : decode cL_memberOf 3 = .ok (.iload_n 1, 1) := by decide +kernel
theorem dL_memberOf_4 : decode cL_memberOf 4 = .ok (.invokevirtual 49, 3) := by decide +kernel
theorem dL_memberOf_7 : decode cL_memberOf 7 = .ok (.i2l, 1) := by decide +kernel
theorem dL_memberOf_8 : decode cL_memberOf 8 = .ok (.lastore, 1) := by decide +kernel
theorem dL_memberOf_9 : decode cL_memberOf 9 = .ok (.goto 6, 3) := by decide +kernel
theorem dL_memberOf_12 : decode cL_memberOf 12 = .ok (.astore_n 3, 1) := by decide +kernel
theorem dL_memberOf_13 : decode cL_memberOf 13 = .ok (.iconst 1, 1) := by decide +kernel
theorem dL_memberOf_14 : decode cL_memberOf 14 = .ok (.ireturn, 1) := by decide +kernel
theorem dL_memberOf_15 : decode cL_memberOf 15 = .ok (.iconst 0, 1) := by decide +kernel
theorem dL_memberOf_16 : decode cL_memberOf 16 = .ok (.ireturn, 1) := by decide +kernel
set_option maxRecDepth 20000 in
theorem ggL_isLeft_X0_isLeft : GoodIn wsL_isLeft wsX0_isLeft := goodIn_ca (goodIn_r _ [6, 7, 8, 9, 10, 5, 11, 12, 13, 14, 15, 16, 17, 18, 19, 20, 21, 22, 23, 24, 25, 26, 27, 28] (by decide +kernel) (by decide +kernel)) (goodIn_sub (fun _ h => List.mem_cons_of_mem _ (List.mem_append_right _ h)) (by decide +kernel))
set_option maxRecDepth 20000 in
theorem gL_isLeft_X0_isLeft : GoodIn wsL_isLeft (wsV RL 52 RX0 yX0_isLeft wsX0_isLeft) := goodIn_app (goodIn_of _ (by decide +kernel)) ggL_isLeft_X0_isLeft
theorem dL_isLeft_0 : decode cL_isLeft 0 = .ok (.aload_n 2, 1) := by decide +kernel
theorem dL_isLeft_1 : decode cL_isLeft 1 = .ok (.iconst 0, 1) := by decide +kernel
theorem dL_isLeft_2 : decode cL_isLeft 2 = .ok (.aload_n 0, 1) := by decide +kernel
theorem dL_isLeft_3 : decode cL_isLeft 3 = .ok (.iload_n 1, 1) := by decide +kernel
theorem dL_isLeft_4 : decode cL_isLeft 4 = .ok (.invokevirtual 52, 3) := by decide +kernel
theorem dL_isLeft_7 : decode cL_isLeft 7 = .ok (.ifCond .eq 7, 3) := by decide +kernel
theorem dL_isLeft_10 : decode cL_isLeft 10 = .ok (.lconst 1, 1) := by decide +kernel
theorem dL_isLeft_11 : decode cL_isLeft 11 = .ok (.goto 4, 3) := by decide +kernel
theorem dL_isLeft_14 : decode cL_isLeft 14 = .ok (.lconst 0, 1) := by decide +kernel
theorem dL_isLeft_15 : decode cL_isLeft 15 = .ok (.lastore, 1) := by decide +kernel
theorem dL_isLeft_16 : decode cL_isLeft 16 = .ok (.goto 6, 3) := by decide +kernel
theorem dL_isLeft_19 : decode cL_isLeft 19 = .ok (.astore_n 3, 1) := by decide +kernel
theorem dL_isLeft_20 : decode cL_isLeft 20 = .ok (.iconst 1, 1) := by decide +kernel
theorem dL_isLeft_21 : decode cL_isLeft 21 = .ok (.ireturn, 1) := by decide +kernel
theorem dL_isLeft_22 : decode cL_isLeft 22 = .ok (.iconst 0, 1) := by decide +kernel
theorem dL_isLeft_23 : decode cL_isLeft 23 = .ok (.ireturn, 1) := by decide +kernel
set_option maxRecDepth 20000 in
theorem ggL_grainsOf_X0_grainsOf : GoodIn wsL_grainsOf wsX0_grainsOf := goodIn_ca (goodIn_r _ [6, 7, 8, 9, 10, 5, 11, 12, 13, 14, 15, 16, 17, 18, 19, 20, 21, 22, 23, 24, 25, 26, 27, 28] (by decide +kernel) (by decide +kernel)) (goodIn_sub (fun _ h => List.mem_cons_of_mem _ (List.mem_append_right _ h)) (by decide +kernel))
set_option maxRecDepth 20000 in
theorem gL_grainsOf_X0_grainsOf : GoodIn wsL_grainsOf (wsV RL 56 RX0 yX0_grainsOf wsX0_grainsOf) := goodIn_app (goodIn_of _ (by decide +kernel)) ggL_grainsOf_X0_grainsOf
theorem dL_grainsOf_0 : decode cL_grainsOf 0 = .ok (.aload_n 2, 1) := by decide +kernel
theorem dL_grainsOf_1 : decode cL_grainsOf 1 = .ok (.iconst 0, 1) := by decide +kernel
theorem dL_grainsOf_2 : decode cL_grainsOf 2 = .ok (.aload_n 0, 1) := by decide +kernel
theorem dL_grainsOf_3 : decode cL_grainsOf 3 = .ok (.iload_n 1, 1) := by decide +kernel
theorem dL_grainsOf_4 : decode cL_grainsOf 4 = .ok (.invokevirtual 56, 3) := by decide +kernel
theorem dL_grainsOf_7 : decode cL_grainsOf 7 = .ok (.i2l, 1) := by decide +kernel
theorem dL_grainsOf_8 : decode cL_grainsOf 8 = .ok (.lastore, 1) := by decide +kernel
theorem dL_grainsOf_9 : decode cL_grainsOf 9 = .ok (.goto 6, 3) := by decide +kernel
theorem dL_grainsOf_12 : decode cL_grainsOf 12 = .ok (.astore_n 3, 1) := by decide +kernel
theorem dL_grainsOf_13 : decode cL_grainsOf 13 = .ok (.iconst 1, 1) := by decide +kernel
theorem dL_grainsOf_14 : decode cL_grainsOf 14 = .ok (.ireturn, 1) := by decide +kernel
theorem dL_grainsOf_15 : decode cL_grainsOf 15 = .ok (.iconst 0, 1) := by decide +kernel
theorem dL_grainsOf_16 : decode cL_grainsOf 16 = .ok (.ireturn, 1) := by decide +kernel
set_option maxRecDepth 20000 in
theorem ggL_excessOf_X0_excessOf : GoodIn wsL_excessOf wsX0_excessOf := goodIn_ca (goodIn_r _ [6, 7, 8, 9, 10, 5, 11, 12, 13, 14, 15, 16, 17, 18, 19, 20, 21, 22, 23, 24, 25, 26, 27, 28] (by decide +kernel) (by decide +kernel)) (goodIn_sub (fun _ h => List.mem_cons_of_mem _ (List.mem_append_right _ h)) (by decide +kernel))
set_option maxRecDepth 20000 in
theorem gL_excessOf_X0_excessOf : GoodIn wsL_excessOf (wsV RL 59 RX0 yX0_excessOf wsX0_excessOf) := goodIn_app (goodIn_of _ (by decide +kernel)) ggL_excessOf_X0_excessOf
theorem dL_excessOf_0 : decode cL_excessOf 0 = .ok (.aload_n 2, 1) := by decide +kernel
theorem dL_excessOf_1 : decode cL_excessOf 1 = .ok (.iconst 0, 1) := by decide +kernel
theorem dL_excessOf_2 : decode cL_excessOf 2 = .ok (.aload_n 0, 1) := by decide +kernel
theorem dL_excessOf_3 : decode cL_excessOf 3 = .ok (.iload_n 1, 1) := by decide +kernel
theorem dL_excessOf_4 : decode cL_excessOf 4 = .ok (.invokevirtual 59, 3) := by decide +kernel
theorem dL_excessOf_7 : decode cL_excessOf 7 = .ok (.i2l, 1) := by decide +kernel
theorem dL_excessOf_8 : decode cL_excessOf 8 = .ok (.lastore, 1) := by decide +kernel
theorem dL_excessOf_9 : decode cL_excessOf 9 = .ok (.goto 6, 3) := by decide +kernel
theorem dL_excessOf_12 : decode cL_excessOf 12 = .ok (.astore_n 3, 1) := by decide +kernel
theorem dL_excessOf_13 : decode cL_excessOf 13 = .ok (.iconst 1, 1) := by decide +kernel
theorem dL_excessOf_14 : decode cL_excessOf 14 = .ok (.ireturn, 1) := by decide +kernel
theorem dL_excessOf_15 : decode cL_excessOf 15 = .ok (.iconst 0, 1) := by decide +kernel
theorem dL_excessOf_16 : decode cL_excessOf 16 = .ok (.ireturn, 1) := by decide +kernel
set_option maxRecDepth 20000 in
theorem ggL_arrearsByAudit_X0_arrearsByAudit : GoodIn wsL_arrearsByAudit wsX0_arrearsByAudit := goodIn_ca (goodIn_r _ [6, 7, 8, 9, 5, 10, 11, 12, 13, 14, 15, 16, 17, 18, 19, 20, 21, 22, 23, 24, 25, 26, 27, 28, 29, 30, 31, 32, 33, 34] (by decide +kernel) (by decide +kernel)) (goodIn_sub (fun _ h => List.mem_cons_of_mem _ (List.mem_append_right _ h)) (by decide +kernel))
set_option maxRecDepth 20000 in
theorem gL_arrearsByAudit_X0_arrearsByAudit : GoodIn wsL_arrearsByAudit (wsV RL 62 RX0 yX0_arrearsByAudit wsX0_arrearsByAudit) := goodIn_app (goodIn_of _ (by decide +kernel)) ggL_arrearsByAudit_X0_arrearsByAudit
theorem dL_arrearsByAudit_0 : decode cL_arrearsByAudit 0 = .ok (.aload_n 2, 1) := by decide +kernel
theorem dL_arrearsByAudit_1 : decode cL_arrearsByAudit 1 = .ok (.iconst 0, 1) := by decide +kernel
theorem dL_arrearsByAudit_2 : decode cL_arrearsByAudit 2 = .ok (.aload_n 0, 1) := by decide +kernel
theorem dL_arrearsByAudit_3 : decode cL_arrearsByAudit 3 = .ok (.iload_n 1, 1) := by decide +kernel
theorem dL_arrearsByAudit_4 : decode cL_arrearsByAudit 4 = .ok (.invokevirtual 62, 3) := by decide +kernel
theorem dL_arrearsByAudit_7 : decode cL_arrearsByAudit 7 = .ok (.i2l, 1) := by decide +kernel
theorem dL_arrearsByAudit_8 : decode cL_arrearsByAudit 8 = .ok (.lastore, 1) := by decide +kernel
theorem dL_arrearsByAudit_9 : decode cL_arrearsByAudit 9 = .ok (.goto 6, 3) := by decide +kernel
theorem dL_arrearsByAudit_12 : decode cL_arrearsByAudit 12 = .ok (.astore_n 3, 1) := by decide +kernel
theorem dL_arrearsByAudit_13 : decode cL_arrearsByAudit 13 = .ok (.iconst 1, 1) := by decide +kernel
theorem dL_arrearsByAudit_14 : decode cL_arrearsByAudit 14 = .ok (.ireturn, 1) := by decide +kernel
theorem dL_arrearsByAudit_15 : decode cL_arrearsByAudit 15 = .ok (.iconst 0, 1) := by decide +kernel
theorem dL_arrearsByAudit_16 : decode cL_arrearsByAudit 16 = .ok (.ireturn, 1) := by decide +kernel
set_option maxRecDepth 20000 in
theorem ggL_luckIn_X0_luckIn : GoodIn wsL_luckIn wsX0_luckIn := goodIn_ca (goodIn_ca (goodIn_r _ [7, 8, 9, 10, 6, 11, 12, 13, 14, 15, 16, 17, 18, 19, 20, 21, 22, 23, 24, 25, 26, 27, 28, 29, 30, 31, 32, 33, 34, 35, 36, 37, 38, 39, 40, 41, 42, 43, 44, 45, 46, 47, 48, 49, 50, 51, 52, 53, 54, 55, 56, 57, 58, 59, 60, 61, 62, 63, 64, 65, 66, 67, 68, 69, 70, 71, 72, 73, 74, 75, 76, 77, 78, 79, 80, 81, 82, 83, 84] (by decide +kernel) (by decide +kernel)) (goodIn_sub (fun _ h => List.mem_cons_of_mem _ (List.mem_append_left _ (List.mem_append_right _ h))) (by decide +kernel))) (goodIn_sub (fun _ h => List.mem_cons_of_mem _ (List.mem_append_right _ h)) (by decide +kernel))
set_option maxRecDepth 20000 in
theorem gL_luckIn_X0_luckIn : GoodIn wsL_luckIn (wsV RL 65 RX0 yX0_luckIn wsX0_luckIn) := goodIn_app (goodIn_of _ (by decide +kernel)) ggL_luckIn_X0_luckIn
theorem dL_luckIn_0 : decode cL_luckIn 0 = .ok (.aload_n 3, 1) := by decide +kernel
theorem dL_luckIn_1 : decode cL_luckIn 1 = .ok (.iconst 0, 1) := by decide +kernel
theorem dL_luckIn_2 : decode cL_luckIn 2 = .ok (.aload_n 0, 1) := by decide +kernel
theorem dL_luckIn_3 : decode cL_luckIn 3 = .ok (.iload_n 1, 1) := by decide +kernel
theorem dL_luckIn_4 : decode cL_luckIn 4 = .ok (.iload_n 2, 1) := by decide +kernel
theorem dL_luckIn_5 : decode cL_luckIn 5 = .ok (.invokevirtual 65, 3) := by decide +kernel
theorem dL_luckIn_8 : decode cL_luckIn 8 = .ok (.i2l, 1) := by decide +kernel
theorem dL_luckIn_9 : decode cL_luckIn 9 = .ok (.lastore, 1) := by decide +kernel
theorem dL_luckIn_10 : decode cL_luckIn 10 = .ok (.goto 11, 3) := by decide +kernel
theorem dL_luckIn_13 : decode cL_luckIn 13 = .ok (.astore 4, 2) := by decide +kernel
theorem dL_luckIn_15 : decode cL_luckIn 15 = .ok (.iconst 1, 1) := by decide +kernel
theorem dL_luckIn_16 : decode cL_luckIn 16 = .ok (.ireturn, 1) := by decide +kernel
theorem dL_luckIn_17 : decode cL_luckIn 17 = .ok (.astore 4, 2) := by decide +kernel
theorem dL_luckIn_19 : decode cL_luckIn 19 = .ok (.iconst 2, 1) := by decide +kernel
theorem dL_luckIn_20 : decode cL_luckIn 20 = .ok (.ireturn, 1) := by decide +kernel
theorem dL_luckIn_21 : decode cL_luckIn 21 = .ok (.iconst 0, 1) := by decide +kernel
theorem dL_luckIn_22 : decode cL_luckIn 22 = .ok (.ireturn, 1) := by decide +kernel
set_option maxRecDepth 20000 in
theorem ggL_daysUntilClear_X0_daysUntilClear : GoodIn wsL_daysUntilClear wsX0_daysUntilClear := goodIn_ca (goodIn_r _ [6, 7, 8, 9, 10, 5, 11, 12, 13, 14, 15, 16, 17, 18, 19, 20, 21, 22, 23, 24, 25, 26, 27, 28, 29, 30, 31, 32, 33, 34, 35, 36, 37, 38, 39, 40, 41, 42, 43, 44, 45, 46, 47, 48, 49, 50, 51, 52, 53, 54, 55, 56, 57, 58, 59, 60, 61, 62, 63, 64, 65, 66, 67, 68, 69, 70, 71, 72, 73, 74] (by decide +kernel) (by decide +kernel)) (goodIn_sub (fun _ h => List.mem_cons_of_mem _ (List.mem_append_right _ h)) (by decide +kernel))
set_option maxRecDepth 20000 in
theorem gL_daysUntilClear_X0_daysUntilClear : GoodIn wsL_daysUntilClear (wsV RL 68 RX0 yX0_daysUntilClear wsX0_daysUntilClear) := goodIn_app (goodIn_of _ (by decide +kernel)) ggL_daysUntilClear_X0_daysUntilClear
theorem dL_daysUntilClear_0 : decode cL_daysUntilClear 0 = .ok (.aload_n 2, 1) := by decide +kernel
theorem dL_daysUntilClear_1 : decode cL_daysUntilClear 1 = .ok (.iconst 0, 1) := by decide +kernel
theorem dL_daysUntilClear_2 : decode cL_daysUntilClear 2 = .ok (.aload_n 0, 1) := by decide +kernel
theorem dL_daysUntilClear_3 : decode cL_daysUntilClear 3 = .ok (.iload_n 1, 1) := by decide +kernel
theorem dL_daysUntilClear_4 : decode cL_daysUntilClear 4 = .ok (.invokevirtual 68, 3) := by decide +kernel
theorem dL_daysUntilClear_7 : decode cL_daysUntilClear 7 = .ok (.i2l, 1) := by decide +kernel
theorem dL_daysUntilClear_8 : decode cL_daysUntilClear 8 = .ok (.lastore, 1) := by decide +kernel
theorem dL_daysUntilClear_9 : decode cL_daysUntilClear 9 = .ok (.goto 6, 3) := by decide +kernel
theorem dL_daysUntilClear_12 : decode cL_daysUntilClear 12 = .ok (.astore_n 3, 1) := by decide +kernel
theorem dL_daysUntilClear_13 : decode cL_daysUntilClear 13 = .ok (.iconst 1, 1) := by decide +kernel
theorem dL_daysUntilClear_14 : decode cL_daysUntilClear 14 = .ok (.ireturn, 1) := by decide +kernel
theorem dL_daysUntilClear_15 : decode cL_daysUntilClear 15 = .ok (.iconst 0, 1) := by decide +kernel
theorem dL_daysUntilClear_16 : decode cL_daysUntilClear 16 = .ok (.ireturn, 1) := by decide +kernel
set_option maxRecDepth 20000 in
theorem ggL_daysUntilUnlucky_X0_daysUntilUnlucky : GoodIn wsL_daysUntilUnlucky wsX0_daysUntilUnlucky := goodIn_ca (goodIn_r _ [6, 7, 8, 9, 10, 5, 11, 12, 13, 14, 15, 16, 17, 18, 19, 20, 21, 22, 23, 24, 25, 26, 27, 28, 29, 30, 31, 32, 33, 34, 35, 36, 37, 38, 39, 40, 41, 42, 43, 44, 45, 46, 47, 48, 49, 50, 51, 52, 53, 54, 55, 56, 57, 58, 59, 60, 61, 62, 63, 64, 65, 66, 67, 68, 69, 70, 71, 72, 73, 74] (by decide +kernel) (by decide +kernel)) (goodIn_sub (fun _ h => List.mem_cons_of_mem _ (List.mem_append_right _ h)) (by decide +kernel))
set_option maxRecDepth 20000 in
theorem gL_daysUntilUnlucky_X0_daysUntilUnlucky : GoodIn wsL_daysUntilUnlucky (wsV RL 71 RX0 yX0_daysUntilUnlucky wsX0_daysUntilUnlucky) := goodIn_app (goodIn_of _ (by decide +kernel)) ggL_daysUntilUnlucky_X0_daysUntilUnlucky
theorem dL_daysUntilUnlucky_0 : decode cL_daysUntilUnlucky 0 = .ok (.aload_n 2, 1) := by decide +kernel
theorem dL_daysUntilUnlucky_1 : decode cL_daysUntilUnlucky 1 = .ok (.iconst 0, 1) := by decide +kernel
theorem dL_daysUntilUnlucky_2 : decode cL_daysUntilUnlucky 2 = .ok (.aload_n 0, 1) := by decide +kernel
theorem dL_daysUntilUnlucky_3 : decode cL_daysUntilUnlucky 3 = .ok (.iload_n 1, 1) := by decide +kernel
theorem dL_daysUntilUnlucky_4 : decode cL_daysUntilUnlucky 4 = .ok (.invokevirtual 71, 3) := by decide +kernel
theorem dL_daysUntilUnlucky_7 : decode cL_daysUntilUnlucky 7 = .ok (.i2l, 1) := by decide +kernel
theorem dL_daysUntilUnlucky_8 : decode cL_daysUntilUnlucky 8 = .ok (.lastore, 1) := by decide +kernel
theorem dL_daysUntilUnlucky_9 : decode cL_daysUntilUnlucky 9 = .ok (.goto 6, 3) := by decide +kernel
theorem dL_daysUntilUnlucky_12 : decode cL_daysUntilUnlucky 12 = .ok (.astore_n 3, 1) := by decide +kernel
theorem dL_daysUntilUnlucky_13 : decode cL_daysUntilUnlucky 13 = .ok (.iconst 1, 1) := by decide +kernel
theorem dL_daysUntilUnlucky_14 : decode cL_daysUntilUnlucky 14 = .ok (.ireturn, 1) := by decide +kernel
theorem dL_daysUntilUnlucky_15 : decode cL_daysUntilUnlucky 15 = .ok (.iconst 0, 1) := by decide +kernel
theorem dL_daysUntilUnlucky_16 : decode cL_daysUntilUnlucky 16 = .ok (.ireturn, 1) := by decide +kernel
set_option maxRecDepth 20000 in
theorem ggL_bestPinch_X0_bestPinch : GoodIn wsL_bestPinch wsX0_bestPinch := goodIn_ca (goodIn_r _ [6, 7, 8, 9, 10, 11, 12, 13, 14, 15, 5, 16, 17, 18, 19, 20, 21, 22, 23, 24, 25, 26, 27, 28, 29, 30, 31, 32, 33, 34, 35, 36, 37, 38, 39, 40, 41, 42, 43, 44, 45, 46, 47, 48, 49, 50, 51, 52, 53, 54, 55, 56, 57, 58, 59, 60, 61, 62, 63, 64, 65, 66, 67, 68, 69, 70, 71, 72, 73, 74, 75, 76, 77, 78, 79, 80, 81, 82, 83, 84, 85, 86, 87] (by decide +kernel) (by decide +kernel)) (goodIn_sub (fun _ h => List.mem_cons_of_mem _ (List.mem_append_right _ h)) (by decide +kernel))
set_option maxRecDepth 20000 in
theorem gL_bestPinch_X0_bestPinch : GoodIn wsL_bestPinch (wsV RL 74 RX0 yX0_bestPinch wsX0_bestPinch) := goodIn_app (goodIn_of _ (by decide +kernel)) ggL_bestPinch_X0_bestPinch
theorem dL_bestPinch_0 : decode cL_bestPinch 0 = .ok (.aload_n 2, 1) := by decide +kernel
theorem dL_bestPinch_1 : decode cL_bestPinch 1 = .ok (.iconst 0, 1) := by decide +kernel
theorem dL_bestPinch_2 : decode cL_bestPinch 2 = .ok (.aload_n 0, 1) := by decide +kernel
theorem dL_bestPinch_3 : decode cL_bestPinch 3 = .ok (.iload_n 1, 1) := by decide +kernel
theorem dL_bestPinch_4 : decode cL_bestPinch 4 = .ok (.invokevirtual 74, 3) := by decide +kernel
theorem dL_bestPinch_7 : decode cL_bestPinch 7 = .ok (.i2l, 1) := by decide +kernel
theorem dL_bestPinch_8 : decode cL_bestPinch 8 = .ok (.lastore, 1) := by decide +kernel
theorem dL_bestPinch_9 : decode cL_bestPinch 9 = .ok (.goto 6, 3) := by decide +kernel
theorem dL_bestPinch_12 : decode cL_bestPinch 12 = .ok (.astore_n 3, 1) := by decide +kernel
theorem dL_bestPinch_13 : decode cL_bestPinch 13 = .ok (.iconst 1, 1) := by decide +kernel
theorem dL_bestPinch_14 : decode cL_bestPinch 14 = .ok (.ireturn, 1) := by decide +kernel
theorem dL_bestPinch_15 : decode cL_bestPinch 15 = .ok (.iconst 0, 1) := by decide +kernel
theorem dL_bestPinch_16 : decode cL_bestPinch 16 = .ok (.ireturn, 1) := by decide +kernel
set_option maxRecDepth 20000 in
theorem ggL_bestPenance_X0_bestPenance : GoodIn wsL_bestPenance wsX0_bestPenance := goodIn_ca (goodIn_r _ [6, 7, 8, 9, 5, 10, 11, 12, 13, 14, 15, 16, 17, 18, 19, 20, 21, 22, 23, 24, 25, 26, 27, 28, 29, 30, 31, 32, 33, 34, 35, 36, 37, 38, 39, 40, 41, 42, 43, 44, 45, 46, 47, 48, 49, 50, 51, 52, 53, 54, 55, 56, 57, 58, 59, 60, 61, 62, 63, 64, 65, 66, 67, 68, 69, 70, 71, 72, 73, 74, 75, 76, 77, 78, 79, 80, 81, 82, 83, 84, 85, 86] (by decide +kernel) (by decide +kernel)) (goodIn_sub (fun _ h => List.mem_cons_of_mem _ (List.mem_append_right _ h)) (by decide +kernel))
set_option maxRecDepth 20000 in
theorem gL_bestPenance_X0_bestPenance : GoodIn wsL_bestPenance (wsV RL 77 RX0 yX0_bestPenance wsX0_bestPenance) := goodIn_app (goodIn_of _ (by decide +kernel)) ggL_bestPenance_X0_bestPenance
theorem dL_bestPenance_0 : decode cL_bestPenance 0 = .ok (.aload_n 2, 1) := by decide +kernel
theorem dL_bestPenance_1 : decode cL_bestPenance 1 = .ok (.iconst 0, 1) := by decide +kernel
theorem dL_bestPenance_2 : decode cL_bestPenance 2 = .ok (.aload_n 0, 1) := by decide +kernel
theorem dL_bestPenance_3 : decode cL_bestPenance 3 = .ok (.iload_n 1, 1) := by decide +kernel
theorem dL_bestPenance_4 : decode cL_bestPenance 4 = .ok (.invokevirtual 77, 3) := by decide +kernel
theorem dL_bestPenance_7 : decode cL_bestPenance 7 = .ok (.i2l, 1) := by decide +kernel
theorem dL_bestPenance_8 : decode cL_bestPenance 8 = .ok (.lastore, 1) := by decide +kernel
theorem dL_bestPenance_9 : decode cL_bestPenance 9 = .ok (.goto 6, 3) := by decide +kernel
theorem dL_bestPenance_12 : decode cL_bestPenance 12 = .ok (.astore_n 3, 1) := by decide +kernel
theorem dL_bestPenance_13 : decode cL_bestPenance 13 = .ok (.iconst 1, 1) := by decide +kernel
theorem dL_bestPenance_14 : decode cL_bestPenance 14 = .ok (.ireturn, 1) := by decide +kernel
theorem dL_bestPenance_15 : decode cL_bestPenance 15 = .ok (.iconst 0, 1) := by decide +kernel
theorem dL_bestPenance_16 : decode cL_bestPenance 16 = .ok (.ireturn, 1) := by decide +kernel
set_option maxRecDepth 20000 in
theorem ggL_law_X0_init : GoodIn wsL_law wsX0_init := goodIn_r _ [9, 10, 11, 12, 13, 14, 15, 16, 17, 18, 19, 20, 21, 22, 23, 24, 25, 26, 603, 604, 605, 606, 607, 608, 609, 610, 611, 612, 613, 614, 615, 616] (by decide +kernel) (by decide +kernel)
set_option maxRecDepth 20000 in
theorem gL_law_X0_init : GoodIn wsL_law (wsX0_init) := ggL_law_X0_init
set_option maxRecDepth 20000 in
theorem ggL_law_X1_init : GoodIn wsL_law wsX1_init := goodIn_r _ [29, 30, 11, 12, 13, 31, 32, 617, 618, 619, 620] (by decide +kernel) (by decide +kernel)
set_option maxRecDepth 20000 in
theorem gL_law_X1_init : GoodIn wsL_law (wsX1_init) := ggL_law_X1_init
set_option maxRecDepth 20000 in
theorem ggL_law_L_join : GoodIn wsL_law wsL_join := goodIn_ca (goodIn_r _ [36, 37, 38, 39, 40, 2, 41, 42, 43, 22, 14, 15, 16, 603, 604, 605, 606, 607, 608, 609, 610, 611, 612, 613, 614, 615, 616] (by decide +kernel) (by decide +kernel)) (goodIn_sub (fun _ h => List.mem_append_left _ (List.mem_append_left _ (List.mem_append_right _ h))) (by decide +kernel))
set_option maxRecDepth 20000 in
theorem gL_law_L_join : GoodIn wsL_law (va_wsS RL 84 yL_join wsL_join) := goodIn_app (goodIn_of _ (by decide +kernel)) ggL_law_L_join
set_option maxRecDepth 20000 in
theorem ggL_law_X1_join : GoodIn wsL_law wsX1_join := goodIn_r _ [47, 48, 49, 50, 51, 52, 5, 53, 54, 55, 56, 57, 31, 617, 618, 619, 620] (by decide +kernel) (by decide +kernel)
set_option maxRecDepth 20000 in
theorem gL_law_X1_join : GoodIn wsL_law (wsV RL 89 RX1 yX1_join wsX1_join) := goodIn_app (goodIn_of _ (by decide +kernel)) ggL_law_X1_join
set_option maxRecDepth 20000 in
theorem ggL_law_X1_thrown : GoodIn wsL_law wsX1_thrown := goodIn_r _ [61, 48, 617, 618, 619, 620] (by decide +kernel) (by decide +kernel)
set_option maxRecDepth 20000 in
theorem gL_law_X1_thrown : GoodIn wsL_law (wsV RL 90 RX1 yX1_thrown wsX1_thrown) := goodIn_app (goodIn_of _ (by decide +kernel)) ggL_law_X1_thrown
set_option maxRecDepth 20000 in
theorem ggL_law_L_spill : GoodIn wsL_law wsL_spill := goodIn_ca (goodIn_ca (goodIn_ca (goodIn_r _ [64, 65, 66, 37, 67, 68, 69, 2, 70, 24, 15, 71, 72, 73, 74, 75, 76, 22, 77, 78, 79, 80, 81, 82, 83, 84, 85, 42, 43, 86, 87, 88, 89, 90, 91, 92, 93, 603, 604, 605, 606, 607, 608, 609, 610, 611, 612, 613, 614, 615, 616] (by decide +kernel) (by decide +kernel)) (goodIn_sub (fun _ h => List.mem_append_left _ (List.mem_append_right _ h)) (by decide +kernel))) (goodIn_sub (fun _ h => List.mem_append_right _ h) (by decide +kernel))) (goodIn_sub (fun _ h => List.mem_append_left _ (List.mem_append_left _ (List.mem_append_right _ h))) (by decide +kernel))
set_option maxRecDepth 20000 in
theorem gL_law_L_spill : GoodIn wsL_law (va_wsS RL 93 yL_spill wsL_spill) := goodIn_app (goodIn_of _ (by decide +kernel)) ggL_law_L_spill
set_option maxRecDepth 20000 in
theorem ggL_law_X1_spill : GoodIn wsL_law wsX1_spill := goodIn_r _ [97, 48, 31, 98, 91, 92, 93, 99, 100, 101, 5, 102, 49, 103, 104, 105, 50, 51, 52, 53, 106, 107, 108, 109, 54, 55, 56, 57, 617, 618, 619, 620] (by decide +kernel) (by decide +kernel)
set_option maxRecDepth 20000 in
theorem gL_law_X1_spill : GoodIn wsL_law (wsV RL 96 RX1 yX1_spill wsX1_spill) := goodIn_app (goodIn_of _ (by decide +kernel)) ggL_law_X1_spill
set_option maxRecDepth 20000 in
theorem ggL_law_L_throwSalt : GoodIn wsL_law wsL_throwSalt := goodIn_ca (goodIn_ca (goodIn_ca (goodIn_r _ [112, 65, 66, 37, 113, 114, 115, 2, 116, 24, 71, 72, 73, 74, 75, 76, 22, 117, 118, 119, 77, 78, 79, 80, 81, 82, 83, 84, 85, 42, 43, 120, 121, 122, 123, 23, 124, 125, 126, 127, 15, 128, 129, 92, 130, 131, 132, 133, 134, 135, 136, 137, 138, 17, 19, 20, 21, 603, 604, 605, 606, 607, 608, 609, 610, 611, 612, 613, 614, 615, 616] (by decide +kernel) (by decide +kernel)) (goodIn_sub (fun _ h => List.mem_append_left _ (List.mem_append_right _ h)) (by decide +kernel))) (goodIn_sub (fun _ h => List.mem_append_right _ h) (by decide +kernel))) (goodIn_sub (fun _ h => List.mem_append_left _ (List.mem_append_left _ (List.mem_append_right _ h))) (by decide +kernel))
set_option maxRecDepth 20000 in
theorem gL_law_L_throwSalt : GoodIn wsL_law (va_wsS RL 97 yL_throwSalt wsL_throwSalt) := goodIn_app (goodIn_of _ (by decide +kernel)) ggL_law_L_throwSalt
set_option maxRecDepth 20000 in
theorem ggL_law_X1_throwSalt : GoodIn wsL_law wsX1_throwSalt := goodIn_r _ [142, 48, 31, 99, 100, 101, 5, 102, 49, 103, 104, 105, 50, 51, 52, 53, 143, 144, 145, 146, 147, 129, 92, 130, 106, 107, 108, 109, 54, 55, 56, 57, 148, 149, 150, 151, 617, 618, 619, 620] (by decide +kernel) (by decide +kernel)
set_option maxRecDepth 20000 in
theorem gL_law_X1_throwSalt : GoodIn wsL_law (wsV RL 100 RX1 yX1_throwSalt wsX1_throwSalt) := goodIn_app (goodIn_of _ (by decide +kernel)) ggL_law_X1_throwSalt
set_option maxRecDepth 20000 in
theorem ggL_law_L_doPenance : GoodIn wsL_law wsL_doPenance := goodIn_ca (goodIn_ca (goodIn_r _ [154, 65, 66, 155, 156, 157, 2, 158, 16, 71, 72, 73, 74, 75, 76, 22, 77, 78, 79, 80, 81, 159, 160, 161, 162, 90, 91, 92, 93, 603, 604, 605, 606, 607, 608, 609, 610, 611, 612, 613, 614, 615, 616] (by decide +kernel) (by decide +kernel)) (goodIn_sub (fun _ h => List.mem_append_left _ (List.mem_append_right _ h)) (by decide +kernel))) (goodIn_sub (fun _ h => List.mem_append_right _ h) (by decide +kernel))
set_option maxRecDepth 20000 in
theorem gL_law_L_doPenance : GoodIn wsL_law (va_wsS RL 101 yL_doPenance wsL_doPenance) := goodIn_app (goodIn_of _ (by decide +kernel)) ggL_law_L_doPenance
set_option maxRecDepth 20000 in
theorem ggL_law_X1_doPenance : GoodIn wsL_law wsX1_doPenance := goodIn_r _ [166, 48, 98, 91, 92, 93, 99, 100, 101, 5, 102, 49, 103, 104, 105, 50, 51, 52, 53, 106, 107, 108, 109, 31, 54, 55, 56, 57, 617, 618, 619, 620] (by decide +kernel) (by decide +kernel)
set_option maxRecDepth 20000 in
theorem gL_law_X1_doPenance : GoodIn wsL_law (wsV RL 103 RX1 yX1_doPenance wsX1_doPenance) := goodIn_app (goodIn_of _ (by decide +kernel)) ggL_law_X1_doPenance
set_option maxRecDepth 20000 in
theorem ggL_law_L_bringSalt : GoodIn wsL_law wsL_bringSalt := goodIn_ca (goodIn_r _ [169, 66, 170, 171, 172, 2, 173, 24, 90, 91, 92, 93, 77, 78, 79, 80, 81, 603, 604, 605, 606, 607, 608, 609, 610, 611, 612, 613, 614, 615, 616] (by decide +kernel) (by decide +kernel)) (goodIn_sub (fun _ h => List.mem_append_right _ h) (by decide +kernel))
set_option maxRecDepth 20000 in
theorem gL_law_L_bringSalt : GoodIn wsL_law (va_wsS RL 104 yL_bringSalt wsL_bringSalt) := goodIn_app (goodIn_of _ (by decide +kernel)) ggL_law_L_bringSalt
set_option maxRecDepth 20000 in
theorem ggL_law_X1_bringSalt : GoodIn wsL_law wsX1_bringSalt := goodIn_r _ [177, 48, 31, 98, 91, 92, 93, 103, 104, 5, 105, 50, 51, 52, 53, 617, 618, 619, 620] (by decide +kernel) (by decide +kernel)
set_option maxRecDepth 20000 in
theorem gL_law_X1_bringSalt : GoodIn wsL_law (wsV RL 107 RX1 yX1_bringSalt wsX1_bringSalt) := goodIn_app (goodIn_of _ (by decide +kernel)) ggL_law_X1_bringSalt
set_option maxRecDepth 20000 in
theorem ggL_law_X0_audit : GoodIn wsL_law wsX0_audit := goodIn_r _ [181, 22, 23, 26, 182, 183, 184, 2, 185, 21, 186, 187, 188, 189, 17, 86, 87, 88, 89, 15, 90, 91, 92, 93, 603, 604, 605, 606, 607, 608, 609, 610, 611, 612, 613, 614, 615, 616] (by decide +kernel) (by decide +kernel)
set_option maxRecDepth 20000 in
theorem gL_law_X0_audit : GoodIn wsL_law (wsV RL 108 RX0 yX0_audit wsX0_audit) := goodIn_app (goodIn_of _ (by decide +kernel)) ggL_law_X0_audit
set_option maxRecDepth 20000 in
theorem ggL_law_X1_audit : GoodIn wsL_law wsX1_audit := goodIn_r _ [193, 194, 195, 196, 5, 197, 31, 98, 91, 92, 93, 198, 199, 200, 201, 202, 203, 204, 205, 106, 107, 108, 109, 54, 55, 56, 57, 206, 207, 208, 209, 48, 617, 618, 619, 620] (by decide +kernel) (by decide +kernel)
set_option maxRecDepth 20000 in
theorem gL_law_X1_audit : GoodIn wsL_law (wsV RL 111 RX1 yX1_audit wsX1_audit) := goodIn_app (goodIn_of _ (by decide +kernel)) ggL_law_X1_audit
set_option maxRecDepth 20000 in
theorem ggL_law_L_pass : GoodIn wsL_law wsL_pass := goodIn_ca (goodIn_r _ [212, 66, 213, 214, 215, 2, 216, 77, 78, 79, 80, 81, 217, 218, 219, 220, 25, 22, 221, 222, 223, 224, 179, 180, 181, 23, 26, 182, 183, 184, 185, 21, 186, 187, 188, 189, 17, 86, 87, 88, 89, 15, 90, 91, 92, 93, 225, 226, 227, 228, 16, 14, 128, 129, 130, 131, 132, 133, 134, 229, 230, 231, 232, 603, 604, 605, 606, 607, 608, 609, 610, 611, 612, 613, 614, 615, 616] (by decide +kernel) (by decide +kernel)) (goodIn_sub (fun _ h => List.mem_append_right _ h) (by decide +kernel))
set_option maxRecDepth 20000 in
theorem gL_law_L_pass : GoodIn wsL_law (va_wsS RL 112 yL_pass wsL_pass) := goodIn_app (goodIn_of _ (by decide +kernel)) ggL_law_L_pass
set_option maxRecDepth 20000 in
theorem ggL_law_X1_pass : GoodIn wsL_law wsX1_pass := goodIn_r _ [236, 48, 103, 104, 5, 105, 237, 238, 239, 240, 241, 242, 243, 244, 31, 49, 147, 129, 92, 130, 98, 91, 93, 194, 195, 196, 197, 198, 199, 200, 201, 202, 203, 204, 205, 106, 107, 108, 109, 54, 55, 56, 57, 245, 246, 247, 248, 50, 51, 52, 53, 617, 618, 619, 620] (by decide +kernel) (by decide +kernel)
set_option maxRecDepth 20000 in
theorem gL_law_X1_pass : GoodIn wsL_law (wsV RL 114 RX1 yX1_pass wsX1_pass) := goodIn_app (goodIn_of _ (by decide +kernel)) ggL_law_X1_pass
set_option maxRecDepth 20000 in
theorem ggL_law_X0_day : GoodIn wsL_law wsX0_day := goodIn_r _ [252, 25, 603, 604, 605, 606, 607, 608, 609, 610, 611, 612, 613, 614, 615, 616] (by decide +kernel) (by decide +kernel)
set_option maxRecDepth 20000 in
theorem gL_law_X0_day : GoodIn wsL_law (wsV RL 115 RX0 yX0_day wsX0_day) := goodIn_app (goodIn_of _ (by decide +kernel)) ggL_law_X0_day
set_option maxRecDepth 20000 in
theorem ggL_law_X1_day : GoodIn wsL_law wsX1_day := goodIn_r _ [256, 31, 206, 207, 208, 5, 209, 48, 617, 618, 619, 620] (by decide +kernel) (by decide +kernel)
set_option maxRecDepth 20000 in
theorem gL_law_X1_day : GoodIn wsL_law (wsV RL 118 RX1 yX1_day wsX1_day) := goodIn_app (goodIn_of _ (by decide +kernel)) ggL_law_X1_day
set_option maxRecDepth 20000 in
theorem ggL_law_X0_members : GoodIn wsL_law wsX0_members := goodIn_r _ [260, 22, 603, 604, 605, 606, 607, 608, 609, 610, 611, 612, 613, 614, 615, 616] (by decide +kernel) (by decide +kernel)
set_option maxRecDepth 20000 in
theorem gL_law_X0_members : GoodIn wsL_law (wsV RL 119 RX0 yX0_members wsX0_members) := goodIn_app (goodIn_of _ (by decide +kernel)) ggL_law_X0_members
set_option maxRecDepth 20000 in
theorem ggL_law_X1_members : GoodIn wsL_law wsX1_members := goodIn_r _ [264, 49, 206, 207, 208, 5, 209, 48, 617, 618, 619, 620] (by decide +kernel) (by decide +kernel)
set_option maxRecDepth 20000 in
theorem gL_law_X1_members : GoodIn wsL_law (wsV RL 122 RX1 yX1_members wsX1_members) := goodIn_app (goodIn_of _ (by decide +kernel)) ggL_law_X1_members
set_option maxRecDepth 20000 in
theorem ggL_law_L_luckOf : GoodIn wsL_law wsL_luckOf := goodIn_ca (goodIn_r _ [267, 65, 268, 269, 270, 2, 271, 14, 71, 72, 73, 74, 75, 76, 22, 603, 604, 605, 606, 607, 608, 609, 610, 611, 612, 613, 614, 615, 616] (by decide +kernel) (by decide +kernel)) (goodIn_sub (fun _ h => List.mem_append_left _ (List.mem_append_right _ h)) (by decide +kernel))
set_option maxRecDepth 20000 in
theorem gL_law_L_luckOf : GoodIn wsL_law (va_wsS RL 123 yL_luckOf wsL_luckOf) := goodIn_app (goodIn_of _ (by decide +kernel)) ggL_law_L_luckOf
set_option maxRecDepth 20000 in
theorem ggL_law_X1_luckOf : GoodIn wsL_law wsX1_luckOf := goodIn_r _ [275, 276, 277, 278, 5, 279, 48, 99, 100, 101, 102, 49, 103, 104, 105, 106, 107, 108, 109, 31, 50, 51, 52, 53, 617, 618, 619, 620] (by decide +kernel) (by decide +kernel)
set_option maxRecDepth 20000 in
theorem gL_law_X1_luckOf : GoodIn wsL_law (wsV RL 125 RX1 yX1_luckOf wsX1_luckOf) := goodIn_app (goodIn_of _ (by decide +kernel)) ggL_law_X1_luckOf
set_option maxRecDepth 20000 in
theorem ggL_law_L_arrearsOf : GoodIn wsL_law wsL_arrearsOf := goodIn_ca (goodIn_r _ [282, 65, 283, 284, 285, 2, 286, 15, 71, 72, 73, 74, 75, 76, 22, 603, 604, 605, 606, 607, 608, 609, 610, 611, 612, 613, 614, 615, 616] (by decide +kernel) (by decide +kernel)) (goodIn_sub (fun _ h => List.mem_append_left _ (List.mem_append_right _ h)) (by decide +kernel))
set_option maxRecDepth 20000 in
theorem gL_law_L_arrearsOf : GoodIn wsL_law (va_wsS RL 126 yL_arrearsOf wsL_arrearsOf) := goodIn_app (goodIn_of _ (by decide +kernel)) ggL_law_L_arrearsOf
set_option maxRecDepth 20000 in
theorem ggL_law_X1_arrearsOf : GoodIn wsL_law wsX1_arrearsOf := goodIn_r _ [290, 276, 277, 278, 5, 279, 48, 99, 100, 101, 102, 49, 103, 104, 105, 106, 107, 108, 109, 31, 50, 51, 52, 53, 617, 618, 619, 620] (by decide +kernel) (by decide +kernel)
set_option maxRecDepth 20000 in
theorem gL_law_X1_arrearsOf : GoodIn wsL_law (wsV RL 128 RX1 yX1_arrearsOf wsX1_arrearsOf) := goodIn_app (goodIn_of _ (by decide +kernel)) ggL_law_X1_arrearsOf
set_option maxRecDepth 20000 in
theorem ggL_law_L_lumpsOf : GoodIn wsL_law wsL_lumpsOf := goodIn_ca (goodIn_r _ [293, 65, 294, 295, 296, 2, 297, 16, 71, 72, 73, 74, 75, 76, 22, 603, 604, 605, 606, 607, 608, 609, 610, 611, 612, 613, 614, 615, 616] (by decide +kernel) (by decide +kernel)) (goodIn_sub (fun _ h => List.mem_append_left _ (List.mem_append_right _ h)) (by decide +kernel))
set_option maxRecDepth 20000 in
theorem gL_law_L_lumpsOf : GoodIn wsL_law (va_wsS RL 129 yL_lumpsOf wsL_lumpsOf) := goodIn_app (goodIn_of _ (by decide +kernel)) ggL_law_L_lumpsOf
set_option maxRecDepth 20000 in
theorem ggL_law_X1_lumpsOf : GoodIn wsL_law wsX1_lumpsOf := goodIn_r _ [301, 276, 277, 278, 5, 279, 48, 99, 100, 101, 102, 49, 103, 104, 105, 106, 107, 108, 109, 31, 50, 51, 52, 53, 617, 618, 619, 620] (by decide +kernel) (by decide +kernel)
set_option maxRecDepth 20000 in
theorem gL_law_X1_lumpsOf : GoodIn wsL_law (wsV RL 131 RX1 yX1_lumpsOf wsX1_lumpsOf) := goodIn_app (goodIn_of _ (by decide +kernel)) ggL_law_X1_lumpsOf
set_option maxRecDepth 20000 in
theorem ggL_law_L_dailyLoss : GoodIn wsL_law wsL_dailyLoss := goodIn_ca (goodIn_r _ [304, 65, 305, 306, 307, 2, 308, 71, 72, 73, 74, 75, 76, 22, 229, 230, 231, 232, 16, 15, 603, 604, 605, 606, 607, 608, 609, 610, 611, 612, 613, 614, 615, 616] (by decide +kernel) (by decide +kernel)) (goodIn_sub (fun _ h => List.mem_append_left _ (List.mem_append_right _ h)) (by decide +kernel))
set_option maxRecDepth 20000 in
theorem gL_law_L_dailyLoss : GoodIn wsL_law (va_wsS RL 132 yL_dailyLoss wsL_dailyLoss) := goodIn_app (goodIn_of _ (by decide +kernel)) ggL_law_L_dailyLoss
set_option maxRecDepth 20000 in
theorem ggL_law_X1_dailyLoss : GoodIn wsL_law wsX1_dailyLoss := goodIn_r _ [312, 48, 99, 100, 101, 5, 102, 49, 103, 104, 105, 245, 246, 247, 248, 106, 107, 108, 109, 31, 50, 51, 52, 53, 617, 618, 619, 620] (by decide +kernel) (by decide +kernel)
set_option maxRecDepth 20000 in
theorem gL_law_X1_dailyLoss : GoodIn wsL_law (wsV RL 134 RX1 yX1_dailyLoss wsX1_dailyLoss) := goodIn_app (goodIn_of _ (by decide +kernel)) ggL_law_X1_dailyLoss
set_option maxRecDepth 20000 in
theorem ggL_law_X0_luckiest : GoodIn wsL_law wsX0_luckiest := goodIn_r _ [316, 22, 14, 603, 604, 605, 606, 607, 608, 609, 610, 611, 612, 613, 614, 615, 616] (by decide +kernel) (by decide +kernel)
set_option maxRecDepth 20000 in
theorem gL_law_X0_luckiest : GoodIn wsL_law (wsV RL 135 RX0 yX0_luckiest wsX0_luckiest) := goodIn_app (goodIn_of _ (by decide +kernel)) ggL_law_X0_luckiest
set_option maxRecDepth 20000 in
theorem ggL_law_X1_luckiest : GoodIn wsL_law wsX1_luckiest := goodIn_r _ [320, 321, 322, 323, 5, 324, 49, 106, 107, 108, 109, 31, 206, 207, 208, 209, 48, 617, 618, 619, 620] (by decide +kernel) (by decide +kernel)
set_option maxRecDepth 20000 in
theorem gL_law_X1_luckiest : GoodIn wsL_law (wsV RL 138 RX1 yX1_luckiest wsX1_luckiest) := goodIn_app (goodIn_of _ (by decide +kernel)) ggL_law_X1_luckiest
set_option maxRecDepth 20000 in
theorem ggL_law_X0_allArrears : GoodIn wsL_law wsX0_allArrears := goodIn_r _ [328, 22, 15, 603, 604, 605, 606, 607, 608, 609, 610, 611, 612, 613, 614, 615, 616] (by decide +kernel) (by decide +kernel)
set_option maxRecDepth 20000 in
theorem gL_law_X0_allArrears : GoodIn wsL_law (wsV RL 139 RX0 yX0_allArrears wsX0_allArrears) := goodIn_app (goodIn_of _ (by decide +kernel)) ggL_law_X0_allArrears
set_option maxRecDepth 20000 in
theorem ggL_law_X1_allArrears : GoodIn wsL_law wsX1_allArrears := goodIn_r _ [332, 333, 334, 335, 5, 336, 49, 106, 107, 108, 109, 31, 206, 207, 208, 209, 48, 617, 618, 619, 620] (by decide +kernel) (by decide +kernel)
set_option maxRecDepth 20000 in
theorem gL_law_X1_allArrears : GoodIn wsL_law (wsV RL 142 RX1 yX1_allArrears wsX1_allArrears) := goodIn_app (goodIn_of _ (by decide +kernel)) ggL_law_X1_allArrears
set_option maxRecDepth 20000 in
theorem ggL_law_X0_clearMembers : GoodIn wsL_law wsX0_clearMembers := goodIn_r _ [340, 22, 15, 603, 604, 605, 606, 607, 608, 609, 610, 611, 612, 613, 614, 615, 616] (by decide +kernel) (by decide +kernel)
set_option maxRecDepth 20000 in
theorem gL_law_X0_clearMembers : GoodIn wsL_law (wsV RL 143 RX0 yX0_clearMembers wsX0_clearMembers) := goodIn_app (goodIn_of _ (by decide +kernel)) ggL_law_X0_clearMembers
set_option maxRecDepth 20000 in
theorem ggL_law_X1_clearMembers : GoodIn wsL_law wsX1_clearMembers := goodIn_r _ [344, 48, 49, 106, 107, 108, 5, 109, 31, 617, 618, 619, 620] (by decide +kernel) (by decide +kernel)
set_option maxRecDepth 20000 in
theorem gL_law_X1_clearMembers : GoodIn wsL_law (wsV RL 146 RX1 yX1_clearMembers wsX1_clearMembers) := goodIn_app (goodIn_of _ (by decide +kernel)) ggL_law_X1_clearMembers
set_option maxRecDepth 20000 in
theorem ggL_law_X0_salt : GoodIn wsL_law wsX0_salt := goodIn_r _ [348, 24, 603, 604, 605, 606, 607, 608, 609, 610, 611, 612, 613, 614, 615, 616] (by decide +kernel) (by decide +kernel)
set_option maxRecDepth 20000 in
theorem gL_law_X0_salt : GoodIn wsL_law (wsV RL 147 RX0 yX0_salt wsX0_salt) := goodIn_app (goodIn_of _ (by decide +kernel)) ggL_law_X0_salt
set_option maxRecDepth 20000 in
theorem ggL_law_X1_salt : GoodIn wsL_law wsX1_salt := goodIn_r _ [352, 31, 206, 207, 208, 5, 209, 48, 617, 618, 619, 620] (by decide +kernel) (by decide +kernel)
set_option maxRecDepth 20000 in
theorem gL_law_X1_salt : GoodIn wsL_law (wsV RL 150 RX1 yX1_salt wsX1_salt) := goodIn_app (goodIn_of _ (by decide +kernel)) ggL_law_X1_salt
set_option maxRecDepth 20000 in
theorem ggL_law_X0_ledger : GoodIn wsL_law wsX0_ledger := goodIn_r _ [356, 23, 603, 604, 605, 606, 607, 608, 609, 610, 611, 612, 613, 614, 615, 616] (by decide +kernel) (by decide +kernel)
set_option maxRecDepth 20000 in
theorem gL_law_X0_ledger : GoodIn wsL_law (wsV RL 151 RX0 yX0_ledger wsX0_ledger) := goodIn_app (goodIn_of _ (by decide +kernel)) ggL_law_X0_ledger
set_option maxRecDepth 20000 in
theorem ggL_law_X1_ledger : GoodIn wsL_law wsX1_ledger := goodIn_r _ [360, 31, 206, 207, 208, 5, 209, 48, 617, 618, 619, 620] (by decide +kernel) (by decide +kernel)
set_option maxRecDepth 20000 in
theorem gL_law_X1_ledger : GoodIn wsL_law (wsV RL 154 RX1 yX1_ledger wsX1_ledger) := goodIn_app (goodIn_of _ (by decide +kernel)) ggL_law_X1_ledger
set_option maxRecDepth 20000 in
theorem ggL_law_L_memberOf : GoodIn wsL_law wsL_memberOf := goodIn_ca (goodIn_r _ [363, 65, 364, 365, 366, 2, 367, 17, 368, 369, 370, 371, 75, 76, 23, 603, 604, 605, 606, 607, 608, 609, 610, 611, 612, 613, 614, 615, 616] (by decide +kernel) (by decide +kernel)) (goodIn_sub (fun _ h => List.mem_append_left _ (List.mem_append_right _ h)) (by decide +kernel))
set_option maxRecDepth 20000 in
theorem gL_law_L_memberOf : GoodIn wsL_law (va_wsS RL 155 yL_memberOf wsL_memberOf) := goodIn_app (goodIn_of _ (by decide +kernel)) ggL_law_L_memberOf
set_option maxRecDepth 20000 in
theorem ggL_law_X1_memberOf : GoodIn wsL_law wsX1_memberOf := goodIn_r _ [375, 376, 377, 378, 5, 379, 48, 380, 381, 382, 383, 31, 103, 104, 105, 202, 203, 204, 205, 50, 51, 52, 53, 617, 618, 619, 620] (by decide +kernel) (by decide +kernel)
set_option maxRecDepth 20000 in
theorem gL_law_X1_memberOf : GoodIn wsL_law (wsV RL 157 RX1 yX1_memberOf wsX1_memberOf) := goodIn_app (goodIn_of _ (by decide +kernel)) ggL_law_X1_memberOf
set_option maxRecDepth 20000 in
theorem ggL_law_L_isLeft : GoodIn wsL_law wsL_isLeft := goodIn_ca (goodIn_r _ [386, 65, 387, 388, 389, 2, 390, 19, 368, 369, 370, 371, 75, 76, 23, 603, 604, 605, 606, 607, 608, 609, 610, 611, 612, 613, 614, 615, 616] (by decide +kernel) (by decide +kernel)) (goodIn_sub (fun _ h => List.mem_append_left _ (List.mem_append_right _ h)) (by decide +kernel))
set_option maxRecDepth 20000 in
theorem gL_law_L_isLeft : GoodIn wsL_law (va_wsS RL 158 yL_isLeft wsL_isLeft) := goodIn_app (goodIn_of _ (by decide +kernel)) ggL_law_L_isLeft
set_option maxRecDepth 20000 in
theorem ggL_law_X1_isLeft : GoodIn wsL_law wsX1_isLeft := goodIn_r _ [394, 376, 377, 378, 5, 379, 48, 380, 381, 382, 383, 31, 103, 104, 105, 202, 203, 204, 205, 50, 51, 52, 53, 617, 618, 619, 620] (by decide +kernel) (by decide +kernel)
set_option maxRecDepth 20000 in
theorem gL_law_X1_isLeft : GoodIn wsL_law (wsV RL 160 RX1 yX1_isLeft wsX1_isLeft) := goodIn_app (goodIn_of _ (by decide +kernel)) ggL_law_X1_isLeft
set_option maxRecDepth 20000 in
theorem ggL_law_L_grainsOf : GoodIn wsL_law wsL_grainsOf := goodIn_ca (goodIn_r _ [397, 65, 398, 399, 400, 2, 401, 20, 368, 369, 370, 371, 75, 76, 23, 603, 604, 605, 606, 607, 608, 609, 610, 611, 612, 613, 614, 615, 616] (by decide +kernel) (by decide +kernel)) (goodIn_sub (fun _ h => List.mem_append_left _ (List.mem_append_right _ h)) (by decide +kernel))
set_option maxRecDepth 20000 in
theorem gL_law_L_grainsOf : GoodIn wsL_law (va_wsS RL 161 yL_grainsOf wsL_grainsOf) := goodIn_app (goodIn_of _ (by decide +kernel)) ggL_law_L_grainsOf
set_option maxRecDepth 20000 in
theorem ggL_law_X1_grainsOf : GoodIn wsL_law wsX1_grainsOf := goodIn_r _ [405, 376, 377, 378, 5, 379, 48, 380, 381, 382, 383, 31, 103, 104, 105, 202, 203, 204, 205, 50, 51, 52, 53, 617, 618, 619, 620] (by decide +kernel) (by decide +kernel)
set_option maxRecDepth 20000 in
theorem gL_law_X1_grainsOf : GoodIn wsL_law (wsV RL 163 RX1 yX1_grainsOf wsX1_grainsOf) := goodIn_app (goodIn_of _ (by decide +kernel)) ggL_law_X1_grainsOf
set_option maxRecDepth 20000 in
theorem ggL_law_L_excessOf : GoodIn wsL_law wsL_excessOf := goodIn_ca (goodIn_r _ [408, 65, 409, 410, 411, 2, 412, 21, 368, 369, 370, 371, 75, 76, 23, 603, 604, 605, 606, 607, 608, 609, 610, 611, 612, 613, 614, 615, 616] (by decide +kernel) (by decide +kernel)) (goodIn_sub (fun _ h => List.mem_append_left _ (List.mem_append_right _ h)) (by decide +kernel))
set_option maxRecDepth 20000 in
theorem gL_law_L_excessOf : GoodIn wsL_law (va_wsS RL 164 yL_excessOf wsL_excessOf) := goodIn_app (goodIn_of _ (by decide +kernel)) ggL_law_L_excessOf
set_option maxRecDepth 20000 in
theorem ggL_law_X1_excessOf : GoodIn wsL_law wsX1_excessOf := goodIn_r _ [416, 376, 377, 378, 5, 379, 48, 380, 381, 382, 383, 31, 103, 104, 105, 202, 203, 204, 205, 50, 51, 52, 53, 617, 618, 619, 620] (by decide +kernel) (by decide +kernel)
set_option maxRecDepth 20000 in
theorem gL_law_X1_excessOf : GoodIn wsL_law (wsV RL 166 RX1 yX1_excessOf wsX1_excessOf) := goodIn_app (goodIn_of _ (by decide +kernel)) ggL_law_X1_excessOf
set_option maxRecDepth 20000 in
theorem ggL_law_X0_faults : GoodIn wsL_law wsX0_faults := goodIn_r _ [185, 23, 21, 603, 604, 605, 606, 607, 608, 609, 610, 611, 612, 613, 614, 615, 616] (by decide +kernel) (by decide +kernel)
set_option maxRecDepth 20000 in
theorem gL_law_X0_faults : GoodIn wsL_law (wsV RL 167 RX0 yX0_faults wsX0_faults) := goodIn_app (goodIn_of _ (by decide +kernel)) ggL_law_X0_faults
set_option maxRecDepth 20000 in
theorem ggL_law_X1_faults : GoodIn wsL_law wsX1_faults := goodIn_r _ [421, 198, 199, 200, 5, 201, 31, 202, 203, 204, 205, 206, 207, 208, 209, 48, 617, 618, 619, 620] (by decide +kernel) (by decide +kernel)
set_option maxRecDepth 20000 in
theorem gL_law_X1_faults : GoodIn wsL_law (wsV RL 170 RX1 yX1_faults wsX1_faults) := goodIn_app (goodIn_of _ (by decide +kernel)) ggL_law_X1_faults
set_option maxRecDepth 20000 in
theorem ggL_law_L_arrearsByAudit : GoodIn wsL_law wsL_arrearsByAudit := goodIn_ca (goodIn_r _ [424, 65, 425, 426, 427, 2, 428, 71, 72, 73, 74, 75, 76, 22, 186, 187, 188, 189, 23, 17, 21, 603, 604, 605, 606, 607, 608, 609, 610, 611, 612, 613, 614, 615, 616] (by decide +kernel) (by decide +kernel)) (goodIn_sub (fun _ h => List.mem_append_left _ (List.mem_append_right _ h)) (by decide +kernel))
set_option maxRecDepth 20000 in
theorem gL_law_L_arrearsByAudit : GoodIn wsL_law (va_wsS RL 171 yL_arrearsByAudit wsL_arrearsByAudit) := goodIn_app (goodIn_of _ (by decide +kernel)) ggL_law_L_arrearsByAudit
set_option maxRecDepth 20000 in
theorem ggL_law_X1_arrearsByAudit : GoodIn wsL_law wsX1_arrearsByAudit := goodIn_r _ [432, 48, 99, 100, 101, 5, 102, 49, 103, 104, 105, 433, 434, 435, 436, 31, 202, 203, 204, 205, 50, 51, 52, 53, 617, 618, 619, 620] (by decide +kernel) (by decide +kernel)
set_option maxRecDepth 20000 in
theorem gL_law_X1_arrearsByAudit : GoodIn wsL_law (wsV RL 173 RX1 yX1_arrearsByAudit wsX1_arrearsByAudit) := goodIn_app (goodIn_of _ (by decide +kernel)) ggL_law_X1_arrearsByAudit
set_option maxRecDepth 20000 in
theorem ggL_law_X0_daysUntilAudit : GoodIn wsL_law wsX0_daysUntilAudit := goodIn_r _ [440, 25, 603, 604, 605, 606, 607, 608, 609, 610, 611, 612, 613, 614, 615, 616] (by decide +kernel) (by decide +kernel)
